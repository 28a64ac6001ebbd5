section
-- ===== PART A: goes FIRST, ahead of the names: the tables' words, and 'selects' of the private methods out of them =====
/-- a private method of a class that the tables say can be made, by its rows of tables_1 -/
def lw_okq (q : MethodName × Nat) : Prop := (q.1.cls ≠ "java/lang/invoke/MethodHandle" ∧ q.1.cls ≠ "java/lang/invoke/VarHandle") ∧ Cond.instantiable q.1.cls q.2 ∈ tables_1 ∧ Cond.privateMethod q.1 ∈ tables_1 ∧ Cond.instanceMethod q.1 ∈ tables_1
theorem lw_p0 : lw_okq (⟨"java/lang/Throwable", "fillInStackTrace", "(I)Ljava/lang/Throwable;"⟩, 6) := ⟨⟨by decide +kernel, by decide +kernel⟩, List.mem_of_getElem? (i := 134) (by decide +kernel), List.mem_of_getElem? (i := 132) (by decide +kernel), List.mem_of_getElem? (i := 133) (by decide +kernel)⟩
theorem lw_p1 : lw_okq (⟨"PageWalker", "translate", "(JII)J"⟩, 5) := ⟨⟨by decide +kernel, by decide +kernel⟩, List.mem_of_getElem? (i := 10) (by decide +kernel), List.mem_of_getElem? (i := 243) (by decide +kernel), List.mem_of_getElem? (i := 244) (by decide +kernel)⟩
theorem lw_p2 : lw_okq (⟨"PageWalker", "walk", "(JIII)J"⟩, 5) := ⟨⟨by decide +kernel, by decide +kernel⟩, List.mem_of_getElem? (i := 10) (by decide +kernel), List.mem_of_getElem? (i := 262) (by decide +kernel), List.mem_of_getElem? (i := 263) (by decide +kernel)⟩
theorem lw_p3 : lw_okq (⟨"PageWalker", "grants", "(JIII)Z"⟩, 5) := ⟨⟨by decide +kernel, by decide +kernel⟩, List.mem_of_getElem? (i := 10) (by decide +kernel), List.mem_of_getElem? (i := 302) (by decide +kernel), List.mem_of_getElem? (i := 303) (by decide +kernel)⟩
theorem lw_p4 : lw_okq (⟨"PageWalker", "isOpenToMode", "(JII)Z"⟩, 5) := ⟨⟨by decide +kernel, by decide +kernel⟩, List.mem_of_getElem? (i := 10) (by decide +kernel), List.mem_of_getElem? (i := 309) (by decide +kernel), List.mem_of_getElem? (i := 310) (by decide +kernel)⟩
theorem lw_p5 : lw_okq (⟨"PageWalker", "isOpenToAccess", "(JI)Z"⟩, 5) := ⟨⟨by decide +kernel, by decide +kernel⟩, List.mem_of_getElem? (i := 10) (by decide +kernel), List.mem_of_getElem? (i := 314) (by decide +kernel), List.mem_of_getElem? (i := 315) (by decide +kernel)⟩
theorem lw_p6 : lw_okq (⟨"PageWalker", "mark", "(JJI)Z"⟩, 5) := ⟨⟨by decide +kernel, by decide +kernel⟩, List.mem_of_getElem? (i := 10) (by decide +kernel), List.mem_of_getElem? (i := 318) (by decide +kernel), List.mem_of_getElem? (i := 319) (by decide +kernel)⟩
theorem lw_p7 : lw_okq (⟨"PageWalkerModel", "has", "(II)Z"⟩, 9) := ⟨⟨by decide +kernel, by decide +kernel⟩, List.mem_of_getElem? (i := 336) (by decide +kernel), List.mem_of_getElem? (i := 416) (by decide +kernel), List.mem_of_getElem? (i := 417) (by decide +kernel)⟩
theorem lw_p8 : lw_okq (⟨"PageWalkerModel", "kind", "(I)I"⟩, 9) := ⟨⟨by decide +kernel, by decide +kernel⟩, List.mem_of_getElem? (i := 336) (by decide +kernel), List.mem_of_getElem? (i := 428) (by decide +kernel), List.mem_of_getElem? (i := 429) (by decide +kernel)⟩
theorem lw_p9 : lw_okq (⟨"PageWalkerModel", "isLet", "(JIII)Z"⟩, 9) := ⟨⟨by decide +kernel, by decide +kernel⟩, List.mem_of_getElem? (i := 336) (by decide +kernel), List.mem_of_getElem? (i := 445) (by decide +kernel), List.mem_of_getElem? (i := 446) (by decide +kernel)⟩
theorem lw_p10 : lw_okq (⟨"PageWalkerModel", "cover", "(I)V"⟩, 9) := ⟨⟨by decide +kernel, by decide +kernel⟩, List.mem_of_getElem? (i := 336) (by decide +kernel), List.mem_of_getElem? (i := 449) (by decide +kernel), List.mem_of_getElem? (i := 450) (by decide +kernel)⟩
theorem lw_p11 : lw_okq (⟨"PageWalkerModel", "walk", "(JII)J"⟩, 9) := ⟨⟨by decide +kernel, by decide +kernel⟩, List.mem_of_getElem? (i := 336) (by decide +kernel), List.mem_of_getElem? (i := 466) (by decide +kernel), List.mem_of_getElem? (i := 467) (by decide +kernel)⟩
theorem lw_p12 : lw_okq (⟨"PageWalkerModel", "last", "(JIIJI)J"⟩, 9) := ⟨⟨by decide +kernel, by decide +kernel⟩, List.mem_of_getElem? (i := 336) (by decide +kernel), List.mem_of_getElem? (i := 484) (by decide +kernel), List.mem_of_getElem? (i := 485) (by decide +kernel)⟩
theorem lw_p13 : lw_okq (⟨"PageWalkerModel", "refuses", "(JII)Z"⟩, 9) := ⟨⟨by decide +kernel, by decide +kernel⟩, List.mem_of_getElem? (i := 336) (by decide +kernel), List.mem_of_getElem? (i := 491) (by decide +kernel), List.mem_of_getElem? (i := 492) (by decide +kernel)⟩
def lw_privs_1 : List (MethodName × Nat) := [(⟨"java/lang/Throwable", "fillInStackTrace", "(I)Ljava/lang/Throwable;"⟩, 6), (⟨"PageWalker", "translate", "(JII)J"⟩, 5), (⟨"PageWalker", "walk", "(JIII)J"⟩, 5), (⟨"PageWalker", "grants", "(JIII)Z"⟩, 5), (⟨"PageWalker", "isOpenToMode", "(JII)Z"⟩, 5), (⟨"PageWalker", "isOpenToAccess", "(JI)Z"⟩, 5), (⟨"PageWalker", "mark", "(JJI)Z"⟩, 5), (⟨"PageWalkerModel", "has", "(II)Z"⟩, 9), (⟨"PageWalkerModel", "kind", "(I)I"⟩, 9), (⟨"PageWalkerModel", "isLet", "(JIII)Z"⟩, 9), (⟨"PageWalkerModel", "cover", "(I)V"⟩, 9), (⟨"PageWalkerModel", "walk", "(JII)J"⟩, 9), (⟨"PageWalkerModel", "last", "(JIIJI)J"⟩, 9), (⟨"PageWalkerModel", "refuses", "(JII)Z"⟩, 9)]
theorem lw_r1 : ∀ q ∈ lw_privs_1, lw_okq q := List.forall_mem_cons.mpr ⟨lw_p0, List.forall_mem_cons.mpr ⟨lw_p1, List.forall_mem_cons.mpr ⟨lw_p2, List.forall_mem_cons.mpr ⟨lw_p3, List.forall_mem_cons.mpr ⟨lw_p4, List.forall_mem_cons.mpr ⟨lw_p5, List.forall_mem_cons.mpr ⟨lw_p6, List.forall_mem_cons.mpr ⟨lw_p7, List.forall_mem_cons.mpr ⟨lw_p8, List.forall_mem_cons.mpr ⟨lw_p9, List.forall_mem_cons.mpr ⟨lw_p10, List.forall_mem_cons.mpr ⟨lw_p11, List.forall_mem_cons.mpr ⟨lw_p12, List.forall_mem_cons.mpr ⟨lw_p13, fun _ h => absurd h List.not_mem_nil⟩⟩⟩⟩⟩⟩⟩⟩⟩⟩⟩⟩⟩⟩
def lw_privs : List (MethodName × Nat) := lw_privs_1
def lw_tbl : List Cond := k2_sels lw_privs ++ tables_1
theorem lw_privs_ok : ∀ q ∈ lw_privs, lw_okq q := lw_r1
end
section
theorem goodIn_r {big : List Cond} (ws : List Cond) (ps : List Nat) (hp : ws = ps.filterMap (fun i => big[i]?)) (h : ws.all goodWord = true) : GoodIn big ws := by
  intro w hw
  have h1 := List.all_eq_true.mp h w hw
  rw [hp] at hw
  obtain ⟨i, -, hi⟩ := List.mem_filterMap.mp hw
  have hm : w ∈ big := by first | exact List.mem_of_getElem? hi | exact List.getElem?_mem hi
  exact ⟨hm, good_of_word h1⟩
theorem goodIn_app {big a b : List Cond} (ha : GoodIn big a) (hb : GoodIn big b) : GoodIn big (a ++ b) := fun w h => (List.mem_append.mp h).elim (ha w) (hb w)
theorem goodIn_ca {big a b : List Cond} {c : Cond} (ha : GoodIn big (c :: a)) (hb : GoodIn big b) : GoodIn big (c :: (a ++ b)) := fun w h => (List.mem_cons.mp h).elim (fun e => ha w (List.mem_cons.mpr (Or.inl e))) (fun h => (List.mem_append.mp h).elim (fun h => ha w (List.mem_cons.mpr (Or.inr h))) (hb w))
theorem goodIn_sub {big ws : List Cond} (hm : ∀ w ∈ ws, w ∈ big) (h : ws.all goodWord = true) : GoodIn big ws := fun w hw => ⟨hm w hw, good_of_word (List.all_eq_true.mp h w hw)⟩

section VXA
def vx_T (XC : String → State → State → Prop) (st : State) (q : Addr) (t : State) (mc ms : Nat) (free : Addr → Prop) : Prop :=
  ∃ (E : String) (ce : Cell) (L : List Loc), XC E st t ∧ t.heap[q]? = some ce ∧ ce.vm = .none ∧ st.vm.findClass E = some ce.cls ∧ st.WarmedH t.vm ∧ st.sameButNew ({ t with vm := st.vm } : State) L mc ms ∧ ∀ z ∈ L, free z.base
def vx_Q (Qc : Array Value → State → Outcome → State → Prop) (XC : String → State → State → Prop) (mc ms : Nat) (free : Addr → Prop) : Array Value → State → Outcome → State → Prop := fun a st o t =>
  (Qc a st o t ∧ ∃ L, FrameEnd st o t L mc ms ∧ ∀ q ∈ L, free q.base) ∨ ∃ q, o = .threw q ∧ vx_T XC st q t mc ms free
def vx_Met (l : Launch) (y : MethodName) (ws : List Cond) (rm : Room) (Pc : Array Value → State → Prop) (Qc : Array Value → State → Outcome → State → Prop) (XC : String → State → State → Prop) (mc ms : Nat) (free : Addr → Prop) : Prop :=
  MetFree l y (headSpec ws rm) Pc (fun _ _ _ _ _ => True) (vx_Q Qc XC mc ms free)
def vx_Post (XC : String → State → State → Prop) (mc ms : Nat) (free : Addr → Prop) : Pt → Array Value → Addr → Pt → Prop := fun A a q B =>
  ∃ (g : JFrame) (mk : MethodId) (t : State) (L : List Loc) (E : String) (ce : Cell), B.U.heap = t.heap ∧ B.U.vm = t.vm ∧ XC E (A.U.calling g mk a) t ∧ t.heap[q]? = some ce ∧ ce.vm = .none ∧ A.U.vm.findClass E = some ce.cls ∧ B.locs = A.locs ++ L ∧ (∀ z ∈ L, free z.base) ∧ B.cells = A.cells + mc ∧ B.slots = A.slots + ms
def vx_Back (l : Launch) (R : Room) (p : Program) (e : Env) (below : List Frame) (s : State) (sargs : Array Value) (y : MethodName) (len W9 : Nat)
    (Pre : Pt → Array Value → Prop) (Post : Pt → Array Value → Option Value → Pt → Prop) (PostX : Pt → Array Value → Addr → Pt → Prop) : Prop :=
  ∀ (m : MethodId) (meth : Method) (c : Code) (A : Pt) (g : JFrame) (ig : Instr) (mk : MethodId) (a : Array Value),
    Stand p l e R s m sargs below meth c A.U A.locs A.cells A.slots → g.method = m → g.locals.size = c.maxLocals → decode c.code g.pc = .ok (ig, len) →
    2 * g.monitorRoom + (g.stack.map fun v => v.category).sum ≤ W9 → A.U.methodNamed? y = some mk → Pre A a →
    (∃ (v : Option Value) (B : Pt), Stand p l e R s m sargs below meth c B.U B.locs B.cells B.slots ∧ Post A a v B ∧
      Steps p.tables e below (doInvoke e (A.U.setTop g) [] mk a).1 (B.U.setTop { g with pc := g.pc + len, stack := v.toList ++ g.stack })) ∨
    (∃ (q : Addr) (B : Pt), Stand p l e R s m sargs below meth c B.U B.locs B.cells B.slots ∧ PostX A a q B ∧
      Steps p.tables e below (doInvoke e (A.U.setTop g) [] mk a).1 ((B.U.setTop g).pushFrame (.throwing q)))
section Payer
variable {l : Launch} {R : Room} {p : Program} {e : Env} {below : List Frame} {s : State} {sargs : Array Value} {y : MethodName} {len W9 : Nat}
theorem vx_back {ws : List Cond} {rm : Room} {Pc : Array Value → State → Prop} {Qc : Array Value → State → Outcome → State → Prop} {XC : String → State → State → Prop} {mc ms : Nat} {free : Addr → Prop} {bytes : ByteArray} {maxL : Nat} {ret : Option FieldType}
    (hM : vx_Met l y ws rm Pc Qc XC mc ms free) (hblind : FrameBlind Pc) (hrc : rm.cells = mc) (hrs : rm.slots = ms)
    (hframes : rm.frames + 1 ≤ R.frames) (hlocals : W9 + (maxL + 11) + rm.locals ≤ R.locals)
    (hws : ∀ w ∈ ws, ∀ a' U, s.WarmedH U.vm → w.before a' U = true) (hcode : Cond.code y bytes maxL ret ∈ ws) (hinit : ∀ a' U, s.WarmedH U.vm → (Cond.initialized y.cls).before a' U = true) :
    vx_Back l R p e below s sargs y len W9 (PreOf R mc ms Pc) (PostOf Qc mc ms free) (vx_Post XC mc ms free) := by
  intro m meth c A g ig mk a X hg hsize hdg hW hn hp
  have h1 : (headSpec ws rm).pre.before a A.U = true := atoms_intro fun w hw => hws w hw _ _ X.warmed
  have h2 : (Cond.code y bytes maxL ret).before a A.U = true := hws _ hcode _ _ X.warmed
  have h3 : (Cond.initialized y.cls).before a A.U = true := hinit _ _ X.warmed
  have h4 : A.cells + (headSpec ws rm).room.cells ≤ R.cells := by rw [show (headSpec ws rm).room.cells = mc from hrc]; exact hp.1
  have h5 : A.slots + (headSpec ws rm).room.slots ≤ R.slots := by rw [show (headSpec ws rm).room.slots = ms from hrs]; exact hp.2.1
  have hPc : Pc a (A.U.calling g mk a) := hblind _ _ _ _ hp.2.2
  obtain ⟨U, Ls, c0, s0⟩ := A
  dsimp only [Pt.U, Pt.locs, Pt.cells, Pt.slots] at h1 h2 h3 h4 h5 X hn hPc ⊢
  obtain ⟨methY, cY, hmY, hcY, -, hlY, -, -, -, -⟩ := Cond.code_spec hn h2
  obtain ⟨kY, hkY, -⟩ := className_of_methodNamed hn
  have hinitY : kY.init = .initialized := Cond.initialized_spec (findClass_of_methodNamed hn) hkY h3
  have h : At U g.method c below := by rw [hg]; exact X.here
  have hlocals9 : W9 + (maxL + 11) + (headSpec ws rm).room.locals ≤ R.locals := hlocals
  have happ : (headSpec ws rm).appliesLoose y e.platform (U.calling g mk a) = true :=
    Spec.appliesLoose_calling (g := g) h hdg hn hkY hinitY
      (X.room_calling (g := g) (R' := (headSpec ws rm).room) hsize hmY hcY hframes (by rw [hlY]; omega) h4 h5) h1
  obtain ⟨mid, hmid⟩ := h.above
  have hfr : (U.setTop g).frames = (.java g :: mid) ++ below := by rw [State.frames_setTop' g h.top, hmid]; rfl
  obtain ⟨o, s₂, hsteps, -, hend, hq⟩ := Steps.callFree hM p X.admits X.cas X.clock (acts := []) hfr happ hPc trivial
  have hq' : vx_Q Qc XC mc ms free a (U.calling g mk a) o s₂ := hq
  rw [State.frames_setTop' g h.top] at hend
  obtain ⟨g₀, hg0⟩ := Option.isSome_iff_exists.mp h.top
  obtain ⟨r, hr⟩ := State.topJava?_eq_some.mp hg0
  have hr' : (({ U with heap := s₂.heap, slotsUsed := s₂.slotsUsed } : State).setVm s₂.vm).frames = .java g₀ :: r := hr
  rcases hq' with ⟨hqc, L, hfe, hL⟩ | ⟨q, rfl, E, ce, L, hx, hce, hcv, hcl, hW₂, hsm, hL⟩
  · obtain ⟨⟨v, rfl⟩, hW₂, e2, q2, q3, q4, q5, q6⟩ := id hfe
    have e3 : s₂ = ({ (U.calling g mk a).setFrames s₂.frames with heap := s₂.heap, slotsUsed := s₂.slotsUsed } : State).setVm s₂.vm := by
      have : s₂ = ({ s₂ with vm := (U.calling g mk a).vm } : State).setVm s₂.vm := rfl
      rw [e2] at this
      exact this
    obtain ⟨c₂, i₂, len₂, hc₂, hd₂, hf₂⟩ := hend
    have hW' : U.WarmedH s₂.vm := hW₂
    have hcc : c₂ = c := by
      have h1 : s₂.code? g.method = U.code? g.method := by
        rw [State.code?_eq, State.code?_eq, hW'.alike.method?]
      exact Option.some.inj (hc₂.symm.trans (h1.trans h.code))
    subst hcc
    have hlen : len₂ = len := by rw [hdg] at hd₂; cases hd₂; rfl
    subst hlen
    have hs₂ : s₂ = (({ U with heap := s₂.heap, slotsUsed := s₂.slotsUsed } : State).setVm s₂.vm).setTop { g with pc := g.pc + len₂, stack := v.toList ++ g.stack } := by
      refine e3.trans ?_
      rw [hf₂, State.calling_eq h.top, State.setFrames_setFrames, State.setTop_of_frames _ hr', hr]
      rfl
    have hsame : U.sameButNew ({ U with heap := s₂.heap, slotsUsed := s₂.slotsUsed } : State) L mc ms := by
      refine ⟨?_, q2, q3, q4, q5, q6⟩
      obtain ⟨t, ht, -⟩ := State.frames_cons hr
      show ({ U with heap := s₂.heap, slotsUsed := s₂.slotsUsed } : State) = { U.setFrames U.frames with heap := s₂.heap, slotsUsed := s₂.slotsUsed }
      rw [State.setFrames_self ht]
    subst hg
    refine Or.inl ⟨v, ⟨(({ U with heap := s₂.heap, slotsUsed := s₂.slotsUsed } : State).setVm s₂.vm), Ls ++ L, c0 + mc, s0 + ms⟩,
      ⟨X.admits, X.cas, X.clock, X.frames, X.room, X.hears, X.method, X.code, (X.here.setHeapUsed s₂.heap s₂.slotsUsed).setVm hW'.alike, X.tail, State.WarmedH.trans X.warmed hW', X.limits, X.bytes, X.same.trans (hsame.setVm s.vm)⟩,
      ⟨g, mk, s₂, L, rfl, rfl, hqc, rfl, hL, rfl, rfl⟩, ?_⟩
    show Steps p.tables e below _ ((({ U with heap := s₂.heap, slotsUsed := s₂.slotsUsed } : State).setVm s₂.vm).setTop { g with pc := g.pc + len₂, stack := v.toList ++ g.stack })
    rw [← hs₂]
    exact hsteps
  · obtain ⟨e2, q2, q3, q4, q5, q6⟩ := id hsm
    have e3 : s₂ = ({ (U.calling g mk a).setFrames s₂.frames with heap := s₂.heap, slotsUsed := s₂.slotsUsed } : State).setVm s₂.vm := by
      have : s₂ = ({ s₂ with vm := (U.calling g mk a).vm } : State).setVm s₂.vm := rfl
      rw [e2] at this
      exact this
    have hf₂ : s₂.frames = .throwing q :: .java g :: U.frames.tail := hend
    have hW' : U.WarmedH s₂.vm := hW₂
    have hs₂ : s₂ = ((({ U with heap := s₂.heap, slotsUsed := s₂.slotsUsed } : State).setVm s₂.vm).setTop g).pushFrame (.throwing q) := by
      refine e3.trans ?_
      rw [hf₂, State.calling_eq h.top, State.setFrames_setFrames, State.pushFrame, State.frames_setTop _ hr', State.setTop_of_frames _ hr', State.setFrames_setFrames, hr]
      rfl
    have hsame : U.sameButNew ({ U with heap := s₂.heap, slotsUsed := s₂.slotsUsed } : State) L mc ms := by
      refine ⟨?_, q2, q3, q4, q5, q6⟩
      obtain ⟨t, ht, -⟩ := State.frames_cons hr
      show ({ U with heap := s₂.heap, slotsUsed := s₂.slotsUsed } : State) = { U.setFrames U.frames with heap := s₂.heap, slotsUsed := s₂.slotsUsed }
      rw [State.setFrames_self ht]
    subst hg
    refine Or.inr ⟨q, ⟨(({ U with heap := s₂.heap, slotsUsed := s₂.slotsUsed } : State).setVm s₂.vm), Ls ++ L, c0 + mc, s0 + ms⟩,
      ⟨X.admits, X.cas, X.clock, X.frames, X.room, X.hears, X.method, X.code, (X.here.setHeapUsed s₂.heap s₂.slotsUsed).setVm hW'.alike, X.tail, State.WarmedH.trans X.warmed hW', X.limits, X.bytes, X.same.trans (hsame.setVm s.vm)⟩,
      ⟨g, mk, s₂, L, E, ce, rfl, rfl, hx, hce, hcv, hcl, rfl, hL, rfl, rfl⟩, ?_⟩
    show Steps p.tables e below _ (((({ U with heap := s₂.heap, slotsUsed := s₂.slotsUsed } : State).setVm s₂.vm).setTop g).pushFrame (.throwing q))
    rw [← hs₂]
    exact hsteps
end Payer
section Calls
variable {p : Program} {l : Launch} {e : Env} {R : Room} {s : State} {m : MethodId} {args : Array Value} {below : List Frame} {meth : Method} {c : Code} {T : State} {locs : List Loc} {cells slots : Nat}
theorem vx_callV (X : Stand p l e R s m args below meth c T locs cells slots) (hexec : p.tables.exec = Jvm.exec) {own C : String} {index : Nat} {y : MethodName} {bytes : ByteArray} {maxL : Nat} {ret : Option FieldType}
    (hown : s.vm.findClass own = some m.cls) (hlink : (Cond.methodLink own index y).before args s = true) (hinst : (Cond.instanceMethod y).before args s = true) (hsel : (Cond.selects C y y).before args s = true)
    (hcode : (Cond.code y bytes maxL ret).before args s = true) (hy : y.cls ≠ "java/lang/invoke/MethodHandle" ∧ y.cls ≠ "java/lang/invoke/VarHandle")
    {W9 : Nat} {Pre : Pt → Array Value → Prop} {Post : Pt → Array Value → Option Value → Pt → Prop} {PostX : Pt → Array Value → Addr → Pt → Prop} (hK : vx_Back l R p e below s args y 3 W9 Pre Post PostX)
    {b : Addr} {cellB : Cell} (hcell : T.heap[b]? = some cellB) (hobj : cellB.vm.isStatics = false) (hcls : s.vm.findClass C = some cellB.cls)
    {g : JFrame} (hg : g.method = m) (hsize : g.locals.size = c.maxLocals) {argsL rest : List Value} (hlen : ∀ sig, parseMethodDescriptor y.desc = some sig → argsL.length = sig.parameters.length)
    (hstack : g.stack = argsL.reverse ++ .ref b :: rest) (hW : 2 * g.monitorRoom + (rest.map fun v => v.category).sum ≤ W9) (hdg : decode c.code g.pc = .ok (.invokevirtual index, 3))
    (hpre : ∀ vm₁, s.WarmedH vm₁ → Pre ⟨T.setVm vm₁, locs, cells, slots⟩ (Value.ref b :: argsL).toArray) :
    (∃ (v : Option Value) (vm₁ : Vm) (B : Pt), s.WarmedH vm₁ ∧ Stand p l e R s m args below meth c B.U B.locs B.cells B.slots ∧ Post ⟨T.setVm vm₁, locs, cells, slots⟩ (Value.ref b :: argsL).toArray v B ∧
      ∀ target, Steps p.tables e below (B.U.setTop { g with pc := g.pc + 3, stack := v.toList ++ rest }) target → Steps p.tables e below (T.setTop g) target) ∨
    (∃ (q : Addr) (vm₁ : Vm) (B : Pt), s.WarmedH vm₁ ∧ Stand p l e R s m args below meth c B.U B.locs B.cells B.slots ∧ PostX ⟨T.setVm vm₁, locs, cells, slots⟩ (Value.ref b :: argsL).toArray q B ∧
      Steps p.tables e below (T.setTop g) ((B.U.setTop { g with stack := rest }).pushFrame (.throwing q))) := by
  obtain ⟨mk, methM, hnamed, hmethM, hstM, habM⟩ := Cond.instanceMethod_spec hinst
  obtain ⟨methM', cM, hmethM', -, -, -, -, -, -, hsigM⟩ := Cond.code_spec hnamed hcode
  cases hmethM.symm.trans hmethM'
  obtain ⟨c2, r2, m2, q1, q2, q3, q4, kP, hkP, hkPi⟩ := Cond.selects_spec hsel
  cases hcls.symm.trans q1
  cases (State.methodFound?_of_named hnamed hy).symm.trans q2
  cases hnamed.symm.trans q3
  have hselP : selectMethod e.platform s.vm cellB.cls mk = .method mk := by rw [Launch.admits_selectMethod X.admits]; exact q4
  obtain ⟨vm₁, X₁, hstep₁⟩ := X.invokevirtual hexec hown hlink hnamed hmethM hstM hkP hkPi hy (a := b) (cell := cellB) hcell
    (fun z h => by rw [h] at hobj; cases hobj) hselP hmethM habM hkP hkPi (g := g) hg (argsL := argsL) (rest := rest) (hlen _ hsigM) hstack hdg
  rcases hK m meth c ⟨T.setVm vm₁, locs, cells, slots⟩ { g with stack := rest } (.invokevirtual index) mk (Value.ref b :: argsL).toArray X₁ hg hsize hdg hW (X₁.named hnamed) (hpre vm₁ X₁.warmed) with ⟨v, B, X', hpost, hsteps⟩ | ⟨q, B, X', hpost, hsteps⟩
  · exact Or.inl ⟨v, vm₁, B, X₁.warmed, X', hpost, fun target h => hstep₁ _ fun acts => by rw [doInvoke_state]; exact hsteps.trans h⟩
  · exact Or.inr ⟨q, vm₁, B, X₁.warmed, X', hpost, hstep₁ _ fun acts => by rw [doInvoke_state]; exact hsteps⟩
theorem vx_callS (X : Stand p l e R s m args below meth c T locs cells slots) (hexec : p.tables.exec = Jvm.exec) {own : String} {index : Nat} {y : MethodName} {bytes : ByteArray} {maxL : Nat} {ret : Option FieldType}
    (hown : s.vm.findClass own = some m.cls) (hlink : (Cond.methodLink own index y).before args s = true) (hstat : (Cond.static y).before args s = true) (hinit : (Cond.initialized y.cls).before args s = true)
    (hcode : (Cond.code y bytes maxL ret).before args s = true) (hy : y.cls ≠ "java/lang/invoke/MethodHandle" ∧ y.cls ≠ "java/lang/invoke/VarHandle")
    {W9 : Nat} {Pre : Pt → Array Value → Prop} {Post : Pt → Array Value → Option Value → Pt → Prop} {PostX : Pt → Array Value → Addr → Pt → Prop} (hK : vx_Back l R p e below s args y 3 W9 Pre Post PostX)
    {g : JFrame} (hg : g.method = m) (hsize : g.locals.size = c.maxLocals) {argsL rest : List Value} (hlen : ∀ sig, parseMethodDescriptor y.desc = some sig → argsL.length = sig.parameters.length)
    (hstack : g.stack = argsL.reverse ++ rest) (hW : 2 * g.monitorRoom + (rest.map fun v => v.category).sum ≤ W9) (hdg : decode c.code g.pc = .ok (.invokestatic index, 3))
    (hpre : ∀ vm₁, s.WarmedH vm₁ → Pre ⟨T.setVm vm₁, locs, cells, slots⟩ argsL.toArray) :
    (∃ (v : Option Value) (vm₁ : Vm) (B : Pt), s.WarmedH vm₁ ∧ Stand p l e R s m args below meth c B.U B.locs B.cells B.slots ∧ Post ⟨T.setVm vm₁, locs, cells, slots⟩ argsL.toArray v B ∧
      ∀ target, Steps p.tables e below (B.U.setTop { g with pc := g.pc + 3, stack := v.toList ++ rest }) target → Steps p.tables e below (T.setTop g) target) ∨
    (∃ (q : Addr) (vm₁ : Vm) (B : Pt), s.WarmedH vm₁ ∧ Stand p l e R s m args below meth c B.U B.locs B.cells B.slots ∧ PostX ⟨T.setVm vm₁, locs, cells, slots⟩ argsL.toArray q B ∧
      Steps p.tables e below (T.setTop g) ((B.U.setTop { g with stack := rest }).pushFrame (.throwing q))) := by
  obtain ⟨mk, hnamed⟩ := Cond.code_named hcode
  obtain ⟨methM, cM, hmethM, -, -, -, -, -, -, hsigM⟩ := Cond.code_spec hnamed hcode
  have hstatic : methM.isStatic = true := Cond.static_spec hnamed hmethM hstat
  obtain ⟨kP, hkP, -⟩ := className_of_methodNamed hnamed
  have hinitP : kP.init = .initialized := Cond.initialized_spec (findClass_of_methodNamed hnamed) hkP hinit
  obtain ⟨vm₁, X₁, hstep₁⟩ := X.invokestatic hexec hown hlink hnamed hmethM hstatic hkP hinitP hy (g := g) hg (argsL := argsL) (rest := rest) (hlen _ hsigM) hstack hdg
  rcases hK m meth c ⟨T.setVm vm₁, locs, cells, slots⟩ { g with stack := rest } (.invokestatic index) mk argsL.toArray X₁ hg hsize hdg hW (X₁.named hnamed) (hpre vm₁ X₁.warmed) with ⟨v, B, X', hpost, hsteps⟩ | ⟨q, B, X', hpost, hsteps⟩
  · exact Or.inl ⟨v, vm₁, B, X₁.warmed, X', hpost, fun target h => hstep₁ _ fun acts => by rw [doInvoke_state]; exact hsteps.trans h⟩
  · exact Or.inr ⟨q, vm₁, B, X₁.warmed, X', hpost, hstep₁ _ fun acts => by rw [doInvoke_state]; exact hsteps⟩
end Calls
theorem vx_cls {s : State} {T : State} {vm₁ : Vm} {E : String} {k : ClassId} (hW : s.WarmedH vm₁) (h : (T.setVm vm₁).vm.findClass E = some k) : s.vm.findClass E = some k := by
  have h1 : vm₁.findClass E = some k := h
  rw [hW.alike.findClass] at h1
  exact h1
def vx_W (p : Program) (l : Launch) (e : Env) (R : Room) (s : State) (m : MethodId) (args : Array Value) (below : List Frame) (meth : Method) (c : Code) (H : Heap) (locs : List Loc) (cells slots : Nat) (Q : State → Prop) (g : JFrame) (q : Addr) : Prop :=
  ∀ T : State, T.heap = H → Stand p l e R s m args below meth c T locs cells slots → ∃ t, Steps p.tables e below ((T.setTop g).pushFrame (.throwing q)) t ∧ Q t
def vx_Run (p : Program) (l : Launch) (e : Env) (R : Room) (s : State) (m : MethodId) (args : Array Value) (below : List Frame) (meth : Method) (c : Code) (H : Heap) (locs : List Loc) (cells slots mc ms : Nat) (g : JFrame) (rest : List Value) (Qa : State → Outcome → State → Prop) (XC : String → State → State → Prop) (free : Addr → Prop) : Prop :=
  ∀ T : State, T.heap = H → Stand p l e R s m args below meth c T locs cells slots →
    (∃ (v : Option Value) (st₀ t T' : State) (L : List Loc), st₀.heap = H ∧ Stand p l e R s m args below meth c T' (locs ++ L) (cells + mc) (slots + ms) ∧ (∀ q ∈ L, free q.base) ∧ T'.heap = t.heap ∧ T'.vm = t.vm ∧ Qa st₀ (.returned v) t ∧
      Goes p e below T g T' { g with pc := g.pc + 3, stack := v.toList ++ rest }) ∨
    (∃ (q : Addr) (st₀ t T' : State) (L : List Loc) (E : String) (ce : Cell), st₀.heap = H ∧ Stand p l e R s m args below meth c T' (locs ++ L) (cells + mc) (slots + ms) ∧ (∀ z ∈ L, free z.base) ∧ T'.heap = t.heap ∧ T'.vm = t.vm ∧ XC E st₀ t ∧ t.heap[q]? = some ce ∧ ce.vm = .none ∧ s.vm.findClass E = some ce.cls ∧
      Steps p.tables e below (T.setTop g) ((T'.setTop { g with stack := rest }).pushFrame (.throwing q)))
def vx_X {S : Type} (px : S → Prop) (B : String → S → State → Prop) (A : Nat → Prop) : String → State → State → Prop := fun E st t => ∃ u : S, px u ∧ B E u t ∧ va_F A st t
section Runs
variable {p : Program} {l : Launch} {e : Env} {R : Room} {s : State} {m : MethodId} {args : Array Value} {below : List Frame} {meth : Method} {c : Code} {H : Heap} {locs : List Loc} {cells slots : Nat}
variable {y : MethodName} {bytes cc : ByteArray} {maxL nL mc ms n index : Nat} {ret : Option FieldType} {ws : List Cond} {rm : Room} {Pc : Array Value → State → Prop} {Qc : Array Value → State → Outcome → State → Prop} {XC : String → State → State → Prop} {free : Addr → Prop} {Ts : List Cond} {own C : String} {b : Addr} {As rest : List Value} {g : JFrame}
theorem vx_callBack (cb : CallB R s args own index y bytes maxL ret ws rm mc ms n) (hM : vx_Met l y ws rm Pc Qc XC mc ms free) (hbl : FrameBlind Pc) : vx_Back l R p e below s args y 3 8 (PreOf R mc ms Pc) (PostOf Qc mc ms free) (vx_Post XC mc ms free) := by
  obtain ⟨hrc, hrs, hfr, hlo, hws, hcw, -, hini, -⟩ := cb
  exact vx_back (bytes := bytes) (maxL := maxL) (ret := ret) hM hbl hrc hrs hfr hlo hws hcw (fun a' U hW => word_at hW (Or.inl (by first | rfl | simp [Cond.onTables, Cond.keeps, Cond.steady])) hini)
theorem vx_runV (S : CallFix p m c cc nL s args Ts own) (hM : vx_Met l y ws rm Pc Qc XC mc ms free) (cw : CallW R s args own C index y bytes maxL ret ws rm mc ms n) (hp : PreV s H C b Pc As)
    (hg : g.method = m) (hn : As.length = n) (hsize : g.locals.size = nL) (hstack : g.stack = As.reverse ++ .ref b :: rest) (hW : 2 * g.monitorRoom + (rest.map fun v => v.category).sum ≤ 8) (hdg : decode cc g.pc = .ok (.invokevirtual index, 3)) (hf : cells + mc ≤ R.cells ∧ slots + ms ≤ R.slots) :
    vx_Run p l e R s m args below meth c H locs cells slots mc ms g rest (Qc (Value.ref b :: As).toArray) XC free := by
  have hK : vx_Back l R p e below s args y 3 8 (PreOf R mc ms Pc) (PostOf Qc mc ms free) (vx_Post XC mc ms free) := vx_callBack cw.1 hM hp.1
  obtain ⟨⟨-, -, -, -, -, -, hcode, -, hy, hlen, hl⟩, hin, hse⟩ := cw
  obtain ⟨hx, hb, hml, ho, -⟩ := S
  obtain ⟨-, ⟨cellB, hcB, hoB, hclB⟩, hPc⟩ := hp
  intro T hT X
  rcases vx_callV X hx (C := C) (bytes := bytes) (maxL := maxL) (ret := ret) ho hl hin hse hcode hy hK (by rw [hT]; exact hcB) hoB hclB hg (hsize.trans hml.symm) (argsL := As) (rest := rest) (fun sig h => hn.trans (hlen sig h)) hstack hW (by rw [hb]; exact hdg)
    (fun vm₁ hW₁ => ⟨hf.1, hf.2, hPc (T.setVm vm₁) hT hW₁⟩) with ⟨v, vm₁, ⟨U', l2, c2, s2⟩, hW₁, X', ⟨g', mk, t, L, e1, e2, hq, h1, hL, h2, h3⟩, st⟩ | ⟨q, vm₁, ⟨U', l2, c2, s2⟩, hW₁, X', ⟨g', mk, t, L, E, ce, e1, e2, hq, hce, hcv, hcl, h1, hL, h2, h3⟩, st⟩
  · dsimp only [Pt.U, Pt.locs, Pt.cells, Pt.slots] at X' e1 e2 h1 h2 h3 st
    subst h1; subst h2; subst h3
    exact Or.inl ⟨v, (T.setVm vm₁).calling g' mk (Value.ref b :: As).toArray, t, U', L, hT, X', hL, e1, e2, hq, st⟩
  · dsimp only [Pt.U, Pt.locs, Pt.cells, Pt.slots] at X' e1 e2 h1 h2 h3 st hcl
    subst h1; subst h2; subst h3
    exact Or.inr ⟨q, (T.setVm vm₁).calling g' mk (Value.ref b :: As).toArray, t, U', L, E, ce, hT, X', hL, e1, e2, hq, hce, hcv, vx_cls hW₁ hcl, st⟩
theorem vx_runS (S : CallFix p m c cc nL s args Ts own) (hM : vx_Met l y ws rm Pc Qc XC mc ms free) (cw : CallB R s args own index y bytes maxL ret ws rm mc ms n ∧ (Cond.static y).before args s = true) (hp : PreS s H Pc As)
    (hg : g.method = m) (hn : As.length = n) (hsize : g.locals.size = nL) (hstack : g.stack = As.reverse ++ rest) (hW : 2 * g.monitorRoom + (rest.map fun v => v.category).sum ≤ 8) (hdg : decode cc g.pc = .ok (.invokestatic index, 3)) (hf : cells + mc ≤ R.cells ∧ slots + ms ≤ R.slots) :
    vx_Run p l e R s m args below meth c H locs cells slots mc ms g rest (Qc As.toArray) XC free := by
  have hK : vx_Back l R p e below s args y 3 8 (PreOf R mc ms Pc) (PostOf Qc mc ms free) (vx_Post XC mc ms free) := vx_callBack cw.1 hM hp.1
  obtain ⟨⟨-, -, -, -, -, -, hcode, hini, hy, hlen, hl⟩, hstt⟩ := cw
  obtain ⟨hx, hb, hml, ho, -⟩ := S
  intro T hT X
  rcases vx_callS X hx (bytes := bytes) (maxL := maxL) (ret := ret) ho hl hstt hini hcode hy hK hg (hsize.trans hml.symm) (argsL := As) (rest := rest) (fun sig h => hn.trans (hlen sig h)) hstack hW (by rw [hb]; exact hdg)
    (fun vm₁ hW₁ => ⟨hf.1, hf.2, hp.2 (T.setVm vm₁) hT hW₁⟩) with ⟨v, vm₁, ⟨U', l2, c2, s2⟩, hW₁, X', ⟨g', mk, t, L, e1, e2, hq, h1, hL, h2, h3⟩, st⟩ | ⟨q, vm₁, ⟨U', l2, c2, s2⟩, hW₁, X', ⟨g', mk, t, L, E, ce, e1, e2, hq, hce, hcv, hcl, h1, hL, h2, h3⟩, st⟩
  · dsimp only [Pt.U, Pt.locs, Pt.cells, Pt.slots] at X' e1 e2 h1 h2 h3 st
    subst h1; subst h2; subst h3
    exact Or.inl ⟨v, (T.setVm vm₁).calling g' mk As.toArray, t, U', L, hT, X', hL, e1, e2, hq, st⟩
  · dsimp only [Pt.U, Pt.locs, Pt.cells, Pt.slots] at X' e1 e2 h1 h2 h3 st hcl
    subst h1; subst h2; subst h3
    exact Or.inr ⟨q, (T.setVm vm₁).calling g' mk As.toArray, t, U', L, E, ce, hT, X', hL, e1, e2, hq, hce, hcv, vx_cls hW₁ hcl, st⟩
end Runs
section Rows
variable {p : Program} {l : Launch} {e : Env} {R : Room} {s : State} {m : MethodId} {args : Array Value} {below : List Frame} {meth : Method} {c : Code} {H : Heap} {locs : List Loc} {cells slots : Nat} {Q : State → Prop}
variable {mc ms : Nat} {free : Addr → Prop} {A0 A1 : Nat → Prop} {H0 : Heap} {a : Array Value} {pc : Nat} {ls : Array Slot} {st0 rest : List Value}
theorem vx_keep {st₀ t T' : State} {L : List Loc} (h0 : st₀.heap = H) (e1 : T'.heap = t.heap) (hS : va_S A0 H0 H locs) (hA : ∀ q, q < H.size → A1 q → A0 q) (hf : ∀ q, free q → A0 q) (hL : ∀ q ∈ L, free q.base) (hF : va_F A1 st₀ t) :
    H.size ≤ T'.heap.size ∧ (∀ q : Nat, q < H.size → ¬ A1 q → T'.heap[q]? = H[q]?) ∧ va_S A0 H0 T'.heap (locs ++ L) := by
  obtain ⟨hz, hk⟩ := hF
  rw [h0] at hz hk
  exact ⟨by rw [e1]; exact hz, fun q h1 h2 => by rw [e1]; exact hk q h1 h2,
    ⟨Nat.le_trans hS.1 (by rw [e1]; exact hz), fun q h1 h2 => by rw [e1, hk q (Nat.lt_of_lt_of_le h1 hS.1) (fun z => h2 (hA q (Nat.lt_of_lt_of_le h1 hS.1) z))]; exact hS.2.1 q h1 h2, fun q hq => by
      rcases List.mem_append.mp hq with h | h
      · exact hS.2.2 q h
      · exact hf _ (hL q h)⟩⟩
theorem vx_calli {S SX : Type} {post : Int32 → S → Prop} {px : SX → Prop} {B : S → State → Prop} {BX : String → SX → State → Prop} {AX : Nat → Prop} (hr : vx_Run p l e R s m args below meth c H locs cells slots mc ms (F0 m pc ls st0) rest (va_Qi post B A1 a) (vx_X px BX AX) free) (hS : va_S A0 H0 H locs) (hA : ∀ q, q < H.size → A1 q → A0 q) (hf : ∀ q, free q → A0 q) (hAX : ∀ q, q < H.size → AX q → A0 q)
    (kx : ∀ (E : String) (ce : Cell) (q9 : Addr) (u : SX) (t : State) (H1 : Heap) (locs1 : List Loc), t.heap = H1 → s.vm.Alike t.vm → px u → BX E u t → H.size ≤ H1.size → (∀ q : Nat, q < H.size → ¬ AX q → H1[q]? = H[q]?) → va_S A0 H0 H1 locs1 → H1[q9]? = some ce → ce.vm = .none → s.vm.findClass E = some ce.cls → vx_W p l e R s m args below meth c H1 locs1 (cells + mc) (slots + ms) Q (F0 m pc ls rest) q9)
    (kk : ∀ (r : Int32) (u : S) (t : State) (H1 : Heap) (locs1 : List Loc), t.heap = H1 → s.vm.Alike t.vm → post r u → B u t → H.size ≤ H1.size → (∀ q : Nat, q < H.size → ¬ A1 q → H1[q]? = H[q]?) → va_S A0 H0 H1 locs1 → W p l e R s m args below meth c H1 locs1 (cells + mc) (slots + ms) Q (F0 m (pc + 3) ls (.int r :: rest))) : W p l e R s m args below meth c H locs cells slots Q (F0 m pc ls st0) := by
  intro T hT X
  rcases hr T hT X with ⟨v, st₀, t, T', L, h0, X', hL, e1, e2, ⟨⟨r, u, hv, hp, hb⟩, hF⟩, st⟩ | ⟨q, st₀, t, T', L, E, ce, h0, X', hL, e1, e2, ⟨u, hp, hb, hF⟩, hce, hcv, hcl, st⟩
  · cases hv
    obtain ⟨k1, k2, k3⟩ := vx_keep h0 e1 hS hA hf hL hF
    obtain ⟨t2, a1, b1⟩ := kk r u t T'.heap (locs ++ L) e1.symm (by rw [← e2]; exact X'.warmed.alike) hp hb k1 k2 k3 T' rfl X'
    exact ⟨t2, st t2 a1, b1⟩
  · obtain ⟨k1, k2, k3⟩ := vx_keep h0 e1 hS hAX hf hL hF
    obtain ⟨t2, a1, b1⟩ := kx E ce q u t T'.heap (locs ++ L) e1.symm (by rw [← e2]; exact X'.warmed.alike) hp hb k1 k2 k3 (by rw [e1]; exact hce) hcv hcl T' rfl X'
    exact ⟨t2, st.trans a1, b1⟩
theorem vx_calll {S SX : Type} {post : Int64 → S → Prop} {px : SX → Prop} {B : S → State → Prop} {BX : String → SX → State → Prop} {AX : Nat → Prop} (hr : vx_Run p l e R s m args below meth c H locs cells slots mc ms (F0 m pc ls st0) rest (va_Ql post B A1 a) (vx_X px BX AX) free) (hS : va_S A0 H0 H locs) (hA : ∀ q, q < H.size → A1 q → A0 q) (hf : ∀ q, free q → A0 q) (hAX : ∀ q, q < H.size → AX q → A0 q)
    (kx : ∀ (E : String) (ce : Cell) (q9 : Addr) (u : SX) (t : State) (H1 : Heap) (locs1 : List Loc), t.heap = H1 → s.vm.Alike t.vm → px u → BX E u t → H.size ≤ H1.size → (∀ q : Nat, q < H.size → ¬ AX q → H1[q]? = H[q]?) → va_S A0 H0 H1 locs1 → H1[q9]? = some ce → ce.vm = .none → s.vm.findClass E = some ce.cls → vx_W p l e R s m args below meth c H1 locs1 (cells + mc) (slots + ms) Q (F0 m pc ls rest) q9)
    (kk : ∀ (r : Int64) (u : S) (t : State) (H1 : Heap) (locs1 : List Loc), t.heap = H1 → s.vm.Alike t.vm → post r u → B u t → H.size ≤ H1.size → (∀ q : Nat, q < H.size → ¬ A1 q → H1[q]? = H[q]?) → va_S A0 H0 H1 locs1 → W p l e R s m args below meth c H1 locs1 (cells + mc) (slots + ms) Q (F0 m (pc + 3) ls (.long r :: rest))) : W p l e R s m args below meth c H locs cells slots Q (F0 m pc ls st0) := by
  intro T hT X
  rcases hr T hT X with ⟨v, st₀, t, T', L, h0, X', hL, e1, e2, ⟨⟨r, u, hv, hp, hb⟩, hF⟩, st⟩ | ⟨q, st₀, t, T', L, E, ce, h0, X', hL, e1, e2, ⟨u, hp, hb, hF⟩, hce, hcv, hcl, st⟩
  · cases hv
    obtain ⟨k1, k2, k3⟩ := vx_keep h0 e1 hS hA hf hL hF
    obtain ⟨t2, a1, b1⟩ := kk r u t T'.heap (locs ++ L) e1.symm (by rw [← e2]; exact X'.warmed.alike) hp hb k1 k2 k3 T' rfl X'
    exact ⟨t2, st t2 a1, b1⟩
  · obtain ⟨k1, k2, k3⟩ := vx_keep h0 e1 hS hAX hf hL hF
    obtain ⟨t2, a1, b1⟩ := kx E ce q u t T'.heap (locs ++ L) e1.symm (by rw [← e2]; exact X'.warmed.alike) hp hb k1 k2 k3 (by rw [e1]; exact hce) hcv hcl T' rfl X'
    exact ⟨t2, st.trans a1, b1⟩
theorem vx_callf {S SX : Type} {post : UInt32 → S → Prop} {px : SX → Prop} {B : S → State → Prop} {BX : String → SX → State → Prop} {AX : Nat → Prop} (hr : vx_Run p l e R s m args below meth c H locs cells slots mc ms (F0 m pc ls st0) rest (va_Qf post B A1 a) (vx_X px BX AX) free) (hS : va_S A0 H0 H locs) (hA : ∀ q, q < H.size → A1 q → A0 q) (hf : ∀ q, free q → A0 q) (hAX : ∀ q, q < H.size → AX q → A0 q)
    (kx : ∀ (E : String) (ce : Cell) (q9 : Addr) (u : SX) (t : State) (H1 : Heap) (locs1 : List Loc), t.heap = H1 → s.vm.Alike t.vm → px u → BX E u t → H.size ≤ H1.size → (∀ q : Nat, q < H.size → ¬ AX q → H1[q]? = H[q]?) → va_S A0 H0 H1 locs1 → H1[q9]? = some ce → ce.vm = .none → s.vm.findClass E = some ce.cls → vx_W p l e R s m args below meth c H1 locs1 (cells + mc) (slots + ms) Q (F0 m pc ls rest) q9)
    (kk : ∀ (r : UInt32) (u : S) (t : State) (H1 : Heap) (locs1 : List Loc), t.heap = H1 → s.vm.Alike t.vm → post r u → B u t → H.size ≤ H1.size → (∀ q : Nat, q < H.size → ¬ A1 q → H1[q]? = H[q]?) → va_S A0 H0 H1 locs1 → W p l e R s m args below meth c H1 locs1 (cells + mc) (slots + ms) Q (F0 m (pc + 3) ls (.float r :: rest))) : W p l e R s m args below meth c H locs cells slots Q (F0 m pc ls st0) := by
  intro T hT X
  rcases hr T hT X with ⟨v, st₀, t, T', L, h0, X', hL, e1, e2, ⟨⟨r, u, hv, hp, hb⟩, hF⟩, st⟩ | ⟨q, st₀, t, T', L, E, ce, h0, X', hL, e1, e2, ⟨u, hp, hb, hF⟩, hce, hcv, hcl, st⟩
  · cases hv
    obtain ⟨k1, k2, k3⟩ := vx_keep h0 e1 hS hA hf hL hF
    obtain ⟨t2, a1, b1⟩ := kk r u t T'.heap (locs ++ L) e1.symm (by rw [← e2]; exact X'.warmed.alike) hp hb k1 k2 k3 T' rfl X'
    exact ⟨t2, st t2 a1, b1⟩
  · obtain ⟨k1, k2, k3⟩ := vx_keep h0 e1 hS hAX hf hL hF
    obtain ⟨t2, a1, b1⟩ := kx E ce q u t T'.heap (locs ++ L) e1.symm (by rw [← e2]; exact X'.warmed.alike) hp hb k1 k2 k3 (by rw [e1]; exact hce) hcv hcl T' rfl X'
    exact ⟨t2, st.trans a1, b1⟩
theorem vx_calld {S SX : Type} {post : UInt64 → S → Prop} {px : SX → Prop} {B : S → State → Prop} {BX : String → SX → State → Prop} {AX : Nat → Prop} (hr : vx_Run p l e R s m args below meth c H locs cells slots mc ms (F0 m pc ls st0) rest (va_Qd post B A1 a) (vx_X px BX AX) free) (hS : va_S A0 H0 H locs) (hA : ∀ q, q < H.size → A1 q → A0 q) (hf : ∀ q, free q → A0 q) (hAX : ∀ q, q < H.size → AX q → A0 q)
    (kx : ∀ (E : String) (ce : Cell) (q9 : Addr) (u : SX) (t : State) (H1 : Heap) (locs1 : List Loc), t.heap = H1 → s.vm.Alike t.vm → px u → BX E u t → H.size ≤ H1.size → (∀ q : Nat, q < H.size → ¬ AX q → H1[q]? = H[q]?) → va_S A0 H0 H1 locs1 → H1[q9]? = some ce → ce.vm = .none → s.vm.findClass E = some ce.cls → vx_W p l e R s m args below meth c H1 locs1 (cells + mc) (slots + ms) Q (F0 m pc ls rest) q9)
    (kk : ∀ (r : UInt64) (u : S) (t : State) (H1 : Heap) (locs1 : List Loc), t.heap = H1 → s.vm.Alike t.vm → post r u → B u t → H.size ≤ H1.size → (∀ q : Nat, q < H.size → ¬ A1 q → H1[q]? = H[q]?) → va_S A0 H0 H1 locs1 → W p l e R s m args below meth c H1 locs1 (cells + mc) (slots + ms) Q (F0 m (pc + 3) ls (.double r :: rest))) : W p l e R s m args below meth c H locs cells slots Q (F0 m pc ls st0) := by
  intro T hT X
  rcases hr T hT X with ⟨v, st₀, t, T', L, h0, X', hL, e1, e2, ⟨⟨r, u, hv, hp, hb⟩, hF⟩, st⟩ | ⟨q, st₀, t, T', L, E, ce, h0, X', hL, e1, e2, ⟨u, hp, hb, hF⟩, hce, hcv, hcl, st⟩
  · cases hv
    obtain ⟨k1, k2, k3⟩ := vx_keep h0 e1 hS hA hf hL hF
    obtain ⟨t2, a1, b1⟩ := kk r u t T'.heap (locs ++ L) e1.symm (by rw [← e2]; exact X'.warmed.alike) hp hb k1 k2 k3 T' rfl X'
    exact ⟨t2, st t2 a1, b1⟩
  · obtain ⟨k1, k2, k3⟩ := vx_keep h0 e1 hS hAX hf hL hF
    obtain ⟨t2, a1, b1⟩ := kx E ce q u t T'.heap (locs ++ L) e1.symm (by rw [← e2]; exact X'.warmed.alike) hp hb k1 k2 k3 (by rw [e1]; exact hce) hcv hcl T' rfl X'
    exact ⟨t2, st.trans a1, b1⟩
theorem vx_callv {S SX : Type} {post : S → Prop} {px : SX → Prop} {B : S → State → Prop} {BX : String → SX → State → Prop} {AX : Nat → Prop} (hr : vx_Run p l e R s m args below meth c H locs cells slots mc ms (F0 m pc ls st0) rest (va_Qv post B A1 a) (vx_X px BX AX) free) (hS : va_S A0 H0 H locs) (hA : ∀ q, q < H.size → A1 q → A0 q) (hf : ∀ q, free q → A0 q) (hAX : ∀ q, q < H.size → AX q → A0 q)
    (kx : ∀ (E : String) (ce : Cell) (q9 : Addr) (u : SX) (t : State) (H1 : Heap) (locs1 : List Loc), t.heap = H1 → s.vm.Alike t.vm → px u → BX E u t → H.size ≤ H1.size → (∀ q : Nat, q < H.size → ¬ AX q → H1[q]? = H[q]?) → va_S A0 H0 H1 locs1 → H1[q9]? = some ce → ce.vm = .none → s.vm.findClass E = some ce.cls → vx_W p l e R s m args below meth c H1 locs1 (cells + mc) (slots + ms) Q (F0 m pc ls rest) q9)
    (kk : ∀ (u : S) (t : State) (H1 : Heap) (locs1 : List Loc), t.heap = H1 → s.vm.Alike t.vm → post u → B u t → H.size ≤ H1.size → (∀ q : Nat, q < H.size → ¬ A1 q → H1[q]? = H[q]?) → va_S A0 H0 H1 locs1 → W p l e R s m args below meth c H1 locs1 (cells + mc) (slots + ms) Q (F0 m (pc + 3) ls (rest))) : W p l e R s m args below meth c H locs cells slots Q (F0 m pc ls st0) := by
  intro T hT X
  rcases hr T hT X with ⟨v, st₀, t, T', L, h0, X', hL, e1, e2, ⟨⟨u, hv, hp, hb⟩, hF⟩, st⟩ | ⟨q, st₀, t, T', L, E, ce, h0, X', hL, e1, e2, ⟨u, hp, hb, hF⟩, hce, hcv, hcl, st⟩
  · cases hv
    obtain ⟨k1, k2, k3⟩ := vx_keep h0 e1 hS hA hf hL hF
    obtain ⟨t2, a1, b1⟩ := kk u t T'.heap (locs ++ L) e1.symm (by rw [← e2]; exact X'.warmed.alike) hp hb k1 k2 k3 T' rfl X'
    exact ⟨t2, st t2 a1, b1⟩
  · obtain ⟨k1, k2, k3⟩ := vx_keep h0 e1 hS hAX hf hL hF
    obtain ⟨t2, a1, b1⟩ := kx E ce q u t T'.heap (locs ++ L) e1.symm (by rw [← e2]; exact X'.warmed.alike) hp hb k1 k2 k3 (by rw [e1]; exact hce) hcv hcl T' rfl X'
    exact ⟨t2, st.trans a1, b1⟩
theorem vx_catch {own name : String} {E : String} {ce : Cell} {q : Addr} (hown : s.vm.findClass own = some m.cls) (pre : List ExceptionTableEntry) (x : ExceptionTableEntry) (suf : List ExceptionTableEntry) (hsplit : c.exceptionTable.toList = pre ++ x :: suf)
    (hpass : ∀ z ∈ pre, covers z pc = false ∨ (z.catchType ≠ 0 ∧ ∃ nm : String, (Cond.classLink own z.catchType nm).before args s = true ∧ va_Nc E nm s)) (hx : covers x pc = true) (h0 : x.catchType ≠ 0)
    (hlink : (Cond.classLink own x.catchType name).before args s = true) (hcast : (Cond.castable E name).before args s = true) (hcell : H[q]? = some ce) (hv : ce.vm = .none) (hcl : s.vm.findClass E = some ce.cls)
    (kk : W p l e R s m args below meth c H locs cells slots Q (F0 m x.handlerPc ls [.ref q])) : vx_W p l e R s m args below meth c H locs cells slots Q (F0 m pc ls rest) q := by
  intro T hT X
  have hpl : e.platform.magicAccessors = ({} : Platform).magicAccessors := by rw [X.admits.platform]
  obtain ⟨c3, c4, hc3, hc4, hasg⟩ := Cond.castable_spec hcast
  cases Option.some.inj (hc3.symm.trans hcl)
  obtain ⟨c5, hc5, hcl5⟩ := Cond.classLink_spec hown hlink e.platform hpl
  cases Option.some.inj (hc4.symm.trans hc5)
  obtain ⟨vm', X', st⟩ := X.thenCaughtThrough q (g := F0 m pc ls rest) rfl (Steps.refl _) (by rw [hT]; exact hcell) (by rw [hv]; rfl) (by obtain ⟨k9, h9, -⟩ := Vm.findClass_spec hcl; exact ⟨k9, h9⟩) pre x suf hsplit
    (fun z hz => by
      rcases hpass z hz with h | ⟨hz0, nm, hl1, hn1⟩
      · exact Or.inl h
      · obtain ⟨c6, hc6, hcl6⟩ := Cond.classLink_spec hown hl1 e.platform hpl
        obtain ⟨a8, b8, h1, h2, h3⟩ := hn1
        cases Option.some.inj (h1.symm.trans hcl)
        cases Option.some.inj (h2.symm.trans hc6)
        exact Or.inr ⟨hz0, _, hcl6, h3⟩) hx (Or.inr ⟨h0, c4, hcl5, hasg⟩)
  obtain ⟨t, a1, b1⟩ := kk (T.setVm vm') hT X'
  exact ⟨t, st.trans a1, b1⟩
end Rows
section Ends
variable {p : Program} {l : Launch} {e : Env} {R : Room} {s : State} {m : MethodId} {args : Array Value} {below : List Frame} {meth : Method} {c : Code} {H : Heap} {locs : List Loc} {cells slots : Nat} {Q : State → Prop}
variable {mc ms : Nat} {free : Addr → Prop} {A0 A1 : Nat → Prop} {H0 : Heap} {a : Array Value} {ls : Array Slot} {st0 rest : List Value}
variable {Qc : Array Value → State → Outcome → State → Prop} {XC : String → State → State → Prop}
def vx_MQ (below : List Frame) (Qc : Array Value → State → Outcome → State → Prop) (XC : String → State → State → Prop) (a : Array Value) (s : State) (mc ms : Nat) (free : Addr → Prop) : State → Prop := fun t =>
  ∃ o, t.status = .running ∧ Ended t below o ∧ vx_Q Qc XC mc ms free a s o t
theorem vx_ret {g : JFrame} {mc ms : Nat} (k : W p l e R s m args below meth c H locs cells slots (MQ below Qc args s mc ms free) g) : W p l e R s m args below meth c H locs cells slots (vx_MQ below Qc XC args s mc ms free) g := by
  intro T hT X
  obtain ⟨t, a1, o, b1, b2, b3, b4⟩ := k T hT X
  exact ⟨t, a1, o, b1, b2, Or.inl ⟨b3, b4⟩⟩
theorem vx_widen {g : JFrame} {q : Addr} {k n : Nat} (h1 : cells ≤ k) (h2 : slots ≤ n) (kk : vx_W p l e R s m args below meth c H locs k n Q g q) : vx_W p l e R s m args below meth c H locs cells slots Q g q := fun T hT X => kk T hT (stand_widen X h1 h2)
theorem vx_out {pc : Nat} {E : String} {ce : Cell} {q : Addr} {mc ms : Nat} (hout : ∀ x ∈ c.exceptionTable.toList, covers x pc = false) (hlocks : meth.locks = false) (hcell : H[q]? = some ce) (hv : ce.vm = .none) (hcl : s.vm.findClass E = some ce.cls)
    (hx : ∀ t : State, t.heap = H → s.vm.Alike t.vm → XC E s t) (hf : ∀ z ∈ locs, free z.base) (hc : cells ≤ mc) (hs : slots ≤ ms) :
    vx_W p l e R s m args below meth c H locs cells slots (vx_MQ below Qc XC args s mc ms free) (F0 m pc ls rest) q := by
  intro T hT X
  obtain ⟨st1, hrun, hend, hW, hsm⟩ := X.leaveThrown q (g := F0 m pc ls rest) rfl rfl rfl hout hlocks
  have hcell9 : (T.setFrames (.throwing q :: below)).heap[q]? = some ce := by
    show T.heap[q]? = some ce
    rw [hT]; exact hcell
  exact ⟨_, st1, .threw q, hrun, hend, Or.inr ⟨q, rfl, E, ce, locs, hx _ hT hW.alike, hcell9, hv, hcl, hW, hsm.mono hc hs, hf⟩⟩
theorem vx_frame {U : State} {k n : Nat} (h : s.sameButNew ({ U with vm := s.vm } : State) locs k n) : s.heap.size ≤ U.heap.size ∧ ∀ q : Nat, q < s.heap.size → (∀ z ∈ locs, z.base ≠ q) → U.heap[q]? = s.heap[q]? := by
  obtain ⟨-, h2, -, -, -, h6⟩ := h
  refine ⟨h2, fun q hq hz => ?_⟩
  obtain ⟨c9, e1, e2, e3, e4⟩ := h6 q _ (Array.getElem?_eq_getElem hq)
  have hs : c9.slots = (s.heap[q]).slots := Array.ext_getElem? fun i => e4 i fun hm => hz _ hm rfl
  have h9 : c9 = s.heap[q] := by
    rw [hs] at e2
    exact e2
  have e5 : U.heap[q]? = some c9 := e1
  rw [e5, h9, Array.getElem?_eq_getElem hq]
def vx_no (w : Cond) : Bool := decide (w ≠ .isRef (.static Bundle.tN "UNASSIGNED_STACK" Bundle.steD)) && decide (w ≠ .isRef (.static Bundle.tN "SUPPRESSED_SENTINEL" Bundle.listD)) && decide (w ≠ .laysStatic Bundle.tN "UNASSIGNED_STACK" Bundle.steD) && decide (w ≠ .laysStatic Bundle.tN "SUPPRESSED_SENTINEL" Bundle.listD)
def vx_at0 (own : String) (ic : Nat) (X : String) (names : List String) : List Cond := (Bundle.ownAtoms0 own ic X names).filter vx_no
def vx_atS (own : String) (ic : Nat) (X : String) (names : List String) : List Cond := (Bundle.ownAtoms own ic X names).filter vx_no
def vx_ot (w : Cond) : Bool := w.onTables || goodWord w
theorem vx_ot_at {args a' : Array Value} {s U : State} {w : Cond} (hW : s.WarmedH U.vm) (hvm : s.vm = U.vm) (hg : vx_ot w = true) (h : w.before args s = true) : w.before a' U = true := by
  simp only [vx_ot, Bool.or_eq_true] at hg
  rcases hg with hg | hg
  · exact va_tabs hg hvm h
  · exact word_at hW (good_of_word hg) h
theorem vx_hat {args : Array Value} {s : State} {L B : List Cond} (h1 : ∀ w ∈ L.filter goodWord, w.before args s = true) (h2 : ∀ w ∈ L.filter (fun w => !goodWord w), w ∈ B) (h3 : ∀ w ∈ B, w.before args s = true) : ∀ w ∈ L, w.before args s = true := by
  intro w hw
  by_cases g : goodWord w = true
  · exact h1 w (List.mem_filter.mpr ⟨hw, g⟩)
  · refine h3 w (h2 w (List.mem_filter.mpr ⟨hw, ?_⟩))
    show (!goodWord w) = true
    cases hgw : goodWord w
    · rfl
    · exact absurd hgw g
theorem vx_c {args : Array Value} {s : State} {w : Cond} {B : List Cond} (h : w.before args s = true) (t : ∀ w ∈ B, w.before args s = true) : ∀ w' ∈ w :: B, w'.before args s = true := fun w' h' => (List.mem_cons.mp h').elim (fun e => by rw [e]; exact h) (t w')
theorem vx_n {args : Array Value} {s : State} : ∀ w ∈ ([] : List Cond), w.before args s = true := fun _ h => nomatch h
theorem vx_own {args : Array Value} {s : State} {L : List Cond} (h1 : ∀ w ∈ L.filter vx_no, w.before args s = true)
    (hU : (Cond.isRef (.static Bundle.tN "UNASSIGNED_STACK" Bundle.steD)).before args s = true) (hN : (Cond.isRef (.static Bundle.tN "SUPPRESSED_SENTINEL" Bundle.listD)).before args s = true)
    (lU : (Cond.laysStatic Bundle.tN "UNASSIGNED_STACK" Bundle.steD).before args s = true) (lN : (Cond.laysStatic Bundle.tN "SUPPRESSED_SENTINEL" Bundle.listD).before args s = true) : ∀ w ∈ L, w.before args s = true := by
  intro w hw
  by_cases e1 : w = .isRef (.static Bundle.tN "UNASSIGNED_STACK" Bundle.steD)
  · rw [e1]; exact hU
  · by_cases e2 : w = .isRef (.static Bundle.tN "SUPPRESSED_SENTINEL" Bundle.listD)
    · rw [e2]; exact hN
    · by_cases e3 : w = .laysStatic Bundle.tN "UNASSIGNED_STACK" Bundle.steD
      · rw [e3]; exact lU
      · by_cases e4 : w = .laysStatic Bundle.tN "SUPPRESSED_SENTINEL" Bundle.listD
        · rw [e4]; exact lN
        · exact h1 w (List.mem_filter.mpr ⟨hw, by unfold vx_no; rw [decide_eq_true e1, decide_eq_true e2, decide_eq_true e3, decide_eq_true e4]; rfl⟩)
def vx_L (C n d : String) (A : Nat → Prop) (U : State) (H : Heap) : Prop := ∃ (c : ClassId) (k : Class) (i : Nat) (f : Field) (a : Nat) (cell : Cell), U.vm.findClass C = some c ∧ U.fieldFound? C n d = some (c, k, i, f) ∧ f.isStatic = true ∧ k.statics = some a ∧ H[a]? = some cell ∧ cell.vm.isStatics = true ∧ cell.cls = c ∧ f.slot < cell.slots.size ∧ k.staticTypes[f.slot]? = some f.type ∧ ¬ A a
theorem vx_L.moved {C n d : String} {A : Nat → Prop} {u U : State} {H : Heap} (hvm : u.vm.Alike U.vm) (h : vx_L C n d A u H) : vx_L C n d A U H := by
  obtain ⟨c, k, i, f, a, cell, h1, h2, h3, h4, h5, h6, h7, h8, h9, h10⟩ := h
  obtain ⟨k', hi', he⟩ := State.fieldFound?_setVm hvm h2
  exact ⟨c, k', i, f, a, cell, by rw [hvm.findClass]; exact h1, hi', h3, by rw [he]; exact h4, h5, h6, h7, h8, by rw [he]; exact h9, h10⟩
theorem vx_L.kept {C n d : String} {A : Nat → Prop} {U : State} {H H1 : Heap} (h : vx_L C n d A U H) (hq : ∀ a : Nat, a < H.size → ¬ A a → H1[a]? = H[a]?) : vx_L C n d A U H1 := by
  obtain ⟨c, k, i, f, a, cell, h1, h2, h3, h4, h5, h6, h7, h8, h9, h10⟩ := h
  exact ⟨c, k, i, f, a, cell, h1, h2, h3, h4, by rw [hq a (Array.getElem?_eq_some_iff.mp h5).1 h10]; exact h5, h6, h7, h8, h9, h10⟩
theorem vx_L.narrow {C n d : String} {A B : Nat → Prop} {U : State} {H : Heap} (h : vx_L C n d A U H) (hAB : ∀ q, B q → A q) : vx_L C n d B U H := by
  obtain ⟨c, k, i, f, a, cell, h1, h2, h3, h4, h5, h6, h7, h8, h9, h10⟩ := h
  exact ⟨c, k, i, f, a, cell, h1, h2, h3, h4, h5, h6, h7, h8, h9, fun z => h10 (hAB _ z)⟩
theorem vx_L.word {C n d : String} {A : Nat → Prop} {s : State} {args : Array Value} (h : vx_L C n d A s s.heap) : (Cond.laysStatic C n d).before args s = true := by
  obtain ⟨c, k, i, f, a, cell, h1, h2, h3, h4, h5, h6, h7, h8, h9, -⟩ := h
  show (Cond.laysStatic C n d).holds args s none s [] = true
  exact Cond.laysStatic_of h1 h2 h3 h4 h5 h6 h7 h8 h9
def vx_Zq (C n d : String) (A : Nat → Prop) (U : State) (H : Heap) : Prop := va_Zq C n d A U H ∧ vx_L C n d A U H
theorem vx_Zq.moved {C n d : String} {A : Nat → Prop} {u U : State} {H : Heap} (hvm : u.vm.Alike U.vm) (h : vx_Zq C n d A u H) : vx_Zq C n d A U H := ⟨va_Zq.moved hvm h.1, vx_L.moved hvm h.2⟩
theorem vx_Zq.kept {C n d : String} {A : Nat → Prop} {U : State} {H H1 : Heap} (h : vx_Zq C n d A U H) (hq : ∀ a : Nat, a < H.size → ¬ A a → H1[a]? = H[a]?) : vx_Zq C n d A U H1 := ⟨va_Zq.kept h.1 hq, vx_L.kept h.2 hq⟩
theorem vx_Zq.narrow {C n d : String} {A B : Nat → Prop} {U : State} {H : Heap} (h : vx_Zq C n d A U H) (hAB : ∀ q, B q → A q) : vx_Zq C n d B U H := ⟨va_Zq.narrow h.1 hAB, vx_L.narrow h.2 hAB⟩
theorem vx_Zqof {args : Array Value} {s : State} {C n d : String} {A : Nat → Prop} (hl : (Cond.laysStatic C n d).before args s = true) (hini : (Cond.initialized C).before args s = true) (h : (Cond.isRef (.static C n d)).before args s = true) (hA : ∀ a : Nat, a < s.heap.size → ¬ A a) : vx_Zq C n d A s s.heap := by
  refine ⟨va_Zqof hl hini h hA, ?_⟩
  obtain ⟨c, k, i, f, a, cell, h1, h2, h3, h4, h5, h6, h7, h8, h9⟩ := Cond.laysStatic_spec hl
  exact ⟨c, k, i, f, a, cell, h1, h2, h3, h4, h5, h6, h7, h8, h9, hA a (Array.getElem?_eq_some_iff.mp h5).1⟩
theorem vx_isRef {C n d : String} {v : Value} {A : Nat → Prop} {s : State} {args : Array Value} (h : va_Z C n d v A s s.heap) (hv : v.isRef = true) : (Cond.isRef (.static C n d)).before args s = true := by
  obtain ⟨cf, kf, fi, f, a, cell, h1, h2, h3, h4, h5, h6, h7, -⟩ := h
  have he : (Term.static C n d).eval args s none [] s = some v := by
    simp [Term.eval, State.fieldNamed?, h1, h2, h4, h5, h6, h7]
  simp only [Cond.before, Cond.holds, Cond.value, he]
  cases v <;> simp_all [Value.isRef]
theorem vx_isRefq {C n d : String} {A : Nat → Prop} {s : State} {args : Array Value} (h : va_Zq C n d A s s.heap) : (Cond.isRef (.static C n d)).before args s = true := by
  rcases h with h | ⟨t, h⟩
  · exact vx_isRef h rfl
  · exact vx_isRef h rfl
theorem vx_rebase {T : State} (X : Stand p l e R s m args below meth c T locs cells slots) {R' : Room} (hf : R'.frames ≤ R.frames) (hl : R'.locals ≤ R.locals) (hc : cells + R'.cells ≤ R.cells) (hs : slots + R'.slots ≤ R.slots) :
    Stand p l e R' ((T.setVm s.vm).setFrames (.invoking m args :: below)) m args below meth c T [] 0 0 := by
  have htop : (T.setVm s.vm).topJava?.isSome := X.here.top
  have hF : ((T.setVm s.vm).setFrames (.invoking m args :: below)).frames = .invoking m args :: below := State.frames_setFrames _ (State.cur_lt_of_top htop)
  obtain ⟨g₀, hg0⟩ := Option.isSome_iff_exists.mp htop
  obtain ⟨r, hr⟩ := State.topJava?_eq_some.mp hg0
  have hl9 : e.platform.stackLimits (T.setVm s.vm).me = e.platform.stackLimits s.me := X.limits
  have hb9 : (T.setVm s.vm).me.stackBytes = s.me.stackBytes := X.bytes
  refine ⟨X.admits, X.cas, X.clock, hF, ?_, X.hears, X.method, X.code, X.here, X.tail, X.warmed, ?_, ?_, ?_⟩
  · have h := X.room
    have hU : ((T.setVm s.vm).setFrames (.invoking m args :: below)).localsInUse = s.localsInUse := by
      rw [State.localsInUse_invoking hF (meth := meth) (c := c) X.method X.code, State.localsInUse_invoking X.frames X.method X.code]
    simp only [State.hasRoom, Bool.and_eq_true, decide_eq_true_eq] at h ⊢
    obtain ⟨⟨⟨⟨h1, h2, h3, h4, h5, h6⟩, h7⟩, h8⟩, h9⟩ := h
    rw [X.frames, List.length_cons] at h2 h3
    have q1 := X.heapSize
    have q2 := X.used
    simp only [hF, hU, List.length_cons, State.stackLimits_setFrames, State.stackBytes_setFrames, hl9, hb9]
    refine ⟨⟨⟨⟨by omega, by omega, by omega, by omega, by omega, h6⟩, ?_⟩, ?_⟩, X.book⟩
    · show T.heap.size + R'.cells ≤ e.platform.maxCells
      omega
    · show T.slotsUsed + R'.slots ≤ e.platform.maxSlots
      omega
  · rw [State.stackLimits_setFrames]; rfl
  · rw [State.stackBytes_setFrames]; rfl
  · refine ⟨?_, Nat.le_refl _, Nat.le_refl _, ?_, ?_, fun a c9 h9 => ⟨c9, h9, rfl, rfl, fun _ _ => rfl⟩⟩
    · obtain ⟨t, ht, -⟩ := State.frames_cons hr
      show T.setVm s.vm = { ((T.setVm s.vm).setFrames (.invoking m args :: below)).setFrames (T.setVm s.vm).frames with heap := T.heap, slotsUsed := T.slotsUsed }
      rw [State.setFrames_setFrames, State.setFrames_self ht]
      rfl
    · show T.slotsUsed = T.slotsUsed + ((T.heap.toList.drop T.heap.size).map (·.slots.size)).sum
      rw [List.drop_eq_nil_of_le (Nat.le_of_eq Array.length_toList)]
      rfl
    · show ((T.heap.toList.drop T.heap.size).map (·.slots.size)).sum ≤ 0
      rw [List.drop_eq_nil_of_le (Nat.le_of_eq Array.length_toList)]
      exact Nat.le_refl _
theorem vx_throw0 {cc : ByteArray} {pc : Nat} (hexec : p.tables.exec = Jvm.exec) (hb : c.code = cc) (hl : l.stackTraces = false) {own cls : String} {names : List String} {ik ic mc ms : Nat} {A : Nat → Prop}
    (hown : s.vm.findClass own = some m.cls) (hcls : Bundle.fit cls = true) (hnames : ∀ n ∈ names, Bundle.fit n = true)
    (hk : (Cond.classLink own ik cls).before args s = true) (hini : (Cond.initialized cls).before args s = true) (hat : ∀ w ∈ vx_at0 own ic cls names, w.before args s = true)
    (hgood : ∀ w ∈ Cond.classLink own ik cls :: Cond.initialized cls :: vx_at0 own ic cls names, vx_ot w = true)
    (hU : vx_Zq Bundle.tN "UNASSIGNED_STACK" Bundle.steD A s s.heap) (hN : vx_Zq Bundle.tN "SUPPRESSED_SENTINEL" Bundle.listD A s s.heap) (hS : va_S A s.heap H locs) (hsize : ls.size = c.maxLocals)
    (d0 : decode cc pc = .ok (.new ik, 3)) (d3 : decode cc (pc + 3) = .ok (.dup, 1)) (d4 : decode cc (pc + 4) = .ok (.invokespecial ic, 3)) (d7 : decode cc (pc + 7) = .ok (.athrow, 1))
    (hout : ∀ x ∈ c.exceptionTable.toList, covers x (pc + 7) = false)
    (hRframes : names.length + 3 < R.frames) (hRlocals : (rest.map fun v => v.category).sum + (13 * (names.length + 1) + 42) ≤ R.locals) (hRcells : cells + 1 ≤ R.cells) (hRslots : slots + 6 ≤ R.slots) (hlocks : meth.locks = false)
    (hx : ∀ t : State, s.vm.Alike t.vm → H.size ≤ t.heap.size → (∀ q : Nat, q < H.size → t.heap[q]? = H[q]?) → XC cls s t)
    (hf : ∀ z ∈ locs, free z.base) (hc : cells + 1 ≤ mc) (hs : slots + 6 ≤ ms) :
    W p l e R s m args below meth c H locs cells slots (vx_MQ below Qc XC args s mc ms free) (F0 m pc ls rest) := by
  intro T hT X
  have htr : e.platform.stackTraces = false := (show e.platform.stackTraces = l.stackTraces by rw [X.admits.platform]).trans hl
  have Y := vx_rebase X (R' := { frames := R.frames, locals := R.locals, cells := 1, slots := 6 }) (Nat.le_refl _) (Nat.le_refl _) hRcells hRslots
  obtain ⟨s', hA⟩ : ∃ z, z = (T.setVm s.vm).setFrames (.invoking m args :: below) := ⟨_, rfl⟩
  rw [← hA] at Y
  have hvm : s'.vm = s.vm := by rw [hA]; rfl
  have hhp : s'.heap = H := by rw [hA]; exact hT
  have hW0 : s.WarmedH s'.vm := by rw [hvm]; exact State.WarmedH.refl s
  have hat' : ∀ w ∈ vx_at0 own ic cls names, w.before args s' = true := fun w hw => vx_ot_at hW0 hvm.symm (hgood w (List.mem_cons_of_mem _ (List.mem_cons_of_mem _ hw))) (hat w hw)
  have hk' : (Cond.classLink own ik cls).before args s' = true := vx_ot_at hW0 hvm.symm (hgood _ List.mem_cons_self) hk
  have hini' : (Cond.initialized cls).before args s' = true := vx_ot_at hW0 hvm.symm (hgood _ (List.mem_cons_of_mem _ List.mem_cons_self)) hini
  have hU' : vx_Zq Bundle.tN "UNASSIGNED_STACK" Bundle.steD A s' s'.heap := by rw [hhp]; exact vx_Zq.moved hW0.alike (hU.kept hS.2.1)
  have hN' : vx_Zq Bundle.tN "SUPPRESSED_SENTINEL" Bundle.listD A s' s'.heap := by rw [hhp]; exact vx_Zq.moved hW0.alike (hN.kept hS.2.1)
  have h : ∀ w ∈ Bundle.ownAtoms0 own ic cls names, w.before args s' = true := vx_own hat' (vx_isRefq hU'.1) (vx_isRefq hN'.1) hU'.2.word hN'.2.word
  have hown' : s'.vm.findClass own = some m.cls := by rw [hvm]; exact hown
  have hins : (Cond.instantiable cls 6).before args s' = true := h _ (by simp [Bundle.ownAtoms0])
  obtain ⟨vm₁, cX, kX, hfX, hkX, -, -, X₁, st1⟩ := Y.newCold hexec (own := own) (C := cls) (index := ik) (n := 6) hown' hk' hins hini'
    (g := F0 m pc ls rest) rfl (by rw [hb]; exact d0) (Nat.le_refl _) (Nat.le_refl _)
  generalize hT1 : (T.setVm vm₁).pushCell { cls := cX, slots := kX.instanceTypes.map defaultValue, vm := .none } = T1 at X₁ st1
  have hcat : (Value.ref T.heap.size).category = 1 := rfl
  have hcellA : T1.heap[T.heap.size]? = some (freshCell cX kX) := by rw [← hT1]; exact State.heap_pushCell_size _ _
  have d3' : decode c.code (pc + 3) = .ok (.dup, 1) := by rw [hb]; exact d3
  obtain ⟨U, hsteps, hrun, hend, hW, hsame, ce, hce, hO⟩ := X₁.ctorThrow0 hexec htr (own := own) (cls := cls) (names := names) (ic := ic) hown' hcls hnames h (fun x hx => nomatch hx) hfX hkX hcellA (by rw [hhp, hT]; exact Nat.le_refl _)
    (g := { method := m, pc := pc + 4, locals := ls, stack := .ref T.heap.size :: .ref T.heap.size :: rest, locked := none }) rfl hsize rfl rfl (rest := rest) rfl
    (by rw [hb]; exact d4) (by rw [hb]; exact d7) hout hRframes (by simp only [List.map_cons, List.sum_cons, hcat]; omega) hlocks
  obtain ⟨f1, f2⟩ := vx_frame hsame
  rw [hhp] at f1 f2
  have hWs : s.WarmedH U.vm := State.WarmedH.trans hW0 hW
  have hcl : s.vm.findClass cls = some ce.cls := by
    have h9 := hO.cls
    rw [hvm] at h9
    exact h9
  have hall : s.sameButNew ({ U with vm := s.vm } : State) locs mc ms := by
    subst hA
    obtain ⟨e1, e2⟩ := hsame
    rw [State.setFrames_setFrames] at e1
    have h2 : (T.setVm s.vm).sameButNew ({ U with vm := s.vm } : State) [] (0 + 1) (0 + 6) := ⟨e1, e2⟩
    have h3 := X.same.trans h2
    rw [List.append_nil] at h3
    exact h3.mono hc hs
  refine ⟨U, ?_, .threw T.heap.size, hrun, hend, Or.inr ⟨T.heap.size, rfl, cls, ce, locs, hx U hWs.alike f1 (fun q hq => f2 q hq (fun z hz => nomatch hz)), hce, hO.vm, hcl, hWs, hall, hf⟩⟩
  refine st1 _ ?_
  show Steps p.tables e below (T1.setTop { method := m, pc := pc + 3, locals := ls, stack := .ref T.heap.size :: rest, locked := none }) _
  jvm_step X₁.here [X₁.here.top, hexec, d3', Value.category]
  exact hsteps
theorem vx_throwS {cc : ByteArray} {pc : Nat} (hexec : p.tables.exec = Jvm.exec) (hb : c.code = cc) (hl : l.stackTraces = false) {own cls text : String} {names : List String} {ik is ic mc ms sa : Nat} {A : Nat → Prop}
    (hown : s.vm.findClass own = some m.cls) (hcls : Bundle.fit cls = true) (hnames : ∀ n ∈ names, Bundle.fit n = true)
    (hk : (Cond.classLink own ik cls).before args s = true) (hini : (Cond.initialized cls).before args s = true) (hstr : vk_R own is text sa s) (hat : ∀ w ∈ vx_atS own ic cls names, w.before args s = true)
    (hgood : ∀ w ∈ Cond.classLink own ik cls :: Cond.initialized cls :: vx_atS own ic cls names, vx_ot w = true)
    (hU : vx_Zq Bundle.tN "UNASSIGNED_STACK" Bundle.steD A s s.heap) (hN : vx_Zq Bundle.tN "SUPPRESSED_SENTINEL" Bundle.listD A s s.heap) (hS : va_S A s.heap H locs) (hsize : ls.size = c.maxLocals)
    (d0 : decode cc pc = .ok (.new ik, 3)) (d3 : decode cc (pc + 3) = .ok (.dup, 1)) (d4 : decode cc (pc + 4) = .ok (.ldc is, 2)) (d6 : decode cc (pc + 6) = .ok (.invokespecial ic, 3)) (d9 : decode cc (pc + 9) = .ok (.athrow, 1))
    (hout : ∀ x ∈ c.exceptionTable.toList, covers x (pc + 9) = false)
    (hRframes : names.length + 3 < R.frames) (hRlocals : (rest.map fun v => v.category).sum + (13 * (names.length + 1) + 43) ≤ R.locals) (hRcells : cells + 1 ≤ R.cells) (hRslots : slots + 6 ≤ R.slots) (hlocks : meth.locks = false)
    (hx : ∀ t : State, s.vm.Alike t.vm → H.size ≤ t.heap.size → (∀ q : Nat, q < H.size → t.heap[q]? = H[q]?) → XC cls s t)
    (hf : ∀ z ∈ locs, free z.base) (hc : cells + 1 ≤ mc) (hs : slots + 6 ≤ ms) :
    W p l e R s m args below meth c H locs cells slots (vx_MQ below Qc XC args s mc ms free) (F0 m pc ls rest) := by
  intro T hT X
  have htr : e.platform.stackTraces = false := (show e.platform.stackTraces = l.stackTraces by rw [X.admits.platform]).trans hl
  have Y := vx_rebase X (R' := { frames := R.frames, locals := R.locals, cells := 1, slots := 6 }) (Nat.le_refl _) (Nat.le_refl _) hRcells hRslots
  obtain ⟨s', hA⟩ : ∃ z, z = (T.setVm s.vm).setFrames (.invoking m args :: below) := ⟨_, rfl⟩
  rw [← hA] at Y
  have hvm : s'.vm = s.vm := by rw [hA]; rfl
  have hhp : s'.heap = H := by rw [hA]; exact hT
  have hW0 : s.WarmedH s'.vm := by rw [hvm]; exact State.WarmedH.refl s
  have hat' : ∀ w ∈ vx_atS own ic cls names, w.before args s' = true := fun w hw => vx_ot_at hW0 hvm.symm (hgood w (List.mem_cons_of_mem _ (List.mem_cons_of_mem _ hw))) (hat w hw)
  have hk' : (Cond.classLink own ik cls).before args s' = true := vx_ot_at hW0 hvm.symm (hgood _ List.mem_cons_self) hk
  have hini' : (Cond.initialized cls).before args s' = true := vx_ot_at hW0 hvm.symm (hgood _ (List.mem_cons_of_mem _ List.mem_cons_self)) hini
  have hU' : vx_Zq Bundle.tN "UNASSIGNED_STACK" Bundle.steD A s' s'.heap := by rw [hhp]; exact vx_Zq.moved hW0.alike (hU.kept hS.2.1)
  have hN' : vx_Zq Bundle.tN "SUPPRESSED_SENTINEL" Bundle.listD A s' s'.heap := by rw [hhp]; exact vx_Zq.moved hW0.alike (hN.kept hS.2.1)
  have h : ∀ w ∈ Bundle.ownAtoms own ic cls names, w.before args s' = true := vx_own hat' (vx_isRefq hU'.1) (vx_isRefq hN'.1) hU'.2.word hN'.2.word
  have hown' : s'.vm.findClass own = some m.cls := by rw [hvm]; exact hown
  have hins : (Cond.instantiable cls 6).before args s' = true := h _ (by simp [Bundle.ownAtoms])
  obtain ⟨vm₁, cX, kX, hfX, hkX, -, -, X₁, st1⟩ := Y.newCold hexec (own := own) (C := cls) (index := ik) (n := 6) hown' hk' hins hini'
    (g := F0 m pc ls rest) rfl (by rw [hb]; exact d0) (Nat.le_refl _) (Nat.le_refl _)
  generalize hT1 : (T.setVm vm₁).pushCell { cls := cX, slots := kX.instanceTypes.map defaultValue, vm := .none } = T1 at X₁ st1
  have hcat : (Value.ref T.heap.size).category = 1 := rfl
  have hcellA : T1.heap[T.heap.size]? = some (freshCell cX kX) := by rw [← hT1]; exact State.heap_pushCell_size _ _
  have d3' : decode c.code (pc + 3) = .ok (.dup, 1) := by rw [hb]; exact d3
  have d4' : decode c.code (pc + 4) = .ok (.ldc is, 2) := by rw [hb]; exact d4
  have hstr' : vk_R own is text sa s' := vk_R.warm hW0 hstr
  obtain ⟨U, hsteps, hrun, hend, hW, hsame, ce, hce, hO⟩ := X₁.ctorThrowS hexec htr (own := own) (cls := cls) (names := names) (ic := ic) hown' hcls hnames h (fun x hx => nomatch hx) hfX hkX hcellA (by rw [hhp, hT]; exact Nat.le_refl _) (msg := .ref sa) rfl
    (g := { method := m, pc := pc + 6, locals := ls, stack := .ref sa :: .ref T.heap.size :: .ref T.heap.size :: rest, locked := none }) rfl hsize rfl rfl (rest := rest) rfl
    (by rw [hb]; exact d6) (by rw [hb]; exact d9) hout hRframes (by simp only [List.map_cons, List.sum_cons, hcat]; omega) hlocks
  obtain ⟨f1, f2⟩ := vx_frame hsame
  rw [hhp] at f1 f2
  have hWs : s.WarmedH U.vm := State.WarmedH.trans hW0 hW
  have hcl : s.vm.findClass cls = some ce.cls := by
    have h9 := hO.cls
    rw [hvm] at h9
    exact h9
  have hall : s.sameButNew ({ U with vm := s.vm } : State) locs mc ms := by
    subst hA
    obtain ⟨e1, e2⟩ := hsame
    rw [State.setFrames_setFrames] at e1
    have h2 : (T.setVm s.vm).sameButNew ({ U with vm := s.vm } : State) [] (0 + 1) (0 + 6) := ⟨e1, e2⟩
    have h3 := X.same.trans h2
    rw [List.append_nil] at h3
    exact h3.mono hc hs
  refine ⟨U, ?_, .threw T.heap.size, hrun, hend, Or.inr ⟨T.heap.size, rfl, cls, ce, locs, hx U hWs.alike f1 (fun q hq => f2 q hq (fun z hz => nomatch hz)), hce, hO.vm, hcl, hWs, hall, hf⟩⟩
  refine st1 _ ?_
  show Steps p.tables e below (T1.setTop { method := m, pc := pc + 3, locals := ls, stack := .ref T.heap.size :: rest, locked := none }) _
  jvm_step X₁.here [X₁.here.top, hexec, d3', Value.category]
  exact X₁.ldcString hexec (own := own) (text := text) (index := is) (a := sa) hown' hstr'.1 hstr'.2
    (g := { method := m, pc := pc + 4, locals := ls, stack := .ref T.heap.size :: .ref T.heap.size :: rest, locked := none }) rfl d4' _ hsteps
theorem vx_throwSW {cc : ByteArray} {pc : Nat} (hexec : p.tables.exec = Jvm.exec) (hb : c.code = cc) (hl : l.stackTraces = false) {own cls text : String} {names : List String} {ik is ic mc ms sa : Nat} {A : Nat → Prop}
    (hown : s.vm.findClass own = some m.cls) (hcls : Bundle.fit cls = true) (hnames : ∀ n ∈ names, Bundle.fit n = true)
    (hk : (Cond.classLink own ik cls).before args s = true) (hini : (Cond.initialized cls).before args s = true) (hstr : vk_R own is text sa s) (hat : ∀ w ∈ vx_atS own ic cls names, w.before args s = true)
    (hgood : ∀ w ∈ Cond.classLink own ik cls :: Cond.initialized cls :: vx_atS own ic cls names, vx_ot w = true)
    (hU : vx_Zq Bundle.tN "UNASSIGNED_STACK" Bundle.steD A s s.heap) (hN : vx_Zq Bundle.tN "SUPPRESSED_SENTINEL" Bundle.listD A s s.heap) (hS : va_S A s.heap H locs) (hsize : ls.size = c.maxLocals)
    (d0 : decode cc pc = .ok (.new ik, 3)) (d3 : decode cc (pc + 3) = .ok (.dup, 1)) (d4 : decode cc (pc + 4) = .ok (.ldc_w is, 3)) (d7 : decode cc (pc + 7) = .ok (.invokespecial ic, 3)) (d10 : decode cc (pc + 10) = .ok (.athrow, 1))
    (hout : ∀ x ∈ c.exceptionTable.toList, covers x (pc + 10) = false)
    (hRframes : names.length + 3 < R.frames) (hRlocals : (rest.map fun v => v.category).sum + (13 * (names.length + 1) + 43) ≤ R.locals) (hRcells : cells + 1 ≤ R.cells) (hRslots : slots + 6 ≤ R.slots) (hlocks : meth.locks = false)
    (hx : ∀ t : State, s.vm.Alike t.vm → H.size ≤ t.heap.size → (∀ q : Nat, q < H.size → t.heap[q]? = H[q]?) → XC cls s t)
    (hf : ∀ z ∈ locs, free z.base) (hc : cells + 1 ≤ mc) (hs : slots + 6 ≤ ms) :
    W p l e R s m args below meth c H locs cells slots (vx_MQ below Qc XC args s mc ms free) (F0 m pc ls rest) := by
  intro T hT X
  have htr : e.platform.stackTraces = false := (show e.platform.stackTraces = l.stackTraces by rw [X.admits.platform]).trans hl
  have Y := vx_rebase X (R' := { frames := R.frames, locals := R.locals, cells := 1, slots := 6 }) (Nat.le_refl _) (Nat.le_refl _) hRcells hRslots
  obtain ⟨s', hA⟩ : ∃ z, z = (T.setVm s.vm).setFrames (.invoking m args :: below) := ⟨_, rfl⟩
  rw [← hA] at Y
  have hvm : s'.vm = s.vm := by rw [hA]; rfl
  have hhp : s'.heap = H := by rw [hA]; exact hT
  have hW0 : s.WarmedH s'.vm := by rw [hvm]; exact State.WarmedH.refl s
  have hat' : ∀ w ∈ vx_atS own ic cls names, w.before args s' = true := fun w hw => vx_ot_at hW0 hvm.symm (hgood w (List.mem_cons_of_mem _ (List.mem_cons_of_mem _ hw))) (hat w hw)
  have hk' : (Cond.classLink own ik cls).before args s' = true := vx_ot_at hW0 hvm.symm (hgood _ List.mem_cons_self) hk
  have hini' : (Cond.initialized cls).before args s' = true := vx_ot_at hW0 hvm.symm (hgood _ (List.mem_cons_of_mem _ List.mem_cons_self)) hini
  have hU' : vx_Zq Bundle.tN "UNASSIGNED_STACK" Bundle.steD A s' s'.heap := by rw [hhp]; exact vx_Zq.moved hW0.alike (hU.kept hS.2.1)
  have hN' : vx_Zq Bundle.tN "SUPPRESSED_SENTINEL" Bundle.listD A s' s'.heap := by rw [hhp]; exact vx_Zq.moved hW0.alike (hN.kept hS.2.1)
  have h : ∀ w ∈ Bundle.ownAtoms own ic cls names, w.before args s' = true := vx_own hat' (vx_isRefq hU'.1) (vx_isRefq hN'.1) hU'.2.word hN'.2.word
  have hown' : s'.vm.findClass own = some m.cls := by rw [hvm]; exact hown
  have hins : (Cond.instantiable cls 6).before args s' = true := h _ (by simp [Bundle.ownAtoms])
  obtain ⟨vm₁, cX, kX, hfX, hkX, -, -, X₁, st1⟩ := Y.newCold hexec (own := own) (C := cls) (index := ik) (n := 6) hown' hk' hins hini'
    (g := F0 m pc ls rest) rfl (by rw [hb]; exact d0) (Nat.le_refl _) (Nat.le_refl _)
  generalize hT1 : (T.setVm vm₁).pushCell { cls := cX, slots := kX.instanceTypes.map defaultValue, vm := .none } = T1 at X₁ st1
  have hcat : (Value.ref T.heap.size).category = 1 := rfl
  have hcellA : T1.heap[T.heap.size]? = some (freshCell cX kX) := by rw [← hT1]; exact State.heap_pushCell_size _ _
  have d3' : decode c.code (pc + 3) = .ok (.dup, 1) := by rw [hb]; exact d3
  have d4' : decode c.code (pc + 4) = .ok (.ldc_w is, 3) := by rw [hb]; exact d4
  have hstr' : vk_R own is text sa s' := vk_R.warm hW0 hstr
  obtain ⟨U, hsteps, hrun, hend, hW, hsame, ce, hce, hO⟩ := X₁.ctorThrowS hexec htr (own := own) (cls := cls) (names := names) (ic := ic) hown' hcls hnames h (fun x hx => nomatch hx) hfX hkX hcellA (by rw [hhp, hT]; exact Nat.le_refl _) (msg := .ref sa) rfl
    (g := { method := m, pc := pc + 7, locals := ls, stack := .ref sa :: .ref T.heap.size :: .ref T.heap.size :: rest, locked := none }) rfl hsize rfl rfl (rest := rest) rfl
    (by rw [hb]; exact d7) (by rw [hb]; exact d10) hout hRframes (by simp only [List.map_cons, List.sum_cons, hcat]; omega) hlocks
  obtain ⟨f1, f2⟩ := vx_frame hsame
  rw [hhp] at f1 f2
  have hWs : s.WarmedH U.vm := State.WarmedH.trans hW0 hW
  have hcl : s.vm.findClass cls = some ce.cls := by
    have h9 := hO.cls
    rw [hvm] at h9
    exact h9
  have hall : s.sameButNew ({ U with vm := s.vm } : State) locs mc ms := by
    subst hA
    obtain ⟨e1, e2⟩ := hsame
    rw [State.setFrames_setFrames] at e1
    have h2 : (T.setVm s.vm).sameButNew ({ U with vm := s.vm } : State) [] (0 + 1) (0 + 6) := ⟨e1, e2⟩
    have h3 := X.same.trans h2
    rw [List.append_nil] at h3
    exact h3.mono hc hs
  refine ⟨U, ?_, .threw T.heap.size, hrun, hend, Or.inr ⟨T.heap.size, rfl, cls, ce, locs, hx U hWs.alike f1 (fun q hq => f2 q hq (fun z hz => nomatch hz)), hce, hO.vm, hcl, hWs, hall, hf⟩⟩
  refine st1 _ ?_
  show Steps p.tables e below (T1.setTop { method := m, pc := pc + 3, locals := ls, stack := .ref T.heap.size :: rest, locked := none }) _
  jvm_step X₁.here [X₁.here.top, hexec, d3', Value.category]
  exact X₁.ldcStringW hexec (own := own) (text := text) (index := is) (a := sa) hown' hstr'.1 hstr'.2
    (g := { method := m, pc := pc + 4, locals := ls, stack := .ref T.heap.size :: .ref T.heap.size :: rest, locked := none }) rfl d4' _ hsteps
end Ends
section Bodies
variable {l : Launch}
theorem vx_ofW {y : MethodName} {ws ws' : List Cond} {rm : Room} {Pc : Array Value → State → Prop} {Qc : Array Value → State → Outcome → State → Prop} {XC : String → State → State → Prop} {mc ms : Nat} {free : Addr → Prop} {cc : ByteArray} {maxL : Nat} {ret : Option FieldType}
    (hy : plainName y.cls = true) (hw : ws = Cond.code y cc maxL ret :: ws')
    (body : ∀ p e s m args below meth c s₁, BodyLoose p l y (headSpec ws rm) cc maxL ret e s m args below meth c s₁ → c.maxLocals = maxL → (∀ x ∈ c.exceptionTable.toList, False) → Pc args s →
      W p l e (headSpec ws rm).room s m args below meth c s.heap [] 0 0 (vx_MQ below Qc XC args s mc ms free) (entryFrame m args maxL)) : vx_Met l y ws rm Pc Qc XC mc ms free := by
  refine MetFree.of_bodyS (code := cc) (maxLocals := maxL) (ret := ret) hy ?_ ?_
  · intro args s m h hn
    obtain ⟨meth, c, h1, h2, h3, h4, h5, h6, -, -⟩ := Cond.code_spec hn (atoms_spec (ws := ws) h _ (by rw [hw]; exact List.mem_cons_self))
    exact ⟨meth, c, h1, h2, h3, h4, h5, h6⟩
  · intro p e s m args below meth c s₁ B hml hP _
    have hh0 : s₁.heap = s.heap := by rw [B.state]; rfl
    have ht : ∀ x ∈ c.exceptionTable.toList, False := by
      obtain ⟨meth9, c9, h1, h2, -, -, -, -, h7, -⟩ := Cond.code_spec B.named (atoms_spec (ws := ws) B.pre _ (by rw [hw]; exact List.mem_cons_self))
      cases Option.some.inj (h1.symm.trans B.method)
      cases Option.some.inj (h2.symm.trans (Stand.of_body B).code)
      intro x hx
      rw [Array.isEmpty_iff.mp h7] at hx
      cases hx
    obtain ⟨t, a1, o, b1, b2, b3⟩ := body p e s m args below meth c s₁ B hml ht hP s₁ hh0 (Stand.of_body B)
    exact ⟨t, o, a1, b1, b2, b3⟩
theorem vx_table {p : Program} {x y : MethodName} {S : Spec} {cc bytes : ByteArray} {maxL maxL' : Nat} {ret ret' : Option FieldType} {e : Env} {s s₁ : State} {m : MethodId} {args : Array Value} {below : List Frame} {meth : Method} {c : Code} {hh : List (Nat × Nat × Nat × Nat)}
    (B : BodyLoose p l y S cc maxL ret e s m args below meth c s₁) (h : (Cond.codeWith y bytes maxL' ret' hh).before args s = true) : c.exceptionTable.toList = tableOf hh := by
  obtain ⟨m9, meth9, c9, hn9, h1, h2, -, -, h6, -⟩ := Cond.codeWith_spec h
  cases Option.some.inj (hn9.symm.trans B.named)
  cases Option.some.inj (h1.symm.trans B.method)
  cases Option.some.inj (h2.symm.trans (Stand.of_body B).code)
  rw [← h6, table_eq]
end Bodies
end VXA
section VXS
variable {p : Program} {l : Launch} {e : Env} {R : Room} {s : State} {m : MethodId} {args : Array Value} {below : List Frame} {meth : Method} {c : Code} {T : State} {H : Heap} {locs : List Loc} {cells slots : Nat}
abbrev vx_CSW (R : Room) (s : State) (args : Array Value) (own : String) (index : Nat) (y : MethodName) (bytes : ByteArray) (maxL : Nat) (ret : Option FieldType) (hh : List (Nat × Nat × Nat × Nat)) (ws : List Cond) (rm : Room) (mc ms n : Nat) : Prop :=
  (rm.cells = mc ∧ rm.slots = ms ∧ rm.frames + 1 ≤ R.frames ∧ 8 + (maxL + 11) + rm.locals ≤ R.locals ∧ (∀ w ∈ ws, ∀ (a' : Array Value) (U : State), s.WarmedH U.vm → w.before a' U = true) ∧ Cond.codeWith y bytes maxL ret hh ∈ ws) ∧
  (Cond.codeWith y bytes maxL ret hh).before args s = true ∧ (Cond.initialized y.cls).before args s = true ∧ (y.cls ≠ "java/lang/invoke/MethodHandle" ∧ y.cls ≠ "java/lang/invoke/VarHandle") ∧
  (∀ sig, parseMethodDescriptor y.desc = some sig → n = sig.parameters.length) ∧ (Cond.methodLink own index y).before args s = true ∧ (Cond.static y).before args s = true
theorem vx_cwSW {own : String} {index maxL mc ms : Nat} {y : MethodName} {bytes : ByteArray} {ret : Option FieldType} {hh : List (Nat × Nat × Nat × Nat)} {Ts ws ws' : List Cond} {rm : Room} (n : Nat) (ht : ∀ w ∈ Ts, w.before args s = true) (hT : GoodIn Ts (va_wsS own index y ws)) (hw : ws = Cond.codeWith y bytes maxL ret hh :: ws') (hrc : rm.cells = mc) (hrs : rm.slots = ms)
    (hd : y.cls ≠ "java/lang/invoke/MethodHandle" ∧ y.cls ≠ "java/lang/invoke/VarHandle" ∧ (parseMethodDescriptor y.desc).map (fun d => d.parameters.length) = some n) (hR : rm.frames + 1 ≤ R.frames ∧ 8 + (maxL + 11) + rm.locals ≤ R.locals) :
    vx_CSW R s args own index y bytes maxL ret hh ws rm mc ms n := by
  have ok : ∀ w ∈ va_wsS own index y ws, w.before args s = true := fun w h => ht w (hT w h).1
  have hG : GoodIn Ts ws := fun w h => hT w (by unfold va_wsS; exact List.mem_append_right _ h)
  have hc : Cond.codeWith y bytes maxL ret hh ∈ ws := by rw [hw]; exact List.mem_cons_self
  refine ⟨⟨hrc, hrs, hR.1, hR.2, pay_in ht hG, hc⟩, ht _ (hG _ hc).1, ok _ (by simp [va_wsS]), ⟨hd.1, hd.2.1⟩, fun sig h => ?_, ok _ (by simp [va_wsS]), ok _ (by simp [va_wsS])⟩
  have h2 := hd.2.2
  rw [h] at h2
  exact (Option.some.inj h2).symm
theorem vx_callSW (X : Stand p l e R s m args below meth c T locs cells slots) (hexec : p.tables.exec = Jvm.exec) {own : String} {index : Nat} {y : MethodName} {bytes : ByteArray} {maxL : Nat} {ret : Option FieldType} {hh : List (Nat × Nat × Nat × Nat)}
    (hown : s.vm.findClass own = some m.cls) (hlink : (Cond.methodLink own index y).before args s = true) (hstat : (Cond.static y).before args s = true) (hinit : (Cond.initialized y.cls).before args s = true)
    (hcode : (Cond.codeWith y bytes maxL ret hh).before args s = true) (hy : y.cls ≠ "java/lang/invoke/MethodHandle" ∧ y.cls ≠ "java/lang/invoke/VarHandle")
    {W9 : Nat} {Pre : Pt → Array Value → Prop} {Post : Pt → Array Value → Option Value → Pt → Prop} (hK : Back l R p e below s args y 3 W9 Pre Post)
    {g : JFrame} (hg : g.method = m) (hsize : g.locals.size = c.maxLocals) {argsL rest : List Value} (hlen : ∀ sig, parseMethodDescriptor y.desc = some sig → argsL.length = sig.parameters.length)
    (hstack : g.stack = argsL.reverse ++ rest) (hW : 2 * g.monitorRoom + (rest.map fun v => v.category).sum ≤ W9) (hdg : decode c.code g.pc = .ok (.invokestatic index, 3))
    (hpre : ∀ vm₁, s.WarmedH vm₁ → Pre ⟨T.setVm vm₁, locs, cells, slots⟩ argsL.toArray) :
    ∃ (v : Option Value) (vm₁ : Vm) (B : Pt), s.WarmedH vm₁ ∧ Stand p l e R s m args below meth c B.U B.locs B.cells B.slots ∧ Post ⟨T.setVm vm₁, locs, cells, slots⟩ argsL.toArray v B ∧
      ∀ target, Steps p.tables e below (B.U.setTop { g with pc := g.pc + 3, stack := v.toList ++ rest }) target → Steps p.tables e below (T.setTop g) target := by
  obtain ⟨mk, methM, cM, hnamed, hmethM, -, -, -, -, -, -, hsigM⟩ := Cond.codeWith_spec hcode
  have hstatic : methM.isStatic = true := Cond.static_spec hnamed hmethM hstat
  obtain ⟨kP, hkP, -⟩ := className_of_methodNamed hnamed
  have hinitP : kP.init = .initialized := Cond.initialized_spec (findClass_of_methodNamed hnamed) hkP hinit
  obtain ⟨vm₁, X₁, hstep₁⟩ := X.invokestatic hexec hown hlink hnamed hmethM hstatic hkP hinitP hy (g := g) hg (argsL := argsL) (rest := rest) (hlen _ hsigM) hstack hdg
  obtain ⟨v, B, X', hpost, hsteps⟩ := hK m meth c ⟨T.setVm vm₁, locs, cells, slots⟩ { g with stack := rest } (.invokestatic index) mk argsL.toArray X₁ hg hsize hdg hW (X₁.named hnamed) (hpre vm₁ X₁.warmed)
  exact ⟨v, vm₁, B, X₁.warmed, X', hpost, fun target h => hstep₁ _ fun acts => by rw [doInvoke_state]; exact hsteps.trans h⟩
theorem vx_runSW {y : MethodName} {bytes cc : ByteArray} {maxL nL mc ms n index : Nat} {ret : Option FieldType} {hh : List (Nat × Nat × Nat × Nat)} {ws : List Cond} {rm : Room} {Pc : Array Value → State → Prop} {Qc : Array Value → State → Outcome → State → Prop} {free : Addr → Prop} {Ts : List Cond} {own : String} {As rest : List Value} {g : JFrame}
    (S : CallFix p m c cc nL s args Ts own) (hM : Met l y ws rm Pc Qc mc ms free) (cw : vx_CSW R s args own index y bytes maxL ret hh ws rm mc ms n) (hp : PreS s H Pc As)
    (hg : g.method = m) (hn : As.length = n) (hsize : g.locals.size = nL) (hstack : g.stack = As.reverse ++ rest) (hW : 2 * g.monitorRoom + (rest.map fun v => v.category).sum ≤ 8) (hdg : decode cc g.pc = .ok (.invokestatic index, 3)) (hf : cells + mc ≤ R.cells ∧ slots + ms ≤ R.slots) :
    va_Run p l e R s m args below meth c H locs cells slots mc ms g rest (Qc As.toArray) (free) := by
  obtain ⟨⟨hrc, hrs, hfr, hlo, hws, hcw⟩, hcode, hini, hy, hlen, hl, hstt⟩ := cw
  have hK : Back l R p e below s args y 3 8 (PreOf R mc ms Pc) (PostOf Qc mc ms free) := va_backW (hh := hh) (bytes := bytes) (maxL := maxL) (ret := ret) hM hp.1 hrc hrs hfr hlo hws hcw (fun a' U hW => word_at hW (Or.inl (by first | rfl | simp [Cond.onTables, Cond.keeps, Cond.steady])) hini)
  obtain ⟨hx, hb, hml, ho, -⟩ := S
  intro T hT X
  obtain ⟨v, vm₁, ⟨U', l2, c2, s2⟩, hW₁, X', ⟨g', mk, t, L, e1, e2, hq, h1, hL, h2, h3⟩, st⟩ := vx_callSW X hx (hh := hh) (bytes := bytes) (maxL := maxL) (ret := ret) ho hl hstt hini hcode hy hK hg (hsize.trans hml.symm) (argsL := As) (rest := rest) (fun sig h => hn.trans (hlen sig h)) hstack hW (by rw [hb]; exact hdg)
    (fun vm₁ hW₁ => ⟨hf.1, hf.2, hp.2 (T.setVm vm₁) hT hW₁⟩)
  dsimp only [Pt.U, Pt.locs, Pt.cells, Pt.slots] at X' e1 e2 h1 h2 h3 st
  subst h1; subst h2; subst h3
  exact ⟨v, (T.setVm vm₁).calling g' mk As.toArray, t, U', L, hT, X', hL, e1, e2, hq, st⟩
theorem vx_outP {p : Program} {l : Launch} {e : Env} {R : Room} {s : State} {m : MethodId} {args : Array Value} {below : List Frame} {meth : Method} {c : Code} {H : Heap} {locs : List Loc} {cells slots : Nat} {free : Addr → Prop} {ls : Array Slot} {rest : List Value} {Qc : Array Value → State → Outcome → State → Prop} {XC : String → State → State → Prop}
    {pc : Nat} {own E : String} {ce : Cell} {q : Addr} {mc ms : Nat} (hown : s.vm.findClass own = some m.cls) (hlocks : meth.locks = false)
    (hpass : ∀ z ∈ c.exceptionTable.toList, covers z pc = false ∨ (z.catchType ≠ 0 ∧ ∃ nm : String, (Cond.classLink own z.catchType nm).before args s = true ∧ va_Nc E nm s)) (hcell : H[q]? = some ce) (hv : ce.vm = .none) (hcl : s.vm.findClass E = some ce.cls)
    (hx : ∀ t : State, t.heap = H → s.vm.Alike t.vm → XC E s t) (hf : ∀ z ∈ locs, free z.base) (hc : cells ≤ mc) (hs : slots ≤ ms) :
    vx_W p l e R s m args below meth c H locs cells slots (vx_MQ below Qc XC args s mc ms free) (F0 m pc ls rest) q := by
  intro T hT X
  have hpl : e.platform.magicAccessors = ({} : Platform).magicAccessors := by rw [X.admits.platform]
  obtain ⟨vm', hW', X', st⟩ := X.outThrough hlocks q (g := F0 m pc ls rest) rfl rfl rfl (cell := ce) (by rw [hT]; exact hcell) (by rw [hv]; rfl)
    (by obtain ⟨k9, h9, -⟩ := Vm.findClass_spec hcl; exact ⟨k9, h9⟩) (fun z hz => by
      rcases hpass z hz with h | ⟨hz0, nm, hl1, hn1⟩
      · exact Or.inl h
      · obtain ⟨c6, hc6, hcl6⟩ := Cond.classLink_spec hown hl1 e.platform hpl
        obtain ⟨a8, b8, h1, h2, h3⟩ := hn1
        cases Option.some.inj (h1.symm.trans hcl)
        cases Option.some.inj (h2.symm.trans hc6)
        exact Or.inr ⟨hz0, _, hcl6, h3⟩)
  obtain ⟨g₀, hfr⟩ := X'.frames_eq
  have hcell9 : ((T.setVm vm').setFrames (.throwing q :: below)).heap[q]? = some ce := by
    show T.heap[q]? = some ce
    rw [hT]; exact hcell
  have hend : Ended ((T.setVm vm').setFrames (.throwing q :: below)) below (.threw q) := State.frames_setFrames _ (State.cur_lt_of_frames hfr)
  refine ⟨(T.setVm vm').setFrames (.throwing q :: below), ?_, .threw q, X'.here.running, hend, Or.inr ⟨q, rfl, E, ce, locs, hx _ hT (X'.ends _).1.alike, hcell9, hv, hcl, (X'.ends _).1, (X'.ends _).2.mono hc hs, hf⟩⟩
  rw [X.pushThrowing_eq]
  exact st
theorem vx_lt {D : va_G} {cl : List vw_C} {ws : va_W} {H1 : Heap} (h : va_P D cl ws H1) {k : Nat} {q : Nat × va_E} (hk : ws[k]? = some q) : q.1 < H1.size := (h k q hk).lt
end VXS
section VXH
section
variable {l : Launch} {R : Room} {p : Program} {e : Env} {below : List Frame} {s : State} {sargs : Array Value} {y : MethodName} {len W9 : Nat}
theorem vx_backW {ws : List Cond} {rm : Room} {Pc : Array Value → State → Prop} {Qc : Array Value → State → Outcome → State → Prop} {XC : String → State → State → Prop} {mc ms : Nat} {free : Addr → Prop} {bytes : ByteArray} {maxL : Nat} {ret : Option FieldType} {hh : List (Nat × Nat × Nat × Nat)}
    (hM : vx_Met l y ws rm Pc Qc XC mc ms free) (hblind : FrameBlind Pc) (hrc : rm.cells = mc) (hrs : rm.slots = ms)
    (hframes : rm.frames + 1 ≤ R.frames) (hlocals : W9 + (maxL + 11) + rm.locals ≤ R.locals)
    (hws : ∀ w ∈ ws, ∀ a' U, s.WarmedH U.vm → w.before a' U = true) (hcode : Cond.codeWith y bytes maxL ret hh ∈ ws) (hinit : ∀ a' U, s.WarmedH U.vm → (Cond.initialized y.cls).before a' U = true) :
    vx_Back l R p e below s sargs y len W9 (PreOf R mc ms Pc) (PostOf Qc mc ms free) (vx_Post XC mc ms free) := by
  intro m meth c A g ig mk a X hg hsize hdg hW hn hp
  have h1 : (headSpec ws rm).pre.before a A.U = true := atoms_intro fun w hw => hws w hw _ _ X.warmed
  have h2 : (Cond.codeWith y bytes maxL ret hh).before a A.U = true := hws _ hcode _ _ X.warmed
  have h3 : (Cond.initialized y.cls).before a A.U = true := hinit _ _ X.warmed
  have h4 : A.cells + (headSpec ws rm).room.cells ≤ R.cells := by rw [show (headSpec ws rm).room.cells = mc from hrc]; exact hp.1
  have h5 : A.slots + (headSpec ws rm).room.slots ≤ R.slots := by rw [show (headSpec ws rm).room.slots = ms from hrs]; exact hp.2.1
  have hPc : Pc a (A.U.calling g mk a) := hblind _ _ _ _ hp.2.2
  obtain ⟨U, Ls, c0, s0⟩ := A
  dsimp only [Pt.U, Pt.locs, Pt.cells, Pt.slots] at h1 h2 h3 h4 h5 X hn hPc ⊢
  obtain ⟨m9, methY, cY, hn9, hmY, hcY, -, hlY, -⟩ := Cond.codeWith_spec h2
  cases Option.some.inj (hn9.symm.trans hn)
  obtain ⟨kY, hkY, -⟩ := className_of_methodNamed hn
  have hinitY : kY.init = .initialized := Cond.initialized_spec (findClass_of_methodNamed hn) hkY h3
  have h : At U g.method c below := by rw [hg]; exact X.here
  have hlocals9 : W9 + (maxL + 11) + (headSpec ws rm).room.locals ≤ R.locals := hlocals
  have happ : (headSpec ws rm).appliesLoose y e.platform (U.calling g mk a) = true :=
    Spec.appliesLoose_calling (g := g) h hdg hn hkY hinitY
      (X.room_calling (g := g) (R' := (headSpec ws rm).room) hsize hmY hcY hframes (by rw [hlY]; omega) h4 h5) h1
  obtain ⟨mid, hmid⟩ := h.above
  have hfr : (U.setTop g).frames = (.java g :: mid) ++ below := by rw [State.frames_setTop' g h.top, hmid]; rfl
  obtain ⟨o, s₂, hsteps, -, hend, hq⟩ := Steps.callFree hM p X.admits X.cas X.clock (acts := []) hfr happ hPc trivial
  have hq' : vx_Q Qc XC mc ms free a (U.calling g mk a) o s₂ := hq
  rw [State.frames_setTop' g h.top] at hend
  obtain ⟨g₀, hg0⟩ := Option.isSome_iff_exists.mp h.top
  obtain ⟨r, hr⟩ := State.topJava?_eq_some.mp hg0
  have hr' : (({ U with heap := s₂.heap, slotsUsed := s₂.slotsUsed } : State).setVm s₂.vm).frames = .java g₀ :: r := hr
  rcases hq' with ⟨hqc, L, hfe, hL⟩ | ⟨q, rfl, E, ce, L, hx, hce, hcv, hcl, hW₂, hsm, hL⟩
  · obtain ⟨⟨v, rfl⟩, hW₂, e2, q2, q3, q4, q5, q6⟩ := id hfe
    have e3 : s₂ = ({ (U.calling g mk a).setFrames s₂.frames with heap := s₂.heap, slotsUsed := s₂.slotsUsed } : State).setVm s₂.vm := by
      have : s₂ = ({ s₂ with vm := (U.calling g mk a).vm } : State).setVm s₂.vm := rfl
      rw [e2] at this
      exact this
    obtain ⟨c₂, i₂, len₂, hc₂, hd₂, hf₂⟩ := hend
    have hW' : U.WarmedH s₂.vm := hW₂
    have hcc : c₂ = c := by
      have h1 : s₂.code? g.method = U.code? g.method := by
        rw [State.code?_eq, State.code?_eq, hW'.alike.method?]
      exact Option.some.inj (hc₂.symm.trans (h1.trans h.code))
    subst hcc
    have hlen : len₂ = len := by rw [hdg] at hd₂; cases hd₂; rfl
    subst hlen
    have hs₂ : s₂ = (({ U with heap := s₂.heap, slotsUsed := s₂.slotsUsed } : State).setVm s₂.vm).setTop { g with pc := g.pc + len₂, stack := v.toList ++ g.stack } := by
      refine e3.trans ?_
      rw [hf₂, State.calling_eq h.top, State.setFrames_setFrames, State.setTop_of_frames _ hr', hr]
      rfl
    have hsame : U.sameButNew ({ U with heap := s₂.heap, slotsUsed := s₂.slotsUsed } : State) L mc ms := by
      refine ⟨?_, q2, q3, q4, q5, q6⟩
      obtain ⟨t, ht, -⟩ := State.frames_cons hr
      show ({ U with heap := s₂.heap, slotsUsed := s₂.slotsUsed } : State) = { U.setFrames U.frames with heap := s₂.heap, slotsUsed := s₂.slotsUsed }
      rw [State.setFrames_self ht]
    subst hg
    refine Or.inl ⟨v, ⟨(({ U with heap := s₂.heap, slotsUsed := s₂.slotsUsed } : State).setVm s₂.vm), Ls ++ L, c0 + mc, s0 + ms⟩,
      ⟨X.admits, X.cas, X.clock, X.frames, X.room, X.hears, X.method, X.code, (X.here.setHeapUsed s₂.heap s₂.slotsUsed).setVm hW'.alike, X.tail, State.WarmedH.trans X.warmed hW', X.limits, X.bytes, X.same.trans (hsame.setVm s.vm)⟩,
      ⟨g, mk, s₂, L, rfl, rfl, hqc, rfl, hL, rfl, rfl⟩, ?_⟩
    show Steps p.tables e below _ ((({ U with heap := s₂.heap, slotsUsed := s₂.slotsUsed } : State).setVm s₂.vm).setTop { g with pc := g.pc + len₂, stack := v.toList ++ g.stack })
    rw [← hs₂]
    exact hsteps
  · obtain ⟨e2, q2, q3, q4, q5, q6⟩ := id hsm
    have e3 : s₂ = ({ (U.calling g mk a).setFrames s₂.frames with heap := s₂.heap, slotsUsed := s₂.slotsUsed } : State).setVm s₂.vm := by
      have : s₂ = ({ s₂ with vm := (U.calling g mk a).vm } : State).setVm s₂.vm := rfl
      rw [e2] at this
      exact this
    have hf₂ : s₂.frames = .throwing q :: .java g :: U.frames.tail := hend
    have hW' : U.WarmedH s₂.vm := hW₂
    have hs₂ : s₂ = ((({ U with heap := s₂.heap, slotsUsed := s₂.slotsUsed } : State).setVm s₂.vm).setTop g).pushFrame (.throwing q) := by
      refine e3.trans ?_
      rw [hf₂, State.calling_eq h.top, State.setFrames_setFrames, State.pushFrame, State.frames_setTop _ hr', State.setTop_of_frames _ hr', State.setFrames_setFrames, hr]
      rfl
    have hsame : U.sameButNew ({ U with heap := s₂.heap, slotsUsed := s₂.slotsUsed } : State) L mc ms := by
      refine ⟨?_, q2, q3, q4, q5, q6⟩
      obtain ⟨t, ht, -⟩ := State.frames_cons hr
      show ({ U with heap := s₂.heap, slotsUsed := s₂.slotsUsed } : State) = { U.setFrames U.frames with heap := s₂.heap, slotsUsed := s₂.slotsUsed }
      rw [State.setFrames_self ht]
    subst hg
    refine Or.inr ⟨q, ⟨(({ U with heap := s₂.heap, slotsUsed := s₂.slotsUsed } : State).setVm s₂.vm), Ls ++ L, c0 + mc, s0 + ms⟩,
      ⟨X.admits, X.cas, X.clock, X.frames, X.room, X.hears, X.method, X.code, (X.here.setHeapUsed s₂.heap s₂.slotsUsed).setVm hW'.alike, X.tail, State.WarmedH.trans X.warmed hW', X.limits, X.bytes, X.same.trans (hsame.setVm s.vm)⟩,
      ⟨g, mk, s₂, L, E, ce, rfl, rfl, hx, hce, hcv, hcl, rfl, hL, rfl, rfl⟩, ?_⟩
    show Steps p.tables e below _ (((({ U with heap := s₂.heap, slotsUsed := s₂.slotsUsed } : State).setVm s₂.vm).setTop g).pushFrame (.throwing q))
    rw [← hs₂]
    exact hsteps
end
variable {p : Program} {l : Launch} {e : Env} {R : Room} {s : State} {m : MethodId} {args : Array Value} {below : List Frame} {meth : Method} {c : Code} {T : State} {H : Heap} {locs : List Loc} {cells slots : Nat}
theorem vx_callVX (X : Stand p l e R s m args below meth c T locs cells slots) (hexec : p.tables.exec = Jvm.exec) {own C : String} {index : Nat} {y : MethodName} {bytes : ByteArray} {maxL : Nat} {ret : Option FieldType} {hh : List (Nat × Nat × Nat × Nat)}
    (hown : s.vm.findClass own = some m.cls) (hlink : (Cond.methodLink own index y).before args s = true) (hinst : (Cond.instanceMethod y).before args s = true) (hsel : (Cond.selects C y y).before args s = true)
    (hcode : (Cond.codeWith y bytes maxL ret hh).before args s = true) (hy : y.cls ≠ "java/lang/invoke/MethodHandle" ∧ y.cls ≠ "java/lang/invoke/VarHandle")
    {W9 : Nat} {Pre : Pt → Array Value → Prop} {Post : Pt → Array Value → Option Value → Pt → Prop} {PostX : Pt → Array Value → Addr → Pt → Prop} (hK : vx_Back l R p e below s args y 3 W9 Pre Post PostX)
    {b : Addr} {cellB : Cell} (hcell : T.heap[b]? = some cellB) (hobj : cellB.vm.isStatics = false) (hcls : s.vm.findClass C = some cellB.cls)
    {g : JFrame} (hg : g.method = m) (hsize : g.locals.size = c.maxLocals) {argsL rest : List Value} (hlen : ∀ sig, parseMethodDescriptor y.desc = some sig → argsL.length = sig.parameters.length)
    (hstack : g.stack = argsL.reverse ++ .ref b :: rest) (hW : 2 * g.monitorRoom + (rest.map fun v => v.category).sum ≤ W9) (hdg : decode c.code g.pc = .ok (.invokevirtual index, 3))
    (hpre : ∀ vm₁, s.WarmedH vm₁ → Pre ⟨T.setVm vm₁, locs, cells, slots⟩ (Value.ref b :: argsL).toArray) :
    (∃ (v : Option Value) (vm₁ : Vm) (B : Pt), s.WarmedH vm₁ ∧ Stand p l e R s m args below meth c B.U B.locs B.cells B.slots ∧ Post ⟨T.setVm vm₁, locs, cells, slots⟩ (Value.ref b :: argsL).toArray v B ∧
      ∀ target, Steps p.tables e below (B.U.setTop { g with pc := g.pc + 3, stack := v.toList ++ rest }) target → Steps p.tables e below (T.setTop g) target) ∨
    (∃ (q : Addr) (vm₁ : Vm) (B : Pt), s.WarmedH vm₁ ∧ Stand p l e R s m args below meth c B.U B.locs B.cells B.slots ∧ PostX ⟨T.setVm vm₁, locs, cells, slots⟩ (Value.ref b :: argsL).toArray q B ∧
      Steps p.tables e below (T.setTop g) ((B.U.setTop { g with stack := rest }).pushFrame (.throwing q))) := by
  obtain ⟨mk, methM, hnamed, hmethM, hstM, habM⟩ := Cond.instanceMethod_spec hinst
  obtain ⟨m8, methM', cM, hn8, hmethM', -, -, -, -, -, -, hsigM⟩ := Cond.codeWith_spec hcode
  cases Option.some.inj (hn8.symm.trans hnamed)
  cases hmethM.symm.trans hmethM'
  obtain ⟨c2, r2, m2, q1, q2, q3, q4, kP, hkP, hkPi⟩ := Cond.selects_spec hsel
  cases hcls.symm.trans q1
  cases (State.methodFound?_of_named hnamed hy).symm.trans q2
  cases hnamed.symm.trans q3
  have hselP : selectMethod e.platform s.vm cellB.cls mk = .method mk := by rw [Launch.admits_selectMethod X.admits]; exact q4
  obtain ⟨vm₁, X₁, hstep₁⟩ := X.invokevirtual hexec hown hlink hnamed hmethM hstM hkP hkPi hy (a := b) (cell := cellB) hcell
    (fun z h => by rw [h] at hobj; cases hobj) hselP hmethM habM hkP hkPi (g := g) hg (argsL := argsL) (rest := rest) (hlen _ hsigM) hstack hdg
  rcases hK m meth c ⟨T.setVm vm₁, locs, cells, slots⟩ { g with stack := rest } (.invokevirtual index) mk (Value.ref b :: argsL).toArray X₁ hg hsize hdg hW (X₁.named hnamed) (hpre vm₁ X₁.warmed) with ⟨v, B, X', hpost, hsteps⟩ | ⟨q, B, X', hpost, hsteps⟩
  · exact Or.inl ⟨v, vm₁, B, X₁.warmed, X', hpost, fun target h => hstep₁ _ fun acts => by rw [doInvoke_state]; exact hsteps.trans h⟩
  · exact Or.inr ⟨q, vm₁, B, X₁.warmed, X', hpost, hstep₁ _ fun acts => by rw [doInvoke_state]; exact hsteps⟩
theorem vx_callSX (X : Stand p l e R s m args below meth c T locs cells slots) (hexec : p.tables.exec = Jvm.exec) {own : String} {index : Nat} {y : MethodName} {bytes : ByteArray} {maxL : Nat} {ret : Option FieldType} {hh : List (Nat × Nat × Nat × Nat)}
    (hown : s.vm.findClass own = some m.cls) (hlink : (Cond.methodLink own index y).before args s = true) (hstat : (Cond.static y).before args s = true) (hinit : (Cond.initialized y.cls).before args s = true)
    (hcode : (Cond.codeWith y bytes maxL ret hh).before args s = true) (hy : y.cls ≠ "java/lang/invoke/MethodHandle" ∧ y.cls ≠ "java/lang/invoke/VarHandle")
    {W9 : Nat} {Pre : Pt → Array Value → Prop} {Post : Pt → Array Value → Option Value → Pt → Prop} {PostX : Pt → Array Value → Addr → Pt → Prop} (hK : vx_Back l R p e below s args y 3 W9 Pre Post PostX)
    {g : JFrame} (hg : g.method = m) (hsize : g.locals.size = c.maxLocals) {argsL rest : List Value} (hlen : ∀ sig, parseMethodDescriptor y.desc = some sig → argsL.length = sig.parameters.length)
    (hstack : g.stack = argsL.reverse ++ rest) (hW : 2 * g.monitorRoom + (rest.map fun v => v.category).sum ≤ W9) (hdg : decode c.code g.pc = .ok (.invokestatic index, 3))
    (hpre : ∀ vm₁, s.WarmedH vm₁ → Pre ⟨T.setVm vm₁, locs, cells, slots⟩ argsL.toArray) :
    (∃ (v : Option Value) (vm₁ : Vm) (B : Pt), s.WarmedH vm₁ ∧ Stand p l e R s m args below meth c B.U B.locs B.cells B.slots ∧ Post ⟨T.setVm vm₁, locs, cells, slots⟩ argsL.toArray v B ∧
      ∀ target, Steps p.tables e below (B.U.setTop { g with pc := g.pc + 3, stack := v.toList ++ rest }) target → Steps p.tables e below (T.setTop g) target) ∨
    (∃ (q : Addr) (vm₁ : Vm) (B : Pt), s.WarmedH vm₁ ∧ Stand p l e R s m args below meth c B.U B.locs B.cells B.slots ∧ PostX ⟨T.setVm vm₁, locs, cells, slots⟩ argsL.toArray q B ∧
      Steps p.tables e below (T.setTop g) ((B.U.setTop { g with stack := rest }).pushFrame (.throwing q))) := by
  obtain ⟨mk, methM, cM, hnamed, hmethM, -, -, -, -, -, -, hsigM⟩ := Cond.codeWith_spec hcode
  have hstatic : methM.isStatic = true := Cond.static_spec hnamed hmethM hstat
  obtain ⟨kP, hkP, -⟩ := className_of_methodNamed hnamed
  have hinitP : kP.init = .initialized := Cond.initialized_spec (findClass_of_methodNamed hnamed) hkP hinit
  obtain ⟨vm₁, X₁, hstep₁⟩ := X.invokestatic hexec hown hlink hnamed hmethM hstatic hkP hinitP hy (g := g) hg (argsL := argsL) (rest := rest) (hlen _ hsigM) hstack hdg
  rcases hK m meth c ⟨T.setVm vm₁, locs, cells, slots⟩ { g with stack := rest } (.invokestatic index) mk argsL.toArray X₁ hg hsize hdg hW (X₁.named hnamed) (hpre vm₁ X₁.warmed) with ⟨v, B, X', hpost, hsteps⟩ | ⟨q, B, X', hpost, hsteps⟩
  · exact Or.inl ⟨v, vm₁, B, X₁.warmed, X', hpost, fun target h => hstep₁ _ fun acts => by rw [doInvoke_state]; exact hsteps.trans h⟩
  · exact Or.inr ⟨q, vm₁, B, X₁.warmed, X', hpost, hstep₁ _ fun acts => by rw [doInvoke_state]; exact hsteps⟩
theorem vx_callVW (X : Stand p l e R s m args below meth c T locs cells slots) (hexec : p.tables.exec = Jvm.exec) {own C : String} {index : Nat} {y : MethodName} {bytes : ByteArray} {maxL : Nat} {ret : Option FieldType} {hh : List (Nat × Nat × Nat × Nat)}
    (hown : s.vm.findClass own = some m.cls) (hlink : (Cond.methodLink own index y).before args s = true) (hinst : (Cond.instanceMethod y).before args s = true) (hsel : (Cond.selects C y y).before args s = true)
    (hcode : (Cond.codeWith y bytes maxL ret hh).before args s = true) (hy : y.cls ≠ "java/lang/invoke/MethodHandle" ∧ y.cls ≠ "java/lang/invoke/VarHandle")
    {W9 : Nat} {Pre : Pt → Array Value → Prop} {Post : Pt → Array Value → Option Value → Pt → Prop} (hK : Back l R p e below s args y 3 W9 Pre Post)
    {b : Addr} {cellB : Cell} (hcell : T.heap[b]? = some cellB) (hobj : cellB.vm.isStatics = false) (hcls : s.vm.findClass C = some cellB.cls)
    {g : JFrame} (hg : g.method = m) (hsize : g.locals.size = c.maxLocals) {argsL rest : List Value} (hlen : ∀ sig, parseMethodDescriptor y.desc = some sig → argsL.length = sig.parameters.length)
    (hstack : g.stack = argsL.reverse ++ .ref b :: rest) (hW : 2 * g.monitorRoom + (rest.map fun v => v.category).sum ≤ W9) (hdg : decode c.code g.pc = .ok (.invokevirtual index, 3))
    (hpre : ∀ vm₁, s.WarmedH vm₁ → Pre ⟨T.setVm vm₁, locs, cells, slots⟩ (Value.ref b :: argsL).toArray) :
    ∃ (v : Option Value) (vm₁ : Vm) (B : Pt), s.WarmedH vm₁ ∧ Stand p l e R s m args below meth c B.U B.locs B.cells B.slots ∧ Post ⟨T.setVm vm₁, locs, cells, slots⟩ (Value.ref b :: argsL).toArray v B ∧
      ∀ target, Steps p.tables e below (B.U.setTop { g with pc := g.pc + 3, stack := v.toList ++ rest }) target → Steps p.tables e below (T.setTop g) target := by
  obtain ⟨mk, methM, hnamed, hmethM, hstM, habM⟩ := Cond.instanceMethod_spec hinst
  obtain ⟨m8, methM', cM, hn8, hmethM', -, -, -, -, -, -, hsigM⟩ := Cond.codeWith_spec hcode
  cases Option.some.inj (hn8.symm.trans hnamed)
  cases hmethM.symm.trans hmethM'
  obtain ⟨c2, r2, m2, q1, q2, q3, q4, kP, hkP, hkPi⟩ := Cond.selects_spec hsel
  cases hcls.symm.trans q1
  cases (State.methodFound?_of_named hnamed hy).symm.trans q2
  cases hnamed.symm.trans q3
  have hselP : selectMethod e.platform s.vm cellB.cls mk = .method mk := by rw [Launch.admits_selectMethod X.admits]; exact q4
  obtain ⟨vm₁, X₁, hstep₁⟩ := X.invokevirtual hexec hown hlink hnamed hmethM hstM hkP hkPi hy (a := b) (cell := cellB) hcell
    (fun z h => by rw [h] at hobj; cases hobj) hselP hmethM habM hkP hkPi (g := g) hg (argsL := argsL) (rest := rest) (hlen _ hsigM) hstack hdg
  obtain ⟨v, B, X', hpost, hsteps⟩ := hK m meth c ⟨T.setVm vm₁, locs, cells, slots⟩ { g with stack := rest } (.invokevirtual index) mk (Value.ref b :: argsL).toArray X₁ hg hsize hdg hW (X₁.named hnamed) (hpre vm₁ X₁.warmed)
  exact ⟨v, vm₁, B, X₁.warmed, X', hpost, fun target h => hstep₁ _ fun acts => by rw [doInvoke_state]; exact hsteps.trans h⟩
abbrev vx_CVW (R : Room) (s : State) (args : Array Value) (own C : String) (index : Nat) (y : MethodName) (bytes : ByteArray) (maxL : Nat) (ret : Option FieldType) (hh : List (Nat × Nat × Nat × Nat)) (ws : List Cond) (rm : Room) (mc ms n : Nat) : Prop :=
  (rm.cells = mc ∧ rm.slots = ms ∧ rm.frames + 1 ≤ R.frames ∧ 8 + (maxL + 11) + rm.locals ≤ R.locals ∧ (∀ w ∈ ws, ∀ (a' : Array Value) (U : State), s.WarmedH U.vm → w.before a' U = true) ∧ Cond.codeWith y bytes maxL ret hh ∈ ws) ∧
  (Cond.codeWith y bytes maxL ret hh).before args s = true ∧ (Cond.initialized y.cls).before args s = true ∧ (y.cls ≠ "java/lang/invoke/MethodHandle" ∧ y.cls ≠ "java/lang/invoke/VarHandle") ∧
  (∀ sig, parseMethodDescriptor y.desc = some sig → n = sig.parameters.length) ∧ (Cond.methodLink own index y).before args s = true ∧ (Cond.instanceMethod y).before args s = true ∧ (Cond.selects C y y).before args s = true
theorem vx_cwVW {own C : String} {index maxL mc ms : Nat} {y : MethodName} {bytes : ByteArray} {ret : Option FieldType} {hh : List (Nat × Nat × Nat × Nat)} {Ts ws ws' : List Cond} {rm : Room} (n : Nat) (ht : ∀ w ∈ Ts, w.before args s = true) (hT : GoodIn Ts (wsV own index C y ws)) (hw : ws = Cond.codeWith y bytes maxL ret hh :: ws') (hrc : rm.cells = mc) (hrs : rm.slots = ms)
    (hd : y.cls = C ∧ y.cls ≠ "java/lang/invoke/MethodHandle" ∧ y.cls ≠ "java/lang/invoke/VarHandle" ∧ (parseMethodDescriptor y.desc).map (fun d => d.parameters.length) = some n) (hR : rm.frames + 1 ≤ R.frames ∧ 8 + (maxL + 11) + rm.locals ≤ R.locals) :
    vx_CVW R s args own C index y bytes maxL ret hh ws rm mc ms n := by
  obtain ⟨hC, hd⟩ := hd
  subst hC
  have ok : ∀ w ∈ wsV own index y.cls y ws, w.before args s = true := fun w h => ht w (hT w h).1
  have hG : GoodIn Ts ws := fun w h => hT w (by unfold wsV; exact List.mem_append_right _ h)
  have hc : Cond.codeWith y bytes maxL ret hh ∈ ws := by rw [hw]; exact List.mem_cons_self
  refine ⟨⟨hrc, hrs, hR.1, hR.2, pay_in ht hG, hc⟩, ht _ (hG _ hc).1, ok _ (by simp [wsV]), ⟨hd.1, hd.2.1⟩, fun sig h => ?_, ok _ (by simp [wsV]), ok _ (by simp [wsV]), ok _ (by simp [wsV])⟩
  have h2 := hd.2.2
  rw [h] at h2
  exact (Option.some.inj h2).symm
theorem vx_runVW {y : MethodName} {bytes cc : ByteArray} {maxL nL mc ms n index : Nat} {ret : Option FieldType} {hh : List (Nat × Nat × Nat × Nat)} {ws : List Cond} {rm : Room} {Pc : Array Value → State → Prop} {Qc : Array Value → State → Outcome → State → Prop} {free : Addr → Prop} {Ts : List Cond} {own C : String} {b : Addr} {As rest : List Value} {g : JFrame}
    (S : CallFix p m c cc nL s args Ts own) (hM : Met l y ws rm Pc Qc mc ms free) (cw : vx_CVW R s args own C index y bytes maxL ret hh ws rm mc ms n) (hp : PreV s H C b Pc As)
    (hg : g.method = m) (hn : As.length = n) (hsize : g.locals.size = nL) (hstack : g.stack = As.reverse ++ .ref b :: rest) (hW : 2 * g.monitorRoom + (rest.map fun v => v.category).sum ≤ 8) (hdg : decode cc g.pc = .ok (.invokevirtual index, 3)) (hf : cells + mc ≤ R.cells ∧ slots + ms ≤ R.slots) :
    va_Run p l e R s m args below meth c H locs cells slots mc ms g rest (Qc (Value.ref b :: As).toArray) free := by
  obtain ⟨⟨hrc, hrs, hfr, hlo, hws, hcw⟩, hcode, hini, hy, hlen, hl, hin, hse⟩ := cw
  have hK : Back l R p e below s args y 3 8 (PreOf R mc ms Pc) (PostOf Qc mc ms free) := va_backW (hh := hh) (bytes := bytes) (maxL := maxL) (ret := ret) hM hp.1 hrc hrs hfr hlo hws hcw (fun a' U hW => word_at hW (Or.inl (by first | rfl | simp [Cond.onTables, Cond.keeps, Cond.steady])) hini)
  obtain ⟨hx, hb, hml, ho, -⟩ := S
  obtain ⟨-, ⟨cellB, hcB, hoB, hclB⟩, hPc⟩ := hp
  intro T hT X
  obtain ⟨v, vm₁, ⟨U', l2, c2, s2⟩, hW₁, X', ⟨g', mk, t, L, e1, e2, hq, h1, hL, h2, h3⟩, st⟩ := vx_callVW X hx (C := C) (hh := hh) (bytes := bytes) (maxL := maxL) (ret := ret) ho hl hin hse hcode hy hK (by rw [hT]; exact hcB) hoB hclB hg (hsize.trans hml.symm) (argsL := As) (rest := rest) (fun sig h => hn.trans (hlen sig h)) hstack hW (by rw [hb]; exact hdg)
    (fun vm₁ hW₁ => ⟨hf.1, hf.2, hPc (T.setVm vm₁) hT hW₁⟩)
  dsimp only [Pt.U, Pt.locs, Pt.cells, Pt.slots] at X' e1 e2 h1 h2 h3 st
  subst h1; subst h2; subst h3
  exact ⟨v, (T.setVm vm₁).calling g' mk (Value.ref b :: As).toArray, t, U', L, hT, X', hL, e1, e2, hq, st⟩
section
variable {y : MethodName} {bytes cc : ByteArray} {maxL nL mc ms n index : Nat} {ret : Option FieldType} {ws : List Cond} {rm : Room} {Pc : Array Value → State → Prop} {Qc : Array Value → State → Outcome → State → Prop} {XC : String → State → State → Prop} {free : Addr → Prop} {Ts : List Cond} {own C : String} {b : Addr} {As rest : List Value} {g : JFrame}
theorem vx_runVX {hh : List (Nat × Nat × Nat × Nat)} (S : CallFix p m c cc nL s args Ts own) (hM : vx_Met l y ws rm Pc Qc XC mc ms free) (cw : vx_CVW R s args own C index y bytes maxL ret hh ws rm mc ms n) (hp : PreV s H C b Pc As)
    (hg : g.method = m) (hn : As.length = n) (hsize : g.locals.size = nL) (hstack : g.stack = As.reverse ++ .ref b :: rest) (hW : 2 * g.monitorRoom + (rest.map fun v => v.category).sum ≤ 8) (hdg : decode cc g.pc = .ok (.invokevirtual index, 3)) (hf : cells + mc ≤ R.cells ∧ slots + ms ≤ R.slots) :
    vx_Run p l e R s m args below meth c H locs cells slots mc ms g rest (Qc (Value.ref b :: As).toArray) XC free := by
  obtain ⟨⟨hrc, hrs, hfr, hlo, hws, hcw⟩, hcode, hini, hy, hlen, hl, hin, hse⟩ := cw
  have hK : vx_Back l R p e below s args y 3 8 (PreOf R mc ms Pc) (PostOf Qc mc ms free) (vx_Post XC mc ms free) := vx_backW (hh := hh) (bytes := bytes) (maxL := maxL) (ret := ret) hM hp.1 hrc hrs hfr hlo hws hcw (fun a' U hW => word_at hW (Or.inl (by first | rfl | simp [Cond.onTables, Cond.keeps, Cond.steady])) hini)
  obtain ⟨hx, hb, hml, ho, -⟩ := S
  obtain ⟨-, ⟨cellB, hcB, hoB, hclB⟩, hPc⟩ := hp
  intro T hT X
  rcases vx_callVX X hx (C := C) (hh := hh) (bytes := bytes) (maxL := maxL) (ret := ret) ho hl hin hse hcode hy hK (by rw [hT]; exact hcB) hoB hclB hg (hsize.trans hml.symm) (argsL := As) (rest := rest) (fun sig h => hn.trans (hlen sig h)) hstack hW (by rw [hb]; exact hdg)
    (fun vm₁ hW₁ => ⟨hf.1, hf.2, hPc (T.setVm vm₁) hT hW₁⟩) with ⟨v, vm₁, ⟨U', l2, c2, s2⟩, hW₁, X', ⟨g', mk, t, L, e1, e2, hq, h1, hL, h2, h3⟩, st⟩ | ⟨q, vm₁, ⟨U', l2, c2, s2⟩, hW₁, X', ⟨g', mk, t, L, E, ce, e1, e2, hq, hce, hcv, hcl, h1, hL, h2, h3⟩, st⟩
  · dsimp only [Pt.U, Pt.locs, Pt.cells, Pt.slots] at X' e1 e2 h1 h2 h3 st
    subst h1; subst h2; subst h3
    exact Or.inl ⟨v, (T.setVm vm₁).calling g' mk (Value.ref b :: As).toArray, t, U', L, hT, X', hL, e1, e2, hq, st⟩
  · dsimp only [Pt.U, Pt.locs, Pt.cells, Pt.slots] at X' e1 e2 h1 h2 h3 st hcl
    subst h1; subst h2; subst h3
    exact Or.inr ⟨q, (T.setVm vm₁).calling g' mk (Value.ref b :: As).toArray, t, U', L, E, ce, hT, X', hL, e1, e2, hq, hce, hcv, vx_cls hW₁ hcl, st⟩
theorem vx_runSX {hh : List (Nat × Nat × Nat × Nat)} (S : CallFix p m c cc nL s args Ts own) (hM : vx_Met l y ws rm Pc Qc XC mc ms free) (cw : vx_CSW R s args own index y bytes maxL ret hh ws rm mc ms n) (hp : PreS s H Pc As)
    (hg : g.method = m) (hn : As.length = n) (hsize : g.locals.size = nL) (hstack : g.stack = As.reverse ++ rest) (hW : 2 * g.monitorRoom + (rest.map fun v => v.category).sum ≤ 8) (hdg : decode cc g.pc = .ok (.invokestatic index, 3)) (hf : cells + mc ≤ R.cells ∧ slots + ms ≤ R.slots) :
    vx_Run p l e R s m args below meth c H locs cells slots mc ms g rest (Qc As.toArray) XC free := by
  obtain ⟨⟨hrc, hrs, hfr, hlo, hws, hcw⟩, hcode, hini, hy, hlen, hl, hstt⟩ := cw
  have hK : vx_Back l R p e below s args y 3 8 (PreOf R mc ms Pc) (PostOf Qc mc ms free) (vx_Post XC mc ms free) := vx_backW (hh := hh) (bytes := bytes) (maxL := maxL) (ret := ret) hM hp.1 hrc hrs hfr hlo hws hcw (fun a' U hW => word_at hW (Or.inl (by first | rfl | simp [Cond.onTables, Cond.keeps, Cond.steady])) hini)
  obtain ⟨hx, hb, hml, ho, -⟩ := S
  intro T hT X
  rcases vx_callSX X hx (hh := hh) (bytes := bytes) (maxL := maxL) (ret := ret) ho hl hstt hini hcode hy hK hg (hsize.trans hml.symm) (argsL := As) (rest := rest) (fun sig h => hn.trans (hlen sig h)) hstack hW (by rw [hb]; exact hdg)
    (fun vm₁ hW₁ => ⟨hf.1, hf.2, hp.2 (T.setVm vm₁) hT hW₁⟩) with ⟨v, vm₁, ⟨U', l2, c2, s2⟩, hW₁, X', ⟨g', mk, t, L, e1, e2, hq, h1, hL, h2, h3⟩, st⟩ | ⟨q, vm₁, ⟨U', l2, c2, s2⟩, hW₁, X', ⟨g', mk, t, L, E, ce, e1, e2, hq, hce, hcv, hcl, h1, hL, h2, h3⟩, st⟩
  · dsimp only [Pt.U, Pt.locs, Pt.cells, Pt.slots] at X' e1 e2 h1 h2 h3 st
    subst h1; subst h2; subst h3
    exact Or.inl ⟨v, (T.setVm vm₁).calling g' mk As.toArray, t, U', L, hT, X', hL, e1, e2, hq, st⟩
  · dsimp only [Pt.U, Pt.locs, Pt.cells, Pt.slots] at X' e1 e2 h1 h2 h3 st hcl
    subst h1; subst h2; subst h3
    exact Or.inr ⟨q, (T.setVm vm₁).calling g' mk As.toArray, t, U', L, E, ce, hT, X', hL, e1, e2, hq, hce, hcv, vx_cls hW₁ hcl, st⟩
end
end VXH
theorem vx_ofWH {l : Launch} {y : MethodName} {ws ws' : List Cond} {rm : Room} {Pc : Array Value → State → Prop} {Qc : Array Value → State → Outcome → State → Prop} {XC : String → State → State → Prop} {mc ms : Nat} {free : Addr → Prop} {cc : ByteArray} {maxL : Nat} {ret : Option FieldType} {hh : List (Nat × Nat × Nat × Nat)}
    (hy : plainName y.cls = true) (hw : ws = Cond.codeWith y cc maxL ret hh :: ws')
    (body : ∀ p e s m args below meth c s₁, BodyLoose p l y (headSpec ws rm) cc maxL ret e s m args below meth c s₁ → c.maxLocals = maxL → Pc args s →
      W p l e (headSpec ws rm).room s m args below meth c s.heap [] 0 0 (vx_MQ below Qc XC args s mc ms free) (entryFrame m args maxL)) : vx_Met l y ws rm Pc Qc XC mc ms free := by
  refine MetFree.of_bodyS (code := cc) (maxLocals := maxL) (ret := ret) hy ?_ ?_
  · intro args s m h hn
    obtain ⟨m9, meth, c, hn9, h1, h2, h3, h4, -, h5, h6, -⟩ := Cond.codeWith_spec (atoms_spec (ws := ws) h _ (by rw [hw]; exact List.mem_cons_self))
    cases hn.symm.trans hn9
    exact ⟨meth, c, h1, h2, h3, h4, h5, h6⟩
  · intro p e s m args below meth c s₁ B hml hP _
    have hh0 : s₁.heap = s.heap := by rw [B.state]; rfl
    obtain ⟨t, a1, o, b1, b2, b3⟩ := body p e s m args below meth c s₁ B hml hP s₁ hh0 (Stand.of_body B)
    exact ⟨t, o, a1, b1, b2, b3⟩
end
section
def RX0 : String := "PageWalker$Regions"
def TX0 : u_T := fun k => match k with
  | 0 => ("PageWalker$Regions", "configs", "[I", true)
  | _ => ("PageWalker$Regions", "numbers", "[J", true)
def tyX0 : Nat → FieldType := fun k => match k with
  | 0 => .array .int
  | _ => .array .long
abbrev wsX00 : List Cond := u_ws RX0 TX0 2
theorem nmX0 : ∀ a, a < 2 → ∀ b, b < 2 → a ≠ b → (TX0 a).2.1 ≠ (TX0 b).2.1 := by decide +kernel
theorem tyX0_ok : ∀ k, k < 2 → parseFieldDescriptor (TX0 k).2.2.1 = some (tyX0 k) := by decide +kernel
theorem inX0 : ∀ w ∈ wsX00, w ∈ lw_tbl := by decide +kernel
def RX1 : String := "PageWalker"
def TX1 : u_T := fun k => match k with
  | 0 => ("PageWalker", "words", "[J", true)
  | 1 => ("PageWalker", "regions", "LPageWalker$Regions;", true)
  | 2 => ("PageWalker", "table", "J", false)
  | 3 => ("PageWalker", "sum", "Z", false)
  | _ => ("PageWalker", "mxr", "Z", false)
def tyX1 : Nat → FieldType := fun k => match k with
  | 0 => .array .long
  | 1 => .object "PageWalker$Regions"
  | 2 => .long
  | 3 => .boolean
  | _ => .boolean
abbrev wsX10 : List Cond := u_ws RX1 TX1 5
theorem nmX1 : ∀ a, a < 5 → ∀ b, b < 5 → a ≠ b → (TX1 a).2.1 ≠ (TX1 b).2.1 := by decide +kernel
theorem tyX1_ok : ∀ k, k < 5 → parseFieldDescriptor (TX1 k).2.2.1 = some (tyX1 k) := by decide +kernel
theorem inX1 : ∀ w ∈ wsX10, w ∈ lw_tbl := by decide +kernel
def RX2 : String := "PageWalkerModel"
def TX2 : u_T := fun k => match k with
  | 0 => ("PageWalkerModel", "code", "I", false)
  | 1 => ("PageWalkerModel", "memory", "[J", true)
  | 2 => ("PageWalkerModel", "table", "J", false)
  | 3 => ("PageWalkerModel", "sum", "Z", false)
  | 4 => ("PageWalkerModel", "mxr", "Z", false)
  | 5 => ("PageWalkerModel", "configs", "[I", true)
  | 6 => ("PageWalkerModel", "numbers", "[J", true)
  | 7 => ("PageWalkerModel", "from", "J", false)
  | _ => ("PageWalkerModel", "to", "J", false)
def tyX2 : Nat → FieldType := fun k => match k with
  | 0 => .int
  | 1 => .array .long
  | 2 => .long
  | 3 => .boolean
  | 4 => .boolean
  | 5 => .array .int
  | 6 => .array .long
  | 7 => .long
  | _ => .long
abbrev wsX20 : List Cond := u_ws RX2 TX2 9
theorem nmX2 : ∀ a, a < 9 → ∀ b, b < 9 → a ≠ b → (TX2 a).2.1 ≠ (TX2 b).2.1 := by decide +kernel
theorem tyX2_ok : ∀ k, k < 9 → parseFieldDescriptor (TX2 k).2.2.1 = some (tyX2 k) := by decide +kernel
theorem inX2 : ∀ w ∈ wsX20, w ∈ lw_tbl := by decide +kernel
def RL : String := "PageWalkerLaw"
abbrev vwCl : List vw_C := [(RX0, TX0, 2), (RX1, TX1, 5), (RX2, TX2, 9)]
def wsAll : List Cond := lw_tbl.filter goodWord
theorem wa {c0 w : Cond} (i : Nat) (h : lw_tbl[i]? = some w) (g : goodWord w = true) : w ∈ c0 :: wsAll := List.mem_cons_of_mem _ (List.mem_filter.mpr ⟨List.mem_of_getElem? h, g⟩)
theorem wc {c0 : Cond} {L : List Cond} (h : L.all goodWord = true) (hi : ∀ w ∈ L, w ∈ lw_tbl) : ∀ w ∈ L, w ∈ c0 :: wsAll := fun w hw => List.mem_cons_of_mem _ (List.mem_filter.mpr ⟨hi w hw, List.all_eq_true.mp h w hw⟩)
theorem gAll {c0 c1 : Cond} {L : List Cond} (h : ∀ w ∈ L, w ∈ c0 :: wsAll) (h1 : c1 ∈ c0 :: wsAll) (hg : (c1 :: L).all goodWord = true) : GoodIn (c0 :: wsAll) (L ++ (c1 :: wsAll)) := by
  intro w hw
  rcases List.mem_append.mp hw with hw | hw
  · exact ⟨h w hw, good_of_word (List.all_eq_true.mp hg w (List.mem_cons_of_mem _ hw))⟩
  · rcases List.mem_cons.mp hw with rfl | hw
    · exact ⟨h1, good_of_word (List.all_eq_true.mp hg w List.mem_cons_self)⟩
    · exact ⟨List.mem_cons_of_mem _ hw, good_of_word (List.mem_filter.mp hw).2⟩
theorem gTbl {c1 : Cond} {L : List Cond} (h : ∀ w ∈ L, w ∈ lw_tbl) (h1 : c1 ∈ lw_tbl) (hg : (c1 :: L).all goodWord = true) : GoodIn lw_tbl (L ++ (c1 :: wsAll)) := by
  intro w hw
  rcases List.mem_append.mp hw with hw | hw
  · exact ⟨h w hw, good_of_word (List.all_eq_true.mp hg w (List.mem_cons_of_mem _ hw))⟩
  · rcases List.mem_cons.mp hw with rfl | hw
    · exact ⟨h1, good_of_word (List.all_eq_true.mp hg w List.mem_cons_self)⟩
    · exact ⟨(List.mem_filter.mp hw).1, good_of_word (List.mem_filter.mp hw).2⟩
theorem mc1 {P : Cond → Prop} {a : Cond} {l : List Cond} (h : P a) (t : ∀ w ∈ l, P w) : ∀ w ∈ a :: l, P w := fun w hw => (List.mem_cons.mp hw).elim (fun e => e ▸ h) (t w)
theorem mc0 {P : Cond → Prop} : ∀ w ∈ ([] : List Cond), P w := fun _ h => nomatch h
theorem iwX0 {c0 : Cond} : ∀ w ∈ wsX00, w ∈ c0 :: wsAll := wc (by decide +kernel) inX0
theorem iwX1 {c0 : Cond} : ∀ w ∈ wsX10, w ∈ c0 :: wsAll := wc (by decide +kernel) inX1
theorem iwX2 {c0 : Cond} : ∀ w ∈ wsX20, w ∈ c0 :: wsAll := wc (by decide +kernel) inX2
abbrev cX1_init : ByteArray := prog_1_method_1_code
def yX1_init : MethodName := ⟨RX1, "<init>", "()V"⟩
abbrev cX0_init : ByteArray := prog_2_method_1_code
def yX0_init : MethodName := ⟨RX0, "<init>", "()V"⟩
abbrev cX1_table : ByteArray := prog_1_method_4_code
def yX1_table : MethodName := ⟨RX1, "table", "()J"⟩
abbrev cX1_rights : ByteArray := prog_1_method_6_code
def yX1_rights : MethodName := ⟨RX1, "rights", "(ZZ)V"⟩
abbrev cX1_configs : ByteArray := prog_1_method_7_code
def yX1_configs : MethodName := ⟨RX1, "configs", "()J"⟩
abbrev cX0_packedConfigs : ByteArray := prog_2_method_2_code
def yX0_packedConfigs : MethodName := ⟨RX0, "packedConfigs", "()J"⟩
abbrev cX1_setConfigs : ByteArray := prog_1_method_8_code
def yX1_setConfigs : MethodName := ⟨RX1, "setConfigs", "(J)V"⟩
abbrev cX0_takeConfigs : ByteArray := prog_2_method_3_code
def yX0_takeConfigs : MethodName := ⟨RX0, "takeConfigs", "(J)V"⟩
abbrev cX0_isLocked : ByteArray := prog_2_method_8_code
def yX0_isLocked : MethodName := ⟨RX0, "isLocked", "(I)Z"⟩
abbrev cX0_legalConfig : ByteArray := prog_2_method_7_code
def yX0_legalConfig : MethodName := ⟨RX0, "legalConfig", "(I)I"⟩
abbrev cX1_fence : ByteArray := prog_1_method_13_code
def yX1_fence : MethodName := ⟨RX1, "fence", "()V"⟩
abbrev cL_word : ByteArray := method_3_code
def yL_word : MethodName := ⟨RL, "word", "(LPageWalker;J[J)I"⟩
abbrev cX1_word : ByteArray := prog_1_method_2_code
def yX1_word : MethodName := ⟨RX1, "word", "(J)J"⟩
abbrev cX1_wordIndex : ByteArray := prog_1_method_19_code
def yX1_wordIndex : MethodName := ⟨RX1, "wordIndex", "(J)I"⟩
abbrev cL_put : ByteArray := method_4_code
def yL_put : MethodName := ⟨RL, "put", "(LPageWalker;JJ)I"⟩
abbrev cX1_put : ByteArray := prog_1_method_3_code
def yX1_put : MethodName := ⟨RX1, "put", "(JJ)V"⟩
abbrev cL_setTable : ByteArray := method_5_code
def yL_setTable : MethodName := ⟨RL, "setTable", "(LPageWalker;J)I"⟩
abbrev cX1_setTable : ByteArray := prog_1_method_5_code
def yX1_setTable : MethodName := ⟨RX1, "setTable", "(J)V"⟩
abbrev cX1_sortOf : ByteArray := prog_1_method_16_code
def yX1_sortOf : MethodName := ⟨RX1, "sortOf", "(J)I"⟩
abbrev cL_number : ByteArray := method_6_code
def yL_number : MethodName := ⟨RL, "number", "(LPageWalker;I[J)I"⟩
abbrev cX1_number : ByteArray := prog_1_method_9_code
def yX1_number : MethodName := ⟨RX1, "number", "(I)J"⟩
abbrev cX0_numberOf : ByteArray := prog_2_method_4_code
def yX0_numberOf : MethodName := ⟨RX0, "numberOf", "(I)J"⟩
abbrev cL_setNumber : ByteArray := method_7_code
def yL_setNumber : MethodName := ⟨RL, "setNumber", "(LPageWalker;IJ)I"⟩
abbrev cX1_setNumber : ByteArray := prog_1_method_10_code
def yX1_setNumber : MethodName := ⟨RX1, "setNumber", "(IJ)V"⟩
abbrev cX0_takeNumber : ByteArray := prog_2_method_5_code
def yX0_takeNumber : MethodName := ⟨RX0, "takeNumber", "(IJ)V"⟩
abbrev cX0_fixesNumberBefore : ByteArray := prog_2_method_9_code
def yX0_fixesNumberBefore : MethodName := ⟨RX0, "fixesNumberBefore", "(I)Z"⟩
abbrev cX0_kindOf : ByteArray := prog_2_method_10_code
def yX0_kindOf : MethodName := ⟨RX0, "kindOf", "(I)I"⟩
abbrev cL_find : ByteArray := method_8_code
def yL_find : MethodName := ⟨RL, "find", "(LPageWalker;JIII[J)I"⟩
abbrev cX1_find : ByteArray := prog_1_method_11_code
def yX1_find : MethodName := ⟨RX1, "find", "(JIII)J"⟩
abbrev cX1_isAccess : ByteArray := prog_1_method_14_code
def yX1_isAccess : MethodName := ⟨RX1, "isAccess", "(JIII)Z"⟩
abbrev cX1_translate : ByteArray := prog_1_method_20_code
def yX1_translate : MethodName := ⟨RX1, "translate", "(JII)J"⟩
abbrev cX1_isPhysical : ByteArray := prog_1_method_15_code
def yX1_isPhysical : MethodName := ⟨RX1, "isPhysical", "(J)Z"⟩
abbrev cX1_accessFault : ByteArray := prog_1_method_17_code
def yX1_accessFault : MethodName := ⟨RX1, "accessFault", "(I)J"⟩
abbrev cX1_pageFault : ByteArray := prog_1_method_18_code
def yX1_pageFault : MethodName := ⟨RX1, "pageFault", "(I)J"⟩
abbrev cX1_walk : ByteArray := prog_1_method_21_code
def yX1_walk : MethodName := ⟨RX1, "walk", "(JIII)J"⟩
abbrev cX1_entryPlace : ByteArray := prog_1_method_22_code
def yX1_entryPlace : MethodName := ⟨RX1, "entryPlace", "(JJI)J"⟩
abbrev cX1_shiftOf : ByteArray := prog_1_method_23_code
def yX1_shiftOf : MethodName := ⟨RX1, "shiftOf", "(I)I"⟩
abbrev cX0_letThrough : ByteArray := prog_2_method_6_code
def yX0_letThrough : MethodName := ⟨RX0, "letThrough", "(JIII)Z"⟩
abbrev cX0_startOf : ByteArray := prog_2_method_12_code
def yX0_startOf : MethodName := ⟨RX0, "startOf", "(IJJ)J"⟩
abbrev cX0_endOf : ByteArray := prog_2_method_13_code
def yX0_endOf : MethodName := ⟨RX0, "endOf", "(IJ)J"⟩
abbrev cX0_permits : ByteArray := prog_2_method_11_code
def yX0_permits : MethodName := ⟨RX0, "permits", "(III)Z"⟩
abbrev cX1_isMalformed : ByteArray := prog_1_method_27_code
def yX1_isMalformed : MethodName := ⟨RX1, "isMalformed", "(J)Z"⟩
abbrev cX1_has : ByteArray := prog_1_method_24_code
def yX1_has : MethodName := ⟨RX1, "has", "(JJ)Z"⟩
abbrev cX1_isLast : ByteArray := prog_1_method_26_code
def yX1_isLast : MethodName := ⟨RX1, "isLast", "(J)Z"⟩
abbrev cX1_grants : ByteArray := prog_1_method_28_code
def yX1_grants : MethodName := ⟨RX1, "grants", "(JIII)Z"⟩
abbrev cX1_pageNumber : ByteArray := prog_1_method_25_code
def yX1_pageNumber : MethodName := ⟨RX1, "pageNumber", "(J)J"⟩
abbrev cX1_isOpenToMode : ByteArray := prog_1_method_29_code
def yX1_isOpenToMode : MethodName := ⟨RX1, "isOpenToMode", "(JII)Z"⟩
abbrev cX1_isOpenToAccess : ByteArray := prog_1_method_30_code
def yX1_isOpenToAccess : MethodName := ⟨RX1, "isOpenToAccess", "(JI)Z"⟩
abbrev cX1_mark : ByteArray := prog_1_method_31_code
def yX1_mark : MethodName := ⟨RX1, "mark", "(JJI)Z"⟩
abbrev cX1_target : ByteArray := prog_1_method_32_code
def yX1_target : MethodName := ⟨RX1, "target", "(JJI)J"⟩
abbrev cL_allows : ByteArray := method_9_code
def yL_allows : MethodName := ⟨RL, "allows", "(LPageWalker;JIII[J)I"⟩
abbrev cX1_allows : ByteArray := prog_1_method_12_code
def yX1_allows : MethodName := ⟨RX1, "allows", "(JIII)Z"⟩
abbrev cX2_init : ByteArray := prog_4_method_1_code
def yX2_init : MethodName := ⟨RX2, "<init>", "()V"⟩
abbrev cX2_thrown : ByteArray := prog_4_method_2_code
def yX2_thrown : MethodName := ⟨RX2, "thrown", "()I"⟩
abbrev cX2_word : ByteArray := prog_4_method_5_code
def yX2_word : MethodName := ⟨RX2, "word", "(J)J"⟩
abbrev cX2_isWord : ByteArray := prog_4_method_3_code
def yX2_isWord : MethodName := ⟨RX2, "isWord", "(J)Z"⟩
abbrev cX2_cell : ByteArray := prog_4_method_4_code
def yX2_cell : MethodName := ⟨RX2, "cell", "(J)I"⟩
abbrev cX2_put : ByteArray := prog_4_method_6_code
def yX2_put : MethodName := ⟨RX2, "put", "(JJ)V"⟩
abbrev cX2_table : ByteArray := prog_4_method_8_code
def yX2_table : MethodName := ⟨RX2, "table", "()J"⟩
abbrev cX2_setTable : ByteArray := prog_4_method_9_code
def yX2_setTable : MethodName := ⟨RX2, "setTable", "(J)V"⟩
abbrev cX2_sortOf : ByteArray := prog_4_method_7_code
def yX2_sortOf : MethodName := ⟨RX2, "sortOf", "(J)J"⟩
abbrev cX2_rights : ByteArray := prog_4_method_10_code
def yX2_rights : MethodName := ⟨RX2, "rights", "(ZZ)V"⟩
abbrev cX2_configs : ByteArray := prog_4_method_13_code
def yX2_configs : MethodName := ⟨RX2, "configs", "()J"⟩
abbrev cX2_setConfigs : ByteArray := prog_4_method_14_code
def yX2_setConfigs : MethodName := ⟨RX2, "setConfigs", "(J)V"⟩
abbrev cX2_has : ByteArray := prog_4_method_11_code
def yX2_has : MethodName := ⟨RX2, "has", "(II)Z"⟩
abbrev cX2_number : ByteArray := prog_4_method_15_code
def yX2_number : MethodName := ⟨RX2, "number", "(I)J"⟩
abbrev cX2_setNumber : ByteArray := prog_4_method_16_code
def yX2_setNumber : MethodName := ⟨RX2, "setNumber", "(IJ)V"⟩
abbrev cX2_kind : ByteArray := prog_4_method_12_code
def yX2_kind : MethodName := ⟨RX2, "kind", "(I)I"⟩
abbrev cX2_allows : ByteArray := prog_4_method_21_code
def yX2_allows : MethodName := ⟨RX2, "allows", "(JIII)Z"⟩
abbrev cX2_isAccess : ByteArray := prog_4_method_19_code
def yX2_isAccess : MethodName := ⟨RX2, "isAccess", "(III)Z"⟩
abbrev cX2_isWithin : ByteArray := prog_4_method_20_code
def yX2_isWithin : MethodName := ⟨RX2, "isWithin", "(JI)Z"⟩
abbrev cX2_isLet : ByteArray := prog_4_method_18_code
def yX2_isLet : MethodName := ⟨RX2, "isLet", "(JIII)Z"⟩
abbrev cX2_cover : ByteArray := prog_4_method_17_code
def yX2_cover : MethodName := ⟨RX2, "cover", "(I)V"⟩
abbrev cX2_find : ByteArray := prog_4_method_30_code
def yX2_find : MethodName := ⟨RX2, "find", "(JIII)J"⟩
abbrev cX2_accessFault : ByteArray := prog_4_method_22_code
def yX2_accessFault : MethodName := ⟨RX2, "accessFault", "(I)J"⟩
abbrev cX2_walk : ByteArray := prog_4_method_28_code
def yX2_walk : MethodName := ⟨RX2, "walk", "(JII)J"⟩
abbrev cX2_pageFault : ByteArray := prog_4_method_23_code
def yX2_pageFault : MethodName := ⟨RX2, "pageFault", "(I)J"⟩
abbrev cX2_isBroken : ByteArray := prog_4_method_26_code
def yX2_isBroken : MethodName := ⟨RX2, "isBroken", "(J)Z"⟩
abbrev cX2_bit : ByteArray := prog_4_method_24_code
def yX2_bit : MethodName := ⟨RX2, "bit", "(JI)Z"⟩
abbrev cX2_last : ByteArray := prog_4_method_29_code
def yX2_last : MethodName := ⟨RX2, "last", "(JIIJI)J"⟩
abbrev cX2_numberIn : ByteArray := prog_4_method_25_code
def yX2_numberIn : MethodName := ⟨RX2, "numberIn", "(J)J"⟩
abbrev cX2_refuses : ByteArray := prog_4_method_27_code
def yX2_refuses : MethodName := ⟨RX2, "refuses", "(JII)Z"⟩
abbrev cX2_fence : ByteArray := prog_4_method_31_code
def yX2_fence : MethodName := ⟨RX2, "fence", "()V"⟩
abbrev kX1_init : Cond := .code yX1_init cX1_init 1 none
def wsX1_init : List Cond := kX1_init :: wsAll
abbrev kX0_init : Cond := .code yX0_init cX0_init 1 none
def wsX0_init : List Cond := kX0_init :: wsAll
abbrev kX1_table : Cond := .code yX1_table cX1_table 1 (some .long)
def wsX1_table : List Cond := kX1_table :: wsAll
abbrev kX1_rights : Cond := .code yX1_rights cX1_rights 3 none
def wsX1_rights : List Cond := kX1_rights :: wsAll
abbrev kX1_configs : Cond := .code yX1_configs cX1_configs 1 (some .long)
def wsX1_configs : List Cond := kX1_configs :: wsAll
abbrev kX0_packedConfigs : Cond := .code yX0_packedConfigs cX0_packedConfigs 4 (some .long)
def wsX0_packedConfigs : List Cond := kX0_packedConfigs :: wsAll
abbrev kX1_setConfigs : Cond := .code yX1_setConfigs cX1_setConfigs 3 none
def wsX1_setConfigs : List Cond := kX1_setConfigs :: wsAll
abbrev kX0_takeConfigs : Cond := .code yX0_takeConfigs cX0_takeConfigs 4 none
def wsX0_takeConfigs : List Cond := kX0_takeConfigs :: wsAll
abbrev kX0_isLocked : Cond := .code yX0_isLocked cX0_isLocked 1 (some .boolean)
def wsX0_isLocked : List Cond := kX0_isLocked :: wsAll
abbrev kX0_legalConfig : Cond := .code yX0_legalConfig cX0_legalConfig 2 (some .int)
def wsX0_legalConfig : List Cond := kX0_legalConfig :: wsAll
abbrev kX1_fence : Cond := .code yX1_fence cX1_fence 1 none
def wsX1_fence : List Cond := kX1_fence :: wsAll
abbrev kL_word : Cond := .codeWith yL_word cL_word 5 (some .int) [(0, 8, 11, 13)]
def wsL_word : List Cond := kL_word :: wsAll
abbrev kX1_word : Cond := .code yX1_word cX1_word 4 (some .long)
def wsX1_word : List Cond := kX1_word :: wsAll
abbrev kX1_wordIndex : Cond := .code yX1_wordIndex cX1_wordIndex 4 (some .int)
def wsX1_wordIndex : List Cond := kX1_wordIndex :: wsAll
abbrev kL_put : Cond := .codeWith yL_put cL_put 6 (some .int) [(0, 6, 9, 13)]
def wsL_put : List Cond := kL_put :: wsAll
abbrev kX1_put : Cond := .code yX1_put cX1_put 6 none
def wsX1_put : List Cond := kX1_put :: wsAll
abbrev kL_setTable : Cond := .codeWith yL_setTable cL_setTable 4 (some .int) [(0, 5, 8, 23)]
def wsL_setTable : List Cond := kL_setTable :: wsAll
abbrev kX1_setTable : Cond := .code yX1_setTable cX1_setTable 4 none
def wsX1_setTable : List Cond := kX1_setTable :: wsAll
abbrev kX1_sortOf : Cond := .code yX1_sortOf cX1_sortOf 2 (some .int)
def wsX1_sortOf : List Cond := kX1_sortOf :: wsAll
abbrev kL_number : Cond := .codeWith yL_number cL_number 4 (some .int) [(0, 8, 11, 13)]
def wsL_number : List Cond := kL_number :: wsAll
abbrev kX1_number : Cond := .code yX1_number cX1_number 2 (some .long)
def wsX1_number : List Cond := kX1_number :: wsAll
abbrev kX0_numberOf : Cond := .code yX0_numberOf cX0_numberOf 2 (some .long)
def wsX0_numberOf : List Cond := kX0_numberOf :: wsAll
abbrev kL_setNumber : Cond := .codeWith yL_setNumber cL_setNumber 5 (some .int) [(0, 6, 9, 13)]
def wsL_setNumber : List Cond := kL_setNumber :: wsAll
abbrev kX1_setNumber : Cond := .code yX1_setNumber cX1_setNumber 4 none
def wsX1_setNumber : List Cond := kX1_setNumber :: wsAll
abbrev kX0_takeNumber : Cond := .code yX0_takeNumber cX0_takeNumber 5 none
def wsX0_takeNumber : List Cond := kX0_takeNumber :: wsAll
abbrev kX0_fixesNumberBefore : Cond := .code yX0_fixesNumberBefore cX0_fixesNumberBefore 1 (some .boolean)
def wsX0_fixesNumberBefore : List Cond := kX0_fixesNumberBefore :: wsAll
abbrev kX0_kindOf : Cond := .code yX0_kindOf cX0_kindOf 1 (some .int)
def wsX0_kindOf : List Cond := kX0_kindOf :: wsAll
abbrev kL_find : Cond := .codeWith yL_find cL_find 8 (some .int) [(0, 14, 17, 23)]
def wsL_find : List Cond := kL_find :: wsAll
abbrev kX1_find : Cond := .code yX1_find cX1_find 8 (some .long)
def wsX1_find : List Cond := kX1_find :: wsAll
abbrev kX1_isAccess : Cond := .code yX1_isAccess cX1_isAccess 5 (some .boolean)
def wsX1_isAccess : List Cond := kX1_isAccess :: wsAll
abbrev kX1_translate : Cond := .code yX1_translate cX1_translate 9 (some .long)
def wsX1_translate : List Cond := kX1_translate :: wsAll
abbrev kX1_isPhysical : Cond := .code yX1_isPhysical cX1_isPhysical 2 (some .boolean)
def wsX1_isPhysical : List Cond := kX1_isPhysical :: wsAll
abbrev kX1_accessFault : Cond := .code yX1_accessFault cX1_accessFault 1 (some .long)
def wsX1_accessFault : List Cond := kX1_accessFault :: wsAll
abbrev kX1_pageFault : Cond := .code yX1_pageFault cX1_pageFault 1 (some .long)
def wsX1_pageFault : List Cond := kX1_pageFault :: wsAll
abbrev kX1_walk : Cond := .code yX1_walk cX1_walk 13 (some .long)
def wsX1_walk : List Cond := kX1_walk :: wsAll
abbrev kX1_entryPlace : Cond := .code yX1_entryPlace cX1_entryPlace 7 (some .long)
def wsX1_entryPlace : List Cond := kX1_entryPlace :: wsAll
abbrev kX1_shiftOf : Cond := .code yX1_shiftOf cX1_shiftOf 1 (some .int)
def wsX1_shiftOf : List Cond := kX1_shiftOf :: wsAll
abbrev kX0_letThrough : Cond := .code yX0_letThrough cX0_letThrough 18 (some .boolean)
def wsX0_letThrough : List Cond := kX0_letThrough :: wsAll
abbrev kX0_startOf : Cond := .code yX0_startOf cX0_startOf 5 (some .long)
def wsX0_startOf : List Cond := kX0_startOf :: wsAll
abbrev kX0_endOf : Cond := .code yX0_endOf cX0_endOf 3 (some .long)
def wsX0_endOf : List Cond := kX0_endOf :: wsAll
abbrev kX0_permits : Cond := .code yX0_permits cX0_permits 4 (some .boolean)
def wsX0_permits : List Cond := kX0_permits :: wsAll
abbrev kX1_isMalformed : Cond := .code yX1_isMalformed cX1_isMalformed 2 (some .boolean)
def wsX1_isMalformed : List Cond := kX1_isMalformed :: wsAll
abbrev kX1_has : Cond := .code yX1_has cX1_has 4 (some .boolean)
def wsX1_has : List Cond := kX1_has :: wsAll
abbrev kX1_isLast : Cond := .code yX1_isLast cX1_isLast 2 (some .boolean)
def wsX1_isLast : List Cond := kX1_isLast :: wsAll
abbrev kX1_grants : Cond := .code yX1_grants cX1_grants 8 (some .boolean)
def wsX1_grants : List Cond := kX1_grants :: wsAll
abbrev kX1_pageNumber : Cond := .code yX1_pageNumber cX1_pageNumber 2 (some .long)
def wsX1_pageNumber : List Cond := kX1_pageNumber :: wsAll
abbrev kX1_isOpenToMode : Cond := .code yX1_isOpenToMode cX1_isOpenToMode 5 (some .boolean)
def wsX1_isOpenToMode : List Cond := kX1_isOpenToMode :: wsAll
abbrev kX1_isOpenToAccess : Cond := .code yX1_isOpenToAccess cX1_isOpenToAccess 4 (some .boolean)
def wsX1_isOpenToAccess : List Cond := kX1_isOpenToAccess :: wsAll
abbrev kX1_mark : Cond := .code yX1_mark cX1_mark 8 (some .boolean)
def wsX1_mark : List Cond := kX1_mark :: wsAll
abbrev kX1_target : Cond := .code yX1_target cX1_target 7 (some .long)
def wsX1_target : List Cond := kX1_target :: wsAll
abbrev kL_allows : Cond := .codeWith yL_allows cL_allows 8 (some .int) [(0, 22, 25, 23)]
def wsL_allows : List Cond := kL_allows :: wsAll
abbrev kX1_allows : Cond := .code yX1_allows cX1_allows 6 (some .boolean)
def wsX1_allows : List Cond := kX1_allows :: wsAll
abbrev kX2_init : Cond := .code yX2_init cX2_init 1 none
def wsX2_init : List Cond := kX2_init :: wsAll
abbrev kX2_thrown : Cond := .code yX2_thrown cX2_thrown 1 (some .int)
def wsX2_thrown : List Cond := kX2_thrown :: wsAll
abbrev kX2_word : Cond := .code yX2_word cX2_word 3 (some .long)
def wsX2_word : List Cond := kX2_word :: wsAll
abbrev kX2_isWord : Cond := .code yX2_isWord cX2_isWord 2 (some .boolean)
def wsX2_isWord : List Cond := kX2_isWord :: wsAll
abbrev kX2_cell : Cond := .code yX2_cell cX2_cell 2 (some .int)
def wsX2_cell : List Cond := kX2_cell :: wsAll
abbrev kX2_put : Cond := .code yX2_put cX2_put 5 none
def wsX2_put : List Cond := kX2_put :: wsAll
abbrev kX2_table : Cond := .code yX2_table cX2_table 1 (some .long)
def wsX2_table : List Cond := kX2_table :: wsAll
abbrev kX2_setTable : Cond := .code yX2_setTable cX2_setTable 5 none
def wsX2_setTable : List Cond := kX2_setTable :: wsAll
abbrev kX2_sortOf : Cond := .code yX2_sortOf cX2_sortOf 2 (some .long)
def wsX2_sortOf : List Cond := kX2_sortOf :: wsAll
abbrev kX2_rights : Cond := .code yX2_rights cX2_rights 3 none
def wsX2_rights : List Cond := kX2_rights :: wsAll
abbrev kX2_configs : Cond := .code yX2_configs cX2_configs 4 (some .long)
def wsX2_configs : List Cond := kX2_configs :: wsAll
abbrev kX2_setConfigs : Cond := .code yX2_setConfigs cX2_setConfigs 5 none
def wsX2_setConfigs : List Cond := kX2_setConfigs :: wsAll
abbrev kX2_has : Cond := .code yX2_has cX2_has 3 (some .boolean)
def wsX2_has : List Cond := kX2_has :: wsAll
abbrev kX2_number : Cond := .code yX2_number cX2_number 2 (some .long)
def wsX2_number : List Cond := kX2_number :: wsAll
abbrev kX2_setNumber : Cond := .code yX2_setNumber cX2_setNumber 5 none
def wsX2_setNumber : List Cond := kX2_setNumber :: wsAll
abbrev kX2_kind : Cond := .code yX2_kind cX2_kind 2 (some .int)
def wsX2_kind : List Cond := kX2_kind :: wsAll
abbrev kX2_allows : Cond := .code yX2_allows cX2_allows 6 (some .boolean)
def wsX2_allows : List Cond := kX2_allows :: wsAll
abbrev kX2_isAccess : Cond := .code yX2_isAccess cX2_isAccess 4 (some .boolean)
def wsX2_isAccess : List Cond := kX2_isAccess :: wsAll
abbrev kX2_isWithin : Cond := .code yX2_isWithin cX2_isWithin 3 (some .boolean)
def wsX2_isWithin : List Cond := kX2_isWithin :: wsAll
abbrev kX2_isLet : Cond := .code yX2_isLet cX2_isLet 9 (some .boolean)
def wsX2_isLet : List Cond := kX2_isLet :: wsAll
abbrev kX2_cover : Cond := .code yX2_cover cX2_cover 9 none
def wsX2_cover : List Cond := kX2_cover :: wsAll
abbrev kX2_find : Cond := .code yX2_find cX2_find 9 (some .long)
def wsX2_find : List Cond := kX2_find :: wsAll
abbrev kX2_accessFault : Cond := .code yX2_accessFault cX2_accessFault 1 (some .long)
def wsX2_accessFault : List Cond := kX2_accessFault :: wsAll
abbrev kX2_walk : Cond := .code yX2_walk cX2_walk 15 (some .long)
def wsX2_walk : List Cond := kX2_walk :: wsAll
abbrev kX2_pageFault : Cond := .code yX2_pageFault cX2_pageFault 1 (some .long)
def wsX2_pageFault : List Cond := kX2_pageFault :: wsAll
abbrev kX2_isBroken : Cond := .code yX2_isBroken cX2_isBroken 2 (some .boolean)
def wsX2_isBroken : List Cond := kX2_isBroken :: wsAll
abbrev kX2_bit : Cond := .code yX2_bit cX2_bit 3 (some .boolean)
def wsX2_bit : List Cond := kX2_bit :: wsAll
abbrev kX2_last : Cond := .code yX2_last cX2_last 12 (some .long)
def wsX2_last : List Cond := kX2_last :: wsAll
abbrev kX2_numberIn : Cond := .code yX2_numberIn cX2_numberIn 2 (some .long)
def wsX2_numberIn : List Cond := kX2_numberIn :: wsAll
abbrev kX2_refuses : Cond := .code yX2_refuses cX2_refuses 6 (some .boolean)
def wsX2_refuses : List Cond := kX2_refuses :: wsAll
abbrev kX2_fence : Cond := .code yX2_fence cX2_fence 1 none
def wsX2_fence : List Cond := kX2_fence :: wsAll
end
section
theorem dX1_init_0 : decode cX1_init 0 = .ok (.aload_n 0, 1) := by decide +kernel
theorem dX1_init_1 : decode cX1_init 1 = .ok (.invokespecial 3, 3) := by decide +kernel
theorem dX1_init_4 : decode cX1_init 4 = .ok (.aload_n 0, 1) := by decide +kernel
theorem dX1_init_5 : decode cX1_init 5 = .ok (.sipush 8192, 3) := by decide +kernel
theorem dX1_init_8 : decode cX1_init 8 = .ok (.newarray .long, 2) := by decide +kernel
theorem dX1_init_10 : decode cX1_init 10 = .ok (.putfield 9, 3) := by decide +kernel
theorem dX1_init_13 : decode cX1_init 13 = .ok (.aload_n 0, 1) := by decide +kernel
theorem dX1_init_14 : decode cX1_init 14 = .ok (.new 13, 3) := by decide +kernel
theorem dX1_init_17 : decode cX1_init 17 = .ok (.dup, 1) := by decide +kernel
theorem dX1_init_18 : decode cX1_init 18 = .ok (.invokespecial 15, 3) := by decide +kernel
theorem dX1_init_21 : decode cX1_init 21 = .ok (.putfield 16, 3) := by decide +kernel
theorem dX1_init_24 : decode cX1_init 24 = .ok (.aload_n 0, 1) := by decide +kernel
theorem dX1_init_25 : decode cX1_init 25 = .ok (.lconst 0, 1) := by decide +kernel
theorem dX1_init_26 : decode cX1_init 26 = .ok (.putfield 20, 3) := by decide +kernel
theorem dX1_init_29 : decode cX1_init 29 = .ok (.aload_n 0, 1) := by decide +kernel
theorem dX1_init_30 : decode cX1_init 30 = .ok (.iconst 0, 1) := by decide +kernel
theorem dX1_init_31 : decode cX1_init 31 = .ok (.putfield 24, 3) := by decide +kernel
theorem dX1_init_34 : decode cX1_init 34 = .ok (.aload_n 0, 1) := by decide +kernel
theorem dX1_init_35 : decode cX1_init 35 = .ok (.iconst 0, 1) := by decide +kernel
theorem dX1_init_36 : decode cX1_init 36 = .ok (.putfield 28, 3) := by decide +kernel
theorem dX1_init_39 : decode cX1_init 39 = .ok (.return_, 1) := by decide +kernel
theorem dX0_init_0 : decode cX0_init 0 = .ok (.aload_n 0, 1) := by decide +kernel
theorem dX0_init_1 : decode cX0_init 1 = .ok (.invokespecial 3, 3) := by decide +kernel
theorem dX0_init_4 : decode cX0_init 4 = .ok (.aload_n 0, 1) := by decide +kernel
theorem dX0_init_5 : decode cX0_init 5 = .ok (.bipush 8, 2) := by decide +kernel
theorem dX0_init_7 : decode cX0_init 7 = .ok (.newarray .int, 2) := by decide +kernel
theorem dX0_init_9 : decode cX0_init 9 = .ok (.putfield 11, 3) := by decide +kernel
theorem dX0_init_12 : decode cX0_init 12 = .ok (.aload_n 0, 1) := by decide +kernel
theorem dX0_init_13 : decode cX0_init 13 = .ok (.bipush 8, 2) := by decide +kernel
theorem dX0_init_15 : decode cX0_init 15 = .ok (.newarray .long, 2) := by decide +kernel
theorem dX0_init_17 : decode cX0_init 17 = .ok (.putfield 15, 3) := by decide +kernel
theorem dX0_init_20 : decode cX0_init 20 = .ok (.return_, 1) := by decide +kernel
theorem dX1_table_0 : decode cX1_table 0 = .ok (.aload_n 0, 1) := by decide +kernel
theorem dX1_table_1 : decode cX1_table 1 = .ok (.getfield 20, 3) := by decide +kernel
theorem dX1_table_4 : decode cX1_table 4 = .ok (.lreturn, 1) := by decide +kernel
theorem dX1_rights_0 : decode cX1_rights 0 = .ok (.aload_n 0, 1) := by decide +kernel
theorem dX1_rights_1 : decode cX1_rights 1 = .ok (.iload_n 1, 1) := by decide +kernel
theorem dX1_rights_2 : decode cX1_rights 2 = .ok (.putfield 24, 3) := by decide +kernel
theorem dX1_rights_5 : decode cX1_rights 5 = .ok (.aload_n 0, 1) := by decide +kernel
theorem dX1_rights_6 : decode cX1_rights 6 = .ok (.iload_n 2, 1) := by decide +kernel
theorem dX1_rights_7 : decode cX1_rights 7 = .ok (.putfield 28, 3) := by decide +kernel
theorem dX1_rights_10 : decode cX1_rights 10 = .ok (.return_, 1) := by decide +kernel
theorem dX1_configs_0 : decode cX1_configs 0 = .ok (.aload_n 0, 1) := by decide +kernel
theorem dX1_configs_1 : decode cX1_configs 1 = .ok (.getfield 16, 3) := by decide +kernel
theorem dX1_configs_4 : decode cX1_configs 4 = .ok (.invokevirtual 50, 3) := by decide +kernel
theorem dX1_configs_7 : decode cX1_configs 7 = .ok (.lreturn, 1) := by decide +kernel
theorem dX0_packedConfigs_0 : decode cX0_packedConfigs 0 = .ok (.lconst 0, 1) := by decide +kernel
theorem dX0_packedConfigs_1 : decode cX0_packedConfigs 1 = .ok (.lstore_n 1, 1) := by decide +kernel
theorem dX0_packedConfigs_2 : decode cX0_packedConfigs 2 = .ok (.iconst 0, 1) := by decide +kernel
theorem dX0_packedConfigs_3 : decode cX0_packedConfigs 3 = .ok (.istore_n 3, 1) := by decide +kernel
theorem dX0_packedConfigs_4 : decode cX0_packedConfigs 4 = .ok (.iload_n 3, 1) := by decide +kernel
theorem dX0_packedConfigs_5 : decode cX0_packedConfigs 5 = .ok (.bipush 8, 2) := by decide +kernel
theorem dX0_packedConfigs_7 : decode cX0_packedConfigs 7 = .ok (.if_icmp .ge 24, 3) := by decide +kernel
theorem dX0_packedConfigs_10 : decode cX0_packedConfigs 10 = .ok (.lload_n 1, 1) := by decide +kernel
theorem dX0_packedConfigs_11 : decode cX0_packedConfigs 11 = .ok (.aload_n 0, 1) := by decide +kernel
theorem dX0_packedConfigs_12 : decode cX0_packedConfigs 12 = .ok (.getfield 11, 3) := by decide +kernel
theorem dX0_packedConfigs_15 : decode cX0_packedConfigs 15 = .ok (.iload_n 3, 1) := by decide +kernel
theorem dX0_packedConfigs_16 : decode cX0_packedConfigs 16 = .ok (.iaload, 1) := by decide +kernel
theorem dX0_packedConfigs_17 : decode cX0_packedConfigs 17 = .ok (.i2l, 1) := by decide +kernel
theorem dX0_packedConfigs_18 : decode cX0_packedConfigs 18 = .ok (.bipush 8, 2) := by decide +kernel
theorem dX0_packedConfigs_20 : decode cX0_packedConfigs 20 = .ok (.iload_n 3, 1) := by decide +kernel
theorem dX0_packedConfigs_21 : decode cX0_packedConfigs 21 = .ok (.imul, 1) := by decide +kernel
theorem dX0_packedConfigs_22 : decode cX0_packedConfigs 22 = .ok (.lshl, 1) := by decide +kernel
theorem dX0_packedConfigs_23 : decode cX0_packedConfigs 23 = .ok (.lor, 1) := by decide +kernel
theorem dX0_packedConfigs_24 : decode cX0_packedConfigs 24 = .ok (.lstore_n 1, 1) := by decide +kernel
theorem dX0_packedConfigs_25 : decode cX0_packedConfigs 25 = .ok (.iinc 3 1, 3) := by decide +kernel
theorem dX0_packedConfigs_28 : decode cX0_packedConfigs 28 = .ok (.goto (-24), 3) := by decide +kernel
theorem dX0_packedConfigs_31 : decode cX0_packedConfigs 31 = .ok (.lload_n 1, 1) := by decide +kernel
theorem dX0_packedConfigs_32 : decode cX0_packedConfigs 32 = .ok (.lreturn, 1) := by decide +kernel
theorem dX1_setConfigs_0 : decode cX1_setConfigs 0 = .ok (.aload_n 0, 1) := by decide +kernel
theorem dX1_setConfigs_1 : decode cX1_setConfigs 1 = .ok (.getfield 16, 3) := by decide +kernel
theorem dX1_setConfigs_4 : decode cX1_setConfigs 4 = .ok (.lload_n 1, 1) := by decide +kernel
theorem dX1_setConfigs_5 : decode cX1_setConfigs 5 = .ok (.invokevirtual 54, 3) := by decide +kernel
theorem dX1_setConfigs_8 : decode cX1_setConfigs 8 = .ok (.return_, 1) := by decide +kernel
theorem dX0_takeConfigs_0 : decode cX0_takeConfigs 0 = .ok (.iconst 0, 1) := by decide +kernel
theorem dX0_takeConfigs_1 : decode cX0_takeConfigs 1 = .ok (.istore_n 3, 1) := by decide +kernel
theorem dX0_takeConfigs_2 : decode cX0_takeConfigs 2 = .ok (.iload_n 3, 1) := by decide +kernel
theorem dX0_takeConfigs_3 : decode cX0_takeConfigs 3 = .ok (.bipush 8, 2) := by decide +kernel
theorem dX0_takeConfigs_5 : decode cX0_takeConfigs 5 = .ok (.if_icmp .ge 37, 3) := by decide +kernel
theorem dX0_takeConfigs_8 : decode cX0_takeConfigs 8 = .ok (.aload_n 0, 1) := by decide +kernel
theorem dX0_takeConfigs_9 : decode cX0_takeConfigs 9 = .ok (.getfield 11, 3) := by decide +kernel
theorem dX0_takeConfigs_12 : decode cX0_takeConfigs 12 = .ok (.iload_n 3, 1) := by decide +kernel
theorem dX0_takeConfigs_13 : decode cX0_takeConfigs 13 = .ok (.iaload, 1) := by decide +kernel
theorem dX0_takeConfigs_14 : decode cX0_takeConfigs 14 = .ok (.invokestatic 19, 3) := by decide +kernel
theorem dX0_takeConfigs_17 : decode cX0_takeConfigs 17 = .ok (.ifCond .ne 19, 3) := by decide +kernel
theorem dX0_takeConfigs_20 : decode cX0_takeConfigs 20 = .ok (.aload_n 0, 1) := by decide +kernel
theorem dX0_takeConfigs_21 : decode cX0_takeConfigs 21 = .ok (.getfield 11, 3) := by decide +kernel
theorem dX0_takeConfigs_24 : decode cX0_takeConfigs 24 = .ok (.iload_n 3, 1) := by decide +kernel
theorem dX0_takeConfigs_25 : decode cX0_takeConfigs 25 = .ok (.lload_n 1, 1) := by decide +kernel
theorem dX0_takeConfigs_26 : decode cX0_takeConfigs 26 = .ok (.bipush 8, 2) := by decide +kernel
theorem dX0_takeConfigs_28 : decode cX0_takeConfigs 28 = .ok (.iload_n 3, 1) := by decide +kernel
theorem dX0_takeConfigs_29 : decode cX0_takeConfigs 29 = .ok (.imul, 1) := by decide +kernel
theorem dX0_takeConfigs_30 : decode cX0_takeConfigs 30 = .ok (.lushr, 1) := by decide +kernel
theorem dX0_takeConfigs_31 : decode cX0_takeConfigs 31 = .ok (.l2i, 1) := by decide +kernel
theorem dX0_takeConfigs_32 : decode cX0_takeConfigs 32 = .ok (.invokestatic 23, 3) := by decide +kernel
theorem dX0_takeConfigs_35 : decode cX0_takeConfigs 35 = .ok (.iastore, 1) := by decide +kernel
theorem dX0_takeConfigs_36 : decode cX0_takeConfigs 36 = .ok (.iinc 3 1, 3) := by decide +kernel
theorem dX0_takeConfigs_39 : decode cX0_takeConfigs 39 = .ok (.goto (-37), 3) := by decide +kernel
theorem dX0_takeConfigs_42 : decode cX0_takeConfigs 42 = .ok (.return_, 1) := by decide +kernel
theorem dX0_isLocked_0 : decode cX0_isLocked 0 = .ok (.iload_n 0, 1) := by decide +kernel
theorem dX0_isLocked_1 : decode cX0_isLocked 1 = .ok (.sipush 128, 3) := by decide +kernel
theorem dX0_isLocked_4 : decode cX0_isLocked 4 = .ok (.iand, 1) := by decide +kernel
theorem dX0_isLocked_5 : decode cX0_isLocked 5 = .ok (.ifCond .eq 7, 3) := by decide +kernel
theorem dX0_isLocked_8 : decode cX0_isLocked 8 = .ok (.iconst 1, 1) := by decide +kernel
theorem dX0_isLocked_9 : decode cX0_isLocked 9 = .ok (.goto 4, 3) := by decide +kernel
theorem dX0_isLocked_12 : decode cX0_isLocked 12 = .ok (.iconst 0, 1) := by decide +kernel
theorem dX0_isLocked_13 : decode cX0_isLocked 13 = .ok (.ireturn, 1) := by decide +kernel
theorem dX0_legalConfig_0 : decode cX0_legalConfig 0 = .ok (.iload_n 0, 1) := by decide +kernel
theorem dX0_legalConfig_1 : decode cX0_legalConfig 1 = .ok (.sipush 159, 3) := by decide +kernel
theorem dX0_legalConfig_4 : decode cX0_legalConfig 4 = .ok (.iand, 1) := by decide +kernel
theorem dX0_legalConfig_5 : decode cX0_legalConfig 5 = .ok (.istore_n 1, 1) := by decide +kernel
theorem dX0_legalConfig_6 : decode cX0_legalConfig 6 = .ok (.iload_n 1, 1) := by decide +kernel
theorem dX0_legalConfig_7 : decode cX0_legalConfig 7 = .ok (.iconst 1, 1) := by decide +kernel
theorem dX0_legalConfig_8 : decode cX0_legalConfig 8 = .ok (.iand, 1) := by decide +kernel
theorem dX0_legalConfig_9 : decode cX0_legalConfig 9 = .ok (.ifCond .ne 10, 3) := by decide +kernel
theorem dX0_legalConfig_12 : decode cX0_legalConfig 12 = .ok (.iload_n 1, 1) := by decide +kernel
theorem dX0_legalConfig_13 : decode cX0_legalConfig 13 = .ok (.bipush (-3), 2) := by decide +kernel
theorem dX0_legalConfig_15 : decode cX0_legalConfig 15 = .ok (.iand, 1) := by decide +kernel
theorem dX0_legalConfig_16 : decode cX0_legalConfig 16 = .ok (.goto 4, 3) := by decide +kernel
theorem dX0_legalConfig_19 : decode cX0_legalConfig 19 = .ok (.iload_n 1, 1) := by decide +kernel
theorem dX0_legalConfig_20 : decode cX0_legalConfig 20 = .ok (.ireturn, 1) := by decide +kernel
theorem dX1_fence_0 : decode cX1_fence 0 = .ok (.return_, 1) := by decide +kernel
theorem dL_word_0 : decode cL_word 0 = .ok (.aload_n 3, 1) := by decide +kernel
theorem dL_word_1 : decode cL_word 1 = .ok (.iconst 0, 1) := by decide +kernel
theorem dL_word_2 : decode cL_word 2 = .ok (.aload_n 0, 1) := by decide +kernel
theorem dL_word_3 : decode cL_word 3 = .ok (.lload_n 1, 1) := by decide +kernel
theorem dL_word_4 : decode cL_word 4 = .ok (.invokevirtual 7, 3) := by decide +kernel
theorem dL_word_7 : decode cL_word 7 = .ok (.lastore, 1) := by decide +kernel
theorem dL_word_8 : decode cL_word 8 = .ok (.goto 7, 3) := by decide +kernel
theorem dL_word_11 : decode cL_word 11 = .ok (.astore 4, 2) := by decide +kernel
theorem dL_word_13 : decode cL_word 13 = .ok (.iconst 1, 1) := by decide +kernel
theorem dL_word_14 : decode cL_word 14 = .ok (.ireturn, 1) := by decide +kernel
theorem dL_word_15 : decode cL_word 15 = .ok (.iconst 0, 1) := by decide +kernel
theorem dL_word_16 : decode cL_word 16 = .ok (.ireturn, 1) := by decide +kernel
theorem dX1_word_0 : decode cX1_word 0 = .ok (.lload_n 1, 1) := by decide +kernel
theorem dX1_word_1 : decode cX1_word 1 = .ok (.invokestatic 31, 3) := by decide +kernel
theorem dX1_word_4 : decode cX1_word 4 = .ok (.istore_n 3, 1) := by decide +kernel
theorem dX1_word_5 : decode cX1_word 5 = .ok (.iload_n 3, 1) := by decide +kernel
theorem dX1_word_6 : decode cX1_word 6 = .ok (.iconst (-1), 1) := by decide +kernel
theorem dX1_word_7 : decode cX1_word 7 = .ok (.if_icmp .ne 13, 3) := by decide +kernel
theorem dX1_word_10 : decode cX1_word 10 = .ok (.new 35, 3) := by decide +kernel
theorem dX1_word_13 : decode cX1_word 13 = .ok (.dup, 1) := by decide +kernel
theorem dX1_word_14 : decode cX1_word 14 = .ok (.ldc 37, 2) := by decide +kernel
theorem dX1_word_16 : decode cX1_word 16 = .ok (.invokespecial 39, 3) := by decide +kernel
theorem dX1_word_19 : decode cX1_word 19 = .ok (.athrow, 1) := by decide +kernel
theorem dX1_word_20 : decode cX1_word 20 = .ok (.aload_n 0, 1) := by decide +kernel
theorem dX1_word_21 : decode cX1_word 21 = .ok (.getfield 9, 3) := by decide +kernel
theorem dX1_word_24 : decode cX1_word 24 = .ok (.iload_n 3, 1) := by decide +kernel
theorem dX1_word_25 : decode cX1_word 25 = .ok (.laload, 1) := by decide +kernel
theorem dX1_word_26 : decode cX1_word 26 = .ok (.lreturn, 1) := by decide +kernel
theorem dX1_wordIndex_0 : decode cX1_wordIndex 0 = .ok (.lload_n 0, 1) := by decide +kernel
theorem dX1_wordIndex_1 : decode cX1_wordIndex 1 = .ok (.ldc2_w 104, 3) := by decide +kernel
theorem dX1_wordIndex_4 : decode cX1_wordIndex 4 = .ok (.lsub, 1) := by decide +kernel
theorem dX1_wordIndex_5 : decode cX1_wordIndex 5 = .ok (.lstore_n 2, 1) := by decide +kernel
theorem dX1_wordIndex_6 : decode cX1_wordIndex 6 = .ok (.lload_n 2, 1) := by decide +kernel
theorem dX1_wordIndex_7 : decode cX1_wordIndex 7 = .ok (.lconst 0, 1) := by decide +kernel
theorem dX1_wordIndex_8 : decode cX1_wordIndex 8 = .ok (.lcmp, 1) := by decide +kernel
theorem dX1_wordIndex_9 : decode cX1_wordIndex 9 = .ok (.ifCond .lt 21, 3) := by decide +kernel
theorem dX1_wordIndex_12 : decode cX1_wordIndex 12 = .ok (.lload_n 2, 1) := by decide +kernel
theorem dX1_wordIndex_13 : decode cX1_wordIndex 13 = .ok (.ldc2_w 106, 3) := by decide +kernel
theorem dX1_wordIndex_16 : decode cX1_wordIndex 16 = .ok (.lcmp, 1) := by decide +kernel
theorem dX1_wordIndex_17 : decode cX1_wordIndex 17 = .ok (.ifCond .ge 13, 3) := by decide +kernel
theorem dX1_wordIndex_20 : decode cX1_wordIndex 20 = .ok (.lload_n 2, 1) := by decide +kernel
theorem dX1_wordIndex_21 : decode cX1_wordIndex 21 = .ok (.ldc2_w 108, 3) := by decide +kernel
theorem dX1_wordIndex_24 : decode cX1_wordIndex 24 = .ok (.lrem, 1) := by decide +kernel
theorem dX1_wordIndex_25 : decode cX1_wordIndex 25 = .ok (.lconst 0, 1) := by decide +kernel
theorem dX1_wordIndex_26 : decode cX1_wordIndex 26 = .ok (.lcmp, 1) := by decide +kernel
theorem dX1_wordIndex_27 : decode cX1_wordIndex 27 = .ok (.ifCond .eq 5, 3) := by decide +kernel
theorem dX1_wordIndex_30 : decode cX1_wordIndex 30 = .ok (.iconst (-1), 1) := by decide +kernel
theorem dX1_wordIndex_31 : decode cX1_wordIndex 31 = .ok (.ireturn, 1) := by decide +kernel
theorem dX1_wordIndex_32 : decode cX1_wordIndex 32 = .ok (.lload_n 2, 1) := by decide +kernel
theorem dX1_wordIndex_33 : decode cX1_wordIndex 33 = .ok (.ldc2_w 108, 3) := by decide +kernel
theorem dX1_wordIndex_36 : decode cX1_wordIndex 36 = .ok (.ldiv, 1) := by decide +kernel
theorem dX1_wordIndex_37 : decode cX1_wordIndex 37 = .ok (.l2i, 1) := by decide +kernel
theorem dX1_wordIndex_38 : decode cX1_wordIndex 38 = .ok (.ireturn, 1) := by decide +kernel
theorem dL_put_0 : decode cL_put 0 = .ok (.aload_n 0, 1) := by decide +kernel
theorem dL_put_1 : decode cL_put 1 = .ok (.lload_n 1, 1) := by decide +kernel
theorem dL_put_2 : decode cL_put 2 = .ok (.lload_n 3, 1) := by decide +kernel
theorem dL_put_3 : decode cL_put 3 = .ok (.invokevirtual 15, 3) := by decide +kernel
theorem dL_put_6 : decode cL_put 6 = .ok (.goto 7, 3) := by decide +kernel
theorem dL_put_9 : decode cL_put 9 = .ok (.astore 5, 2) := by decide +kernel
theorem dL_put_11 : decode cL_put 11 = .ok (.iconst 1, 1) := by decide +kernel
theorem dL_put_12 : decode cL_put 12 = .ok (.ireturn, 1) := by decide +kernel
theorem dL_put_13 : decode cL_put 13 = .ok (.iconst 0, 1) := by decide +kernel
theorem dL_put_14 : decode cL_put 14 = .ok (.ireturn, 1) := by decide +kernel
theorem dX1_put_0 : decode cX1_put 0 = .ok (.lload_n 1, 1) := by decide +kernel
theorem dX1_put_1 : decode cX1_put 1 = .ok (.invokestatic 31, 3) := by decide +kernel
theorem dX1_put_4 : decode cX1_put 4 = .ok (.istore 5, 2) := by decide +kernel
theorem dX1_put_6 : decode cX1_put 6 = .ok (.iload 5, 2) := by decide +kernel
theorem dX1_put_8 : decode cX1_put 8 = .ok (.iconst (-1), 1) := by decide +kernel
theorem dX1_put_9 : decode cX1_put 9 = .ok (.if_icmp .ne 13, 3) := by decide +kernel
theorem dX1_put_12 : decode cX1_put 12 = .ok (.new 35, 3) := by decide +kernel
theorem dX1_put_15 : decode cX1_put 15 = .ok (.dup, 1) := by decide +kernel
theorem dX1_put_16 : decode cX1_put 16 = .ok (.ldc 37, 2) := by decide +kernel
theorem dX1_put_18 : decode cX1_put 18 = .ok (.invokespecial 39, 3) := by decide +kernel
theorem dX1_put_21 : decode cX1_put 21 = .ok (.athrow, 1) := by decide +kernel
theorem dX1_put_22 : decode cX1_put 22 = .ok (.aload_n 0, 1) := by decide +kernel
theorem dX1_put_23 : decode cX1_put 23 = .ok (.getfield 9, 3) := by decide +kernel
theorem dX1_put_26 : decode cX1_put 26 = .ok (.iload 5, 2) := by decide +kernel
theorem dX1_put_28 : decode cX1_put 28 = .ok (.lload_n 3, 1) := by decide +kernel
theorem dX1_put_29 : decode cX1_put 29 = .ok (.lastore, 1) := by decide +kernel
theorem dX1_put_30 : decode cX1_put 30 = .ok (.return_, 1) := by decide +kernel
theorem dL_setTable_0 : decode cL_setTable 0 = .ok (.aload_n 0, 1) := by decide +kernel
theorem dL_setTable_1 : decode cL_setTable 1 = .ok (.lload_n 1, 1) := by decide +kernel
theorem dL_setTable_2 : decode cL_setTable 2 = .ok (.invokevirtual 19, 3) := by decide +kernel
theorem dL_setTable_5 : decode cL_setTable 5 = .ok (.goto 6, 3) := by decide +kernel
theorem dL_setTable_8 : decode cL_setTable 8 = .ok (.astore_n 3, 1) := by decide +kernel
theorem dL_setTable_9 : decode cL_setTable 9 = .ok (.iconst 1, 1) := by decide +kernel
theorem dL_setTable_10 : decode cL_setTable 10 = .ok (.ireturn, 1) := by decide +kernel
theorem dL_setTable_11 : decode cL_setTable 11 = .ok (.iconst 0, 1) := by decide +kernel
theorem dL_setTable_12 : decode cL_setTable 12 = .ok (.ireturn, 1) := by decide +kernel
theorem dX1_setTable_0 : decode cX1_setTable 0 = .ok (.lload_n 1, 1) := by decide +kernel
theorem dX1_setTable_1 : decode cX1_setTable 1 = .ok (.invokestatic 42, 3) := by decide +kernel
theorem dX1_setTable_4 : decode cX1_setTable 4 = .ok (.istore_n 3, 1) := by decide +kernel
theorem dX1_setTable_5 : decode cX1_setTable 5 = .ok (.iload_n 3, 1) := by decide +kernel
theorem dX1_setTable_6 : decode cX1_setTable 6 = .ok (.ifCond .eq 25, 3) := by decide +kernel
theorem dX1_setTable_9 : decode cX1_setTable 9 = .ok (.iload_n 3, 1) := by decide +kernel
theorem dX1_setTable_10 : decode cX1_setTable 10 = .ok (.bipush 8, 2) := by decide +kernel
theorem dX1_setTable_12 : decode cX1_setTable 12 = .ok (.if_icmp .eq 19, 3) := by decide +kernel
theorem dX1_setTable_15 : decode cX1_setTable 15 = .ok (.iload_n 3, 1) := by decide +kernel
theorem dX1_setTable_16 : decode cX1_setTable 16 = .ok (.bipush 9, 2) := by decide +kernel
theorem dX1_setTable_18 : decode cX1_setTable 18 = .ok (.if_icmp .eq 13, 3) := by decide +kernel
theorem dX1_setTable_21 : decode cX1_setTable 21 = .ok (.new 45, 3) := by decide +kernel
theorem dX1_setTable_24 : decode cX1_setTable 24 = .ok (.dup, 1) := by decide +kernel
theorem dX1_setTable_25 : decode cX1_setTable 25 = .ok (.ldc 47, 2) := by decide +kernel
theorem dX1_setTable_27 : decode cX1_setTable 27 = .ok (.invokespecial 49, 3) := by decide +kernel
theorem dX1_setTable_30 : decode cX1_setTable 30 = .ok (.athrow, 1) := by decide +kernel
theorem dX1_setTable_31 : decode cX1_setTable 31 = .ok (.aload_n 0, 1) := by decide +kernel
theorem dX1_setTable_32 : decode cX1_setTable 32 = .ok (.lload_n 1, 1) := by decide +kernel
theorem dX1_setTable_33 : decode cX1_setTable 33 = .ok (.putfield 20, 3) := by decide +kernel
theorem dX1_setTable_36 : decode cX1_setTable 36 = .ok (.return_, 1) := by decide +kernel
theorem dX1_sortOf_0 : decode cX1_sortOf 0 = .ok (.lload_n 0, 1) := by decide +kernel
theorem dX1_sortOf_1 : decode cX1_sortOf 1 = .ok (.bipush 60, 2) := by decide +kernel
theorem dX1_sortOf_3 : decode cX1_sortOf 3 = .ok (.lushr, 1) := by decide +kernel
theorem dX1_sortOf_4 : decode cX1_sortOf 4 = .ok (.l2i, 1) := by decide +kernel
theorem dX1_sortOf_5 : decode cX1_sortOf 5 = .ok (.ireturn, 1) := by decide +kernel
theorem dL_number_0 : decode cL_number 0 = .ok (.aload_n 2, 1) := by decide +kernel
theorem dL_number_1 : decode cL_number 1 = .ok (.iconst 0, 1) := by decide +kernel
theorem dL_number_2 : decode cL_number 2 = .ok (.aload_n 0, 1) := by decide +kernel
theorem dL_number_3 : decode cL_number 3 = .ok (.iload_n 1, 1) := by decide +kernel
theorem dL_number_4 : decode cL_number 4 = .ok (.invokevirtual 25, 3) := by decide +kernel
theorem dL_number_7 : decode cL_number 7 = .ok (.lastore, 1) := by decide +kernel
theorem dL_number_8 : decode cL_number 8 = .ok (.goto 6, 3) := by decide +kernel
theorem dL_number_11 : decode cL_number 11 = .ok (.astore_n 3, 1) := by decide +kernel
theorem dL_number_12 : decode cL_number 12 = .ok (.iconst 1, 1) := by decide +kernel
theorem dL_number_13 : decode cL_number 13 = .ok (.ireturn, 1) := by decide +kernel
theorem dL_number_14 : decode cL_number 14 = .ok (.iconst 0, 1) := by decide +kernel
theorem dL_number_15 : decode cL_number 15 = .ok (.ireturn, 1) := by decide +kernel
theorem dX1_number_0 : decode cX1_number 0 = .ok (.aload_n 0, 1) := by decide +kernel
theorem dX1_number_1 : decode cX1_number 1 = .ok (.getfield 16, 3) := by decide +kernel
theorem dX1_number_4 : decode cX1_number 4 = .ok (.iload_n 1, 1) := by decide +kernel
theorem dX1_number_5 : decode cX1_number 5 = .ok (.invokevirtual 58, 3) := by decide +kernel
theorem dX1_number_8 : decode cX1_number 8 = .ok (.lreturn, 1) := by decide +kernel
theorem dX0_numberOf_0 : decode cX0_numberOf 0 = .ok (.iload_n 1, 1) := by decide +kernel
theorem dX0_numberOf_1 : decode cX0_numberOf 1 = .ok (.ifCond .lt 9, 3) := by decide +kernel
theorem dX0_numberOf_4 : decode cX0_numberOf 4 = .ok (.iload_n 1, 1) := by decide +kernel
theorem dX0_numberOf_5 : decode cX0_numberOf 5 = .ok (.bipush 8, 2) := by decide +kernel
theorem dX0_numberOf_7 : decode cX0_numberOf 7 = .ok (.if_icmp .lt 13, 3) := by decide +kernel
theorem dX0_numberOf_10 : decode cX0_numberOf 10 = .ok (.new 27, 3) := by decide +kernel
theorem dX0_numberOf_13 : decode cX0_numberOf 13 = .ok (.dup, 1) := by decide +kernel
theorem dX0_numberOf_14 : decode cX0_numberOf 14 = .ok (.ldc 29, 2) := by decide +kernel
theorem dX0_numberOf_16 : decode cX0_numberOf 16 = .ok (.invokespecial 31, 3) := by decide +kernel
theorem dX0_numberOf_19 : decode cX0_numberOf 19 = .ok (.athrow, 1) := by decide +kernel
theorem dX0_numberOf_20 : decode cX0_numberOf 20 = .ok (.aload_n 0, 1) := by decide +kernel
theorem dX0_numberOf_21 : decode cX0_numberOf 21 = .ok (.getfield 15, 3) := by decide +kernel
theorem dX0_numberOf_24 : decode cX0_numberOf 24 = .ok (.iload_n 1, 1) := by decide +kernel
theorem dX0_numberOf_25 : decode cX0_numberOf 25 = .ok (.laload, 1) := by decide +kernel
theorem dX0_numberOf_26 : decode cX0_numberOf 26 = .ok (.lreturn, 1) := by decide +kernel
theorem dL_setNumber_0 : decode cL_setNumber 0 = .ok (.aload_n 0, 1) := by decide +kernel
theorem dL_setNumber_1 : decode cL_setNumber 1 = .ok (.iload_n 1, 1) := by decide +kernel
theorem dL_setNumber_2 : decode cL_setNumber 2 = .ok (.lload_n 2, 1) := by decide +kernel
theorem dL_setNumber_3 : decode cL_setNumber 3 = .ok (.invokevirtual 29, 3) := by decide +kernel
theorem dL_setNumber_6 : decode cL_setNumber 6 = .ok (.goto 7, 3) := by decide +kernel
theorem dL_setNumber_9 : decode cL_setNumber 9 = .ok (.astore 4, 2) := by decide +kernel
theorem dL_setNumber_11 : decode cL_setNumber 11 = .ok (.iconst 1, 1) := by decide +kernel
theorem dL_setNumber_12 : decode cL_setNumber 12 = .ok (.ireturn, 1) := by decide +kernel
theorem dL_setNumber_13 : decode cL_setNumber 13 = .ok (.iconst 0, 1) := by decide +kernel
theorem dL_setNumber_14 : decode cL_setNumber 14 = .ok (.ireturn, 1) := by decide +kernel
theorem dX1_setNumber_0 : decode cX1_setNumber 0 = .ok (.aload_n 0, 1) := by decide +kernel
theorem dX1_setNumber_1 : decode cX1_setNumber 1 = .ok (.getfield 16, 3) := by decide +kernel
theorem dX1_setNumber_4 : decode cX1_setNumber 4 = .ok (.iload_n 1, 1) := by decide +kernel
theorem dX1_setNumber_5 : decode cX1_setNumber 5 = .ok (.lload_n 2, 1) := by decide +kernel
theorem dX1_setNumber_6 : decode cX1_setNumber 6 = .ok (.invokevirtual 62, 3) := by decide +kernel
theorem dX1_setNumber_9 : decode cX1_setNumber 9 = .ok (.return_, 1) := by decide +kernel
theorem dX0_takeNumber_0 : decode cX0_takeNumber 0 = .ok (.iload_n 1, 1) := by decide +kernel
theorem dX0_takeNumber_1 : decode cX0_takeNumber 1 = .ok (.ifCond .lt 9, 3) := by decide +kernel
theorem dX0_takeNumber_4 : decode cX0_takeNumber 4 = .ok (.iload_n 1, 1) := by decide +kernel
theorem dX0_takeNumber_5 : decode cX0_takeNumber 5 = .ok (.bipush 8, 2) := by decide +kernel
theorem dX0_takeNumber_7 : decode cX0_takeNumber 7 = .ok (.if_icmp .lt 13, 3) := by decide +kernel
theorem dX0_takeNumber_10 : decode cX0_takeNumber 10 = .ok (.new 27, 3) := by decide +kernel
theorem dX0_takeNumber_13 : decode cX0_takeNumber 13 = .ok (.dup, 1) := by decide +kernel
theorem dX0_takeNumber_14 : decode cX0_takeNumber 14 = .ok (.ldc 29, 2) := by decide +kernel
theorem dX0_takeNumber_16 : decode cX0_takeNumber 16 = .ok (.invokespecial 31, 3) := by decide +kernel
theorem dX0_takeNumber_19 : decode cX0_takeNumber 19 = .ok (.athrow, 1) := by decide +kernel
theorem dX0_takeNumber_20 : decode cX0_takeNumber 20 = .ok (.iload_n 1, 1) := by decide +kernel
theorem dX0_takeNumber_21 : decode cX0_takeNumber 21 = .ok (.iconst 1, 1) := by decide +kernel
theorem dX0_takeNumber_22 : decode cX0_takeNumber 22 = .ok (.iadd, 1) := by decide +kernel
theorem dX0_takeNumber_23 : decode cX0_takeNumber 23 = .ok (.bipush 8, 2) := by decide +kernel
theorem dX0_takeNumber_25 : decode cX0_takeNumber 25 = .ok (.if_icmp .ge 21, 3) := by decide +kernel
theorem dX0_takeNumber_28 : decode cX0_takeNumber 28 = .ok (.aload_n 0, 1) := by decide +kernel
theorem dX0_takeNumber_29 : decode cX0_takeNumber 29 = .ok (.getfield 11, 3) := by decide +kernel
theorem dX0_takeNumber_32 : decode cX0_takeNumber 32 = .ok (.iload_n 1, 1) := by decide +kernel
theorem dX0_takeNumber_33 : decode cX0_takeNumber 33 = .ok (.iconst 1, 1) := by decide +kernel
theorem dX0_takeNumber_34 : decode cX0_takeNumber 34 = .ok (.iadd, 1) := by decide +kernel
theorem dX0_takeNumber_35 : decode cX0_takeNumber 35 = .ok (.iaload, 1) := by decide +kernel
theorem dX0_takeNumber_36 : decode cX0_takeNumber 36 = .ok (.invokestatic 34, 3) := by decide +kernel
theorem dX0_takeNumber_39 : decode cX0_takeNumber 39 = .ok (.ifCond .eq 7, 3) := by decide +kernel
theorem dX0_takeNumber_42 : decode cX0_takeNumber 42 = .ok (.iconst 1, 1) := by decide +kernel
theorem dX0_takeNumber_43 : decode cX0_takeNumber 43 = .ok (.goto 4, 3) := by decide +kernel
theorem dX0_takeNumber_46 : decode cX0_takeNumber 46 = .ok (.iconst 0, 1) := by decide +kernel
theorem dX0_takeNumber_47 : decode cX0_takeNumber 47 = .ok (.istore 4, 2) := by decide +kernel
theorem dX0_takeNumber_49 : decode cX0_takeNumber 49 = .ok (.aload_n 0, 1) := by decide +kernel
theorem dX0_takeNumber_50 : decode cX0_takeNumber 50 = .ok (.getfield 11, 3) := by decide +kernel
theorem dX0_takeNumber_53 : decode cX0_takeNumber 53 = .ok (.iload_n 1, 1) := by decide +kernel
theorem dX0_takeNumber_54 : decode cX0_takeNumber 54 = .ok (.iaload, 1) := by decide +kernel
theorem dX0_takeNumber_55 : decode cX0_takeNumber 55 = .ok (.invokestatic 19, 3) := by decide +kernel
theorem dX0_takeNumber_58 : decode cX0_takeNumber 58 = .ok (.ifCond .ne 19, 3) := by decide +kernel
theorem dX0_takeNumber_61 : decode cX0_takeNumber 61 = .ok (.iload 4, 2) := by decide +kernel
theorem dX0_takeNumber_63 : decode cX0_takeNumber 63 = .ok (.ifCond .ne 14, 3) := by decide +kernel
theorem dX0_takeNumber_66 : decode cX0_takeNumber 66 = .ok (.aload_n 0, 1) := by decide +kernel
theorem dX0_takeNumber_67 : decode cX0_takeNumber 67 = .ok (.getfield 15, 3) := by decide +kernel
theorem dX0_takeNumber_70 : decode cX0_takeNumber 70 = .ok (.iload_n 1, 1) := by decide +kernel
theorem dX0_takeNumber_71 : decode cX0_takeNumber 71 = .ok (.lload_n 2, 1) := by decide +kernel
theorem dX0_takeNumber_72 : decode cX0_takeNumber 72 = .ok (.ldc2_w 37, 3) := by decide +kernel
theorem dX0_takeNumber_75 : decode cX0_takeNumber 75 = .ok (.land, 1) := by decide +kernel
theorem dX0_takeNumber_76 : decode cX0_takeNumber 76 = .ok (.lastore, 1) := by decide +kernel
theorem dX0_takeNumber_77 : decode cX0_takeNumber 77 = .ok (.return_, 1) := by decide +kernel
theorem dX0_fixesNumberBefore_0 : decode cX0_fixesNumberBefore 0 = .ok (.iload_n 0, 1) := by decide +kernel
theorem dX0_fixesNumberBefore_1 : decode cX0_fixesNumberBefore 1 = .ok (.invokestatic 19, 3) := by decide +kernel
theorem dX0_fixesNumberBefore_4 : decode cX0_fixesNumberBefore 4 = .ok (.ifCond .eq 15, 3) := by decide +kernel
theorem dX0_fixesNumberBefore_7 : decode cX0_fixesNumberBefore 7 = .ok (.iload_n 0, 1) := by decide +kernel
theorem dX0_fixesNumberBefore_8 : decode cX0_fixesNumberBefore 8 = .ok (.invokestatic 51, 3) := by decide +kernel
theorem dX0_fixesNumberBefore_11 : decode cX0_fixesNumberBefore 11 = .ok (.iconst 1, 1) := by decide +kernel
theorem dX0_fixesNumberBefore_12 : decode cX0_fixesNumberBefore 12 = .ok (.if_icmp .ne 7, 3) := by decide +kernel
theorem dX0_fixesNumberBefore_15 : decode cX0_fixesNumberBefore 15 = .ok (.iconst 1, 1) := by decide +kernel
theorem dX0_fixesNumberBefore_16 : decode cX0_fixesNumberBefore 16 = .ok (.goto 4, 3) := by decide +kernel
theorem dX0_fixesNumberBefore_19 : decode cX0_fixesNumberBefore 19 = .ok (.iconst 0, 1) := by decide +kernel
theorem dX0_fixesNumberBefore_20 : decode cX0_fixesNumberBefore 20 = .ok (.ireturn, 1) := by decide +kernel
theorem dX0_kindOf_0 : decode cX0_kindOf 0 = .ok (.iload_n 0, 1) := by decide +kernel
theorem dX0_kindOf_1 : decode cX0_kindOf 1 = .ok (.iconst 3, 1) := by decide +kernel
theorem dX0_kindOf_2 : decode cX0_kindOf 2 = .ok (.ishr, 1) := by decide +kernel
theorem dX0_kindOf_3 : decode cX0_kindOf 3 = .ok (.iconst 3, 1) := by decide +kernel
theorem dX0_kindOf_4 : decode cX0_kindOf 4 = .ok (.iand, 1) := by decide +kernel
theorem dX0_kindOf_5 : decode cX0_kindOf 5 = .ok (.ireturn, 1) := by decide +kernel
theorem dL_find_0 : decode cL_find 0 = .ok (.aload 6, 2) := by decide +kernel
theorem dL_find_2 : decode cL_find 2 = .ok (.iconst 0, 1) := by decide +kernel
theorem dL_find_3 : decode cL_find 3 = .ok (.aload_n 0, 1) := by decide +kernel
theorem dL_find_4 : decode cL_find 4 = .ok (.lload_n 1, 1) := by decide +kernel
theorem dL_find_5 : decode cL_find 5 = .ok (.iload_n 3, 1) := by decide +kernel
theorem dL_find_6 : decode cL_find 6 = .ok (.iload 4, 2) := by decide +kernel
theorem dL_find_8 : decode cL_find 8 = .ok (.iload 5, 2) := by decide +kernel
theorem dL_find_10 : decode cL_find 10 = .ok (.invokevirtual 33, 3) := by decide +kernel
theorem dL_find_13 : decode cL_find 13 = .ok (.lastore, 1) := by decide +kernel
theorem dL_find_14 : decode cL_find 14 = .ok (.goto 7, 3) := by decide +kernel
theorem dL_find_17 : decode cL_find 17 = .ok (.astore 7, 2) := by decide +kernel
theorem dL_find_19 : decode cL_find 19 = .ok (.iconst 1, 1) := by decide +kernel
theorem dL_find_20 : decode cL_find 20 = .ok (.ireturn, 1) := by decide +kernel
theorem dL_find_21 : decode cL_find 21 = .ok (.iconst 0, 1) := by decide +kernel
theorem dL_find_22 : decode cL_find 22 = .ok (.ireturn, 1) := by decide +kernel
theorem dX1_find_0 : decode cX1_find 0 = .ok (.lload_n 1, 1) := by decide +kernel
theorem dX1_find_1 : decode cX1_find 1 = .ok (.iload_n 3, 1) := by decide +kernel
theorem dX1_find_2 : decode cX1_find 2 = .ok (.iload 4, 2) := by decide +kernel
theorem dX1_find_4 : decode cX1_find 4 = .ok (.iload 5, 2) := by decide +kernel
theorem dX1_find_6 : decode cX1_find 6 = .ok (.invokestatic 66, 3) := by decide +kernel
theorem dX1_find_9 : decode cX1_find 9 = .ok (.ifCond .ne 13, 3) := by decide +kernel
theorem dX1_find_12 : decode cX1_find 12 = .ok (.new 45, 3) := by decide +kernel
theorem dX1_find_15 : decode cX1_find 15 = .ok (.dup, 1) := by decide +kernel
theorem dX1_find_16 : decode cX1_find 16 = .ok (.ldc 70, 2) := by decide +kernel
theorem dX1_find_18 : decode cX1_find 18 = .ok (.invokespecial 49, 3) := by decide +kernel
theorem dX1_find_21 : decode cX1_find 21 = .ok (.athrow, 1) := by decide +kernel
theorem dX1_find_22 : decode cX1_find 22 = .ok (.aload_n 0, 1) := by decide +kernel
theorem dX1_find_23 : decode cX1_find 23 = .ok (.lload_n 1, 1) := by decide +kernel
theorem dX1_find_24 : decode cX1_find 24 = .ok (.iload_n 3, 1) := by decide +kernel
theorem dX1_find_25 : decode cX1_find 25 = .ok (.iload 4, 2) := by decide +kernel
theorem dX1_find_27 : decode cX1_find 27 = .ok (.invokevirtual 72, 3) := by decide +kernel
theorem dX1_find_30 : decode cX1_find 30 = .ok (.lstore 6, 2) := by decide +kernel
theorem dX1_find_32 : decode cX1_find 32 = .ok (.lload 6, 2) := by decide +kernel
theorem dX1_find_34 : decode cX1_find 34 = .ok (.lconst 0, 1) := by decide +kernel
theorem dX1_find_35 : decode cX1_find 35 = .ok (.lcmp, 1) := by decide +kernel
theorem dX1_find_36 : decode cX1_find 36 = .ok (.ifCond .ge 6, 3) := by decide +kernel
theorem dX1_find_39 : decode cX1_find 39 = .ok (.lload 6, 2) := by decide +kernel
theorem dX1_find_41 : decode cX1_find 41 = .ok (.lreturn, 1) := by decide +kernel
theorem dX1_find_42 : decode cX1_find 42 = .ok (.aload_n 0, 1) := by decide +kernel
theorem dX1_find_43 : decode cX1_find 43 = .ok (.getfield 16, 3) := by decide +kernel
theorem dX1_find_46 : decode cX1_find 46 = .ok (.lload 6, 2) := by decide +kernel
theorem dX1_find_48 : decode cX1_find 48 = .ok (.iload_n 3, 1) := by decide +kernel
theorem dX1_find_49 : decode cX1_find 49 = .ok (.iload 4, 2) := by decide +kernel
theorem dX1_find_51 : decode cX1_find 51 = .ok (.iload 5, 2) := by decide +kernel
theorem dX1_find_53 : decode cX1_find 53 = .ok (.invokevirtual 76, 3) := by decide +kernel
theorem dX1_find_56 : decode cX1_find 56 = .ok (.ifCond .eq 8, 3) := by decide +kernel
theorem dX1_find_59 : decode cX1_find 59 = .ok (.lload 6, 2) := by decide +kernel
theorem dX1_find_61 : decode cX1_find 61 = .ok (.goto 7, 3) := by decide +kernel
theorem dX1_find_64 : decode cX1_find 64 = .ok (.iload_n 3, 1) := by decide +kernel
theorem dX1_find_65 : decode cX1_find 65 = .ok (.invokestatic 79, 3) := by decide +kernel
theorem dX1_find_68 : decode cX1_find 68 = .ok (.lreturn, 1) := by decide +kernel
theorem dX1_isAccess_0 : decode cX1_isAccess 0 = .ok (.iload_n 2, 1) := by decide +kernel
theorem dX1_isAccess_1 : decode cX1_isAccess 1 = .ok (.ifCond .eq 13, 3) := by decide +kernel
theorem dX1_isAccess_4 : decode cX1_isAccess 4 = .ok (.iload_n 2, 1) := by decide +kernel
theorem dX1_isAccess_5 : decode cX1_isAccess 5 = .ok (.iconst 1, 1) := by decide +kernel
theorem dX1_isAccess_6 : decode cX1_isAccess 6 = .ok (.if_icmp .eq 8, 3) := by decide +kernel
theorem dX1_isAccess_9 : decode cX1_isAccess 9 = .ok (.iload_n 2, 1) := by decide +kernel
theorem dX1_isAccess_10 : decode cX1_isAccess 10 = .ok (.iconst 2, 1) := by decide +kernel
theorem dX1_isAccess_11 : decode cX1_isAccess 11 = .ok (.if_icmp .ne 62, 3) := by decide +kernel
theorem dX1_isAccess_14 : decode cX1_isAccess 14 = .ok (.iload_n 3, 1) := by decide +kernel
theorem dX1_isAccess_15 : decode cX1_isAccess 15 = .ok (.ifCond .eq 13, 3) := by decide +kernel
theorem dX1_isAccess_18 : decode cX1_isAccess 18 = .ok (.iload_n 3, 1) := by decide +kernel
theorem dX1_isAccess_19 : decode cX1_isAccess 19 = .ok (.iconst 1, 1) := by decide +kernel
theorem dX1_isAccess_20 : decode cX1_isAccess 20 = .ok (.if_icmp .eq 8, 3) := by decide +kernel
theorem dX1_isAccess_23 : decode cX1_isAccess 23 = .ok (.iload_n 3, 1) := by decide +kernel
theorem dX1_isAccess_24 : decode cX1_isAccess 24 = .ok (.iconst 3, 1) := by decide +kernel
theorem dX1_isAccess_25 : decode cX1_isAccess 25 = .ok (.if_icmp .ne 48, 3) := by decide +kernel
theorem dX1_isAccess_28 : decode cX1_isAccess 28 = .ok (.iload 4, 2) := by decide +kernel
theorem dX1_isAccess_30 : decode cX1_isAccess 30 = .ok (.iconst 1, 1) := by decide +kernel
theorem dX1_isAccess_31 : decode cX1_isAccess 31 = .ok (.if_icmp .eq 22, 3) := by decide +kernel
theorem dX1_isAccess_34 : decode cX1_isAccess 34 = .ok (.iload 4, 2) := by decide +kernel
theorem dX1_isAccess_36 : decode cX1_isAccess 36 = .ok (.iconst 2, 1) := by decide +kernel
theorem dX1_isAccess_37 : decode cX1_isAccess 37 = .ok (.if_icmp .eq 16, 3) := by decide +kernel
theorem dX1_isAccess_40 : decode cX1_isAccess 40 = .ok (.iload 4, 2) := by decide +kernel
theorem dX1_isAccess_42 : decode cX1_isAccess 42 = .ok (.iconst 4, 1) := by decide +kernel
theorem dX1_isAccess_43 : decode cX1_isAccess 43 = .ok (.if_icmp .eq 10, 3) := by decide +kernel
theorem dX1_isAccess_46 : decode cX1_isAccess 46 = .ok (.iload 4, 2) := by decide +kernel
theorem dX1_isAccess_48 : decode cX1_isAccess 48 = .ok (.bipush 8, 2) := by decide +kernel
theorem dX1_isAccess_50 : decode cX1_isAccess 50 = .ok (.if_icmp .ne 23, 3) := by decide +kernel
theorem dX1_isAccess_53 : decode cX1_isAccess 53 = .ok (.lload_n 0, 1) := by decide +kernel
theorem dX1_isAccess_54 : decode cX1_isAccess 54 = .ok (.ldc2_w 88, 3) := by decide +kernel
theorem dX1_isAccess_57 : decode cX1_isAccess 57 = .ok (.land, 1) := by decide +kernel
theorem dX1_isAccess_58 : decode cX1_isAccess 58 = .ok (.iload 4, 2) := by decide +kernel
theorem dX1_isAccess_60 : decode cX1_isAccess 60 = .ok (.i2l, 1) := by decide +kernel
theorem dX1_isAccess_61 : decode cX1_isAccess 61 = .ok (.ladd, 1) := by decide +kernel
theorem dX1_isAccess_62 : decode cX1_isAccess 62 = .ok (.ldc2_w 90, 3) := by decide +kernel
theorem dX1_isAccess_65 : decode cX1_isAccess 65 = .ok (.lcmp, 1) := by decide +kernel
theorem dX1_isAccess_66 : decode cX1_isAccess 66 = .ok (.ifCond .gt 7, 3) := by decide +kernel
theorem dX1_isAccess_69 : decode cX1_isAccess 69 = .ok (.iconst 1, 1) := by decide +kernel
theorem dX1_isAccess_70 : decode cX1_isAccess 70 = .ok (.goto 4, 3) := by decide +kernel
theorem dX1_isAccess_73 : decode cX1_isAccess 73 = .ok (.iconst 0, 1) := by decide +kernel
theorem dX1_isAccess_74 : decode cX1_isAccess 74 = .ok (.ireturn, 1) := by decide +kernel
theorem dX1_translate_0 : decode cX1_translate 0 = .ok (.aload_n 0, 1) := by decide +kernel
theorem dX1_translate_1 : decode cX1_translate 1 = .ok (.getfield 20, 3) := by decide +kernel
theorem dX1_translate_4 : decode cX1_translate 4 = .ok (.invokestatic 42, 3) := by decide +kernel
theorem dX1_translate_7 : decode cX1_translate 7 = .ok (.istore 5, 2) := by decide +kernel
theorem dX1_translate_9 : decode cX1_translate 9 = .ok (.iload 4, 2) := by decide +kernel
theorem dX1_translate_11 : decode cX1_translate 11 = .ok (.iconst 3, 1) := by decide +kernel
theorem dX1_translate_12 : decode cX1_translate 12 = .ok (.if_icmp .eq 8, 3) := by decide +kernel
theorem dX1_translate_15 : decode cX1_translate 15 = .ok (.iload 5, 2) := by decide +kernel
theorem dX1_translate_17 : decode cX1_translate 17 = .ok (.ifCond .ne 19, 3) := by decide +kernel
theorem dX1_translate_20 : decode cX1_translate 20 = .ok (.lload_n 1, 1) := by decide +kernel
theorem dX1_translate_21 : decode cX1_translate 21 = .ok (.invokestatic 82, 3) := by decide +kernel
theorem dX1_translate_24 : decode cX1_translate 24 = .ok (.ifCond .eq 7, 3) := by decide +kernel
theorem dX1_translate_27 : decode cX1_translate 27 = .ok (.lload_n 1, 1) := by decide +kernel
theorem dX1_translate_28 : decode cX1_translate 28 = .ok (.goto 7, 3) := by decide +kernel
theorem dX1_translate_31 : decode cX1_translate 31 = .ok (.iload_n 3, 1) := by decide +kernel
theorem dX1_translate_32 : decode cX1_translate 32 = .ok (.invokestatic 79, 3) := by decide +kernel
theorem dX1_translate_35 : decode cX1_translate 35 = .ok (.lreturn, 1) := by decide +kernel
theorem dX1_translate_36 : decode cX1_translate 36 = .ok (.iload 5, 2) := by decide +kernel
theorem dX1_translate_38 : decode cX1_translate 38 = .ok (.bipush 8, 2) := by decide +kernel
theorem dX1_translate_40 : decode cX1_translate 40 = .ok (.if_icmp .ne 7, 3) := by decide +kernel
theorem dX1_translate_43 : decode cX1_translate 43 = .ok (.iconst 3, 1) := by decide +kernel
theorem dX1_translate_44 : decode cX1_translate 44 = .ok (.goto 4, 3) := by decide +kernel
theorem dX1_translate_47 : decode cX1_translate 47 = .ok (.iconst 4, 1) := by decide +kernel
theorem dX1_translate_48 : decode cX1_translate 48 = .ok (.istore 6, 2) := by decide +kernel
theorem dX1_translate_50 : decode cX1_translate 50 = .ok (.lload_n 1, 1) := by decide +kernel
theorem dX1_translate_51 : decode cX1_translate 51 = .ok (.bipush 12, 2) := by decide +kernel
theorem dX1_translate_53 : decode cX1_translate 53 = .ok (.bipush 9, 2) := by decide +kernel
theorem dX1_translate_55 : decode cX1_translate 55 = .ok (.iload 6, 2) := by decide +kernel
theorem dX1_translate_57 : decode cX1_translate 57 = .ok (.imul, 1) := by decide +kernel
theorem dX1_translate_58 : decode cX1_translate 58 = .ok (.iadd, 1) := by decide +kernel
theorem dX1_translate_59 : decode cX1_translate 59 = .ok (.iconst 1, 1) := by decide +kernel
theorem dX1_translate_60 : decode cX1_translate 60 = .ok (.isub, 1) := by decide +kernel
theorem dX1_translate_61 : decode cX1_translate 61 = .ok (.lshr, 1) := by decide +kernel
theorem dX1_translate_62 : decode cX1_translate 62 = .ok (.lstore 7, 2) := by decide +kernel
theorem dX1_translate_64 : decode cX1_translate 64 = .ok (.lload 7, 2) := by decide +kernel
theorem dX1_translate_66 : decode cX1_translate 66 = .ok (.lconst 0, 1) := by decide +kernel
theorem dX1_translate_67 : decode cX1_translate 67 = .ok (.lcmp, 1) := by decide +kernel
theorem dX1_translate_68 : decode cX1_translate 68 = .ok (.ifCond .eq 17, 3) := by decide +kernel
theorem dX1_translate_71 : decode cX1_translate 71 = .ok (.lload 7, 2) := by decide +kernel
theorem dX1_translate_73 : decode cX1_translate 73 = .ok (.ldc2_w 92, 3) := by decide +kernel
theorem dX1_translate_76 : decode cX1_translate 76 = .ok (.lcmp, 1) := by decide +kernel
theorem dX1_translate_77 : decode cX1_translate 77 = .ok (.ifCond .eq 8, 3) := by decide +kernel
theorem dX1_translate_80 : decode cX1_translate 80 = .ok (.iload_n 3, 1) := by decide +kernel
theorem dX1_translate_81 : decode cX1_translate 81 = .ok (.invokestatic 110, 3) := by decide +kernel
theorem dX1_translate_84 : decode cX1_translate 84 = .ok (.lreturn, 1) := by decide +kernel
theorem dX1_translate_85 : decode cX1_translate 85 = .ok (.aload_n 0, 1) := by decide +kernel
theorem dX1_translate_86 : decode cX1_translate 86 = .ok (.lload_n 1, 1) := by decide +kernel
theorem dX1_translate_87 : decode cX1_translate 87 = .ok (.iload_n 3, 1) := by decide +kernel
theorem dX1_translate_88 : decode cX1_translate 88 = .ok (.iload 4, 2) := by decide +kernel
theorem dX1_translate_90 : decode cX1_translate 90 = .ok (.iload 6, 2) := by decide +kernel
theorem dX1_translate_92 : decode cX1_translate 92 = .ok (.invokevirtual 113, 3) := by decide +kernel
theorem dX1_translate_95 : decode cX1_translate 95 = .ok (.lreturn, 1) := by decide +kernel
theorem dX1_isPhysical_0 : decode cX1_isPhysical 0 = .ok (.lload_n 0, 1) := by decide +kernel
theorem dX1_isPhysical_1 : decode cX1_isPhysical 1 = .ok (.bipush 56, 2) := by decide +kernel
theorem dX1_isPhysical_3 : decode cX1_isPhysical 3 = .ok (.lushr, 1) := by decide +kernel
theorem dX1_isPhysical_4 : decode cX1_isPhysical 4 = .ok (.lconst 0, 1) := by decide +kernel
theorem dX1_isPhysical_5 : decode cX1_isPhysical 5 = .ok (.lcmp, 1) := by decide +kernel
theorem dX1_isPhysical_6 : decode cX1_isPhysical 6 = .ok (.ifCond .ne 7, 3) := by decide +kernel
theorem dX1_isPhysical_9 : decode cX1_isPhysical 9 = .ok (.iconst 1, 1) := by decide +kernel
theorem dX1_isPhysical_10 : decode cX1_isPhysical 10 = .ok (.goto 4, 3) := by decide +kernel
theorem dX1_isPhysical_13 : decode cX1_isPhysical 13 = .ok (.iconst 0, 1) := by decide +kernel
theorem dX1_isPhysical_14 : decode cX1_isPhysical 14 = .ok (.ireturn, 1) := by decide +kernel
theorem dX1_accessFault_0 : decode cX1_accessFault 0 = .ok (.iload_n 0, 1) := by decide +kernel
theorem dX1_accessFault_1 : decode cX1_accessFault 1 = .ok (.ifCond .ne 9, 3) := by decide +kernel
theorem dX1_accessFault_4 : decode cX1_accessFault 4 = .ok (.ldc2_w 92, 3) := by decide +kernel
theorem dX1_accessFault_7 : decode cX1_accessFault 7 = .ok (.goto 17, 3) := by decide +kernel
theorem dX1_accessFault_10 : decode cX1_accessFault 10 = .ok (.iload_n 0, 1) := by decide +kernel
theorem dX1_accessFault_11 : decode cX1_accessFault 11 = .ok (.iconst 1, 1) := by decide +kernel
theorem dX1_accessFault_12 : decode cX1_accessFault 12 = .ok (.if_icmp .ne 9, 3) := by decide +kernel
theorem dX1_accessFault_15 : decode cX1_accessFault 15 = .ok (.ldc2_w 94, 3) := by decide +kernel
theorem dX1_accessFault_18 : decode cX1_accessFault 18 = .ok (.goto 6, 3) := by decide +kernel
theorem dX1_accessFault_21 : decode cX1_accessFault 21 = .ok (.ldc2_w 96, 3) := by decide +kernel
theorem dX1_accessFault_24 : decode cX1_accessFault 24 = .ok (.lreturn, 1) := by decide +kernel
theorem dX1_pageFault_0 : decode cX1_pageFault 0 = .ok (.iload_n 0, 1) := by decide +kernel
theorem dX1_pageFault_1 : decode cX1_pageFault 1 = .ok (.ifCond .ne 9, 3) := by decide +kernel
theorem dX1_pageFault_4 : decode cX1_pageFault 4 = .ok (.ldc2_w 98, 3) := by decide +kernel
theorem dX1_pageFault_7 : decode cX1_pageFault 7 = .ok (.goto 17, 3) := by decide +kernel
theorem dX1_pageFault_10 : decode cX1_pageFault 10 = .ok (.iload_n 0, 1) := by decide +kernel
theorem dX1_pageFault_11 : decode cX1_pageFault 11 = .ok (.iconst 1, 1) := by decide +kernel
theorem dX1_pageFault_12 : decode cX1_pageFault 12 = .ok (.if_icmp .ne 9, 3) := by decide +kernel
theorem dX1_pageFault_15 : decode cX1_pageFault 15 = .ok (.ldc2_w 100, 3) := by decide +kernel
theorem dX1_pageFault_18 : decode cX1_pageFault 18 = .ok (.goto 6, 3) := by decide +kernel
theorem dX1_pageFault_21 : decode cX1_pageFault 21 = .ok (.ldc2_w 102, 3) := by decide +kernel
theorem dX1_pageFault_24 : decode cX1_pageFault 24 = .ok (.lreturn, 1) := by decide +kernel
theorem dX1_walk_0 : decode cX1_walk 0 = .ok (.aload_n 0, 1) := by decide +kernel
theorem dX1_walk_1 : decode cX1_walk 1 = .ok (.getfield 20, 3) := by decide +kernel
theorem dX1_walk_4 : decode cX1_walk 4 = .ok (.ldc2_w 117, 3) := by decide +kernel
theorem dX1_walk_7 : decode cX1_walk 7 = .ok (.land, 1) := by decide +kernel
theorem dX1_walk_8 : decode cX1_walk 8 = .ok (.lstore 6, 2) := by decide +kernel
theorem dX1_walk_10 : decode cX1_walk 10 = .ok (.iload 5, 2) := by decide +kernel
theorem dX1_walk_12 : decode cX1_walk 12 = .ok (.iconst 1, 1) := by decide +kernel
theorem dX1_walk_13 : decode cX1_walk 13 = .ok (.isub, 1) := by decide +kernel
theorem dX1_walk_14 : decode cX1_walk 14 = .ok (.istore 8, 2) := by decide +kernel
theorem dX1_walk_16 : decode cX1_walk 16 = .ok (.iload 8, 2) := by decide +kernel
theorem dX1_walk_18 : decode cX1_walk 18 = .ok (.ifCond .lt 132, 3) := by decide +kernel
theorem dX1_walk_21 : decode cX1_walk 21 = .ok (.lload 6, 2) := by decide +kernel
theorem dX1_walk_23 : decode cX1_walk 23 = .ok (.lload_n 1, 1) := by decide +kernel
theorem dX1_walk_24 : decode cX1_walk 24 = .ok (.iload 8, 2) := by decide +kernel
theorem dX1_walk_26 : decode cX1_walk 26 = .ok (.invokestatic 119, 3) := by decide +kernel
theorem dX1_walk_29 : decode cX1_walk 29 = .ok (.lstore 9, 2) := by decide +kernel
theorem dX1_walk_31 : decode cX1_walk 31 = .ok (.lload 9, 2) := by decide +kernel
theorem dX1_walk_33 : decode cX1_walk 33 = .ok (.invokestatic 31, 3) := by decide +kernel
theorem dX1_walk_36 : decode cX1_walk 36 = .ok (.iconst (-1), 1) := by decide +kernel
theorem dX1_walk_37 : decode cX1_walk 37 = .ok (.if_icmp .eq 19, 3) := by decide +kernel
theorem dX1_walk_40 : decode cX1_walk 40 = .ok (.aload_n 0, 1) := by decide +kernel
theorem dX1_walk_41 : decode cX1_walk 41 = .ok (.getfield 16, 3) := by decide +kernel
theorem dX1_walk_44 : decode cX1_walk 44 = .ok (.lload 9, 2) := by decide +kernel
theorem dX1_walk_46 : decode cX1_walk 46 = .ok (.iconst 1, 1) := by decide +kernel
theorem dX1_walk_47 : decode cX1_walk 47 = .ok (.iconst 1, 1) := by decide +kernel
theorem dX1_walk_48 : decode cX1_walk 48 = .ok (.bipush 8, 2) := by decide +kernel
theorem dX1_walk_50 : decode cX1_walk 50 = .ok (.invokevirtual 76, 3) := by decide +kernel
theorem dX1_walk_53 : decode cX1_walk 53 = .ok (.ifCond .ne 8, 3) := by decide +kernel
theorem dX1_walk_56 : decode cX1_walk 56 = .ok (.iload_n 3, 1) := by decide +kernel
theorem dX1_walk_57 : decode cX1_walk 57 = .ok (.invokestatic 79, 3) := by decide +kernel
theorem dX1_walk_60 : decode cX1_walk 60 = .ok (.lreturn, 1) := by decide +kernel
theorem dX1_walk_61 : decode cX1_walk 61 = .ok (.aload_n 0, 1) := by decide +kernel
theorem dX1_walk_62 : decode cX1_walk 62 = .ok (.lload 9, 2) := by decide +kernel
theorem dX1_walk_64 : decode cX1_walk 64 = .ok (.invokevirtual 123, 3) := by decide +kernel
theorem dX1_walk_67 : decode cX1_walk 67 = .ok (.lstore 11, 2) := by decide +kernel
theorem dX1_walk_69 : decode cX1_walk 69 = .ok (.lload 11, 2) := by decide +kernel
theorem dX1_walk_71 : decode cX1_walk 71 = .ok (.invokestatic 127, 3) := by decide +kernel
theorem dX1_walk_74 : decode cX1_walk 74 = .ok (.ifCond .eq 8, 3) := by decide +kernel
theorem dX1_walk_77 : decode cX1_walk 77 = .ok (.iload_n 3, 1) := by decide +kernel
theorem dX1_walk_78 : decode cX1_walk 78 = .ok (.invokestatic 110, 3) := by decide +kernel
theorem dX1_walk_81 : decode cX1_walk 81 = .ok (.lreturn, 1) := by decide +kernel
theorem dX1_walk_82 : decode cX1_walk 82 = .ok (.lload 11, 2) := by decide +kernel
theorem dX1_walk_84 : decode cX1_walk 84 = .ok (.invokestatic 130, 3) := by decide +kernel
theorem dX1_walk_87 : decode cX1_walk 87 = .ok (.ifCond .eq 50, 3) := by decide +kernel
theorem dX1_walk_90 : decode cX1_walk 90 = .ok (.aload_n 0, 1) := by decide +kernel
theorem dX1_walk_91 : decode cX1_walk 91 = .ok (.lload 11, 2) := by decide +kernel
theorem dX1_walk_93 : decode cX1_walk 93 = .ok (.iload_n 3, 1) := by decide +kernel
theorem dX1_walk_94 : decode cX1_walk 94 = .ok (.iload 4, 2) := by decide +kernel
theorem dX1_walk_96 : decode cX1_walk 96 = .ok (.iload 8, 2) := by decide +kernel
theorem dX1_walk_98 : decode cX1_walk 98 = .ok (.invokevirtual 133, 3) := by decide +kernel
theorem dX1_walk_101 : decode cX1_walk 101 = .ok (.ifCond .ne 8, 3) := by decide +kernel
theorem dX1_walk_104 : decode cX1_walk 104 = .ok (.iload_n 3, 1) := by decide +kernel
theorem dX1_walk_105 : decode cX1_walk 105 = .ok (.invokestatic 110, 3) := by decide +kernel
theorem dX1_walk_108 : decode cX1_walk 108 = .ok (.lreturn, 1) := by decide +kernel
theorem dX1_walk_109 : decode cX1_walk 109 = .ok (.aload_n 0, 1) := by decide +kernel
theorem dX1_walk_110 : decode cX1_walk 110 = .ok (.lload 9, 2) := by decide +kernel
theorem dX1_walk_112 : decode cX1_walk 112 = .ok (.lload 11, 2) := by decide +kernel
theorem dX1_walk_114 : decode cX1_walk 114 = .ok (.iload_n 3, 1) := by decide +kernel
theorem dX1_walk_115 : decode cX1_walk 115 = .ok (.invokevirtual 136, 3) := by decide +kernel
theorem dX1_walk_118 : decode cX1_walk 118 = .ok (.ifCond .eq 14, 3) := by decide +kernel
theorem dX1_walk_121 : decode cX1_walk 121 = .ok (.lload 11, 2) := by decide +kernel
theorem dX1_walk_123 : decode cX1_walk 123 = .ok (.lload_n 1, 1) := by decide +kernel
theorem dX1_walk_124 : decode cX1_walk 124 = .ok (.iload 8, 2) := by decide +kernel
theorem dX1_walk_126 : decode cX1_walk 126 = .ok (.invokestatic 140, 3) := by decide +kernel
theorem dX1_walk_129 : decode cX1_walk 129 = .ok (.goto 7, 3) := by decide +kernel
theorem dX1_walk_132 : decode cX1_walk 132 = .ok (.iload_n 3, 1) := by decide +kernel
theorem dX1_walk_133 : decode cX1_walk 133 = .ok (.invokestatic 79, 3) := by decide +kernel
theorem dX1_walk_136 : decode cX1_walk 136 = .ok (.lreturn, 1) := by decide +kernel
theorem dX1_walk_137 : decode cX1_walk 137 = .ok (.lload 11, 2) := by decide +kernel
theorem dX1_walk_139 : decode cX1_walk 139 = .ok (.invokestatic 143, 3) := by decide +kernel
theorem dX1_walk_142 : decode cX1_walk 142 = .ok (.lstore 6, 2) := by decide +kernel
theorem dX1_walk_144 : decode cX1_walk 144 = .ok (.iinc 8 (-1), 3) := by decide +kernel
theorem dX1_walk_147 : decode cX1_walk 147 = .ok (.goto (-131), 3) := by decide +kernel
theorem dX1_walk_150 : decode cX1_walk 150 = .ok (.iload_n 3, 1) := by decide +kernel
theorem dX1_walk_151 : decode cX1_walk 151 = .ok (.invokestatic 110, 3) := by decide +kernel
theorem dX1_walk_154 : decode cX1_walk 154 = .ok (.lreturn, 1) := by decide +kernel
theorem dX1_entryPlace_0 : decode cX1_entryPlace 0 = .ok (.lload_n 2, 1) := by decide +kernel
theorem dX1_entryPlace_1 : decode cX1_entryPlace 1 = .ok (.iload 4, 2) := by decide +kernel
theorem dX1_entryPlace_3 : decode cX1_entryPlace 3 = .ok (.invokestatic 146, 3) := by decide +kernel
theorem dX1_entryPlace_6 : decode cX1_entryPlace 6 = .ok (.lshr, 1) := by decide +kernel
theorem dX1_entryPlace_7 : decode cX1_entryPlace 7 = .ok (.ldc2_w 150, 3) := by decide +kernel
theorem dX1_entryPlace_10 : decode cX1_entryPlace 10 = .ok (.land, 1) := by decide +kernel
theorem dX1_entryPlace_11 : decode cX1_entryPlace 11 = .ok (.lstore 5, 2) := by decide +kernel
theorem dX1_entryPlace_13 : decode cX1_entryPlace 13 = .ok (.lload_n 0, 1) := by decide +kernel
theorem dX1_entryPlace_14 : decode cX1_entryPlace 14 = .ok (.ldc2_w 90, 3) := by decide +kernel
theorem dX1_entryPlace_17 : decode cX1_entryPlace 17 = .ok (.lmul, 1) := by decide +kernel
theorem dX1_entryPlace_18 : decode cX1_entryPlace 18 = .ok (.lload 5, 2) := by decide +kernel
theorem dX1_entryPlace_20 : decode cX1_entryPlace 20 = .ok (.ldc2_w 108, 3) := by decide +kernel
theorem dX1_entryPlace_23 : decode cX1_entryPlace 23 = .ok (.lmul, 1) := by decide +kernel
theorem dX1_entryPlace_24 : decode cX1_entryPlace 24 = .ok (.ladd, 1) := by decide +kernel
theorem dX1_entryPlace_25 : decode cX1_entryPlace 25 = .ok (.lreturn, 1) := by decide +kernel
theorem dX1_shiftOf_0 : decode cX1_shiftOf 0 = .ok (.bipush 12, 2) := by decide +kernel
theorem dX1_shiftOf_2 : decode cX1_shiftOf 2 = .ok (.bipush 9, 2) := by decide +kernel
theorem dX1_shiftOf_4 : decode cX1_shiftOf 4 = .ok (.iload_n 0, 1) := by decide +kernel
theorem dX1_shiftOf_5 : decode cX1_shiftOf 5 = .ok (.imul, 1) := by decide +kernel
theorem dX1_shiftOf_6 : decode cX1_shiftOf 6 = .ok (.iadd, 1) := by decide +kernel
theorem dX1_shiftOf_7 : decode cX1_shiftOf 7 = .ok (.ireturn, 1) := by decide +kernel
theorem dX0_letThrough_0 : decode cX0_letThrough 0 = .ok (.lload_n 1, 1) := by decide +kernel
theorem dX0_letThrough_1 : decode cX0_letThrough 1 = .ok (.iload 5, 2) := by decide +kernel
theorem dX0_letThrough_3 : decode cX0_letThrough 3 = .ok (.i2l, 1) := by decide +kernel
theorem dX0_letThrough_4 : decode cX0_letThrough 4 = .ok (.ladd, 1) := by decide +kernel
theorem dX0_letThrough_5 : decode cX0_letThrough 5 = .ok (.lstore 6, 2) := by decide +kernel
theorem dX0_letThrough_7 : decode cX0_letThrough 7 = .ok (.lconst 0, 1) := by decide +kernel
theorem dX0_letThrough_8 : decode cX0_letThrough 8 = .ok (.lstore 8, 2) := by decide +kernel
theorem dX0_letThrough_10 : decode cX0_letThrough 10 = .ok (.iconst 0, 1) := by decide +kernel
theorem dX0_letThrough_11 : decode cX0_letThrough 11 = .ok (.istore 10, 2) := by decide +kernel
theorem dX0_letThrough_13 : decode cX0_letThrough 13 = .ok (.iload 10, 2) := by decide +kernel
theorem dX0_letThrough_15 : decode cX0_letThrough 15 = .ok (.bipush 8, 2) := by decide +kernel
theorem dX0_letThrough_17 : decode cX0_letThrough 17 = .ok (.if_icmp .ge 106, 3) := by decide +kernel
theorem dX0_letThrough_20 : decode cX0_letThrough 20 = .ok (.aload_n 0, 1) := by decide +kernel
theorem dX0_letThrough_21 : decode cX0_letThrough 21 = .ok (.getfield 11, 3) := by decide +kernel
theorem dX0_letThrough_24 : decode cX0_letThrough 24 = .ok (.iload 10, 2) := by decide +kernel
theorem dX0_letThrough_26 : decode cX0_letThrough 26 = .ok (.iaload, 1) := by decide +kernel
theorem dX0_letThrough_27 : decode cX0_letThrough 27 = .ok (.istore 11, 2) := by decide +kernel
theorem dX0_letThrough_29 : decode cX0_letThrough 29 = .ok (.aload_n 0, 1) := by decide +kernel
theorem dX0_letThrough_30 : decode cX0_letThrough 30 = .ok (.getfield 15, 3) := by decide +kernel
theorem dX0_letThrough_33 : decode cX0_letThrough 33 = .ok (.iload 10, 2) := by decide +kernel
theorem dX0_letThrough_35 : decode cX0_letThrough 35 = .ok (.laload, 1) := by decide +kernel
theorem dX0_letThrough_36 : decode cX0_letThrough 36 = .ok (.lstore 12, 2) := by decide +kernel
theorem dX0_letThrough_38 : decode cX0_letThrough 38 = .ok (.iload 11, 2) := by decide +kernel
theorem dX0_letThrough_40 : decode cX0_letThrough 40 = .ok (.lload 12, 2) := by decide +kernel
theorem dX0_letThrough_42 : decode cX0_letThrough 42 = .ok (.lload 8, 2) := by decide +kernel
theorem dX0_letThrough_44 : decode cX0_letThrough 44 = .ok (.invokestatic 39, 3) := by decide +kernel
theorem dX0_letThrough_47 : decode cX0_letThrough 47 = .ok (.lstore 14, 2) := by decide +kernel
theorem dX0_letThrough_49 : decode cX0_letThrough 49 = .ok (.iload 11, 2) := by decide +kernel
theorem dX0_letThrough_51 : decode cX0_letThrough 51 = .ok (.lload 12, 2) := by decide +kernel
theorem dX0_letThrough_53 : decode cX0_letThrough 53 = .ok (.invokestatic 43, 3) := by decide +kernel
theorem dX0_letThrough_56 : decode cX0_letThrough 56 = .ok (.lstore 16, 2) := by decide +kernel
theorem dX0_letThrough_58 : decode cX0_letThrough 58 = .ok (.lload 14, 2) := by decide +kernel
theorem dX0_letThrough_60 : decode cX0_letThrough 60 = .ok (.lload 16, 2) := by decide +kernel
theorem dX0_letThrough_62 : decode cX0_letThrough 62 = .ok (.lcmp, 1) := by decide +kernel
theorem dX0_letThrough_63 : decode cX0_letThrough 63 = .ok (.ifCond .ge 50, 3) := by decide +kernel
theorem dX0_letThrough_66 : decode cX0_letThrough 66 = .ok (.lload 14, 2) := by decide +kernel
theorem dX0_letThrough_68 : decode cX0_letThrough 68 = .ok (.lload 6, 2) := by decide +kernel
theorem dX0_letThrough_70 : decode cX0_letThrough 70 = .ok (.lcmp, 1) := by decide +kernel
theorem dX0_letThrough_71 : decode cX0_letThrough 71 = .ok (.ifCond .ge 42, 3) := by decide +kernel
theorem dX0_letThrough_74 : decode cX0_letThrough 74 = .ok (.lload_n 1, 1) := by decide +kernel
theorem dX0_letThrough_75 : decode cX0_letThrough 75 = .ok (.lload 16, 2) := by decide +kernel
theorem dX0_letThrough_77 : decode cX0_letThrough 77 = .ok (.lcmp, 1) := by decide +kernel
theorem dX0_letThrough_78 : decode cX0_letThrough 78 = .ok (.ifCond .ge 35, 3) := by decide +kernel
theorem dX0_letThrough_81 : decode cX0_letThrough 81 = .ok (.lload 14, 2) := by decide +kernel
theorem dX0_letThrough_83 : decode cX0_letThrough 83 = .ok (.lload_n 1, 1) := by decide +kernel
theorem dX0_letThrough_84 : decode cX0_letThrough 84 = .ok (.lcmp, 1) := by decide +kernel
theorem dX0_letThrough_85 : decode cX0_letThrough 85 = .ok (.ifCond .gt 26, 3) := by decide +kernel
theorem dX0_letThrough_88 : decode cX0_letThrough 88 = .ok (.lload 6, 2) := by decide +kernel
theorem dX0_letThrough_90 : decode cX0_letThrough 90 = .ok (.lload 16, 2) := by decide +kernel
theorem dX0_letThrough_92 : decode cX0_letThrough 92 = .ok (.lcmp, 1) := by decide +kernel
theorem dX0_letThrough_93 : decode cX0_letThrough 93 = .ok (.ifCond .gt 18, 3) := by decide +kernel
theorem dX0_letThrough_96 : decode cX0_letThrough 96 = .ok (.iload 11, 2) := by decide +kernel
theorem dX0_letThrough_98 : decode cX0_letThrough 98 = .ok (.iload_n 3, 1) := by decide +kernel
theorem dX0_letThrough_99 : decode cX0_letThrough 99 = .ok (.iload 4, 2) := by decide +kernel
theorem dX0_letThrough_101 : decode cX0_letThrough 101 = .ok (.invokestatic 47, 3) := by decide +kernel
theorem dX0_letThrough_104 : decode cX0_letThrough 104 = .ok (.ifCond .eq 7, 3) := by decide +kernel
theorem dX0_letThrough_107 : decode cX0_letThrough 107 = .ok (.iconst 1, 1) := by decide +kernel
theorem dX0_letThrough_108 : decode cX0_letThrough 108 = .ok (.goto 4, 3) := by decide +kernel
theorem dX0_letThrough_111 : decode cX0_letThrough 111 = .ok (.iconst 0, 1) := by decide +kernel
theorem dX0_letThrough_112 : decode cX0_letThrough 112 = .ok (.ireturn, 1) := by decide +kernel
theorem dX0_letThrough_113 : decode cX0_letThrough 113 = .ok (.lload 12, 2) := by decide +kernel
theorem dX0_letThrough_115 : decode cX0_letThrough 115 = .ok (.lstore 8, 2) := by decide +kernel
theorem dX0_letThrough_117 : decode cX0_letThrough 117 = .ok (.iinc 10 1, 3) := by decide +kernel
theorem dX0_letThrough_120 : decode cX0_letThrough 120 = .ok (.goto (-107), 3) := by decide +kernel
theorem dX0_letThrough_123 : decode cX0_letThrough 123 = .ok (.iload 4, 2) := by decide +kernel
theorem dX0_letThrough_125 : decode cX0_letThrough 125 = .ok (.iconst 3, 1) := by decide +kernel
theorem dX0_letThrough_126 : decode cX0_letThrough 126 = .ok (.if_icmp .ne 7, 3) := by decide +kernel
theorem dX0_letThrough_129 : decode cX0_letThrough 129 = .ok (.iconst 1, 1) := by decide +kernel
theorem dX0_letThrough_130 : decode cX0_letThrough 130 = .ok (.goto 4, 3) := by decide +kernel
theorem dX0_letThrough_133 : decode cX0_letThrough 133 = .ok (.iconst 0, 1) := by decide +kernel
theorem dX0_letThrough_134 : decode cX0_letThrough 134 = .ok (.ireturn, 1) := by decide +kernel
theorem dX0_startOf_0 : decode cX0_startOf 0 = .ok (.iload_n 0, 1) := by decide +kernel
theorem dX0_startOf_1 : decode cX0_startOf 1 = .ok (.invokestatic 51, 3) := by decide +kernel
theorem dX0_startOf_4 : decode cX0_startOf 4 = .ok (.tableswitch 50 1 3 #[28, 34, 40], 28) := by decide +kernel
theorem dX0_startOf_32 : decode cX0_startOf 32 = .ok (.ldc2_w 54, 3) := by decide +kernel
theorem dX0_startOf_35 : decode cX0_startOf 35 = .ok (.lload_n 3, 1) := by decide +kernel
theorem dX0_startOf_36 : decode cX0_startOf 36 = .ok (.lmul, 1) := by decide +kernel
theorem dX0_startOf_37 : decode cX0_startOf 37 = .ok (.lreturn, 1) := by decide +kernel
theorem dX0_startOf_38 : decode cX0_startOf 38 = .ok (.ldc2_w 54, 3) := by decide +kernel
theorem dX0_startOf_41 : decode cX0_startOf 41 = .ok (.lload_n 1, 1) := by decide +kernel
theorem dX0_startOf_42 : decode cX0_startOf 42 = .ok (.lmul, 1) := by decide +kernel
theorem dX0_startOf_43 : decode cX0_startOf 43 = .ok (.lreturn, 1) := by decide +kernel
theorem dX0_startOf_44 : decode cX0_startOf 44 = .ok (.ldc2_w 54, 3) := by decide +kernel
theorem dX0_startOf_47 : decode cX0_startOf 47 = .ok (.lload_n 1, 1) := by decide +kernel
theorem dX0_startOf_48 : decode cX0_startOf 48 = .ok (.lload_n 1, 1) := by decide +kernel
theorem dX0_startOf_49 : decode cX0_startOf 49 = .ok (.lconst 1, 1) := by decide +kernel
theorem dX0_startOf_50 : decode cX0_startOf 50 = .ok (.ladd, 1) := by decide +kernel
theorem dX0_startOf_51 : decode cX0_startOf 51 = .ok (.land, 1) := by decide +kernel
theorem dX0_startOf_52 : decode cX0_startOf 52 = .ok (.lmul, 1) := by decide +kernel
theorem dX0_startOf_53 : decode cX0_startOf 53 = .ok (.lreturn, 1) := by decide +kernel
theorem dX0_startOf_54 : decode cX0_startOf 54 = .ok (.lconst 0, 1) := by decide +kernel
theorem dX0_startOf_55 : decode cX0_startOf 55 = .ok (.lreturn, 1) := by decide +kernel
theorem dX0_endOf_0 : decode cX0_endOf 0 = .ok (.iload_n 0, 1) := by decide +kernel
theorem dX0_endOf_1 : decode cX0_endOf 1 = .ok (.invokestatic 51, 3) := by decide +kernel
theorem dX0_endOf_4 : decode cX0_endOf 4 = .ok (.tableswitch 54 1 3 #[28, 34, 42], 28) := by decide +kernel
theorem dX0_endOf_32 : decode cX0_endOf 32 = .ok (.ldc2_w 54, 3) := by decide +kernel
theorem dX0_endOf_35 : decode cX0_endOf 35 = .ok (.lload_n 1, 1) := by decide +kernel
theorem dX0_endOf_36 : decode cX0_endOf 36 = .ok (.lmul, 1) := by decide +kernel
theorem dX0_endOf_37 : decode cX0_endOf 37 = .ok (.lreturn, 1) := by decide +kernel
theorem dX0_endOf_38 : decode cX0_endOf 38 = .ok (.ldc2_w 54, 3) := by decide +kernel
theorem dX0_endOf_41 : decode cX0_endOf 41 = .ok (.lload_n 1, 1) := by decide +kernel
theorem dX0_endOf_42 : decode cX0_endOf 42 = .ok (.lconst 1, 1) := by decide +kernel
theorem dX0_endOf_43 : decode cX0_endOf 43 = .ok (.ladd, 1) := by decide +kernel
theorem dX0_endOf_44 : decode cX0_endOf 44 = .ok (.lmul, 1) := by decide +kernel
theorem dX0_endOf_45 : decode cX0_endOf 45 = .ok (.lreturn, 1) := by decide +kernel
theorem dX0_endOf_46 : decode cX0_endOf 46 = .ok (.ldc2_w 54, 3) := by decide +kernel
theorem dX0_endOf_49 : decode cX0_endOf 49 = .ok (.lload_n 1, 1) := by decide +kernel
theorem dX0_endOf_50 : decode cX0_endOf 50 = .ok (.lload_n 1, 1) := by decide +kernel
theorem dX0_endOf_51 : decode cX0_endOf 51 = .ok (.lconst 1, 1) := by decide +kernel
theorem dX0_endOf_52 : decode cX0_endOf 52 = .ok (.ladd, 1) := by decide +kernel
theorem dX0_endOf_53 : decode cX0_endOf 53 = .ok (.lor, 1) := by decide +kernel
theorem dX0_endOf_54 : decode cX0_endOf 54 = .ok (.lconst 1, 1) := by decide +kernel
theorem dX0_endOf_55 : decode cX0_endOf 55 = .ok (.ladd, 1) := by decide +kernel
theorem dX0_endOf_56 : decode cX0_endOf 56 = .ok (.lmul, 1) := by decide +kernel
theorem dX0_endOf_57 : decode cX0_endOf 57 = .ok (.lreturn, 1) := by decide +kernel
theorem dX0_endOf_58 : decode cX0_endOf 58 = .ok (.lconst 0, 1) := by decide +kernel
theorem dX0_endOf_59 : decode cX0_endOf 59 = .ok (.lreturn, 1) := by decide +kernel
theorem dX0_permits_0 : decode cX0_permits 0 = .ok (.iload_n 2, 1) := by decide +kernel
theorem dX0_permits_1 : decode cX0_permits 1 = .ok (.iconst 3, 1) := by decide +kernel
theorem dX0_permits_2 : decode cX0_permits 2 = .ok (.if_icmp .ne 12, 3) := by decide +kernel
theorem dX0_permits_5 : decode cX0_permits 5 = .ok (.iload_n 0, 1) := by decide +kernel
theorem dX0_permits_6 : decode cX0_permits 6 = .ok (.invokestatic 19, 3) := by decide +kernel
theorem dX0_permits_9 : decode cX0_permits 9 = .ok (.ifCond .ne 5, 3) := by decide +kernel
theorem dX0_permits_12 : decode cX0_permits 12 = .ok (.iconst 1, 1) := by decide +kernel
theorem dX0_permits_13 : decode cX0_permits 13 = .ok (.ireturn, 1) := by decide +kernel
theorem dX0_permits_14 : decode cX0_permits 14 = .ok (.iload_n 1, 1) := by decide +kernel
theorem dX0_permits_15 : decode cX0_permits 15 = .ok (.ifCond .ne 7, 3) := by decide +kernel
theorem dX0_permits_18 : decode cX0_permits 18 = .ok (.iconst 4, 1) := by decide +kernel
theorem dX0_permits_19 : decode cX0_permits 19 = .ok (.goto 13, 3) := by decide +kernel
theorem dX0_permits_22 : decode cX0_permits 22 = .ok (.iload_n 1, 1) := by decide +kernel
theorem dX0_permits_23 : decode cX0_permits 23 = .ok (.iconst 1, 1) := by decide +kernel
theorem dX0_permits_24 : decode cX0_permits 24 = .ok (.if_icmp .ne 7, 3) := by decide +kernel
theorem dX0_permits_27 : decode cX0_permits 27 = .ok (.iconst 1, 1) := by decide +kernel
theorem dX0_permits_28 : decode cX0_permits 28 = .ok (.goto 4, 3) := by decide +kernel
theorem dX0_permits_31 : decode cX0_permits 31 = .ok (.iconst 2, 1) := by decide +kernel
theorem dX0_permits_32 : decode cX0_permits 32 = .ok (.istore_n 3, 1) := by decide +kernel
theorem dX0_permits_33 : decode cX0_permits 33 = .ok (.iload_n 0, 1) := by decide +kernel
theorem dX0_permits_34 : decode cX0_permits 34 = .ok (.iload_n 3, 1) := by decide +kernel
theorem dX0_permits_35 : decode cX0_permits 35 = .ok (.iand, 1) := by decide +kernel
theorem dX0_permits_36 : decode cX0_permits 36 = .ok (.ifCond .eq 7, 3) := by decide +kernel
theorem dX0_permits_39 : decode cX0_permits 39 = .ok (.iconst 1, 1) := by decide +kernel
theorem dX0_permits_40 : decode cX0_permits 40 = .ok (.goto 4, 3) := by decide +kernel
theorem dX0_permits_43 : decode cX0_permits 43 = .ok (.iconst 0, 1) := by decide +kernel
theorem dX0_permits_44 : decode cX0_permits 44 = .ok (.ireturn, 1) := by decide +kernel
theorem dX1_isMalformed_0 : decode cX1_isMalformed 0 = .ok (.lload_n 0, 1) := by decide +kernel
theorem dX1_isMalformed_1 : decode cX1_isMalformed 1 = .ok (.lconst 1, 1) := by decide +kernel
theorem dX1_isMalformed_2 : decode cX1_isMalformed 2 = .ok (.invokestatic 154, 3) := by decide +kernel
theorem dX1_isMalformed_5 : decode cX1_isMalformed 5 = .ok (.ifCond .eq 49, 3) := by decide +kernel
theorem dX1_isMalformed_8 : decode cX1_isMalformed 8 = .ok (.lload_n 0, 1) := by decide +kernel
theorem dX1_isMalformed_9 : decode cX1_isMalformed 9 = .ok (.ldc2_w 158, 3) := by decide +kernel
theorem dX1_isMalformed_12 : decode cX1_isMalformed 12 = .ok (.invokestatic 154, 3) := by decide +kernel
theorem dX1_isMalformed_15 : decode cX1_isMalformed 15 = .ok (.ifCond .eq 13, 3) := by decide +kernel
theorem dX1_isMalformed_18 : decode cX1_isMalformed 18 = .ok (.lload_n 0, 1) := by decide +kernel
theorem dX1_isMalformed_19 : decode cX1_isMalformed 19 = .ok (.ldc2_w 160, 3) := by decide +kernel
theorem dX1_isMalformed_22 : decode cX1_isMalformed 22 = .ok (.invokestatic 154, 3) := by decide +kernel
theorem dX1_isMalformed_25 : decode cX1_isMalformed 25 = .ok (.ifCond .eq 29, 3) := by decide +kernel
theorem dX1_isMalformed_28 : decode cX1_isMalformed 28 = .ok (.lload_n 0, 1) := by decide +kernel
theorem dX1_isMalformed_29 : decode cX1_isMalformed 29 = .ok (.bipush 54, 2) := by decide +kernel
theorem dX1_isMalformed_31 : decode cX1_isMalformed 31 = .ok (.lushr, 1) := by decide +kernel
theorem dX1_isMalformed_32 : decode cX1_isMalformed 32 = .ok (.lconst 0, 1) := by decide +kernel
theorem dX1_isMalformed_33 : decode cX1_isMalformed 33 = .ok (.lcmp, 1) := by decide +kernel
theorem dX1_isMalformed_34 : decode cX1_isMalformed 34 = .ok (.ifCond .ne 20, 3) := by decide +kernel
theorem dX1_isMalformed_37 : decode cX1_isMalformed 37 = .ok (.lload_n 0, 1) := by decide +kernel
theorem dX1_isMalformed_38 : decode cX1_isMalformed 38 = .ok (.invokestatic 130, 3) := by decide +kernel
theorem dX1_isMalformed_41 : decode cX1_isMalformed 41 = .ok (.ifCond .ne 17, 3) := by decide +kernel
theorem dX1_isMalformed_44 : decode cX1_isMalformed 44 = .ok (.lload_n 0, 1) := by decide +kernel
theorem dX1_isMalformed_45 : decode cX1_isMalformed 45 = .ok (.ldc2_w 162, 3) := by decide +kernel
theorem dX1_isMalformed_48 : decode cX1_isMalformed 48 = .ok (.invokestatic 154, 3) := by decide +kernel
theorem dX1_isMalformed_51 : decode cX1_isMalformed 51 = .ok (.ifCond .eq 7, 3) := by decide +kernel
theorem dX1_isMalformed_54 : decode cX1_isMalformed 54 = .ok (.iconst 1, 1) := by decide +kernel
theorem dX1_isMalformed_55 : decode cX1_isMalformed 55 = .ok (.goto 4, 3) := by decide +kernel
theorem dX1_isMalformed_58 : decode cX1_isMalformed 58 = .ok (.iconst 0, 1) := by decide +kernel
theorem dX1_isMalformed_59 : decode cX1_isMalformed 59 = .ok (.ireturn, 1) := by decide +kernel
theorem dX1_has_0 : decode cX1_has 0 = .ok (.lload_n 0, 1) := by decide +kernel
theorem dX1_has_1 : decode cX1_has 1 = .ok (.lload_n 2, 1) := by decide +kernel
theorem dX1_has_2 : decode cX1_has 2 = .ok (.land, 1) := by decide +kernel
theorem dX1_has_3 : decode cX1_has 3 = .ok (.lconst 0, 1) := by decide +kernel
theorem dX1_has_4 : decode cX1_has 4 = .ok (.lcmp, 1) := by decide +kernel
theorem dX1_has_5 : decode cX1_has 5 = .ok (.ifCond .eq 7, 3) := by decide +kernel
theorem dX1_has_8 : decode cX1_has 8 = .ok (.iconst 1, 1) := by decide +kernel
theorem dX1_has_9 : decode cX1_has 9 = .ok (.goto 4, 3) := by decide +kernel
theorem dX1_has_12 : decode cX1_has 12 = .ok (.iconst 0, 1) := by decide +kernel
theorem dX1_has_13 : decode cX1_has 13 = .ok (.ireturn, 1) := by decide +kernel
theorem dX1_isLast_0 : decode cX1_isLast 0 = .ok (.lload_n 0, 1) := by decide +kernel
theorem dX1_isLast_1 : decode cX1_isLast 1 = .ok (.ldc2_w 152, 3) := by decide +kernel
theorem dX1_isLast_4 : decode cX1_isLast 4 = .ok (.invokestatic 154, 3) := by decide +kernel
theorem dX1_isLast_7 : decode cX1_isLast 7 = .ok (.ireturn, 1) := by decide +kernel
theorem dX1_grants_0 : decode cX1_grants 0 = .ok (.lconst 1, 1) := by decide +kernel
theorem dX1_grants_1 : decode cX1_grants 1 = .ok (.bipush 9, 2) := by decide +kernel
theorem dX1_grants_3 : decode cX1_grants 3 = .ok (.iload 5, 2) := by decide +kernel
theorem dX1_grants_5 : decode cX1_grants 5 = .ok (.imul, 1) := by decide +kernel
theorem dX1_grants_6 : decode cX1_grants 6 = .ok (.lshl, 1) := by decide +kernel
theorem dX1_grants_7 : decode cX1_grants 7 = .ok (.lconst 1, 1) := by decide +kernel
theorem dX1_grants_8 : decode cX1_grants 8 = .ok (.lsub, 1) := by decide +kernel
theorem dX1_grants_9 : decode cX1_grants 9 = .ok (.lstore 6, 2) := by decide +kernel
theorem dX1_grants_11 : decode cX1_grants 11 = .ok (.lload_n 1, 1) := by decide +kernel
theorem dX1_grants_12 : decode cX1_grants 12 = .ok (.invokestatic 143, 3) := by decide +kernel
theorem dX1_grants_15 : decode cX1_grants 15 = .ok (.lload 6, 2) := by decide +kernel
theorem dX1_grants_17 : decode cX1_grants 17 = .ok (.land, 1) := by decide +kernel
theorem dX1_grants_18 : decode cX1_grants 18 = .ok (.lconst 0, 1) := by decide +kernel
theorem dX1_grants_19 : decode cX1_grants 19 = .ok (.lcmp, 1) := by decide +kernel
theorem dX1_grants_20 : decode cX1_grants 20 = .ok (.ifCond .ne 27, 3) := by decide +kernel
theorem dX1_grants_23 : decode cX1_grants 23 = .ok (.aload_n 0, 1) := by decide +kernel
theorem dX1_grants_24 : decode cX1_grants 24 = .ok (.lload_n 1, 1) := by decide +kernel
theorem dX1_grants_25 : decode cX1_grants 25 = .ok (.iload_n 3, 1) := by decide +kernel
theorem dX1_grants_26 : decode cX1_grants 26 = .ok (.iload 4, 2) := by decide +kernel
theorem dX1_grants_28 : decode cX1_grants 28 = .ok (.invokevirtual 164, 3) := by decide +kernel
theorem dX1_grants_31 : decode cX1_grants 31 = .ok (.ifCond .eq 16, 3) := by decide +kernel
theorem dX1_grants_34 : decode cX1_grants 34 = .ok (.aload_n 0, 1) := by decide +kernel
theorem dX1_grants_35 : decode cX1_grants 35 = .ok (.lload_n 1, 1) := by decide +kernel
theorem dX1_grants_36 : decode cX1_grants 36 = .ok (.iload_n 3, 1) := by decide +kernel
theorem dX1_grants_37 : decode cX1_grants 37 = .ok (.invokevirtual 168, 3) := by decide +kernel
theorem dX1_grants_40 : decode cX1_grants 40 = .ok (.ifCond .eq 7, 3) := by decide +kernel
theorem dX1_grants_43 : decode cX1_grants 43 = .ok (.iconst 1, 1) := by decide +kernel
theorem dX1_grants_44 : decode cX1_grants 44 = .ok (.goto 4, 3) := by decide +kernel
theorem dX1_grants_47 : decode cX1_grants 47 = .ok (.iconst 0, 1) := by decide +kernel
theorem dX1_grants_48 : decode cX1_grants 48 = .ok (.ireturn, 1) := by decide +kernel
theorem dX1_pageNumber_0 : decode cX1_pageNumber 0 = .ok (.lload_n 0, 1) := by decide +kernel
theorem dX1_pageNumber_1 : decode cX1_pageNumber 1 = .ok (.bipush 10, 2) := by decide +kernel
theorem dX1_pageNumber_3 : decode cX1_pageNumber 3 = .ok (.lushr, 1) := by decide +kernel
theorem dX1_pageNumber_4 : decode cX1_pageNumber 4 = .ok (.ldc2_w 117, 3) := by decide +kernel
theorem dX1_pageNumber_7 : decode cX1_pageNumber 7 = .ok (.land, 1) := by decide +kernel
theorem dX1_pageNumber_8 : decode cX1_pageNumber 8 = .ok (.lreturn, 1) := by decide +kernel
theorem dX1_isOpenToMode_0 : decode cX1_isOpenToMode 0 = .ok (.iload 4, 2) := by decide +kernel
theorem dX1_isOpenToMode_2 : decode cX1_isOpenToMode 2 = .ok (.ifCond .ne 11, 3) := by decide +kernel
theorem dX1_isOpenToMode_5 : decode cX1_isOpenToMode 5 = .ok (.lload_n 1, 1) := by decide +kernel
theorem dX1_isOpenToMode_6 : decode cX1_isOpenToMode 6 = .ok (.ldc2_w 172, 3) := by decide +kernel
theorem dX1_isOpenToMode_9 : decode cX1_isOpenToMode 9 = .ok (.invokestatic 154, 3) := by decide +kernel
theorem dX1_isOpenToMode_12 : decode cX1_isOpenToMode 12 = .ok (.ireturn, 1) := by decide +kernel
theorem dX1_isOpenToMode_13 : decode cX1_isOpenToMode 13 = .ok (.lload_n 1, 1) := by decide +kernel
theorem dX1_isOpenToMode_14 : decode cX1_isOpenToMode 14 = .ok (.ldc2_w 172, 3) := by decide +kernel
theorem dX1_isOpenToMode_17 : decode cX1_isOpenToMode 17 = .ok (.invokestatic 154, 3) := by decide +kernel
theorem dX1_isOpenToMode_20 : decode cX1_isOpenToMode 20 = .ok (.ifCond .eq 14, 3) := by decide +kernel
theorem dX1_isOpenToMode_23 : decode cX1_isOpenToMode 23 = .ok (.aload_n 0, 1) := by decide +kernel
theorem dX1_isOpenToMode_24 : decode cX1_isOpenToMode 24 = .ok (.getfield 24, 3) := by decide +kernel
theorem dX1_isOpenToMode_27 : decode cX1_isOpenToMode 27 = .ok (.ifCond .eq 11, 3) := by decide +kernel
theorem dX1_isOpenToMode_30 : decode cX1_isOpenToMode 30 = .ok (.iload_n 3, 1) := by decide +kernel
theorem dX1_isOpenToMode_31 : decode cX1_isOpenToMode 31 = .ok (.ifCond .eq 7, 3) := by decide +kernel
theorem dX1_isOpenToMode_34 : decode cX1_isOpenToMode 34 = .ok (.iconst 1, 1) := by decide +kernel
theorem dX1_isOpenToMode_35 : decode cX1_isOpenToMode 35 = .ok (.goto 4, 3) := by decide +kernel
theorem dX1_isOpenToMode_38 : decode cX1_isOpenToMode 38 = .ok (.iconst 0, 1) := by decide +kernel
theorem dX1_isOpenToMode_39 : decode cX1_isOpenToMode 39 = .ok (.ireturn, 1) := by decide +kernel
theorem dX1_isOpenToAccess_0 : decode cX1_isOpenToAccess 0 = .ok (.iload_n 3, 1) := by decide +kernel
theorem dX1_isOpenToAccess_1 : decode cX1_isOpenToAccess 1 = .ok (.ifCond .ne 11, 3) := by decide +kernel
theorem dX1_isOpenToAccess_4 : decode cX1_isOpenToAccess 4 = .ok (.lload_n 1, 1) := by decide +kernel
theorem dX1_isOpenToAccess_5 : decode cX1_isOpenToAccess 5 = .ok (.ldc2_w 108, 3) := by decide +kernel
theorem dX1_isOpenToAccess_8 : decode cX1_isOpenToAccess 8 = .ok (.invokestatic 154, 3) := by decide +kernel
theorem dX1_isOpenToAccess_11 : decode cX1_isOpenToAccess 11 = .ok (.ireturn, 1) := by decide +kernel
theorem dX1_isOpenToAccess_12 : decode cX1_isOpenToAccess 12 = .ok (.iload_n 3, 1) := by decide +kernel
theorem dX1_isOpenToAccess_13 : decode cX1_isOpenToAccess 13 = .ok (.iconst 2, 1) := by decide +kernel
theorem dX1_isOpenToAccess_14 : decode cX1_isOpenToAccess 14 = .ok (.if_icmp .ne 11, 3) := by decide +kernel
theorem dX1_isOpenToAccess_17 : decode cX1_isOpenToAccess 17 = .ok (.lload_n 1, 1) := by decide +kernel
theorem dX1_isOpenToAccess_18 : decode cX1_isOpenToAccess 18 = .ok (.ldc2_w 158, 3) := by decide +kernel
theorem dX1_isOpenToAccess_21 : decode cX1_isOpenToAccess 21 = .ok (.invokestatic 154, 3) := by decide +kernel
theorem dX1_isOpenToAccess_24 : decode cX1_isOpenToAccess 24 = .ok (.ireturn, 1) := by decide +kernel
theorem dX1_isOpenToAccess_25 : decode cX1_isOpenToAccess 25 = .ok (.lload_n 1, 1) := by decide +kernel
theorem dX1_isOpenToAccess_26 : decode cX1_isOpenToAccess 26 = .ok (.ldc2_w 160, 3) := by decide +kernel
theorem dX1_isOpenToAccess_29 : decode cX1_isOpenToAccess 29 = .ok (.invokestatic 154, 3) := by decide +kernel
theorem dX1_isOpenToAccess_32 : decode cX1_isOpenToAccess 32 = .ok (.ifCond .ne 20, 3) := by decide +kernel
theorem dX1_isOpenToAccess_35 : decode cX1_isOpenToAccess 35 = .ok (.aload_n 0, 1) := by decide +kernel
theorem dX1_isOpenToAccess_36 : decode cX1_isOpenToAccess 36 = .ok (.getfield 28, 3) := by decide +kernel
theorem dX1_isOpenToAccess_39 : decode cX1_isOpenToAccess 39 = .ok (.ifCond .eq 17, 3) := by decide +kernel
theorem dX1_isOpenToAccess_42 : decode cX1_isOpenToAccess 42 = .ok (.lload_n 1, 1) := by decide +kernel
theorem dX1_isOpenToAccess_43 : decode cX1_isOpenToAccess 43 = .ok (.ldc2_w 108, 3) := by decide +kernel
theorem dX1_isOpenToAccess_46 : decode cX1_isOpenToAccess 46 = .ok (.invokestatic 154, 3) := by decide +kernel
theorem dX1_isOpenToAccess_49 : decode cX1_isOpenToAccess 49 = .ok (.ifCond .eq 7, 3) := by decide +kernel
theorem dX1_isOpenToAccess_52 : decode cX1_isOpenToAccess 52 = .ok (.iconst 1, 1) := by decide +kernel
theorem dX1_isOpenToAccess_53 : decode cX1_isOpenToAccess 53 = .ok (.goto 4, 3) := by decide +kernel
theorem dX1_isOpenToAccess_56 : decode cX1_isOpenToAccess 56 = .ok (.iconst 0, 1) := by decide +kernel
theorem dX1_isOpenToAccess_57 : decode cX1_isOpenToAccess 57 = .ok (.ireturn, 1) := by decide +kernel
theorem dX1_mark_0 : decode cX1_mark 0 = .ok (.iload 5, 2) := by decide +kernel
theorem dX1_mark_2 : decode cX1_mark 2 = .ok (.iconst 2, 1) := by decide +kernel
theorem dX1_mark_3 : decode cX1_mark 3 = .ok (.if_icmp .ne 9, 3) := by decide +kernel
theorem dX1_mark_6 : decode cX1_mark 6 = .ok (.ldc2_w 174, 3) := by decide +kernel
theorem dX1_mark_9 : decode cX1_mark 9 = .ok (.goto 6, 3) := by decide +kernel
theorem dX1_mark_12 : decode cX1_mark 12 = .ok (.ldc2_w 176, 3) := by decide +kernel
theorem dX1_mark_15 : decode cX1_mark 15 = .ok (.lstore 6, 2) := by decide +kernel
theorem dX1_mark_17 : decode cX1_mark 17 = .ok (.lload_n 3, 1) := by decide +kernel
theorem dX1_mark_18 : decode cX1_mark 18 = .ok (.lload 6, 2) := by decide +kernel
theorem dX1_mark_20 : decode cX1_mark 20 = .ok (.land, 1) := by decide +kernel
theorem dX1_mark_21 : decode cX1_mark 21 = .ok (.lload 6, 2) := by decide +kernel
theorem dX1_mark_23 : decode cX1_mark 23 = .ok (.lcmp, 1) := by decide +kernel
theorem dX1_mark_24 : decode cX1_mark 24 = .ok (.ifCond .ne 5, 3) := by decide +kernel
theorem dX1_mark_27 : decode cX1_mark 27 = .ok (.iconst 1, 1) := by decide +kernel
theorem dX1_mark_28 : decode cX1_mark 28 = .ok (.ireturn, 1) := by decide +kernel
theorem dX1_mark_29 : decode cX1_mark 29 = .ok (.aload_n 0, 1) := by decide +kernel
theorem dX1_mark_30 : decode cX1_mark 30 = .ok (.getfield 16, 3) := by decide +kernel
theorem dX1_mark_33 : decode cX1_mark 33 = .ok (.lload_n 1, 1) := by decide +kernel
theorem dX1_mark_34 : decode cX1_mark 34 = .ok (.iconst 2, 1) := by decide +kernel
theorem dX1_mark_35 : decode cX1_mark 35 = .ok (.iconst 1, 1) := by decide +kernel
theorem dX1_mark_36 : decode cX1_mark 36 = .ok (.bipush 8, 2) := by decide +kernel
theorem dX1_mark_38 : decode cX1_mark 38 = .ok (.invokevirtual 76, 3) := by decide +kernel
theorem dX1_mark_41 : decode cX1_mark 41 = .ok (.ifCond .ne 5, 3) := by decide +kernel
theorem dX1_mark_44 : decode cX1_mark 44 = .ok (.iconst 0, 1) := by decide +kernel
theorem dX1_mark_45 : decode cX1_mark 45 = .ok (.ireturn, 1) := by decide +kernel
theorem dX1_mark_46 : decode cX1_mark 46 = .ok (.aload_n 0, 1) := by decide +kernel
theorem dX1_mark_47 : decode cX1_mark 47 = .ok (.lload_n 1, 1) := by decide +kernel
theorem dX1_mark_48 : decode cX1_mark 48 = .ok (.lload_n 3, 1) := by decide +kernel
theorem dX1_mark_49 : decode cX1_mark 49 = .ok (.lload 6, 2) := by decide +kernel
theorem dX1_mark_51 : decode cX1_mark 51 = .ok (.lor, 1) := by decide +kernel
theorem dX1_mark_52 : decode cX1_mark 52 = .ok (.invokevirtual 178, 3) := by decide +kernel
theorem dX1_mark_55 : decode cX1_mark 55 = .ok (.iconst 1, 1) := by decide +kernel
theorem dX1_mark_56 : decode cX1_mark 56 = .ok (.ireturn, 1) := by decide +kernel
theorem dX1_target_0 : decode cX1_target 0 = .ok (.lconst 1, 1) := by decide +kernel
theorem dX1_target_1 : decode cX1_target 1 = .ok (.iload 4, 2) := by decide +kernel
theorem dX1_target_3 : decode cX1_target 3 = .ok (.invokestatic 146, 3) := by decide +kernel
theorem dX1_target_6 : decode cX1_target 6 = .ok (.lshl, 1) := by decide +kernel
theorem dX1_target_7 : decode cX1_target 7 = .ok (.lconst 1, 1) := by decide +kernel
theorem dX1_target_8 : decode cX1_target 8 = .ok (.lsub, 1) := by decide +kernel
theorem dX1_target_9 : decode cX1_target 9 = .ok (.lstore 5, 2) := by decide +kernel
theorem dX1_target_11 : decode cX1_target 11 = .ok (.lload_n 0, 1) := by decide +kernel
theorem dX1_target_12 : decode cX1_target 12 = .ok (.invokestatic 143, 3) := by decide +kernel
theorem dX1_target_15 : decode cX1_target 15 = .ok (.ldc2_w 90, 3) := by decide +kernel
theorem dX1_target_18 : decode cX1_target 18 = .ok (.lmul, 1) := by decide +kernel
theorem dX1_target_19 : decode cX1_target 19 = .ok (.lload_n 2, 1) := by decide +kernel
theorem dX1_target_20 : decode cX1_target 20 = .ok (.lload 5, 2) := by decide +kernel
theorem dX1_target_22 : decode cX1_target 22 = .ok (.land, 1) := by decide +kernel
theorem dX1_target_23 : decode cX1_target 23 = .ok (.lor, 1) := by decide +kernel
theorem dX1_target_24 : decode cX1_target 24 = .ok (.lreturn, 1) := by decide +kernel
theorem dL_allows_0 : decode cL_allows 0 = .ok (.aload 6, 2) := by decide +kernel
theorem dL_allows_2 : decode cL_allows 2 = .ok (.iconst 0, 1) := by decide +kernel
theorem dL_allows_3 : decode cL_allows 3 = .ok (.aload_n 0, 1) := by decide +kernel
theorem dL_allows_4 : decode cL_allows 4 = .ok (.lload_n 1, 1) := by decide +kernel
theorem dL_allows_5 : decode cL_allows 5 = .ok (.iload_n 3, 1) := by decide +kernel
theorem dL_allows_6 : decode cL_allows 6 = .ok (.iload 4, 2) := by decide +kernel
theorem dL_allows_8 : decode cL_allows 8 = .ok (.iload 5, 2) := by decide +kernel
theorem dL_allows_10 : decode cL_allows 10 = .ok (.invokevirtual 37, 3) := by decide +kernel
theorem dL_allows_13 : decode cL_allows 13 = .ok (.ifCond .eq 7, 3) := by decide +kernel
theorem dL_allows_16 : decode cL_allows 16 = .ok (.lconst 1, 1) := by decide +kernel
theorem dL_allows_17 : decode cL_allows 17 = .ok (.goto 4, 3) := by decide +kernel
theorem dL_allows_20 : decode cL_allows 20 = .ok (.lconst 0, 1) := by decide +kernel
theorem dL_allows_21 : decode cL_allows 21 = .ok (.lastore, 1) := by decide +kernel
theorem dL_allows_22 : decode cL_allows 22 = .ok (.goto 7, 3) := by decide +kernel
theorem dL_allows_25 : decode cL_allows 25 = .ok (.astore 7, 2) := by decide +kernel
theorem dL_allows_27 : decode cL_allows 27 = .ok (.iconst 1, 1) := by decide +kernel
theorem dL_allows_28 : decode cL_allows 28 = .ok (.ireturn, 1) := by decide +kernel
theorem dL_allows_29 : decode cL_allows 29 = .ok (.iconst 0, 1) := by decide +kernel
theorem dL_allows_30 : decode cL_allows 30 = .ok (.ireturn, 1) := by decide +kernel
theorem dX1_allows_0 : decode cX1_allows 0 = .ok (.lload_n 1, 1) := by decide +kernel
theorem dX1_allows_1 : decode cX1_allows 1 = .ok (.iload_n 3, 1) := by decide +kernel
theorem dX1_allows_2 : decode cX1_allows 2 = .ok (.iload 4, 2) := by decide +kernel
theorem dX1_allows_4 : decode cX1_allows 4 = .ok (.iload 5, 2) := by decide +kernel
theorem dX1_allows_6 : decode cX1_allows 6 = .ok (.invokestatic 66, 3) := by decide +kernel
theorem dX1_allows_9 : decode cX1_allows 9 = .ok (.ifCond .eq 10, 3) := by decide +kernel
theorem dX1_allows_12 : decode cX1_allows 12 = .ok (.lload_n 1, 1) := by decide +kernel
theorem dX1_allows_13 : decode cX1_allows 13 = .ok (.invokestatic 82, 3) := by decide +kernel
theorem dX1_allows_16 : decode cX1_allows 16 = .ok (.ifCond .ne 13, 3) := by decide +kernel
theorem dX1_allows_19 : decode cX1_allows 19 = .ok (.new 45, 3) := by decide +kernel
theorem dX1_allows_22 : decode cX1_allows 22 = .ok (.dup, 1) := by decide +kernel
theorem dX1_allows_23 : decode cX1_allows 23 = .ok (.ldc 86, 2) := by decide +kernel
theorem dX1_allows_25 : decode cX1_allows 25 = .ok (.invokespecial 49, 3) := by decide +kernel
theorem dX1_allows_28 : decode cX1_allows 28 = .ok (.athrow, 1) := by decide +kernel
theorem dX1_allows_29 : decode cX1_allows 29 = .ok (.aload_n 0, 1) := by decide +kernel
theorem dX1_allows_30 : decode cX1_allows 30 = .ok (.getfield 16, 3) := by decide +kernel
theorem dX1_allows_33 : decode cX1_allows 33 = .ok (.lload_n 1, 1) := by decide +kernel
theorem dX1_allows_34 : decode cX1_allows 34 = .ok (.iload_n 3, 1) := by decide +kernel
theorem dX1_allows_35 : decode cX1_allows 35 = .ok (.iload 4, 2) := by decide +kernel
theorem dX1_allows_37 : decode cX1_allows 37 = .ok (.iload 5, 2) := by decide +kernel
theorem dX1_allows_39 : decode cX1_allows 39 = .ok (.invokevirtual 76, 3) := by decide +kernel
theorem dX1_allows_42 : decode cX1_allows 42 = .ok (.ireturn, 1) := by decide +kernel
theorem dX2_init_0 : decode cX2_init 0 = .ok (.aload_n 0, 1) := by decide +kernel
theorem dX2_init_1 : decode cX2_init 1 = .ok (.invokespecial 1, 3) := by decide +kernel
theorem dX2_init_4 : decode cX2_init 4 = .ok (.aload_n 0, 1) := by decide +kernel
theorem dX2_init_5 : decode cX2_init 5 = .ok (.sipush 8192, 3) := by decide +kernel
theorem dX2_init_8 : decode cX2_init 8 = .ok (.newarray .long, 2) := by decide +kernel
theorem dX2_init_10 : decode cX2_init 10 = .ok (.putfield 7, 3) := by decide +kernel
theorem dX2_init_13 : decode cX2_init 13 = .ok (.aload_n 0, 1) := by decide +kernel
theorem dX2_init_14 : decode cX2_init 14 = .ok (.bipush 8, 2) := by decide +kernel
theorem dX2_init_16 : decode cX2_init 16 = .ok (.newarray .int, 2) := by decide +kernel
theorem dX2_init_18 : decode cX2_init 18 = .ok (.putfield 13, 3) := by decide +kernel
theorem dX2_init_21 : decode cX2_init 21 = .ok (.aload_n 0, 1) := by decide +kernel
theorem dX2_init_22 : decode cX2_init 22 = .ok (.bipush 8, 2) := by decide +kernel
theorem dX2_init_24 : decode cX2_init 24 = .ok (.newarray .long, 2) := by decide +kernel
theorem dX2_init_26 : decode cX2_init 26 = .ok (.putfield 17, 3) := by decide +kernel
theorem dX2_init_29 : decode cX2_init 29 = .ok (.return_, 1) := by decide +kernel
theorem dX2_thrown_0 : decode cX2_thrown 0 = .ok (.aload_n 0, 1) := by decide +kernel
theorem dX2_thrown_1 : decode cX2_thrown 1 = .ok (.getfield 20, 3) := by decide +kernel
theorem dX2_thrown_4 : decode cX2_thrown 4 = .ok (.ireturn, 1) := by decide +kernel
theorem dX2_word_0 : decode cX2_word 0 = .ok (.aload_n 0, 1) := by decide +kernel
theorem dX2_word_1 : decode cX2_word 1 = .ok (.lload_n 1, 1) := by decide +kernel
theorem dX2_word_2 : decode cX2_word 2 = .ok (.invokestatic 30, 3) := by decide +kernel
theorem dX2_word_5 : decode cX2_word 5 = .ok (.ifCond .eq 7, 3) := by decide +kernel
theorem dX2_word_8 : decode cX2_word 8 = .ok (.iconst 0, 1) := by decide +kernel
theorem dX2_word_9 : decode cX2_word 9 = .ok (.goto 4, 3) := by decide +kernel
theorem dX2_word_12 : decode cX2_word 12 = .ok (.iconst 1, 1) := by decide +kernel
theorem dX2_word_13 : decode cX2_word 13 = .ok (.putfield 20, 3) := by decide +kernel
theorem dX2_word_16 : decode cX2_word 16 = .ok (.aload_n 0, 1) := by decide +kernel
theorem dX2_word_17 : decode cX2_word 17 = .ok (.getfield 20, 3) := by decide +kernel
theorem dX2_word_20 : decode cX2_word 20 = .ok (.ifCond .le 7, 3) := by decide +kernel
theorem dX2_word_23 : decode cX2_word 23 = .ok (.lconst 0, 1) := by decide +kernel
theorem dX2_word_24 : decode cX2_word 24 = .ok (.goto 12, 3) := by decide +kernel
theorem dX2_word_27 : decode cX2_word 27 = .ok (.aload_n 0, 1) := by decide +kernel
theorem dX2_word_28 : decode cX2_word 28 = .ok (.getfield 7, 3) := by decide +kernel
theorem dX2_word_31 : decode cX2_word 31 = .ok (.lload_n 1, 1) := by decide +kernel
theorem dX2_word_32 : decode cX2_word 32 = .ok (.invokestatic 34, 3) := by decide +kernel
theorem dX2_word_35 : decode cX2_word 35 = .ok (.laload, 1) := by decide +kernel
theorem dX2_word_36 : decode cX2_word 36 = .ok (.lreturn, 1) := by decide +kernel
theorem dX2_isWord_0 : decode cX2_isWord 0 = .ok (.lload_n 0, 1) := by decide +kernel
theorem dX2_isWord_1 : decode cX2_isWord 1 = .ok (.ldc2_w 24, 3) := by decide +kernel
theorem dX2_isWord_4 : decode cX2_isWord 4 = .ok (.lcmp, 1) := by decide +kernel
theorem dX2_isWord_5 : decode cX2_isWord 5 = .ok (.ifCond .lt 25, 3) := by decide +kernel
theorem dX2_isWord_8 : decode cX2_isWord 8 = .ok (.lload_n 0, 1) := by decide +kernel
theorem dX2_isWord_9 : decode cX2_isWord 9 = .ok (.ldc2_w 26, 3) := by decide +kernel
theorem dX2_isWord_12 : decode cX2_isWord 12 = .ok (.lcmp, 1) := by decide +kernel
theorem dX2_isWord_13 : decode cX2_isWord 13 = .ok (.ifCond .ge 17, 3) := by decide +kernel
theorem dX2_isWord_16 : decode cX2_isWord 16 = .ok (.lload_n 0, 1) := by decide +kernel
theorem dX2_isWord_17 : decode cX2_isWord 17 = .ok (.ldc2_w 28, 3) := by decide +kernel
theorem dX2_isWord_20 : decode cX2_isWord 20 = .ok (.lrem, 1) := by decide +kernel
theorem dX2_isWord_21 : decode cX2_isWord 21 = .ok (.lconst 0, 1) := by decide +kernel
theorem dX2_isWord_22 : decode cX2_isWord 22 = .ok (.lcmp, 1) := by decide +kernel
theorem dX2_isWord_23 : decode cX2_isWord 23 = .ok (.ifCond .ne 7, 3) := by decide +kernel
theorem dX2_isWord_26 : decode cX2_isWord 26 = .ok (.iconst 1, 1) := by decide +kernel
theorem dX2_isWord_27 : decode cX2_isWord 27 = .ok (.goto 4, 3) := by decide +kernel
theorem dX2_isWord_30 : decode cX2_isWord 30 = .ok (.iconst 0, 1) := by decide +kernel
theorem dX2_isWord_31 : decode cX2_isWord 31 = .ok (.ireturn, 1) := by decide +kernel
theorem dX2_cell_0 : decode cX2_cell 0 = .ok (.lload_n 0, 1) := by decide +kernel
theorem dX2_cell_1 : decode cX2_cell 1 = .ok (.ldc2_w 24, 3) := by decide +kernel
theorem dX2_cell_4 : decode cX2_cell 4 = .ok (.lsub, 1) := by decide +kernel
theorem dX2_cell_5 : decode cX2_cell 5 = .ok (.ldc2_w 28, 3) := by decide +kernel
theorem dX2_cell_8 : decode cX2_cell 8 = .ok (.ldiv, 1) := by decide +kernel
theorem dX2_cell_9 : decode cX2_cell 9 = .ok (.l2i, 1) := by decide +kernel
theorem dX2_cell_10 : decode cX2_cell 10 = .ok (.ireturn, 1) := by decide +kernel
theorem dX2_put_0 : decode cX2_put 0 = .ok (.aload_n 0, 1) := by decide +kernel
theorem dX2_put_1 : decode cX2_put 1 = .ok (.lload_n 1, 1) := by decide +kernel
theorem dX2_put_2 : decode cX2_put 2 = .ok (.invokestatic 30, 3) := by decide +kernel
theorem dX2_put_5 : decode cX2_put 5 = .ok (.ifCond .eq 7, 3) := by decide +kernel
theorem dX2_put_8 : decode cX2_put 8 = .ok (.iconst 0, 1) := by decide +kernel
theorem dX2_put_9 : decode cX2_put 9 = .ok (.goto 4, 3) := by decide +kernel
theorem dX2_put_12 : decode cX2_put 12 = .ok (.iconst 1, 1) := by decide +kernel
theorem dX2_put_13 : decode cX2_put 13 = .ok (.putfield 20, 3) := by decide +kernel
theorem dX2_put_16 : decode cX2_put 16 = .ok (.aload_n 0, 1) := by decide +kernel
theorem dX2_put_17 : decode cX2_put 17 = .ok (.getfield 20, 3) := by decide +kernel
theorem dX2_put_20 : decode cX2_put 20 = .ok (.ifCond .ne 13, 3) := by decide +kernel
theorem dX2_put_23 : decode cX2_put 23 = .ok (.aload_n 0, 1) := by decide +kernel
theorem dX2_put_24 : decode cX2_put 24 = .ok (.getfield 7, 3) := by decide +kernel
theorem dX2_put_27 : decode cX2_put 27 = .ok (.lload_n 1, 1) := by decide +kernel
theorem dX2_put_28 : decode cX2_put 28 = .ok (.invokestatic 34, 3) := by decide +kernel
theorem dX2_put_31 : decode cX2_put 31 = .ok (.lload_n 3, 1) := by decide +kernel
theorem dX2_put_32 : decode cX2_put 32 = .ok (.lastore, 1) := by decide +kernel
theorem dX2_put_33 : decode cX2_put 33 = .ok (.return_, 1) := by decide +kernel
theorem dX2_table_0 : decode cX2_table 0 = .ok (.aload_n 0, 1) := by decide +kernel
theorem dX2_table_1 : decode cX2_table 1 = .ok (.iconst 0, 1) := by decide +kernel
theorem dX2_table_2 : decode cX2_table 2 = .ok (.putfield 20, 3) := by decide +kernel
theorem dX2_table_5 : decode cX2_table 5 = .ok (.aload_n 0, 1) := by decide +kernel
theorem dX2_table_6 : decode cX2_table 6 = .ok (.getfield 38, 3) := by decide +kernel
theorem dX2_table_9 : decode cX2_table 9 = .ok (.lreturn, 1) := by decide +kernel
theorem dX2_setTable_0 : decode cX2_setTable 0 = .ok (.lload_n 1, 1) := by decide +kernel
theorem dX2_setTable_1 : decode cX2_setTable 1 = .ok (.invokestatic 42, 3) := by decide +kernel
theorem dX2_setTable_4 : decode cX2_setTable 4 = .ok (.lstore_n 3, 1) := by decide +kernel
theorem dX2_setTable_5 : decode cX2_setTable 5 = .ok (.aload_n 0, 1) := by decide +kernel
theorem dX2_setTable_6 : decode cX2_setTable 6 = .ok (.lload_n 3, 1) := by decide +kernel
theorem dX2_setTable_7 : decode cX2_setTable 7 = .ok (.lconst 0, 1) := by decide +kernel
theorem dX2_setTable_8 : decode cX2_setTable 8 = .ok (.lcmp, 1) := by decide +kernel
theorem dX2_setTable_9 : decode cX2_setTable 9 = .ok (.ifCond .eq 19, 3) := by decide +kernel
theorem dX2_setTable_12 : decode cX2_setTable 12 = .ok (.lload_n 3, 1) := by decide +kernel
theorem dX2_setTable_13 : decode cX2_setTable 13 = .ok (.ldc2_w 28, 3) := by decide +kernel
theorem dX2_setTable_16 : decode cX2_setTable 16 = .ok (.lcmp, 1) := by decide +kernel
theorem dX2_setTable_17 : decode cX2_setTable 17 = .ok (.ifCond .eq 11, 3) := by decide +kernel
theorem dX2_setTable_20 : decode cX2_setTable 20 = .ok (.lload_n 3, 1) := by decide +kernel
theorem dX2_setTable_21 : decode cX2_setTable 21 = .ok (.ldc2_w 46, 3) := by decide +kernel
theorem dX2_setTable_24 : decode cX2_setTable 24 = .ok (.lcmp, 1) := by decide +kernel
theorem dX2_setTable_25 : decode cX2_setTable 25 = .ok (.ifCond .ne 7, 3) := by decide +kernel
theorem dX2_setTable_28 : decode cX2_setTable 28 = .ok (.iconst 0, 1) := by decide +kernel
theorem dX2_setTable_29 : decode cX2_setTable 29 = .ok (.goto 4, 3) := by decide +kernel
theorem dX2_setTable_32 : decode cX2_setTable 32 = .ok (.iconst 1, 1) := by decide +kernel
theorem dX2_setTable_33 : decode cX2_setTable 33 = .ok (.putfield 20, 3) := by decide +kernel
theorem dX2_setTable_36 : decode cX2_setTable 36 = .ok (.aload_n 0, 1) := by decide +kernel
theorem dX2_setTable_37 : decode cX2_setTable 37 = .ok (.getfield 20, 3) := by decide +kernel
theorem dX2_setTable_40 : decode cX2_setTable 40 = .ok (.ifCond .ne 8, 3) := by decide +kernel
theorem dX2_setTable_43 : decode cX2_setTable 43 = .ok (.aload_n 0, 1) := by decide +kernel
theorem dX2_setTable_44 : decode cX2_setTable 44 = .ok (.lload_n 1, 1) := by decide +kernel
theorem dX2_setTable_45 : decode cX2_setTable 45 = .ok (.putfield 38, 3) := by decide +kernel
theorem dX2_setTable_48 : decode cX2_setTable 48 = .ok (.return_, 1) := by decide +kernel
theorem dX2_sortOf_0 : decode cX2_sortOf 0 = .ok (.lload_n 0, 1) := by decide +kernel
theorem dX2_sortOf_1 : decode cX2_sortOf 1 = .ok (.bipush 60, 2) := by decide +kernel
theorem dX2_sortOf_3 : decode cX2_sortOf 3 = .ok (.lushr, 1) := by decide +kernel
theorem dX2_sortOf_4 : decode cX2_sortOf 4 = .ok (.lreturn, 1) := by decide +kernel
theorem dX2_rights_0 : decode cX2_rights 0 = .ok (.aload_n 0, 1) := by decide +kernel
theorem dX2_rights_1 : decode cX2_rights 1 = .ok (.iconst 0, 1) := by decide +kernel
theorem dX2_rights_2 : decode cX2_rights 2 = .ok (.putfield 20, 3) := by decide +kernel
theorem dX2_rights_5 : decode cX2_rights 5 = .ok (.aload_n 0, 1) := by decide +kernel
theorem dX2_rights_6 : decode cX2_rights 6 = .ok (.iload_n 1, 1) := by decide +kernel
theorem dX2_rights_7 : decode cX2_rights 7 = .ok (.putfield 48, 3) := by decide +kernel
theorem dX2_rights_10 : decode cX2_rights 10 = .ok (.aload_n 0, 1) := by decide +kernel
theorem dX2_rights_11 : decode cX2_rights 11 = .ok (.iload_n 2, 1) := by decide +kernel
theorem dX2_rights_12 : decode cX2_rights 12 = .ok (.putfield 52, 3) := by decide +kernel
theorem dX2_rights_15 : decode cX2_rights 15 = .ok (.return_, 1) := by decide +kernel
theorem dX2_configs_0 : decode cX2_configs 0 = .ok (.aload_n 0, 1) := by decide +kernel
theorem dX2_configs_1 : decode cX2_configs 1 = .ok (.iconst 0, 1) := by decide +kernel
theorem dX2_configs_2 : decode cX2_configs 2 = .ok (.putfield 20, 3) := by decide +kernel
theorem dX2_configs_5 : decode cX2_configs 5 = .ok (.lconst 0, 1) := by decide +kernel
theorem dX2_configs_6 : decode cX2_configs 6 = .ok (.lstore_n 1, 1) := by decide +kernel
theorem dX2_configs_7 : decode cX2_configs 7 = .ok (.bipush 7, 2) := by decide +kernel
theorem dX2_configs_9 : decode cX2_configs 9 = .ok (.istore_n 3, 1) := by decide +kernel
theorem dX2_configs_10 : decode cX2_configs 10 = .ok (.iload_n 3, 1) := by decide +kernel
theorem dX2_configs_11 : decode cX2_configs 11 = .ok (.ifCond .lt 23, 3) := by decide +kernel
theorem dX2_configs_14 : decode cX2_configs 14 = .ok (.ldc2_w 55, 3) := by decide +kernel
theorem dX2_configs_17 : decode cX2_configs 17 = .ok (.lload_n 1, 1) := by decide +kernel
theorem dX2_configs_18 : decode cX2_configs 18 = .ok (.lmul, 1) := by decide +kernel
theorem dX2_configs_19 : decode cX2_configs 19 = .ok (.aload_n 0, 1) := by decide +kernel
theorem dX2_configs_20 : decode cX2_configs 20 = .ok (.getfield 13, 3) := by decide +kernel
theorem dX2_configs_23 : decode cX2_configs 23 = .ok (.iload_n 3, 1) := by decide +kernel
theorem dX2_configs_24 : decode cX2_configs 24 = .ok (.iaload, 1) := by decide +kernel
theorem dX2_configs_25 : decode cX2_configs 25 = .ok (.i2l, 1) := by decide +kernel
theorem dX2_configs_26 : decode cX2_configs 26 = .ok (.ladd, 1) := by decide +kernel
theorem dX2_configs_27 : decode cX2_configs 27 = .ok (.lstore_n 1, 1) := by decide +kernel
theorem dX2_configs_28 : decode cX2_configs 28 = .ok (.iinc 3 (-1), 3) := by decide +kernel
theorem dX2_configs_31 : decode cX2_configs 31 = .ok (.goto (-21), 3) := by decide +kernel
theorem dX2_configs_34 : decode cX2_configs 34 = .ok (.lload_n 1, 1) := by decide +kernel
theorem dX2_configs_35 : decode cX2_configs 35 = .ok (.lreturn, 1) := by decide +kernel
theorem dX2_setConfigs_0 : decode cX2_setConfigs 0 = .ok (.aload_n 0, 1) := by decide +kernel
theorem dX2_setConfigs_1 : decode cX2_setConfigs 1 = .ok (.iconst 0, 1) := by decide +kernel
theorem dX2_setConfigs_2 : decode cX2_setConfigs 2 = .ok (.putfield 20, 3) := by decide +kernel
theorem dX2_setConfigs_5 : decode cX2_setConfigs 5 = .ok (.iconst 0, 1) := by decide +kernel
theorem dX2_setConfigs_6 : decode cX2_setConfigs 6 = .ok (.istore_n 3, 1) := by decide +kernel
theorem dX2_setConfigs_7 : decode cX2_setConfigs 7 = .ok (.iload_n 3, 1) := by decide +kernel
theorem dX2_setConfigs_8 : decode cX2_setConfigs 8 = .ok (.bipush 8, 2) := by decide +kernel
theorem dX2_setConfigs_10 : decode cX2_setConfigs 10 = .ok (.if_icmp .ge 68, 3) := by decide +kernel
theorem dX2_setConfigs_13 : decode cX2_setConfigs 13 = .ok (.lload_n 1, 1) := by decide +kernel
theorem dX2_setConfigs_14 : decode cX2_setConfigs 14 = .ok (.bipush 8, 2) := by decide +kernel
theorem dX2_setConfigs_16 : decode cX2_setConfigs 16 = .ok (.iload_n 3, 1) := by decide +kernel
theorem dX2_setConfigs_17 : decode cX2_setConfigs 17 = .ok (.imul, 1) := by decide +kernel
theorem dX2_setConfigs_18 : decode cX2_setConfigs 18 = .ok (.lushr, 1) := by decide +kernel
theorem dX2_setConfigs_19 : decode cX2_setConfigs 19 = .ok (.l2i, 1) := by decide +kernel
theorem dX2_setConfigs_20 : decode cX2_setConfigs 20 = .ok (.sipush 159, 3) := by decide +kernel
theorem dX2_setConfigs_23 : decode cX2_setConfigs 23 = .ok (.iand, 1) := by decide +kernel
theorem dX2_setConfigs_24 : decode cX2_setConfigs 24 = .ok (.istore 4, 2) := by decide +kernel
theorem dX2_setConfigs_26 : decode cX2_setConfigs 26 = .ok (.iload 4, 2) := by decide +kernel
theorem dX2_setConfigs_28 : decode cX2_setConfigs 28 = .ok (.iconst 3, 1) := by decide +kernel
theorem dX2_setConfigs_29 : decode cX2_setConfigs 29 = .ok (.iand, 1) := by decide +kernel
theorem dX2_setConfigs_30 : decode cX2_setConfigs 30 = .ok (.iconst 2, 1) := by decide +kernel
theorem dX2_setConfigs_31 : decode cX2_setConfigs 31 = .ok (.if_icmp .ne 10, 3) := by decide +kernel
theorem dX2_setConfigs_34 : decode cX2_setConfigs 34 = .ok (.iload 4, 2) := by decide +kernel
theorem dX2_setConfigs_36 : decode cX2_setConfigs 36 = .ok (.iconst 2, 1) := by decide +kernel
theorem dX2_setConfigs_37 : decode cX2_setConfigs 37 = .ok (.isub, 1) := by decide +kernel
theorem dX2_setConfigs_38 : decode cX2_setConfigs 38 = .ok (.goto 5, 3) := by decide +kernel
theorem dX2_setConfigs_41 : decode cX2_setConfigs 41 = .ok (.iload 4, 2) := by decide +kernel
theorem dX2_setConfigs_43 : decode cX2_setConfigs 43 = .ok (.istore 4, 2) := by decide +kernel
theorem dX2_setConfigs_45 : decode cX2_setConfigs 45 = .ok (.aload_n 0, 1) := by decide +kernel
theorem dX2_setConfigs_46 : decode cX2_setConfigs 46 = .ok (.getfield 13, 3) := by decide +kernel
theorem dX2_setConfigs_49 : decode cX2_setConfigs 49 = .ok (.iload_n 3, 1) := by decide +kernel
theorem dX2_setConfigs_50 : decode cX2_setConfigs 50 = .ok (.aload_n 0, 1) := by decide +kernel
theorem dX2_setConfigs_51 : decode cX2_setConfigs 51 = .ok (.iload_n 3, 1) := by decide +kernel
theorem dX2_setConfigs_52 : decode cX2_setConfigs 52 = .ok (.bipush 7, 2) := by decide +kernel
theorem dX2_setConfigs_54 : decode cX2_setConfigs 54 = .ok (.invokevirtual 57, 3) := by decide +kernel
theorem dX2_setConfigs_57 : decode cX2_setConfigs 57 = .ok (.ifCond .eq 12, 3) := by decide +kernel
theorem dX2_setConfigs_60 : decode cX2_setConfigs 60 = .ok (.aload_n 0, 1) := by decide +kernel
theorem dX2_setConfigs_61 : decode cX2_setConfigs 61 = .ok (.getfield 13, 3) := by decide +kernel
theorem dX2_setConfigs_64 : decode cX2_setConfigs 64 = .ok (.iload_n 3, 1) := by decide +kernel
theorem dX2_setConfigs_65 : decode cX2_setConfigs 65 = .ok (.iaload, 1) := by decide +kernel
theorem dX2_setConfigs_66 : decode cX2_setConfigs 66 = .ok (.goto 5, 3) := by decide +kernel
theorem dX2_setConfigs_69 : decode cX2_setConfigs 69 = .ok (.iload 4, 2) := by decide +kernel
theorem dX2_setConfigs_71 : decode cX2_setConfigs 71 = .ok (.iastore, 1) := by decide +kernel
theorem dX2_setConfigs_72 : decode cX2_setConfigs 72 = .ok (.iinc 3 1, 3) := by decide +kernel
theorem dX2_setConfigs_75 : decode cX2_setConfigs 75 = .ok (.goto (-68), 3) := by decide +kernel
theorem dX2_setConfigs_78 : decode cX2_setConfigs 78 = .ok (.return_, 1) := by decide +kernel
theorem dX2_has_0 : decode cX2_has 0 = .ok (.aload_n 0, 1) := by decide +kernel
theorem dX2_has_1 : decode cX2_has 1 = .ok (.getfield 13, 3) := by decide +kernel
theorem dX2_has_4 : decode cX2_has 4 = .ok (.iload_n 1, 1) := by decide +kernel
theorem dX2_has_5 : decode cX2_has 5 = .ok (.iaload, 1) := by decide +kernel
theorem dX2_has_6 : decode cX2_has 6 = .ok (.iload_n 2, 1) := by decide +kernel
theorem dX2_has_7 : decode cX2_has 7 = .ok (.ishr, 1) := by decide +kernel
theorem dX2_has_8 : decode cX2_has 8 = .ok (.iconst 1, 1) := by decide +kernel
theorem dX2_has_9 : decode cX2_has 9 = .ok (.iand, 1) := by decide +kernel
theorem dX2_has_10 : decode cX2_has 10 = .ok (.iconst 1, 1) := by decide +kernel
theorem dX2_has_11 : decode cX2_has 11 = .ok (.if_icmp .ne 7, 3) := by decide +kernel
theorem dX2_has_14 : decode cX2_has 14 = .ok (.iconst 1, 1) := by decide +kernel
theorem dX2_has_15 : decode cX2_has 15 = .ok (.goto 4, 3) := by decide +kernel
theorem dX2_has_18 : decode cX2_has 18 = .ok (.iconst 0, 1) := by decide +kernel
theorem dX2_has_19 : decode cX2_has 19 = .ok (.ireturn, 1) := by decide +kernel
theorem dX2_number_0 : decode cX2_number 0 = .ok (.aload_n 0, 1) := by decide +kernel
theorem dX2_number_1 : decode cX2_number 1 = .ok (.iload_n 1, 1) := by decide +kernel
theorem dX2_number_2 : decode cX2_number 2 = .ok (.ifCond .lt 9, 3) := by decide +kernel
theorem dX2_number_5 : decode cX2_number 5 = .ok (.iload_n 1, 1) := by decide +kernel
theorem dX2_number_6 : decode cX2_number 6 = .ok (.bipush 7, 2) := by decide +kernel
theorem dX2_number_8 : decode cX2_number 8 = .ok (.if_icmp .le 7, 3) := by decide +kernel
theorem dX2_number_11 : decode cX2_number 11 = .ok (.iconst 1, 1) := by decide +kernel
theorem dX2_number_12 : decode cX2_number 12 = .ok (.goto 4, 3) := by decide +kernel
theorem dX2_number_15 : decode cX2_number 15 = .ok (.iconst 0, 1) := by decide +kernel
theorem dX2_number_16 : decode cX2_number 16 = .ok (.putfield 20, 3) := by decide +kernel
theorem dX2_number_19 : decode cX2_number 19 = .ok (.aload_n 0, 1) := by decide +kernel
theorem dX2_number_20 : decode cX2_number 20 = .ok (.getfield 20, 3) := by decide +kernel
theorem dX2_number_23 : decode cX2_number 23 = .ok (.ifCond .le 7, 3) := by decide +kernel
theorem dX2_number_26 : decode cX2_number 26 = .ok (.lconst 0, 1) := by decide +kernel
theorem dX2_number_27 : decode cX2_number 27 = .ok (.goto 9, 3) := by decide +kernel
theorem dX2_number_30 : decode cX2_number 30 = .ok (.aload_n 0, 1) := by decide +kernel
theorem dX2_number_31 : decode cX2_number 31 = .ok (.getfield 17, 3) := by decide +kernel
theorem dX2_number_34 : decode cX2_number 34 = .ok (.iload_n 1, 1) := by decide +kernel
theorem dX2_number_35 : decode cX2_number 35 = .ok (.laload, 1) := by decide +kernel
theorem dX2_number_36 : decode cX2_number 36 = .ok (.lreturn, 1) := by decide +kernel
theorem dX2_setNumber_0 : decode cX2_setNumber 0 = .ok (.aload_n 0, 1) := by decide +kernel
theorem dX2_setNumber_1 : decode cX2_setNumber 1 = .ok (.iload_n 1, 1) := by decide +kernel
theorem dX2_setNumber_2 : decode cX2_setNumber 2 = .ok (.ifCond .lt 9, 3) := by decide +kernel
theorem dX2_setNumber_5 : decode cX2_setNumber 5 = .ok (.iload_n 1, 1) := by decide +kernel
theorem dX2_setNumber_6 : decode cX2_setNumber 6 = .ok (.bipush 7, 2) := by decide +kernel
theorem dX2_setNumber_8 : decode cX2_setNumber 8 = .ok (.if_icmp .le 7, 3) := by decide +kernel
theorem dX2_setNumber_11 : decode cX2_setNumber 11 = .ok (.iconst 1, 1) := by decide +kernel
theorem dX2_setNumber_12 : decode cX2_setNumber 12 = .ok (.goto 4, 3) := by decide +kernel
theorem dX2_setNumber_15 : decode cX2_setNumber 15 = .ok (.iconst 0, 1) := by decide +kernel
theorem dX2_setNumber_16 : decode cX2_setNumber 16 = .ok (.putfield 20, 3) := by decide +kernel
theorem dX2_setNumber_19 : decode cX2_setNumber 19 = .ok (.aload_n 0, 1) := by decide +kernel
theorem dX2_setNumber_20 : decode cX2_setNumber 20 = .ok (.getfield 20, 3) := by decide +kernel
theorem dX2_setNumber_23 : decode cX2_setNumber 23 = .ok (.ifCond .le 4, 3) := by decide +kernel
theorem dX2_setNumber_26 : decode cX2_setNumber 26 = .ok (.return_, 1) := by decide +kernel
theorem dX2_setNumber_27 : decode cX2_setNumber 27 = .ok (.aload_n 0, 1) := by decide +kernel
theorem dX2_setNumber_28 : decode cX2_setNumber 28 = .ok (.iload_n 1, 1) := by decide +kernel
theorem dX2_setNumber_29 : decode cX2_setNumber 29 = .ok (.bipush 7, 2) := by decide +kernel
theorem dX2_setNumber_31 : decode cX2_setNumber 31 = .ok (.invokevirtual 57, 3) := by decide +kernel
theorem dX2_setNumber_34 : decode cX2_setNumber 34 = .ok (.ifCond .ne 32, 3) := by decide +kernel
theorem dX2_setNumber_37 : decode cX2_setNumber 37 = .ok (.iload_n 1, 1) := by decide +kernel
theorem dX2_setNumber_38 : decode cX2_setNumber 38 = .ok (.bipush 7, 2) := by decide +kernel
theorem dX2_setNumber_40 : decode cX2_setNumber 40 = .ok (.if_icmp .ge 30, 3) := by decide +kernel
theorem dX2_setNumber_43 : decode cX2_setNumber 43 = .ok (.aload_n 0, 1) := by decide +kernel
theorem dX2_setNumber_44 : decode cX2_setNumber 44 = .ok (.iload_n 1, 1) := by decide +kernel
theorem dX2_setNumber_45 : decode cX2_setNumber 45 = .ok (.iconst 1, 1) := by decide +kernel
theorem dX2_setNumber_46 : decode cX2_setNumber 46 = .ok (.iadd, 1) := by decide +kernel
theorem dX2_setNumber_47 : decode cX2_setNumber 47 = .ok (.bipush 7, 2) := by decide +kernel
theorem dX2_setNumber_49 : decode cX2_setNumber 49 = .ok (.invokevirtual 57, 3) := by decide +kernel
theorem dX2_setNumber_52 : decode cX2_setNumber 52 = .ok (.ifCond .eq 18, 3) := by decide +kernel
theorem dX2_setNumber_55 : decode cX2_setNumber 55 = .ok (.aload_n 0, 1) := by decide +kernel
theorem dX2_setNumber_56 : decode cX2_setNumber 56 = .ok (.iload_n 1, 1) := by decide +kernel
theorem dX2_setNumber_57 : decode cX2_setNumber 57 = .ok (.iconst 1, 1) := by decide +kernel
theorem dX2_setNumber_58 : decode cX2_setNumber 58 = .ok (.iadd, 1) := by decide +kernel
theorem dX2_setNumber_59 : decode cX2_setNumber 59 = .ok (.invokevirtual 61, 3) := by decide +kernel
theorem dX2_setNumber_62 : decode cX2_setNumber 62 = .ok (.iconst 1, 1) := by decide +kernel
theorem dX2_setNumber_63 : decode cX2_setNumber 63 = .ok (.if_icmp .ne 7, 3) := by decide +kernel
theorem dX2_setNumber_66 : decode cX2_setNumber 66 = .ok (.iconst 1, 1) := by decide +kernel
theorem dX2_setNumber_67 : decode cX2_setNumber 67 = .ok (.goto 4, 3) := by decide +kernel
theorem dX2_setNumber_70 : decode cX2_setNumber 70 = .ok (.iconst 0, 1) := by decide +kernel
theorem dX2_setNumber_71 : decode cX2_setNumber 71 = .ok (.istore 4, 2) := by decide +kernel
theorem dX2_setNumber_73 : decode cX2_setNumber 73 = .ok (.aload_n 0, 1) := by decide +kernel
theorem dX2_setNumber_74 : decode cX2_setNumber 74 = .ok (.getfield 17, 3) := by decide +kernel
theorem dX2_setNumber_77 : decode cX2_setNumber 77 = .ok (.iload_n 1, 1) := by decide +kernel
theorem dX2_setNumber_78 : decode cX2_setNumber 78 = .ok (.iload 4, 2) := by decide +kernel
theorem dX2_setNumber_80 : decode cX2_setNumber 80 = .ok (.ifCond .eq 12, 3) := by decide +kernel
theorem dX2_setNumber_83 : decode cX2_setNumber 83 = .ok (.aload_n 0, 1) := by decide +kernel
theorem dX2_setNumber_84 : decode cX2_setNumber 84 = .ok (.getfield 17, 3) := by decide +kernel
theorem dX2_setNumber_87 : decode cX2_setNumber 87 = .ok (.iload_n 1, 1) := by decide +kernel
theorem dX2_setNumber_88 : decode cX2_setNumber 88 = .ok (.laload, 1) := by decide +kernel
theorem dX2_setNumber_89 : decode cX2_setNumber 89 = .ok (.goto 8, 3) := by decide +kernel
theorem dX2_setNumber_92 : decode cX2_setNumber 92 = .ok (.lload_n 2, 1) := by decide +kernel
theorem dX2_setNumber_93 : decode cX2_setNumber 93 = .ok (.ldc2_w 65, 3) := by decide +kernel
theorem dX2_setNumber_96 : decode cX2_setNumber 96 = .ok (.land, 1) := by decide +kernel
theorem dX2_setNumber_97 : decode cX2_setNumber 97 = .ok (.lastore, 1) := by decide +kernel
theorem dX2_setNumber_98 : decode cX2_setNumber 98 = .ok (.return_, 1) := by decide +kernel
theorem dX2_kind_0 : decode cX2_kind 0 = .ok (.aload_n 0, 1) := by decide +kernel
theorem dX2_kind_1 : decode cX2_kind 1 = .ok (.getfield 13, 3) := by decide +kernel
theorem dX2_kind_4 : decode cX2_kind 4 = .ok (.iload_n 1, 1) := by decide +kernel
theorem dX2_kind_5 : decode cX2_kind 5 = .ok (.iaload, 1) := by decide +kernel
theorem dX2_kind_6 : decode cX2_kind 6 = .ok (.iconst 3, 1) := by decide +kernel
theorem dX2_kind_7 : decode cX2_kind 7 = .ok (.ishr, 1) := by decide +kernel
theorem dX2_kind_8 : decode cX2_kind 8 = .ok (.iconst 3, 1) := by decide +kernel
theorem dX2_kind_9 : decode cX2_kind 9 = .ok (.iand, 1) := by decide +kernel
theorem dX2_kind_10 : decode cX2_kind 10 = .ok (.ireturn, 1) := by decide +kernel
theorem dX2_allows_0 : decode cX2_allows 0 = .ok (.aload_n 0, 1) := by decide +kernel
theorem dX2_allows_1 : decode cX2_allows 1 = .ok (.iload_n 3, 1) := by decide +kernel
theorem dX2_allows_2 : decode cX2_allows 2 = .ok (.iload 4, 2) := by decide +kernel
theorem dX2_allows_4 : decode cX2_allows 4 = .ok (.iload 5, 2) := by decide +kernel
theorem dX2_allows_6 : decode cX2_allows 6 = .ok (.invokestatic 87, 3) := by decide +kernel
theorem dX2_allows_9 : decode cX2_allows 9 = .ok (.ifCond .eq 25, 3) := by decide +kernel
theorem dX2_allows_12 : decode cX2_allows 12 = .ok (.lload_n 1, 1) := by decide +kernel
theorem dX2_allows_13 : decode cX2_allows 13 = .ok (.iload 5, 2) := by decide +kernel
theorem dX2_allows_15 : decode cX2_allows 15 = .ok (.invokestatic 91, 3) := by decide +kernel
theorem dX2_allows_18 : decode cX2_allows 18 = .ok (.ifCond .eq 16, 3) := by decide +kernel
theorem dX2_allows_21 : decode cX2_allows 21 = .ok (.lload_n 1, 1) := by decide +kernel
theorem dX2_allows_22 : decode cX2_allows 22 = .ok (.bipush 56, 2) := by decide +kernel
theorem dX2_allows_24 : decode cX2_allows 24 = .ok (.lushr, 1) := by decide +kernel
theorem dX2_allows_25 : decode cX2_allows 25 = .ok (.lconst 0, 1) := by decide +kernel
theorem dX2_allows_26 : decode cX2_allows 26 = .ok (.lcmp, 1) := by decide +kernel
theorem dX2_allows_27 : decode cX2_allows 27 = .ok (.ifCond .ne 7, 3) := by decide +kernel
theorem dX2_allows_30 : decode cX2_allows 30 = .ok (.iconst 0, 1) := by decide +kernel
theorem dX2_allows_31 : decode cX2_allows 31 = .ok (.goto 4, 3) := by decide +kernel
theorem dX2_allows_34 : decode cX2_allows 34 = .ok (.iconst 1, 1) := by decide +kernel
theorem dX2_allows_35 : decode cX2_allows 35 = .ok (.putfield 20, 3) := by decide +kernel
theorem dX2_allows_38 : decode cX2_allows 38 = .ok (.aload_n 0, 1) := by decide +kernel
theorem dX2_allows_39 : decode cX2_allows 39 = .ok (.getfield 20, 3) := by decide +kernel
theorem dX2_allows_42 : decode cX2_allows 42 = .ok (.ifCond .ne 20, 3) := by decide +kernel
theorem dX2_allows_45 : decode cX2_allows 45 = .ok (.aload_n 0, 1) := by decide +kernel
theorem dX2_allows_46 : decode cX2_allows 46 = .ok (.lload_n 1, 1) := by decide +kernel
theorem dX2_allows_47 : decode cX2_allows 47 = .ok (.iload_n 3, 1) := by decide +kernel
theorem dX2_allows_48 : decode cX2_allows 48 = .ok (.iload 4, 2) := by decide +kernel
theorem dX2_allows_50 : decode cX2_allows 50 = .ok (.iload 5, 2) := by decide +kernel
theorem dX2_allows_52 : decode cX2_allows 52 = .ok (.invokevirtual 95, 3) := by decide +kernel
theorem dX2_allows_55 : decode cX2_allows 55 = .ok (.ifCond .eq 7, 3) := by decide +kernel
theorem dX2_allows_58 : decode cX2_allows 58 = .ok (.iconst 1, 1) := by decide +kernel
theorem dX2_allows_59 : decode cX2_allows 59 = .ok (.goto 4, 3) := by decide +kernel
theorem dX2_allows_62 : decode cX2_allows 62 = .ok (.iconst 0, 1) := by decide +kernel
theorem dX2_allows_63 : decode cX2_allows 63 = .ok (.ireturn, 1) := by decide +kernel
theorem dX2_isAccess_0 : decode cX2_isAccess 0 = .ok (.iload_n 2, 1) := by decide +kernel
theorem dX2_isAccess_1 : decode cX2_isAccess 1 = .ok (.iconst 1, 1) := by decide +kernel
theorem dX2_isAccess_2 : decode cX2_isAccess 2 = .ok (.if_icmp .eq 19, 3) := by decide +kernel
theorem dX2_isAccess_5 : decode cX2_isAccess 5 = .ok (.iload_n 2, 1) := by decide +kernel
theorem dX2_isAccess_6 : decode cX2_isAccess 6 = .ok (.iconst 2, 1) := by decide +kernel
theorem dX2_isAccess_7 : decode cX2_isAccess 7 = .ok (.if_icmp .eq 14, 3) := by decide +kernel
theorem dX2_isAccess_10 : decode cX2_isAccess 10 = .ok (.iload_n 2, 1) := by decide +kernel
theorem dX2_isAccess_11 : decode cX2_isAccess 11 = .ok (.iconst 4, 1) := by decide +kernel
theorem dX2_isAccess_12 : decode cX2_isAccess 12 = .ok (.if_icmp .eq 9, 3) := by decide +kernel
theorem dX2_isAccess_15 : decode cX2_isAccess 15 = .ok (.iload_n 2, 1) := by decide +kernel
theorem dX2_isAccess_16 : decode cX2_isAccess 16 = .ok (.bipush 8, 2) := by decide +kernel
theorem dX2_isAccess_18 : decode cX2_isAccess 18 = .ok (.if_icmp .ne 7, 3) := by decide +kernel
theorem dX2_isAccess_21 : decode cX2_isAccess 21 = .ok (.iconst 1, 1) := by decide +kernel
theorem dX2_isAccess_22 : decode cX2_isAccess 22 = .ok (.goto 4, 3) := by decide +kernel
theorem dX2_isAccess_25 : decode cX2_isAccess 25 = .ok (.iconst 0, 1) := by decide +kernel
theorem dX2_isAccess_26 : decode cX2_isAccess 26 = .ok (.istore_n 3, 1) := by decide +kernel
theorem dX2_isAccess_27 : decode cX2_isAccess 27 = .ok (.iload_n 0, 1) := by decide +kernel
theorem dX2_isAccess_28 : decode cX2_isAccess 28 = .ok (.ifCond .lt 30, 3) := by decide +kernel
theorem dX2_isAccess_31 : decode cX2_isAccess 31 = .ok (.iload_n 0, 1) := by decide +kernel
theorem dX2_isAccess_32 : decode cX2_isAccess 32 = .ok (.iconst 3, 1) := by decide +kernel
theorem dX2_isAccess_33 : decode cX2_isAccess 33 = .ok (.if_icmp .ge 25, 3) := by decide +kernel
theorem dX2_isAccess_36 : decode cX2_isAccess 36 = .ok (.iload_n 1, 1) := by decide +kernel
theorem dX2_isAccess_37 : decode cX2_isAccess 37 = .ok (.ifCond .eq 13, 3) := by decide +kernel
theorem dX2_isAccess_40 : decode cX2_isAccess 40 = .ok (.iload_n 1, 1) := by decide +kernel
theorem dX2_isAccess_41 : decode cX2_isAccess 41 = .ok (.iconst 1, 1) := by decide +kernel
theorem dX2_isAccess_42 : decode cX2_isAccess 42 = .ok (.if_icmp .eq 8, 3) := by decide +kernel
theorem dX2_isAccess_45 : decode cX2_isAccess 45 = .ok (.iload_n 1, 1) := by decide +kernel
theorem dX2_isAccess_46 : decode cX2_isAccess 46 = .ok (.iconst 3, 1) := by decide +kernel
theorem dX2_isAccess_47 : decode cX2_isAccess 47 = .ok (.if_icmp .ne 11, 3) := by decide +kernel
theorem dX2_isAccess_50 : decode cX2_isAccess 50 = .ok (.iload_n 3, 1) := by decide +kernel
theorem dX2_isAccess_51 : decode cX2_isAccess 51 = .ok (.ifCond .eq 7, 3) := by decide +kernel
theorem dX2_isAccess_54 : decode cX2_isAccess 54 = .ok (.iconst 1, 1) := by decide +kernel
theorem dX2_isAccess_55 : decode cX2_isAccess 55 = .ok (.goto 4, 3) := by decide +kernel
theorem dX2_isAccess_58 : decode cX2_isAccess 58 = .ok (.iconst 0, 1) := by decide +kernel
theorem dX2_isAccess_59 : decode cX2_isAccess 59 = .ok (.ireturn, 1) := by decide +kernel
theorem dX2_isWithin_0 : decode cX2_isWithin 0 = .ok (.lload_n 0, 1) := by decide +kernel
theorem dX2_isWithin_1 : decode cX2_isWithin 1 = .ok (.ldc2_w 83, 3) := by decide +kernel
theorem dX2_isWithin_4 : decode cX2_isWithin 4 = .ok (.land, 1) := by decide +kernel
theorem dX2_isWithin_5 : decode cX2_isWithin 5 = .ok (.iload_n 2, 1) := by decide +kernel
theorem dX2_isWithin_6 : decode cX2_isWithin 6 = .ok (.i2l, 1) := by decide +kernel
theorem dX2_isWithin_7 : decode cX2_isWithin 7 = .ok (.ladd, 1) := by decide +kernel
theorem dX2_isWithin_8 : decode cX2_isWithin 8 = .ok (.ldc2_w 85, 3) := by decide +kernel
theorem dX2_isWithin_11 : decode cX2_isWithin 11 = .ok (.lcmp, 1) := by decide +kernel
theorem dX2_isWithin_12 : decode cX2_isWithin 12 = .ok (.ifCond .gt 7, 3) := by decide +kernel
theorem dX2_isWithin_15 : decode cX2_isWithin 15 = .ok (.iconst 1, 1) := by decide +kernel
theorem dX2_isWithin_16 : decode cX2_isWithin 16 = .ok (.goto 4, 3) := by decide +kernel
theorem dX2_isWithin_19 : decode cX2_isWithin 19 = .ok (.iconst 0, 1) := by decide +kernel
theorem dX2_isWithin_20 : decode cX2_isWithin 20 = .ok (.ireturn, 1) := by decide +kernel
theorem dX2_isLet_0 : decode cX2_isLet 0 = .ok (.iconst 0, 1) := by decide +kernel
theorem dX2_isLet_1 : decode cX2_isLet 1 = .ok (.istore 6, 2) := by decide +kernel
theorem dX2_isLet_3 : decode cX2_isLet 3 = .ok (.iload 6, 2) := by decide +kernel
theorem dX2_isLet_5 : decode cX2_isLet 5 = .ok (.bipush 8, 2) := by decide +kernel
theorem dX2_isLet_7 : decode cX2_isLet 7 = .ok (.if_icmp .ge 137, 3) := by decide +kernel
theorem dX2_isLet_10 : decode cX2_isLet 10 = .ok (.aload_n 0, 1) := by decide +kernel
theorem dX2_isLet_11 : decode cX2_isLet 11 = .ok (.iload 6, 2) := by decide +kernel
theorem dX2_isLet_13 : decode cX2_isLet 13 = .ok (.invokevirtual 79, 3) := by decide +kernel
theorem dX2_isLet_16 : decode cX2_isLet 16 = .ok (.iconst 0, 1) := by decide +kernel
theorem dX2_isLet_17 : decode cX2_isLet 17 = .ok (.istore 7, 2) := by decide +kernel
theorem dX2_isLet_19 : decode cX2_isLet 19 = .ok (.iconst 0, 1) := by decide +kernel
theorem dX2_isLet_20 : decode cX2_isLet 20 = .ok (.istore 8, 2) := by decide +kernel
theorem dX2_isLet_22 : decode cX2_isLet 22 = .ok (.iload 8, 2) := by decide +kernel
theorem dX2_isLet_24 : decode cX2_isLet 24 = .ok (.iload 5, 2) := by decide +kernel
theorem dX2_isLet_26 : decode cX2_isLet 26 = .ok (.if_icmp .ge 46, 3) := by decide +kernel
theorem dX2_isLet_29 : decode cX2_isLet 29 = .ok (.lload_n 1, 1) := by decide +kernel
theorem dX2_isLet_30 : decode cX2_isLet 30 = .ok (.iload 8, 2) := by decide +kernel
theorem dX2_isLet_32 : decode cX2_isLet 32 = .ok (.i2l, 1) := by decide +kernel
theorem dX2_isLet_33 : decode cX2_isLet 33 = .ok (.ladd, 1) := by decide +kernel
theorem dX2_isLet_34 : decode cX2_isLet 34 = .ok (.aload_n 0, 1) := by decide +kernel
theorem dX2_isLet_35 : decode cX2_isLet 35 = .ok (.getfield 67, 3) := by decide +kernel
theorem dX2_isLet_38 : decode cX2_isLet 38 = .ok (.lcmp, 1) := by decide +kernel
theorem dX2_isLet_39 : decode cX2_isLet 39 = .ok (.ifCond .lt 23, 3) := by decide +kernel
theorem dX2_isLet_42 : decode cX2_isLet 42 = .ok (.lload_n 1, 1) := by decide +kernel
theorem dX2_isLet_43 : decode cX2_isLet 43 = .ok (.iload 8, 2) := by decide +kernel
theorem dX2_isLet_45 : decode cX2_isLet 45 = .ok (.i2l, 1) := by decide +kernel
theorem dX2_isLet_46 : decode cX2_isLet 46 = .ok (.ladd, 1) := by decide +kernel
theorem dX2_isLet_47 : decode cX2_isLet 47 = .ok (.aload_n 0, 1) := by decide +kernel
theorem dX2_isLet_48 : decode cX2_isLet 48 = .ok (.getfield 70, 3) := by decide +kernel
theorem dX2_isLet_51 : decode cX2_isLet 51 = .ok (.lcmp, 1) := by decide +kernel
theorem dX2_isLet_52 : decode cX2_isLet 52 = .ok (.ifCond .ge 10, 3) := by decide +kernel
theorem dX2_isLet_55 : decode cX2_isLet 55 = .ok (.iload 7, 2) := by decide +kernel
theorem dX2_isLet_57 : decode cX2_isLet 57 = .ok (.iconst 1, 1) := by decide +kernel
theorem dX2_isLet_58 : decode cX2_isLet 58 = .ok (.iadd, 1) := by decide +kernel
theorem dX2_isLet_59 : decode cX2_isLet 59 = .ok (.goto 5, 3) := by decide +kernel
theorem dX2_isLet_62 : decode cX2_isLet 62 = .ok (.iload 7, 2) := by decide +kernel
theorem dX2_isLet_64 : decode cX2_isLet 64 = .ok (.istore 7, 2) := by decide +kernel
theorem dX2_isLet_66 : decode cX2_isLet 66 = .ok (.iinc 8 1, 3) := by decide +kernel
theorem dX2_isLet_69 : decode cX2_isLet 69 = .ok (.goto (-47), 3) := by decide +kernel
theorem dX2_isLet_72 : decode cX2_isLet 72 = .ok (.iload 7, 2) := by decide +kernel
theorem dX2_isLet_74 : decode cX2_isLet 74 = .ok (.ifCond .le 64, 3) := by decide +kernel
theorem dX2_isLet_77 : decode cX2_isLet 77 = .ok (.iload_n 3, 1) := by decide +kernel
theorem dX2_isLet_78 : decode cX2_isLet 78 = .ok (.ifCond .ne 7, 3) := by decide +kernel
theorem dX2_isLet_81 : decode cX2_isLet 81 = .ok (.iconst 2, 1) := by decide +kernel
theorem dX2_isLet_82 : decode cX2_isLet 82 = .ok (.goto 13, 3) := by decide +kernel
theorem dX2_isLet_85 : decode cX2_isLet 85 = .ok (.iload_n 3, 1) := by decide +kernel
theorem dX2_isLet_86 : decode cX2_isLet 86 = .ok (.iconst 1, 1) := by decide +kernel
theorem dX2_isLet_87 : decode cX2_isLet 87 = .ok (.if_icmp .ne 7, 3) := by decide +kernel
theorem dX2_isLet_90 : decode cX2_isLet 90 = .ok (.iconst 0, 1) := by decide +kernel
theorem dX2_isLet_91 : decode cX2_isLet 91 = .ok (.goto 4, 3) := by decide +kernel
theorem dX2_isLet_94 : decode cX2_isLet 94 = .ok (.iconst 1, 1) := by decide +kernel
theorem dX2_isLet_95 : decode cX2_isLet 95 = .ok (.istore 8, 2) := by decide +kernel
theorem dX2_isLet_97 : decode cX2_isLet 97 = .ok (.iload 7, 2) := by decide +kernel
theorem dX2_isLet_99 : decode cX2_isLet 99 = .ok (.iload 5, 2) := by decide +kernel
theorem dX2_isLet_101 : decode cX2_isLet 101 = .ok (.if_icmp .ne 35, 3) := by decide +kernel
theorem dX2_isLet_104 : decode cX2_isLet 104 = .ok (.iload 4, 2) := by decide +kernel
theorem dX2_isLet_106 : decode cX2_isLet 106 = .ok (.iconst 3, 1) := by decide +kernel
theorem dX2_isLet_107 : decode cX2_isLet 107 = .ok (.if_icmp .ne 14, 3) := by decide +kernel
theorem dX2_isLet_110 : decode cX2_isLet 110 = .ok (.aload_n 0, 1) := by decide +kernel
theorem dX2_isLet_111 : decode cX2_isLet 111 = .ok (.iload 6, 2) := by decide +kernel
theorem dX2_isLet_113 : decode cX2_isLet 113 = .ok (.bipush 7, 2) := by decide +kernel
theorem dX2_isLet_115 : decode cX2_isLet 115 = .ok (.invokevirtual 57, 3) := by decide +kernel
theorem dX2_isLet_118 : decode cX2_isLet 118 = .ok (.ifCond .eq 14, 3) := by decide +kernel
theorem dX2_isLet_121 : decode cX2_isLet 121 = .ok (.aload_n 0, 1) := by decide +kernel
theorem dX2_isLet_122 : decode cX2_isLet 122 = .ok (.iload 6, 2) := by decide +kernel
theorem dX2_isLet_124 : decode cX2_isLet 124 = .ok (.iload 8, 2) := by decide +kernel
theorem dX2_isLet_126 : decode cX2_isLet 126 = .ok (.invokevirtual 57, 3) := by decide +kernel
theorem dX2_isLet_129 : decode cX2_isLet 129 = .ok (.ifCond .eq 7, 3) := by decide +kernel
theorem dX2_isLet_132 : decode cX2_isLet 132 = .ok (.iconst 1, 1) := by decide +kernel
theorem dX2_isLet_133 : decode cX2_isLet 133 = .ok (.goto 4, 3) := by decide +kernel
theorem dX2_isLet_136 : decode cX2_isLet 136 = .ok (.iconst 0, 1) := by decide +kernel
theorem dX2_isLet_137 : decode cX2_isLet 137 = .ok (.ireturn, 1) := by decide +kernel
theorem dX2_isLet_138 : decode cX2_isLet 138 = .ok (.iinc 6 1, 3) := by decide +kernel
theorem dX2_isLet_141 : decode cX2_isLet 141 = .ok (.goto (-138), 3) := by decide +kernel
theorem dX2_isLet_144 : decode cX2_isLet 144 = .ok (.iload 4, 2) := by decide +kernel
theorem dX2_isLet_146 : decode cX2_isLet 146 = .ok (.iconst 3, 1) := by decide +kernel
theorem dX2_isLet_147 : decode cX2_isLet 147 = .ok (.if_icmp .ne 7, 3) := by decide +kernel
theorem dX2_isLet_150 : decode cX2_isLet 150 = .ok (.iconst 1, 1) := by decide +kernel
theorem dX2_isLet_151 : decode cX2_isLet 151 = .ok (.goto 4, 3) := by decide +kernel
theorem dX2_isLet_154 : decode cX2_isLet 154 = .ok (.iconst 0, 1) := by decide +kernel
theorem dX2_isLet_155 : decode cX2_isLet 155 = .ok (.ireturn, 1) := by decide +kernel
theorem dX2_cover_0 : decode cX2_cover 0 = .ok (.aload_n 0, 1) := by decide +kernel
theorem dX2_cover_1 : decode cX2_cover 1 = .ok (.iload_n 1, 1) := by decide +kernel
theorem dX2_cover_2 : decode cX2_cover 2 = .ok (.invokevirtual 61, 3) := by decide +kernel
theorem dX2_cover_5 : decode cX2_cover 5 = .ok (.istore_n 2, 1) := by decide +kernel
theorem dX2_cover_6 : decode cX2_cover 6 = .ok (.aload_n 0, 1) := by decide +kernel
theorem dX2_cover_7 : decode cX2_cover 7 = .ok (.lconst 0, 1) := by decide +kernel
theorem dX2_cover_8 : decode cX2_cover 8 = .ok (.putfield 67, 3) := by decide +kernel
theorem dX2_cover_11 : decode cX2_cover 11 = .ok (.aload_n 0, 1) := by decide +kernel
theorem dX2_cover_12 : decode cX2_cover 12 = .ok (.lconst 0, 1) := by decide +kernel
theorem dX2_cover_13 : decode cX2_cover 13 = .ok (.putfield 70, 3) := by decide +kernel
theorem dX2_cover_16 : decode cX2_cover 16 = .ok (.iload_n 2, 1) := by decide +kernel
theorem dX2_cover_17 : decode cX2_cover 17 = .ok (.iconst 1, 1) := by decide +kernel
theorem dX2_cover_18 : decode cX2_cover 18 = .ok (.if_icmp .ne 44, 3) := by decide +kernel
theorem dX2_cover_21 : decode cX2_cover 21 = .ok (.aload_n 0, 1) := by decide +kernel
theorem dX2_cover_22 : decode cX2_cover 22 = .ok (.iload_n 1, 1) := by decide +kernel
theorem dX2_cover_23 : decode cX2_cover 23 = .ok (.ifCond .ne 7, 3) := by decide +kernel
theorem dX2_cover_26 : decode cX2_cover 26 = .ok (.lconst 0, 1) := by decide +kernel
theorem dX2_cover_27 : decode cX2_cover 27 = .ok (.goto 15, 3) := by decide +kernel
theorem dX2_cover_30 : decode cX2_cover 30 = .ok (.ldc2_w 73, 3) := by decide +kernel
theorem dX2_cover_33 : decode cX2_cover 33 = .ok (.aload_n 0, 1) := by decide +kernel
theorem dX2_cover_34 : decode cX2_cover 34 = .ok (.getfield 17, 3) := by decide +kernel
theorem dX2_cover_37 : decode cX2_cover 37 = .ok (.iload_n 1, 1) := by decide +kernel
theorem dX2_cover_38 : decode cX2_cover 38 = .ok (.iconst 1, 1) := by decide +kernel
theorem dX2_cover_39 : decode cX2_cover 39 = .ok (.isub, 1) := by decide +kernel
theorem dX2_cover_40 : decode cX2_cover 40 = .ok (.laload, 1) := by decide +kernel
theorem dX2_cover_41 : decode cX2_cover 41 = .ok (.lmul, 1) := by decide +kernel
theorem dX2_cover_42 : decode cX2_cover 42 = .ok (.putfield 67, 3) := by decide +kernel
theorem dX2_cover_45 : decode cX2_cover 45 = .ok (.aload_n 0, 1) := by decide +kernel
theorem dX2_cover_46 : decode cX2_cover 46 = .ok (.ldc2_w 73, 3) := by decide +kernel
theorem dX2_cover_49 : decode cX2_cover 49 = .ok (.aload_n 0, 1) := by decide +kernel
theorem dX2_cover_50 : decode cX2_cover 50 = .ok (.getfield 17, 3) := by decide +kernel
theorem dX2_cover_53 : decode cX2_cover 53 = .ok (.iload_n 1, 1) := by decide +kernel
theorem dX2_cover_54 : decode cX2_cover 54 = .ok (.laload, 1) := by decide +kernel
theorem dX2_cover_55 : decode cX2_cover 55 = .ok (.lmul, 1) := by decide +kernel
theorem dX2_cover_56 : decode cX2_cover 56 = .ok (.putfield 70, 3) := by decide +kernel
theorem dX2_cover_59 : decode cX2_cover 59 = .ok (.goto 95, 3) := by decide +kernel
theorem dX2_cover_62 : decode cX2_cover 62 = .ok (.iload_n 2, 1) := by decide +kernel
theorem dX2_cover_63 : decode cX2_cover 63 = .ok (.iconst 1, 1) := by decide +kernel
theorem dX2_cover_64 : decode cX2_cover 64 = .ok (.if_icmp .le 90, 3) := by decide +kernel
theorem dX2_cover_67 : decode cX2_cover 67 = .ok (.ldc2_w 73, 3) := by decide +kernel
theorem dX2_cover_70 : decode cX2_cover 70 = .ok (.lstore_n 3, 1) := by decide +kernel
theorem dX2_cover_71 : decode cX2_cover 71 = .ok (.aload_n 0, 1) := by decide +kernel
theorem dX2_cover_72 : decode cX2_cover 72 = .ok (.getfield 17, 3) := by decide +kernel
theorem dX2_cover_75 : decode cX2_cover 75 = .ok (.iload_n 1, 1) := by decide +kernel
theorem dX2_cover_76 : decode cX2_cover 76 = .ok (.laload, 1) := by decide +kernel
theorem dX2_cover_77 : decode cX2_cover 77 = .ok (.lstore 5, 2) := by decide +kernel
theorem dX2_cover_79 : decode cX2_cover 79 = .ok (.iload_n 2, 1) := by decide +kernel
theorem dX2_cover_80 : decode cX2_cover 80 = .ok (.iconst 3, 1) := by decide +kernel
theorem dX2_cover_81 : decode cX2_cover 81 = .ok (.if_icmp .ne 53, 3) := by decide +kernel
theorem dX2_cover_84 : decode cX2_cover 84 = .ok (.lconst 1, 1) := by decide +kernel
theorem dX2_cover_85 : decode cX2_cover 85 = .ok (.lstore 7, 2) := by decide +kernel
theorem dX2_cover_87 : decode cX2_cover 87 = .ok (.ldc2_w 28, 3) := by decide +kernel
theorem dX2_cover_90 : decode cX2_cover 90 = .ok (.lstore_n 3, 1) := by decide +kernel
theorem dX2_cover_91 : decode cX2_cover 91 = .ok (.lload 7, 2) := by decide +kernel
theorem dX2_cover_93 : decode cX2_cover 93 = .ok (.ldc2_w 75, 3) := by decide +kernel
theorem dX2_cover_96 : decode cX2_cover 96 = .ok (.lcmp, 1) := by decide +kernel
theorem dX2_cover_97 : decode cX2_cover 97 = .ok (.ifCond .ge 37, 3) := by decide +kernel
theorem dX2_cover_100 : decode cX2_cover 100 = .ok (.lload 5, 2) := by decide +kernel
theorem dX2_cover_102 : decode cX2_cover 102 = .ok (.lload 7, 2) := by decide +kernel
theorem dX2_cover_104 : decode cX2_cover 104 = .ok (.land, 1) := by decide +kernel
theorem dX2_cover_105 : decode cX2_cover 105 = .ok (.lconst 0, 1) := by decide +kernel
theorem dX2_cover_106 : decode cX2_cover 106 = .ok (.lcmp, 1) := by decide +kernel
theorem dX2_cover_107 : decode cX2_cover 107 = .ok (.ifCond .eq 27, 3) := by decide +kernel
theorem dX2_cover_110 : decode cX2_cover 110 = .ok (.lload 5, 2) := by decide +kernel
theorem dX2_cover_112 : decode cX2_cover 112 = .ok (.lload 7, 2) := by decide +kernel
theorem dX2_cover_114 : decode cX2_cover 114 = .ok (.lsub, 1) := by decide +kernel
theorem dX2_cover_115 : decode cX2_cover 115 = .ok (.lstore 5, 2) := by decide +kernel
theorem dX2_cover_117 : decode cX2_cover 117 = .ok (.ldc2_w 77, 3) := by decide +kernel
theorem dX2_cover_120 : decode cX2_cover 120 = .ok (.lload 7, 2) := by decide +kernel
theorem dX2_cover_122 : decode cX2_cover 122 = .ok (.lmul, 1) := by decide +kernel
theorem dX2_cover_123 : decode cX2_cover 123 = .ok (.lstore 7, 2) := by decide +kernel
theorem dX2_cover_125 : decode cX2_cover 125 = .ok (.ldc2_w 77, 3) := by decide +kernel
theorem dX2_cover_128 : decode cX2_cover 128 = .ok (.lload_n 3, 1) := by decide +kernel
theorem dX2_cover_129 : decode cX2_cover 129 = .ok (.lmul, 1) := by decide +kernel
theorem dX2_cover_130 : decode cX2_cover 130 = .ok (.lstore_n 3, 1) := by decide +kernel
theorem dX2_cover_131 : decode cX2_cover 131 = .ok (.goto (-40), 3) := by decide +kernel
theorem dX2_cover_134 : decode cX2_cover 134 = .ok (.aload_n 0, 1) := by decide +kernel
theorem dX2_cover_135 : decode cX2_cover 135 = .ok (.ldc2_w 73, 3) := by decide +kernel
theorem dX2_cover_138 : decode cX2_cover 138 = .ok (.lload 5, 2) := by decide +kernel
theorem dX2_cover_140 : decode cX2_cover 140 = .ok (.lmul, 1) := by decide +kernel
theorem dX2_cover_141 : decode cX2_cover 141 = .ok (.putfield 67, 3) := by decide +kernel
theorem dX2_cover_144 : decode cX2_cover 144 = .ok (.aload_n 0, 1) := by decide +kernel
theorem dX2_cover_145 : decode cX2_cover 145 = .ok (.aload_n 0, 1) := by decide +kernel
theorem dX2_cover_146 : decode cX2_cover 146 = .ok (.getfield 67, 3) := by decide +kernel
theorem dX2_cover_149 : decode cX2_cover 149 = .ok (.lload_n 3, 1) := by decide +kernel
theorem dX2_cover_150 : decode cX2_cover 150 = .ok (.ladd, 1) := by decide +kernel
theorem dX2_cover_151 : decode cX2_cover 151 = .ok (.putfield 70, 3) := by decide +kernel
theorem dX2_cover_154 : decode cX2_cover 154 = .ok (.return_, 1) := by decide +kernel
theorem dX2_find_0 : decode cX2_find 0 = .ok (.aload_n 0, 1) := by decide +kernel
theorem dX2_find_1 : decode cX2_find 1 = .ok (.iload_n 3, 1) := by decide +kernel
theorem dX2_find_2 : decode cX2_find 2 = .ok (.iload 4, 2) := by decide +kernel
theorem dX2_find_4 : decode cX2_find 4 = .ok (.iload 5, 2) := by decide +kernel
theorem dX2_find_6 : decode cX2_find 6 = .ok (.invokestatic 87, 3) := by decide +kernel
theorem dX2_find_9 : decode cX2_find 9 = .ok (.ifCond .eq 16, 3) := by decide +kernel
theorem dX2_find_12 : decode cX2_find 12 = .ok (.lload_n 1, 1) := by decide +kernel
theorem dX2_find_13 : decode cX2_find 13 = .ok (.iload 5, 2) := by decide +kernel
theorem dX2_find_15 : decode cX2_find 15 = .ok (.invokestatic 91, 3) := by decide +kernel
theorem dX2_find_18 : decode cX2_find 18 = .ok (.ifCond .eq 7, 3) := by decide +kernel
theorem dX2_find_21 : decode cX2_find 21 = .ok (.iconst 0, 1) := by decide +kernel
theorem dX2_find_22 : decode cX2_find 22 = .ok (.goto 4, 3) := by decide +kernel
theorem dX2_find_25 : decode cX2_find 25 = .ok (.iconst 1, 1) := by decide +kernel
theorem dX2_find_26 : decode cX2_find 26 = .ok (.putfield 20, 3) := by decide +kernel
theorem dX2_find_29 : decode cX2_find 29 = .ok (.aload_n 0, 1) := by decide +kernel
theorem dX2_find_30 : decode cX2_find 30 = .ok (.getfield 20, 3) := by decide +kernel
theorem dX2_find_33 : decode cX2_find 33 = .ok (.ifCond .le 5, 3) := by decide +kernel
theorem dX2_find_36 : decode cX2_find 36 = .ok (.lconst 0, 1) := by decide +kernel
theorem dX2_find_37 : decode cX2_find 37 = .ok (.lreturn, 1) := by decide +kernel
theorem dX2_find_38 : decode cX2_find 38 = .ok (.iload 4, 2) := by decide +kernel
theorem dX2_find_40 : decode cX2_find 40 = .ok (.iconst 3, 1) := by decide +kernel
theorem dX2_find_41 : decode cX2_find 41 = .ok (.if_icmp .eq 15, 3) := by decide +kernel
theorem dX2_find_44 : decode cX2_find 44 = .ok (.aload_n 0, 1) := by decide +kernel
theorem dX2_find_45 : decode cX2_find 45 = .ok (.getfield 38, 3) := by decide +kernel
theorem dX2_find_48 : decode cX2_find 48 = .ok (.invokestatic 42, 3) := by decide +kernel
theorem dX2_find_51 : decode cX2_find 51 = .ok (.lconst 0, 1) := by decide +kernel
theorem dX2_find_52 : decode cX2_find 52 = .ok (.lcmp, 1) := by decide +kernel
theorem dX2_find_53 : decode cX2_find 53 = .ok (.ifCond .ne 7, 3) := by decide +kernel
theorem dX2_find_56 : decode cX2_find 56 = .ok (.iconst 1, 1) := by decide +kernel
theorem dX2_find_57 : decode cX2_find 57 = .ok (.goto 4, 3) := by decide +kernel
theorem dX2_find_60 : decode cX2_find 60 = .ok (.iconst 0, 1) := by decide +kernel
theorem dX2_find_61 : decode cX2_find 61 = .ok (.istore 6, 2) := by decide +kernel
theorem dX2_find_63 : decode cX2_find 63 = .ok (.iload 6, 2) := by decide +kernel
theorem dX2_find_65 : decode cX2_find 65 = .ok (.ifCond .eq 17, 3) := by decide +kernel
theorem dX2_find_68 : decode cX2_find 68 = .ok (.lload_n 1, 1) := by decide +kernel
theorem dX2_find_69 : decode cX2_find 69 = .ok (.bipush 56, 2) := by decide +kernel
theorem dX2_find_71 : decode cX2_find 71 = .ok (.lushr, 1) := by decide +kernel
theorem dX2_find_72 : decode cX2_find 72 = .ok (.lconst 0, 1) := by decide +kernel
theorem dX2_find_73 : decode cX2_find 73 = .ok (.lcmp, 1) := by decide +kernel
theorem dX2_find_74 : decode cX2_find 74 = .ok (.ifCond .eq 8, 3) := by decide +kernel
theorem dX2_find_77 : decode cX2_find 77 = .ok (.iload_n 3, 1) := by decide +kernel
theorem dX2_find_78 : decode cX2_find 78 = .ok (.invokestatic 122, 3) := by decide +kernel
theorem dX2_find_81 : decode cX2_find 81 = .ok (.lreturn, 1) := by decide +kernel
theorem dX2_find_82 : decode cX2_find 82 = .ok (.iload 6, 2) := by decide +kernel
theorem dX2_find_84 : decode cX2_find 84 = .ok (.ifCond .eq 7, 3) := by decide +kernel
theorem dX2_find_87 : decode cX2_find 87 = .ok (.lload_n 1, 1) := by decide +kernel
theorem dX2_find_88 : decode cX2_find 88 = .ok (.goto 11, 3) := by decide +kernel
theorem dX2_find_91 : decode cX2_find 91 = .ok (.aload_n 0, 1) := by decide +kernel
theorem dX2_find_92 : decode cX2_find 92 = .ok (.lload_n 1, 1) := by decide +kernel
theorem dX2_find_93 : decode cX2_find 93 = .ok (.iload_n 3, 1) := by decide +kernel
theorem dX2_find_94 : decode cX2_find 94 = .ok (.iload 4, 2) := by decide +kernel
theorem dX2_find_96 : decode cX2_find 96 = .ok (.invokevirtual 143, 3) := by decide +kernel
theorem dX2_find_99 : decode cX2_find 99 = .ok (.lstore 7, 2) := by decide +kernel
theorem dX2_find_101 : decode cX2_find 101 = .ok (.lload 7, 2) := by decide +kernel
theorem dX2_find_103 : decode cX2_find 103 = .ok (.lconst 0, 1) := by decide +kernel
theorem dX2_find_104 : decode cX2_find 104 = .ok (.lcmp, 1) := by decide +kernel
theorem dX2_find_105 : decode cX2_find 105 = .ok (.ifCond .lt 17, 3) := by decide +kernel
theorem dX2_find_108 : decode cX2_find 108 = .ok (.aload_n 0, 1) := by decide +kernel
theorem dX2_find_109 : decode cX2_find 109 = .ok (.lload 7, 2) := by decide +kernel
theorem dX2_find_111 : decode cX2_find 111 = .ok (.iload_n 3, 1) := by decide +kernel
theorem dX2_find_112 : decode cX2_find 112 = .ok (.iload 4, 2) := by decide +kernel
theorem dX2_find_114 : decode cX2_find 114 = .ok (.iload 5, 2) := by decide +kernel
theorem dX2_find_116 : decode cX2_find 116 = .ok (.invokevirtual 95, 3) := by decide +kernel
theorem dX2_find_119 : decode cX2_find 119 = .ok (.ifCond .eq 8, 3) := by decide +kernel
theorem dX2_find_122 : decode cX2_find 122 = .ok (.lload 7, 2) := by decide +kernel
theorem dX2_find_124 : decode cX2_find 124 = .ok (.goto 7, 3) := by decide +kernel
theorem dX2_find_127 : decode cX2_find 127 = .ok (.iload_n 3, 1) := by decide +kernel
theorem dX2_find_128 : decode cX2_find 128 = .ok (.invokestatic 122, 3) := by decide +kernel
theorem dX2_find_131 : decode cX2_find 131 = .ok (.lreturn, 1) := by decide +kernel
theorem dX2_accessFault_0 : decode cX2_accessFault 0 = .ok (.iload_n 0, 1) := by decide +kernel
theorem dX2_accessFault_1 : decode cX2_accessFault 1 = .ok (.ifCond .ne 9, 3) := by decide +kernel
theorem dX2_accessFault_4 : decode cX2_accessFault 4 = .ok (.ldc2_w 99, 3) := by decide +kernel
theorem dX2_accessFault_7 : decode cX2_accessFault 7 = .ok (.goto 17, 3) := by decide +kernel
theorem dX2_accessFault_10 : decode cX2_accessFault 10 = .ok (.iload_n 0, 1) := by decide +kernel
theorem dX2_accessFault_11 : decode cX2_accessFault 11 = .ok (.iconst 1, 1) := by decide +kernel
theorem dX2_accessFault_12 : decode cX2_accessFault 12 = .ok (.if_icmp .ne 9, 3) := by decide +kernel
theorem dX2_accessFault_15 : decode cX2_accessFault 15 = .ok (.ldc2_w 101, 3) := by decide +kernel
theorem dX2_accessFault_18 : decode cX2_accessFault 18 = .ok (.goto 6, 3) := by decide +kernel
theorem dX2_accessFault_21 : decode cX2_accessFault 21 = .ok (.ldc2_w 103, 3) := by decide +kernel
theorem dX2_accessFault_24 : decode cX2_accessFault 24 = .ok (.lreturn, 1) := by decide +kernel
theorem dX2_walk_0 : decode cX2_walk 0 = .ok (.aload_n 0, 1) := by decide +kernel
theorem dX2_walk_1 : decode cX2_walk 1 = .ok (.getfield 38, 3) := by decide +kernel
theorem dX2_walk_4 : decode cX2_walk 4 = .ok (.invokestatic 42, 3) := by decide +kernel
theorem dX2_walk_7 : decode cX2_walk 7 = .ok (.ldc2_w 28, 3) := by decide +kernel
theorem dX2_walk_10 : decode cX2_walk 10 = .ok (.lcmp, 1) := by decide +kernel
theorem dX2_walk_11 : decode cX2_walk 11 = .ok (.ifCond .ne 7, 3) := by decide +kernel
theorem dX2_walk_14 : decode cX2_walk 14 = .ok (.iconst 3, 1) := by decide +kernel
theorem dX2_walk_15 : decode cX2_walk 15 = .ok (.goto 4, 3) := by decide +kernel
theorem dX2_walk_18 : decode cX2_walk 18 = .ok (.iconst 4, 1) := by decide +kernel
theorem dX2_walk_19 : decode cX2_walk 19 = .ok (.istore 5, 2) := by decide +kernel
theorem dX2_walk_21 : decode cX2_walk 21 = .ok (.lload_n 1, 1) := by decide +kernel
theorem dX2_walk_22 : decode cX2_walk 22 = .ok (.bipush 9, 2) := by decide +kernel
theorem dX2_walk_24 : decode cX2_walk 24 = .ok (.iload 5, 2) := by decide +kernel
theorem dX2_walk_26 : decode cX2_walk 26 = .ok (.imul, 1) := by decide +kernel
theorem dX2_walk_27 : decode cX2_walk 27 = .ok (.bipush 11, 2) := by decide +kernel
theorem dX2_walk_29 : decode cX2_walk 29 = .ok (.iadd, 1) := by decide +kernel
theorem dX2_walk_30 : decode cX2_walk 30 = .ok (.lshr, 1) := by decide +kernel
theorem dX2_walk_31 : decode cX2_walk 31 = .ok (.lstore 6, 2) := by decide +kernel
theorem dX2_walk_33 : decode cX2_walk 33 = .ok (.lload 6, 2) := by decide +kernel
theorem dX2_walk_35 : decode cX2_walk 35 = .ok (.lconst 0, 1) := by decide +kernel
theorem dX2_walk_36 : decode cX2_walk 36 = .ok (.lcmp, 1) := by decide +kernel
theorem dX2_walk_37 : decode cX2_walk 37 = .ok (.ifCond .eq 17, 3) := by decide +kernel
theorem dX2_walk_40 : decode cX2_walk 40 = .ok (.lload 6, 2) := by decide +kernel
theorem dX2_walk_42 : decode cX2_walk 42 = .ok (.ldc2_w 99, 3) := by decide +kernel
theorem dX2_walk_45 : decode cX2_walk 45 = .ok (.lcmp, 1) := by decide +kernel
theorem dX2_walk_46 : decode cX2_walk 46 = .ok (.ifCond .eq 8, 3) := by decide +kernel
theorem dX2_walk_49 : decode cX2_walk 49 = .ok (.iload_n 3, 1) := by decide +kernel
theorem dX2_walk_50 : decode cX2_walk 50 = .ok (.invokestatic 116, 3) := by decide +kernel
theorem dX2_walk_53 : decode cX2_walk 53 = .ok (.lreturn, 1) := by decide +kernel
theorem dX2_walk_54 : decode cX2_walk 54 = .ok (.aload_n 0, 1) := by decide +kernel
theorem dX2_walk_55 : decode cX2_walk 55 = .ok (.getfield 38, 3) := by decide +kernel
theorem dX2_walk_58 : decode cX2_walk 58 = .ok (.ldc2_w 111, 3) := by decide +kernel
theorem dX2_walk_61 : decode cX2_walk 61 = .ok (.land, 1) := by decide +kernel
theorem dX2_walk_62 : decode cX2_walk 62 = .ok (.lstore 8, 2) := by decide +kernel
theorem dX2_walk_64 : decode cX2_walk 64 = .ok (.iload 5, 2) := by decide +kernel
theorem dX2_walk_66 : decode cX2_walk 66 = .ok (.iconst 1, 1) := by decide +kernel
theorem dX2_walk_67 : decode cX2_walk 67 = .ok (.isub, 1) := by decide +kernel
theorem dX2_walk_68 : decode cX2_walk 68 = .ok (.istore 10, 2) := by decide +kernel
theorem dX2_walk_70 : decode cX2_walk 70 = .ok (.iload 10, 2) := by decide +kernel
theorem dX2_walk_72 : decode cX2_walk 72 = .ok (.ifCond .lt 164, 3) := by decide +kernel
theorem dX2_walk_75 : decode cX2_walk 75 = .ok (.ldc2_w 85, 3) := by decide +kernel
theorem dX2_walk_78 : decode cX2_walk 78 = .ok (.lload 8, 2) := by decide +kernel
theorem dX2_walk_80 : decode cX2_walk 80 = .ok (.lmul, 1) := by decide +kernel
theorem dX2_walk_81 : decode cX2_walk 81 = .ok (.ldc2_w 28, 3) := by decide +kernel
theorem dX2_walk_84 : decode cX2_walk 84 = .ok (.lload_n 1, 1) := by decide +kernel
theorem dX2_walk_85 : decode cX2_walk 85 = .ok (.bipush 12, 2) := by decide +kernel
theorem dX2_walk_87 : decode cX2_walk 87 = .ok (.bipush 9, 2) := by decide +kernel
theorem dX2_walk_89 : decode cX2_walk 89 = .ok (.iload 10, 2) := by decide +kernel
theorem dX2_walk_91 : decode cX2_walk 91 = .ok (.imul, 1) := by decide +kernel
theorem dX2_walk_92 : decode cX2_walk 92 = .ok (.iadd, 1) := by decide +kernel
theorem dX2_walk_93 : decode cX2_walk 93 = .ok (.lushr, 1) := by decide +kernel
theorem dX2_walk_94 : decode cX2_walk 94 = .ok (.ldc2_w 120, 3) := by decide +kernel
theorem dX2_walk_97 : decode cX2_walk 97 = .ok (.land, 1) := by decide +kernel
theorem dX2_walk_98 : decode cX2_walk 98 = .ok (.lmul, 1) := by decide +kernel
theorem dX2_walk_99 : decode cX2_walk 99 = .ok (.ladd, 1) := by decide +kernel
theorem dX2_walk_100 : decode cX2_walk 100 = .ok (.lstore 11, 2) := by decide +kernel
theorem dX2_walk_102 : decode cX2_walk 102 = .ok (.lload 11, 2) := by decide +kernel
theorem dX2_walk_104 : decode cX2_walk 104 = .ok (.invokestatic 30, 3) := by decide +kernel
theorem dX2_walk_107 : decode cX2_walk 107 = .ok (.ifCond .eq 16, 3) := by decide +kernel
theorem dX2_walk_110 : decode cX2_walk 110 = .ok (.aload_n 0, 1) := by decide +kernel
theorem dX2_walk_111 : decode cX2_walk 111 = .ok (.lload 11, 2) := by decide +kernel
theorem dX2_walk_113 : decode cX2_walk 113 = .ok (.iconst 1, 1) := by decide +kernel
theorem dX2_walk_114 : decode cX2_walk 114 = .ok (.iconst 1, 1) := by decide +kernel
theorem dX2_walk_115 : decode cX2_walk 115 = .ok (.bipush 8, 2) := by decide +kernel
theorem dX2_walk_117 : decode cX2_walk 117 = .ok (.invokevirtual 95, 3) := by decide +kernel
theorem dX2_walk_120 : decode cX2_walk 120 = .ok (.ifCond .ne 8, 3) := by decide +kernel
theorem dX2_walk_123 : decode cX2_walk 123 = .ok (.iload_n 3, 1) := by decide +kernel
theorem dX2_walk_124 : decode cX2_walk 124 = .ok (.invokestatic 122, 3) := by decide +kernel
theorem dX2_walk_127 : decode cX2_walk 127 = .ok (.lreturn, 1) := by decide +kernel
theorem dX2_walk_128 : decode cX2_walk 128 = .ok (.aload_n 0, 1) := by decide +kernel
theorem dX2_walk_129 : decode cX2_walk 129 = .ok (.getfield 7, 3) := by decide +kernel
theorem dX2_walk_132 : decode cX2_walk 132 = .ok (.lload 11, 2) := by decide +kernel
theorem dX2_walk_134 : decode cX2_walk 134 = .ok (.invokestatic 34, 3) := by decide +kernel
theorem dX2_walk_137 : decode cX2_walk 137 = .ok (.laload, 1) := by decide +kernel
theorem dX2_walk_138 : decode cX2_walk 138 = .ok (.lstore 13, 2) := by decide +kernel
theorem dX2_walk_140 : decode cX2_walk 140 = .ok (.lload 13, 2) := by decide +kernel
theorem dX2_walk_142 : decode cX2_walk 142 = .ok (.invokestatic 125, 3) := by decide +kernel
theorem dX2_walk_145 : decode cX2_walk 145 = .ok (.ifCond .eq 8, 3) := by decide +kernel
theorem dX2_walk_148 : decode cX2_walk 148 = .ok (.iload_n 3, 1) := by decide +kernel
theorem dX2_walk_149 : decode cX2_walk 149 = .ok (.invokestatic 116, 3) := by decide +kernel
theorem dX2_walk_152 : decode cX2_walk 152 = .ok (.lreturn, 1) := by decide +kernel
theorem dX2_walk_153 : decode cX2_walk 153 = .ok (.lload 13, 2) := by decide +kernel
theorem dX2_walk_155 : decode cX2_walk 155 = .ok (.iconst 1, 1) := by decide +kernel
theorem dX2_walk_156 : decode cX2_walk 156 = .ok (.invokestatic 113, 3) := by decide +kernel
theorem dX2_walk_159 : decode cX2_walk 159 = .ok (.ifCond .ne 12, 3) := by decide +kernel
theorem dX2_walk_162 : decode cX2_walk 162 = .ok (.lload 13, 2) := by decide +kernel
theorem dX2_walk_164 : decode cX2_walk 164 = .ok (.iconst 3, 1) := by decide +kernel
theorem dX2_walk_165 : decode cX2_walk 165 = .ok (.invokestatic 113, 3) := by decide +kernel
theorem dX2_walk_168 : decode cX2_walk 168 = .ok (.ifCond .eq 16, 3) := by decide +kernel
theorem dX2_walk_171 : decode cX2_walk 171 = .ok (.aload_n 0, 1) := by decide +kernel
theorem dX2_walk_172 : decode cX2_walk 172 = .ok (.lload_n 1, 1) := by decide +kernel
theorem dX2_walk_173 : decode cX2_walk 173 = .ok (.iload_n 3, 1) := by decide +kernel
theorem dX2_walk_174 : decode cX2_walk 174 = .ok (.iload 4, 2) := by decide +kernel
theorem dX2_walk_176 : decode cX2_walk 176 = .ok (.lload 11, 2) := by decide +kernel
theorem dX2_walk_178 : decode cX2_walk 178 = .ok (.iload 10, 2) := by decide +kernel
theorem dX2_walk_180 : decode cX2_walk 180 = .ok (.invokevirtual 128, 3) := by decide +kernel
theorem dX2_walk_183 : decode cX2_walk 183 = .ok (.lreturn, 1) := by decide +kernel
theorem dX2_walk_184 : decode cX2_walk 184 = .ok (.iload 10, 2) := by decide +kernel
theorem dX2_walk_186 : decode cX2_walk 186 = .ok (.ifCond .eq 32, 3) := by decide +kernel
theorem dX2_walk_189 : decode cX2_walk 189 = .ok (.lload 13, 2) := by decide +kernel
theorem dX2_walk_191 : decode cX2_walk 191 = .ok (.iconst 4, 1) := by decide +kernel
theorem dX2_walk_192 : decode cX2_walk 192 = .ok (.invokestatic 113, 3) := by decide +kernel
theorem dX2_walk_195 : decode cX2_walk 195 = .ok (.ifCond .ne 23, 3) := by decide +kernel
theorem dX2_walk_198 : decode cX2_walk 198 = .ok (.lload 13, 2) := by decide +kernel
theorem dX2_walk_200 : decode cX2_walk 200 = .ok (.bipush 6, 2) := by decide +kernel
theorem dX2_walk_202 : decode cX2_walk 202 = .ok (.invokestatic 113, 3) := by decide +kernel
theorem dX2_walk_205 : decode cX2_walk 205 = .ok (.ifCond .ne 13, 3) := by decide +kernel
theorem dX2_walk_208 : decode cX2_walk 208 = .ok (.lload 13, 2) := by decide +kernel
theorem dX2_walk_210 : decode cX2_walk 210 = .ok (.bipush 7, 2) := by decide +kernel
theorem dX2_walk_212 : decode cX2_walk 212 = .ok (.invokestatic 113, 3) := by decide +kernel
theorem dX2_walk_215 : decode cX2_walk 215 = .ok (.ifCond .eq 8, 3) := by decide +kernel
theorem dX2_walk_218 : decode cX2_walk 218 = .ok (.iload_n 3, 1) := by decide +kernel
theorem dX2_walk_219 : decode cX2_walk 219 = .ok (.invokestatic 116, 3) := by decide +kernel
theorem dX2_walk_222 : decode cX2_walk 222 = .ok (.lreturn, 1) := by decide +kernel
theorem dX2_walk_223 : decode cX2_walk 223 = .ok (.lload 13, 2) := by decide +kernel
theorem dX2_walk_225 : decode cX2_walk 225 = .ok (.invokestatic 132, 3) := by decide +kernel
theorem dX2_walk_228 : decode cX2_walk 228 = .ok (.lstore 8, 2) := by decide +kernel
theorem dX2_walk_230 : decode cX2_walk 230 = .ok (.iinc 10 (-1), 3) := by decide +kernel
theorem dX2_walk_233 : decode cX2_walk 233 = .ok (.goto (-163), 3) := by decide +kernel
theorem dX2_walk_236 : decode cX2_walk 236 = .ok (.iload_n 3, 1) := by decide +kernel
theorem dX2_walk_237 : decode cX2_walk 237 = .ok (.invokestatic 116, 3) := by decide +kernel
theorem dX2_walk_240 : decode cX2_walk 240 = .ok (.lreturn, 1) := by decide +kernel
theorem dX2_pageFault_0 : decode cX2_pageFault 0 = .ok (.iload_n 0, 1) := by decide +kernel
theorem dX2_pageFault_1 : decode cX2_pageFault 1 = .ok (.ifCond .ne 9, 3) := by decide +kernel
theorem dX2_pageFault_4 : decode cX2_pageFault 4 = .ok (.ldc2_w 105, 3) := by decide +kernel
theorem dX2_pageFault_7 : decode cX2_pageFault 7 = .ok (.goto 17, 3) := by decide +kernel
theorem dX2_pageFault_10 : decode cX2_pageFault 10 = .ok (.iload_n 0, 1) := by decide +kernel
theorem dX2_pageFault_11 : decode cX2_pageFault 11 = .ok (.iconst 1, 1) := by decide +kernel
theorem dX2_pageFault_12 : decode cX2_pageFault 12 = .ok (.if_icmp .ne 9, 3) := by decide +kernel
theorem dX2_pageFault_15 : decode cX2_pageFault 15 = .ok (.ldc2_w 107, 3) := by decide +kernel
theorem dX2_pageFault_18 : decode cX2_pageFault 18 = .ok (.goto 6, 3) := by decide +kernel
theorem dX2_pageFault_21 : decode cX2_pageFault 21 = .ok (.ldc2_w 109, 3) := by decide +kernel
theorem dX2_pageFault_24 : decode cX2_pageFault 24 = .ok (.lreturn, 1) := by decide +kernel
theorem dX2_isBroken_0 : decode cX2_isBroken 0 = .ok (.lload_n 0, 1) := by decide +kernel
theorem dX2_isBroken_1 : decode cX2_isBroken 1 = .ok (.iconst 0, 1) := by decide +kernel
theorem dX2_isBroken_2 : decode cX2_isBroken 2 = .ok (.invokestatic 113, 3) := by decide +kernel
theorem dX2_isBroken_5 : decode cX2_isBroken 5 = .ok (.ifCond .eq 28, 3) := by decide +kernel
theorem dX2_isBroken_8 : decode cX2_isBroken 8 = .ok (.lload_n 0, 1) := by decide +kernel
theorem dX2_isBroken_9 : decode cX2_isBroken 9 = .ok (.iconst 2, 1) := by decide +kernel
theorem dX2_isBroken_10 : decode cX2_isBroken 10 = .ok (.invokestatic 113, 3) := by decide +kernel
theorem dX2_isBroken_13 : decode cX2_isBroken 13 = .ok (.ifCond .eq 11, 3) := by decide +kernel
theorem dX2_isBroken_16 : decode cX2_isBroken 16 = .ok (.lload_n 0, 1) := by decide +kernel
theorem dX2_isBroken_17 : decode cX2_isBroken 17 = .ok (.iconst 1, 1) := by decide +kernel
theorem dX2_isBroken_18 : decode cX2_isBroken 18 = .ok (.invokestatic 113, 3) := by decide +kernel
theorem dX2_isBroken_21 : decode cX2_isBroken 21 = .ok (.ifCond .eq 12, 3) := by decide +kernel
theorem dX2_isBroken_24 : decode cX2_isBroken 24 = .ok (.lload_n 0, 1) := by decide +kernel
theorem dX2_isBroken_25 : decode cX2_isBroken 25 = .ok (.bipush 54, 2) := by decide +kernel
theorem dX2_isBroken_27 : decode cX2_isBroken 27 = .ok (.lushr, 1) := by decide +kernel
theorem dX2_isBroken_28 : decode cX2_isBroken 28 = .ok (.lconst 0, 1) := by decide +kernel
theorem dX2_isBroken_29 : decode cX2_isBroken 29 = .ok (.lcmp, 1) := by decide +kernel
theorem dX2_isBroken_30 : decode cX2_isBroken 30 = .ok (.ifCond .eq 7, 3) := by decide +kernel
theorem dX2_isBroken_33 : decode cX2_isBroken 33 = .ok (.iconst 1, 1) := by decide +kernel
theorem dX2_isBroken_34 : decode cX2_isBroken 34 = .ok (.goto 4, 3) := by decide +kernel
theorem dX2_isBroken_37 : decode cX2_isBroken 37 = .ok (.iconst 0, 1) := by decide +kernel
theorem dX2_isBroken_38 : decode cX2_isBroken 38 = .ok (.ireturn, 1) := by decide +kernel
theorem dX2_bit_0 : decode cX2_bit 0 = .ok (.lload_n 0, 1) := by decide +kernel
theorem dX2_bit_1 : decode cX2_bit 1 = .ok (.iload_n 2, 1) := by decide +kernel
theorem dX2_bit_2 : decode cX2_bit 2 = .ok (.lushr, 1) := by decide +kernel
theorem dX2_bit_3 : decode cX2_bit 3 = .ok (.lconst 1, 1) := by decide +kernel
theorem dX2_bit_4 : decode cX2_bit 4 = .ok (.land, 1) := by decide +kernel
theorem dX2_bit_5 : decode cX2_bit 5 = .ok (.lconst 1, 1) := by decide +kernel
theorem dX2_bit_6 : decode cX2_bit 6 = .ok (.lcmp, 1) := by decide +kernel
theorem dX2_bit_7 : decode cX2_bit 7 = .ok (.ifCond .ne 7, 3) := by decide +kernel
theorem dX2_bit_10 : decode cX2_bit 10 = .ok (.iconst 1, 1) := by decide +kernel
theorem dX2_bit_11 : decode cX2_bit 11 = .ok (.goto 4, 3) := by decide +kernel
theorem dX2_bit_14 : decode cX2_bit 14 = .ok (.iconst 0, 1) := by decide +kernel
theorem dX2_bit_15 : decode cX2_bit 15 = .ok (.ireturn, 1) := by decide +kernel
theorem dX2_last_0 : decode cX2_last 0 = .ok (.aload_n 0, 1) := by decide +kernel
theorem dX2_last_1 : decode cX2_last 1 = .ok (.getfield 7, 3) := by decide +kernel
theorem dX2_last_4 : decode cX2_last 4 = .ok (.lload 5, 2) := by decide +kernel
theorem dX2_last_6 : decode cX2_last 6 = .ok (.invokestatic 34, 3) := by decide +kernel
theorem dX2_last_9 : decode cX2_last 9 = .ok (.laload, 1) := by decide +kernel
theorem dX2_last_10 : decode cX2_last 10 = .ok (.lstore 8, 2) := by decide +kernel
theorem dX2_last_12 : decode cX2_last 12 = .ok (.lconst 1, 1) := by decide +kernel
theorem dX2_last_13 : decode cX2_last 13 = .ok (.bipush 9, 2) := by decide +kernel
theorem dX2_last_15 : decode cX2_last 15 = .ok (.iload 7, 2) := by decide +kernel
theorem dX2_last_17 : decode cX2_last 17 = .ok (.imul, 1) := by decide +kernel
theorem dX2_last_18 : decode cX2_last 18 = .ok (.lshl, 1) := by decide +kernel
theorem dX2_last_19 : decode cX2_last 19 = .ok (.lconst 1, 1) := by decide +kernel
theorem dX2_last_20 : decode cX2_last 20 = .ok (.lsub, 1) := by decide +kernel
theorem dX2_last_21 : decode cX2_last 21 = .ok (.lstore 10, 2) := by decide +kernel
theorem dX2_last_23 : decode cX2_last 23 = .ok (.lload 8, 2) := by decide +kernel
theorem dX2_last_25 : decode cX2_last 25 = .ok (.invokestatic 132, 3) := by decide +kernel
theorem dX2_last_28 : decode cX2_last 28 = .ok (.lload 10, 2) := by decide +kernel
theorem dX2_last_30 : decode cX2_last 30 = .ok (.land, 1) := by decide +kernel
theorem dX2_last_31 : decode cX2_last 31 = .ok (.lconst 0, 1) := by decide +kernel
theorem dX2_last_32 : decode cX2_last 32 = .ok (.lcmp, 1) := by decide +kernel
theorem dX2_last_33 : decode cX2_last 33 = .ok (.ifCond .ne 15, 3) := by decide +kernel
theorem dX2_last_36 : decode cX2_last 36 = .ok (.aload_n 0, 1) := by decide +kernel
theorem dX2_last_37 : decode cX2_last 37 = .ok (.lload 8, 2) := by decide +kernel
theorem dX2_last_39 : decode cX2_last 39 = .ok (.iload_n 3, 1) := by decide +kernel
theorem dX2_last_40 : decode cX2_last 40 = .ok (.iload 4, 2) := by decide +kernel
theorem dX2_last_42 : decode cX2_last 42 = .ok (.invokevirtual 135, 3) := by decide +kernel
theorem dX2_last_45 : decode cX2_last 45 = .ok (.ifCond .eq 8, 3) := by decide +kernel
theorem dX2_last_48 : decode cX2_last 48 = .ok (.iload_n 3, 1) := by decide +kernel
theorem dX2_last_49 : decode cX2_last 49 = .ok (.invokestatic 116, 3) := by decide +kernel
theorem dX2_last_52 : decode cX2_last 52 = .ok (.lreturn, 1) := by decide +kernel
theorem dX2_last_53 : decode cX2_last 53 = .ok (.lload 8, 2) := by decide +kernel
theorem dX2_last_55 : decode cX2_last 55 = .ok (.bipush 6, 2) := by decide +kernel
theorem dX2_last_57 : decode cX2_last 57 = .ok (.invokestatic 113, 3) := by decide +kernel
theorem dX2_last_60 : decode cX2_last 60 = .ok (.ifCond .eq 18, 3) := by decide +kernel
theorem dX2_last_63 : decode cX2_last 63 = .ok (.iload_n 3, 1) := by decide +kernel
theorem dX2_last_64 : decode cX2_last 64 = .ok (.iconst 2, 1) := by decide +kernel
theorem dX2_last_65 : decode cX2_last 65 = .ok (.if_icmp .ne 58, 3) := by decide +kernel
theorem dX2_last_68 : decode cX2_last 68 = .ok (.lload 8, 2) := by decide +kernel
theorem dX2_last_70 : decode cX2_last 70 = .ok (.bipush 7, 2) := by decide +kernel
theorem dX2_last_72 : decode cX2_last 72 = .ok (.invokestatic 113, 3) := by decide +kernel
theorem dX2_last_75 : decode cX2_last 75 = .ok (.ifCond .ne 48, 3) := by decide +kernel
theorem dX2_last_78 : decode cX2_last 78 = .ok (.aload_n 0, 1) := by decide +kernel
theorem dX2_last_79 : decode cX2_last 79 = .ok (.lload 5, 2) := by decide +kernel
theorem dX2_last_81 : decode cX2_last 81 = .ok (.iconst 2, 1) := by decide +kernel
theorem dX2_last_82 : decode cX2_last 82 = .ok (.iconst 1, 1) := by decide +kernel
theorem dX2_last_83 : decode cX2_last 83 = .ok (.bipush 8, 2) := by decide +kernel
theorem dX2_last_85 : decode cX2_last 85 = .ok (.invokevirtual 95, 3) := by decide +kernel
theorem dX2_last_88 : decode cX2_last 88 = .ok (.ifCond .ne 8, 3) := by decide +kernel
theorem dX2_last_91 : decode cX2_last 91 = .ok (.iload_n 3, 1) := by decide +kernel
theorem dX2_last_92 : decode cX2_last 92 = .ok (.invokestatic 122, 3) := by decide +kernel
theorem dX2_last_95 : decode cX2_last 95 = .ok (.lreturn, 1) := by decide +kernel
theorem dX2_last_96 : decode cX2_last 96 = .ok (.aload_n 0, 1) := by decide +kernel
theorem dX2_last_97 : decode cX2_last 97 = .ok (.getfield 7, 3) := by decide +kernel
theorem dX2_last_100 : decode cX2_last 100 = .ok (.lload 5, 2) := by decide +kernel
theorem dX2_last_102 : decode cX2_last 102 = .ok (.invokestatic 34, 3) := by decide +kernel
theorem dX2_last_105 : decode cX2_last 105 = .ok (.lload 8, 2) := by decide +kernel
theorem dX2_last_107 : decode cX2_last 107 = .ok (.iload_n 3, 1) := by decide +kernel
theorem dX2_last_108 : decode cX2_last 108 = .ok (.iconst 2, 1) := by decide +kernel
theorem dX2_last_109 : decode cX2_last 109 = .ok (.if_icmp .ne 9, 3) := by decide +kernel
theorem dX2_last_112 : decode cX2_last 112 = .ok (.ldc2_w 139, 3) := by decide +kernel
theorem dX2_last_115 : decode cX2_last 115 = .ok (.goto 6, 3) := by decide +kernel
theorem dX2_last_118 : decode cX2_last 118 = .ok (.ldc2_w 141, 3) := by decide +kernel
theorem dX2_last_121 : decode cX2_last 121 = .ok (.lor, 1) := by decide +kernel
theorem dX2_last_122 : decode cX2_last 122 = .ok (.lastore, 1) := by decide +kernel
theorem dX2_last_123 : decode cX2_last 123 = .ok (.ldc2_w 85, 3) := by decide +kernel
theorem dX2_last_126 : decode cX2_last 126 = .ok (.lload 8, 2) := by decide +kernel
theorem dX2_last_128 : decode cX2_last 128 = .ok (.invokestatic 132, 3) := by decide +kernel
theorem dX2_last_131 : decode cX2_last 131 = .ok (.lmul, 1) := by decide +kernel
theorem dX2_last_132 : decode cX2_last 132 = .ok (.lload_n 1, 1) := by decide +kernel
theorem dX2_last_133 : decode cX2_last 133 = .ok (.ldc2_w 85, 3) := by decide +kernel
theorem dX2_last_136 : decode cX2_last 136 = .ok (.lload 10, 2) := by decide +kernel
theorem dX2_last_138 : decode cX2_last 138 = .ok (.lmul, 1) := by decide +kernel
theorem dX2_last_139 : decode cX2_last 139 = .ok (.ldc2_w 83, 3) := by decide +kernel
theorem dX2_last_142 : decode cX2_last 142 = .ok (.ladd, 1) := by decide +kernel
theorem dX2_last_143 : decode cX2_last 143 = .ok (.land, 1) := by decide +kernel
theorem dX2_last_144 : decode cX2_last 144 = .ok (.ladd, 1) := by decide +kernel
theorem dX2_last_145 : decode cX2_last 145 = .ok (.lreturn, 1) := by decide +kernel
theorem dX2_numberIn_0 : decode cX2_numberIn 0 = .ok (.lload_n 0, 1) := by decide +kernel
theorem dX2_numberIn_1 : decode cX2_numberIn 1 = .ok (.bipush 10, 2) := by decide +kernel
theorem dX2_numberIn_3 : decode cX2_numberIn 3 = .ok (.lushr, 1) := by decide +kernel
theorem dX2_numberIn_4 : decode cX2_numberIn 4 = .ok (.ldc2_w 111, 3) := by decide +kernel
theorem dX2_numberIn_7 : decode cX2_numberIn 7 = .ok (.land, 1) := by decide +kernel
theorem dX2_numberIn_8 : decode cX2_numberIn 8 = .ok (.lreturn, 1) := by decide +kernel
theorem dX2_refuses_0 : decode cX2_refuses 0 = .ok (.lload_n 1, 1) := by decide +kernel
theorem dX2_refuses_1 : decode cX2_refuses 1 = .ok (.iconst 4, 1) := by decide +kernel
theorem dX2_refuses_2 : decode cX2_refuses 2 = .ok (.invokestatic 113, 3) := by decide +kernel
theorem dX2_refuses_5 : decode cX2_refuses 5 = .ok (.istore 5, 2) := by decide +kernel
theorem dX2_refuses_7 : decode cX2_refuses 7 = .ok (.iload 4, 2) := by decide +kernel
theorem dX2_refuses_9 : decode cX2_refuses 9 = .ok (.ifCond .ne 8, 3) := by decide +kernel
theorem dX2_refuses_12 : decode cX2_refuses 12 = .ok (.iload 5, 2) := by decide +kernel
theorem dX2_refuses_14 : decode cX2_refuses 14 = .ok (.ifCond .eq 25, 3) := by decide +kernel
theorem dX2_refuses_17 : decode cX2_refuses 17 = .ok (.iload 4, 2) := by decide +kernel
theorem dX2_refuses_19 : decode cX2_refuses 19 = .ok (.iconst 1, 1) := by decide +kernel
theorem dX2_refuses_20 : decode cX2_refuses 20 = .ok (.if_icmp .ne 21, 3) := by decide +kernel
theorem dX2_refuses_23 : decode cX2_refuses 23 = .ok (.iload 5, 2) := by decide +kernel
theorem dX2_refuses_25 : decode cX2_refuses 25 = .ok (.ifCond .eq 16, 3) := by decide +kernel
theorem dX2_refuses_28 : decode cX2_refuses 28 = .ok (.iload_n 3, 1) := by decide +kernel
theorem dX2_refuses_29 : decode cX2_refuses 29 = .ok (.ifCond .eq 10, 3) := by decide +kernel
theorem dX2_refuses_32 : decode cX2_refuses 32 = .ok (.aload_n 0, 1) := by decide +kernel
theorem dX2_refuses_33 : decode cX2_refuses 33 = .ok (.getfield 48, 3) := by decide +kernel
theorem dX2_refuses_36 : decode cX2_refuses 36 = .ok (.ifCond .ne 5, 3) := by decide +kernel
theorem dX2_refuses_39 : decode cX2_refuses 39 = .ok (.iconst 1, 1) := by decide +kernel
theorem dX2_refuses_40 : decode cX2_refuses 40 = .ok (.ireturn, 1) := by decide +kernel
theorem dX2_refuses_41 : decode cX2_refuses 41 = .ok (.iload_n 3, 1) := by decide +kernel
theorem dX2_refuses_42 : decode cX2_refuses 42 = .ok (.ifCond .ne 17, 3) := by decide +kernel
theorem dX2_refuses_45 : decode cX2_refuses 45 = .ok (.lload_n 1, 1) := by decide +kernel
theorem dX2_refuses_46 : decode cX2_refuses 46 = .ok (.iconst 3, 1) := by decide +kernel
theorem dX2_refuses_47 : decode cX2_refuses 47 = .ok (.invokestatic 113, 3) := by decide +kernel
theorem dX2_refuses_50 : decode cX2_refuses 50 = .ok (.ifCond .ne 7, 3) := by decide +kernel
theorem dX2_refuses_53 : decode cX2_refuses 53 = .ok (.iconst 1, 1) := by decide +kernel
theorem dX2_refuses_54 : decode cX2_refuses 54 = .ok (.goto 4, 3) := by decide +kernel
theorem dX2_refuses_57 : decode cX2_refuses 57 = .ok (.iconst 0, 1) := by decide +kernel
theorem dX2_refuses_58 : decode cX2_refuses 58 = .ok (.ireturn, 1) := by decide +kernel
theorem dX2_refuses_59 : decode cX2_refuses 59 = .ok (.iload_n 3, 1) := by decide +kernel
theorem dX2_refuses_60 : decode cX2_refuses 60 = .ok (.iconst 1, 1) := by decide +kernel
theorem dX2_refuses_61 : decode cX2_refuses 61 = .ok (.if_icmp .ne 34, 3) := by decide +kernel
theorem dX2_refuses_64 : decode cX2_refuses 64 = .ok (.lload_n 1, 1) := by decide +kernel
theorem dX2_refuses_65 : decode cX2_refuses 65 = .ok (.iconst 1, 1) := by decide +kernel
theorem dX2_refuses_66 : decode cX2_refuses 66 = .ok (.invokestatic 113, 3) := by decide +kernel
theorem dX2_refuses_69 : decode cX2_refuses 69 = .ok (.ifCond .ne 22, 3) := by decide +kernel
theorem dX2_refuses_72 : decode cX2_refuses 72 = .ok (.aload_n 0, 1) := by decide +kernel
theorem dX2_refuses_73 : decode cX2_refuses 73 = .ok (.getfield 52, 3) := by decide +kernel
theorem dX2_refuses_76 : decode cX2_refuses 76 = .ok (.ifCond .eq 11, 3) := by decide +kernel
theorem dX2_refuses_79 : decode cX2_refuses 79 = .ok (.lload_n 1, 1) := by decide +kernel
theorem dX2_refuses_80 : decode cX2_refuses 80 = .ok (.iconst 3, 1) := by decide +kernel
theorem dX2_refuses_81 : decode cX2_refuses 81 = .ok (.invokestatic 113, 3) := by decide +kernel
theorem dX2_refuses_84 : decode cX2_refuses 84 = .ok (.ifCond .ne 7, 3) := by decide +kernel
theorem dX2_refuses_87 : decode cX2_refuses 87 = .ok (.iconst 1, 1) := by decide +kernel
theorem dX2_refuses_88 : decode cX2_refuses 88 = .ok (.goto 20, 3) := by decide +kernel
theorem dX2_refuses_91 : decode cX2_refuses 91 = .ok (.iconst 0, 1) := by decide +kernel
theorem dX2_refuses_92 : decode cX2_refuses 92 = .ok (.goto 16, 3) := by decide +kernel
theorem dX2_refuses_95 : decode cX2_refuses 95 = .ok (.lload_n 1, 1) := by decide +kernel
theorem dX2_refuses_96 : decode cX2_refuses 96 = .ok (.iconst 2, 1) := by decide +kernel
theorem dX2_refuses_97 : decode cX2_refuses 97 = .ok (.invokestatic 113, 3) := by decide +kernel
theorem dX2_refuses_100 : decode cX2_refuses 100 = .ok (.ifCond .ne 7, 3) := by decide +kernel
theorem dX2_refuses_103 : decode cX2_refuses 103 = .ok (.iconst 1, 1) := by decide +kernel
theorem dX2_refuses_104 : decode cX2_refuses 104 = .ok (.goto 4, 3) := by decide +kernel
theorem dX2_refuses_107 : decode cX2_refuses 107 = .ok (.iconst 0, 1) := by decide +kernel
theorem dX2_refuses_108 : decode cX2_refuses 108 = .ok (.ireturn, 1) := by decide +kernel
theorem dX2_fence_0 : decode cX2_fence 0 = .ok (.aload_n 0, 1) := by decide +kernel
theorem dX2_fence_1 : decode cX2_fence 1 = .ok (.iconst 0, 1) := by decide +kernel
theorem dX2_fence_2 : decode cX2_fence 2 = .ok (.putfield 20, 3) := by decide +kernel
theorem dX2_fence_5 : decode cX2_fence 5 = .ok (.return_, 1) := by decide +kernel
end
section
theorem dL_law_0 : decode code 0 = .ok (.new 8, 3) := by decide +kernel
theorem dL_law_3 : decode code 3 = .ok (.dup, 1) := by decide +kernel
theorem dL_law_4 : decode code 4 = .ok (.invokespecial 41, 3) := by decide +kernel
theorem dL_law_7 : decode code 7 = .ok (.astore_n 1, 1) := by decide +kernel
theorem dL_law_8 : decode code 8 = .ok (.new 42, 3) := by decide +kernel
theorem dL_law_11 : decode code 11 = .ok (.dup, 1) := by decide +kernel
theorem dL_law_12 : decode code 12 = .ok (.invokespecial 44, 3) := by decide +kernel
theorem dL_law_15 : decode code 15 = .ok (.astore_n 2, 1) := by decide +kernel
theorem dL_law_16 : decode code 16 = .ok (.iconst 1, 1) := by decide +kernel
theorem dL_law_17 : decode code 17 = .ok (.newarray .long, 2) := by decide +kernel
theorem dL_law_19 : decode code 19 = .ok (.astore_n 3, 1) := by decide +kernel
theorem dL_law_20 : decode code 20 = .ok (.iconst 0, 1) := by decide +kernel
theorem dL_law_21 : decode code 21 = .ok (.istore 4, 2) := by decide +kernel
theorem dL_law_23 : decode code 23 = .ok (.iload 4, 2) := by decide +kernel
theorem dL_law_25 : decode code 25 = .ok (.aload_n 0, 1) := by decide +kernel
theorem dL_law_26 : decode code 26 = .ok (.arraylength, 1) := by decide +kernel
theorem dL_law_27 : decode code 27 = .ok (.bipush 6, 2) := by decide +kernel
theorem dL_law_29 : decode code 29 = .ok (.isub, 1) := by decide +kernel
theorem dL_law_30 : decode code 30 = .ok (.if_icmp .gt 897, 3) := by decide +kernel
theorem dL_law_33 : decode code 33 = .ok (.aload_n 0, 1) := by decide +kernel
theorem dL_law_34 : decode code 34 = .ok (.iload 4, 2) := by decide +kernel
theorem dL_law_36 : decode code 36 = .ok (.iaload, 1) := by decide +kernel
theorem dL_law_37 : decode code 37 = .ok (.bipush 15, 2) := by decide +kernel
theorem dL_law_39 : decode code 39 = .ok (.iand, 1) := by decide +kernel
theorem dL_law_40 : decode code 40 = .ok (.tableswitch 881 0 11 #[64, 151, 263, 277, 345, 412, 426, 481, 536, 616, 739, 870], 64) := by decide +kernel
theorem dL_law_104 : decode code 104 = .ok (.aload_n 1, 1) := by decide +kernel
theorem dL_law_105 : decode code 105 = .ok (.aload_n 0, 1) := by decide +kernel
theorem dL_law_106 : decode code 106 = .ok (.iload 4, 2) := by decide +kernel
theorem dL_law_108 : decode code 108 = .ok (.iconst 1, 1) := by decide +kernel
theorem dL_law_109 : decode code 109 = .ok (.iadd, 1) := by decide +kernel
theorem dL_law_110 : decode code 110 = .ok (.iaload, 1) := by decide +kernel
theorem dL_law_111 : decode code 111 = .ok (.i2l, 1) := by decide +kernel
theorem dL_law_112 : decode code 112 = .ok (.bipush 32, 2) := by decide +kernel
theorem dL_law_114 : decode code 114 = .ok (.lshl, 1) := by decide +kernel
theorem dL_law_115 : decode code 115 = .ok (.aload_n 0, 1) := by decide +kernel
theorem dL_law_116 : decode code 116 = .ok (.iload 4, 2) := by decide +kernel
theorem dL_law_118 : decode code 118 = .ok (.iconst 2, 1) := by decide +kernel
theorem dL_law_119 : decode code 119 = .ok (.iadd, 1) := by decide +kernel
theorem dL_law_120 : decode code 120 = .ok (.iaload, 1) := by decide +kernel
theorem dL_law_121 : decode code 121 = .ok (.i2l, 1) := by decide +kernel
theorem dL_law_122 : decode code 122 = .ok (.ldc2_w 45, 3) := by decide +kernel
theorem dL_law_125 : decode code 125 = .ok (.land, 1) := by decide +kernel
theorem dL_law_126 : decode code 126 = .ok (.lor, 1) := by decide +kernel
theorem dL_law_127 : decode code 127 = .ok (.aload_n 3, 1) := by decide +kernel
theorem dL_law_128 : decode code 128 = .ok (.invokestatic 47, 3) := by decide +kernel
theorem dL_law_131 : decode code 131 = .ok (.istore 5, 2) := by decide +kernel
theorem dL_law_133 : decode code 133 = .ok (.aload_n 2, 1) := by decide +kernel
theorem dL_law_134 : decode code 134 = .ok (.aload_n 0, 1) := by decide +kernel
theorem dL_law_135 : decode code 135 = .ok (.iload 4, 2) := by decide +kernel
theorem dL_law_137 : decode code 137 = .ok (.iconst 1, 1) := by decide +kernel
theorem dL_law_138 : decode code 138 = .ok (.iadd, 1) := by decide +kernel
theorem dL_law_139 : decode code 139 = .ok (.iaload, 1) := by decide +kernel
theorem dL_law_140 : decode code 140 = .ok (.i2l, 1) := by decide +kernel
theorem dL_law_141 : decode code 141 = .ok (.bipush 32, 2) := by decide +kernel
theorem dL_law_143 : decode code 143 = .ok (.lshl, 1) := by decide +kernel
theorem dL_law_144 : decode code 144 = .ok (.aload_n 0, 1) := by decide +kernel
theorem dL_law_145 : decode code 145 = .ok (.iload 4, 2) := by decide +kernel
theorem dL_law_147 : decode code 147 = .ok (.iconst 2, 1) := by decide +kernel
theorem dL_law_148 : decode code 148 = .ok (.iadd, 1) := by decide +kernel
theorem dL_law_149 : decode code 149 = .ok (.iaload, 1) := by decide +kernel
theorem dL_law_150 : decode code 150 = .ok (.i2l, 1) := by decide +kernel
theorem dL_law_151 : decode code 151 = .ok (.ldc2_w 45, 3) := by decide +kernel
theorem dL_law_154 : decode code 154 = .ok (.land, 1) := by decide +kernel
theorem dL_law_155 : decode code 155 = .ok (.lor, 1) := by decide +kernel
theorem dL_law_156 : decode code 156 = .ok (.invokevirtual 52, 3) := by decide +kernel
theorem dL_law_159 : decode code 159 = .ok (.lstore 6, 2) := by decide +kernel
theorem dL_law_161 : decode code 161 = .ok (.aload_n 2, 1) := by decide +kernel
theorem dL_law_162 : decode code 162 = .ok (.invokevirtual 53, 3) := by decide +kernel
theorem dL_law_165 : decode code 165 = .ok (.iload 5, 2) := by decide +kernel
theorem dL_law_167 : decode code 167 = .ok (.if_icmp .eq 5, 3) := by decide +kernel
theorem dL_law_170 : decode code 170 = .ok (.iconst 0, 1) := by decide +kernel
theorem dL_law_171 : decode code 171 = .ok (.ireturn, 1) := by decide +kernel
theorem dL_law_172 : decode code 172 = .ok (.iload 5, 2) := by decide +kernel
theorem dL_law_174 : decode code 174 = .ok (.ifCond .ne 14, 3) := by decide +kernel
theorem dL_law_177 : decode code 177 = .ok (.aload_n 3, 1) := by decide +kernel
theorem dL_law_178 : decode code 178 = .ok (.iconst 0, 1) := by decide +kernel
theorem dL_law_179 : decode code 179 = .ok (.laload, 1) := by decide +kernel
theorem dL_law_180 : decode code 180 = .ok (.lload 6, 2) := by decide +kernel
theorem dL_law_182 : decode code 182 = .ok (.lcmp, 1) := by decide +kernel
theorem dL_law_183 : decode code 183 = .ok (.ifCond .eq 5, 3) := by decide +kernel
theorem dL_law_186 : decode code 186 = .ok (.iconst 0, 1) := by decide +kernel
theorem dL_law_187 : decode code 187 = .ok (.ireturn, 1) := by decide +kernel
theorem dL_law_188 : decode code 188 = .ok (.goto 733, 3) := by decide +kernel
theorem dL_law_191 : decode code 191 = .ok (.aload_n 1, 1) := by decide +kernel
theorem dL_law_192 : decode code 192 = .ok (.aload_n 0, 1) := by decide +kernel
theorem dL_law_193 : decode code 193 = .ok (.iload 4, 2) := by decide +kernel
theorem dL_law_195 : decode code 195 = .ok (.iconst 1, 1) := by decide +kernel
theorem dL_law_196 : decode code 196 = .ok (.iadd, 1) := by decide +kernel
theorem dL_law_197 : decode code 197 = .ok (.iaload, 1) := by decide +kernel
theorem dL_law_198 : decode code 198 = .ok (.i2l, 1) := by decide +kernel
theorem dL_law_199 : decode code 199 = .ok (.bipush 32, 2) := by decide +kernel
theorem dL_law_201 : decode code 201 = .ok (.lshl, 1) := by decide +kernel
theorem dL_law_202 : decode code 202 = .ok (.aload_n 0, 1) := by decide +kernel
theorem dL_law_203 : decode code 203 = .ok (.iload 4, 2) := by decide +kernel
theorem dL_law_205 : decode code 205 = .ok (.iconst 2, 1) := by decide +kernel
theorem dL_law_206 : decode code 206 = .ok (.iadd, 1) := by decide +kernel
theorem dL_law_207 : decode code 207 = .ok (.iaload, 1) := by decide +kernel
theorem dL_law_208 : decode code 208 = .ok (.i2l, 1) := by decide +kernel
theorem dL_law_209 : decode code 209 = .ok (.ldc2_w 45, 3) := by decide +kernel
theorem dL_law_212 : decode code 212 = .ok (.land, 1) := by decide +kernel
theorem dL_law_213 : decode code 213 = .ok (.lor, 1) := by decide +kernel
theorem dL_law_214 : decode code 214 = .ok (.aload_n 0, 1) := by decide +kernel
theorem dL_law_215 : decode code 215 = .ok (.iload 4, 2) := by decide +kernel
theorem dL_law_217 : decode code 217 = .ok (.iconst 3, 1) := by decide +kernel
theorem dL_law_218 : decode code 218 = .ok (.iadd, 1) := by decide +kernel
theorem dL_law_219 : decode code 219 = .ok (.iaload, 1) := by decide +kernel
theorem dL_law_220 : decode code 220 = .ok (.i2l, 1) := by decide +kernel
theorem dL_law_221 : decode code 221 = .ok (.bipush 32, 2) := by decide +kernel
theorem dL_law_223 : decode code 223 = .ok (.lshl, 1) := by decide +kernel
theorem dL_law_224 : decode code 224 = .ok (.aload_n 0, 1) := by decide +kernel
theorem dL_law_225 : decode code 225 = .ok (.iload 4, 2) := by decide +kernel
theorem dL_law_227 : decode code 227 = .ok (.iconst 4, 1) := by decide +kernel
theorem dL_law_228 : decode code 228 = .ok (.iadd, 1) := by decide +kernel
theorem dL_law_229 : decode code 229 = .ok (.iaload, 1) := by decide +kernel
theorem dL_law_230 : decode code 230 = .ok (.i2l, 1) := by decide +kernel
theorem dL_law_231 : decode code 231 = .ok (.ldc2_w 45, 3) := by decide +kernel
theorem dL_law_234 : decode code 234 = .ok (.land, 1) := by decide +kernel
theorem dL_law_235 : decode code 235 = .ok (.lor, 1) := by decide +kernel
theorem dL_law_236 : decode code 236 = .ok (.invokestatic 57, 3) := by decide +kernel
theorem dL_law_239 : decode code 239 = .ok (.istore 5, 2) := by decide +kernel
theorem dL_law_241 : decode code 241 = .ok (.aload_n 2, 1) := by decide +kernel
theorem dL_law_242 : decode code 242 = .ok (.aload_n 0, 1) := by decide +kernel
theorem dL_law_243 : decode code 243 = .ok (.iload 4, 2) := by decide +kernel
theorem dL_law_245 : decode code 245 = .ok (.iconst 1, 1) := by decide +kernel
theorem dL_law_246 : decode code 246 = .ok (.iadd, 1) := by decide +kernel
theorem dL_law_247 : decode code 247 = .ok (.iaload, 1) := by decide +kernel
theorem dL_law_248 : decode code 248 = .ok (.i2l, 1) := by decide +kernel
theorem dL_law_249 : decode code 249 = .ok (.bipush 32, 2) := by decide +kernel
theorem dL_law_251 : decode code 251 = .ok (.lshl, 1) := by decide +kernel
theorem dL_law_252 : decode code 252 = .ok (.aload_n 0, 1) := by decide +kernel
theorem dL_law_253 : decode code 253 = .ok (.iload 4, 2) := by decide +kernel
theorem dL_law_255 : decode code 255 = .ok (.iconst 2, 1) := by decide +kernel
theorem dL_law_256 : decode code 256 = .ok (.iadd, 1) := by decide +kernel
theorem dL_law_257 : decode code 257 = .ok (.iaload, 1) := by decide +kernel
theorem dL_law_258 : decode code 258 = .ok (.i2l, 1) := by decide +kernel
theorem dL_law_259 : decode code 259 = .ok (.ldc2_w 45, 3) := by decide +kernel
theorem dL_law_262 : decode code 262 = .ok (.land, 1) := by decide +kernel
theorem dL_law_263 : decode code 263 = .ok (.lor, 1) := by decide +kernel
theorem dL_law_264 : decode code 264 = .ok (.aload_n 0, 1) := by decide +kernel
theorem dL_law_265 : decode code 265 = .ok (.iload 4, 2) := by decide +kernel
theorem dL_law_267 : decode code 267 = .ok (.iconst 3, 1) := by decide +kernel
theorem dL_law_268 : decode code 268 = .ok (.iadd, 1) := by decide +kernel
theorem dL_law_269 : decode code 269 = .ok (.iaload, 1) := by decide +kernel
theorem dL_law_270 : decode code 270 = .ok (.i2l, 1) := by decide +kernel
theorem dL_law_271 : decode code 271 = .ok (.bipush 32, 2) := by decide +kernel
theorem dL_law_273 : decode code 273 = .ok (.lshl, 1) := by decide +kernel
theorem dL_law_274 : decode code 274 = .ok (.aload_n 0, 1) := by decide +kernel
theorem dL_law_275 : decode code 275 = .ok (.iload 4, 2) := by decide +kernel
theorem dL_law_277 : decode code 277 = .ok (.iconst 4, 1) := by decide +kernel
theorem dL_law_278 : decode code 278 = .ok (.iadd, 1) := by decide +kernel
theorem dL_law_279 : decode code 279 = .ok (.iaload, 1) := by decide +kernel
theorem dL_law_280 : decode code 280 = .ok (.i2l, 1) := by decide +kernel
theorem dL_law_281 : decode code 281 = .ok (.ldc2_w 45, 3) := by decide +kernel
theorem dL_law_284 : decode code 284 = .ok (.land, 1) := by decide +kernel
theorem dL_law_285 : decode code 285 = .ok (.lor, 1) := by decide +kernel
theorem dL_law_286 : decode code 286 = .ok (.invokevirtual 60, 3) := by decide +kernel
theorem dL_law_289 : decode code 289 = .ok (.aload_n 2, 1) := by decide +kernel
theorem dL_law_290 : decode code 290 = .ok (.invokevirtual 53, 3) := by decide +kernel
theorem dL_law_293 : decode code 293 = .ok (.iload 5, 2) := by decide +kernel
theorem dL_law_295 : decode code 295 = .ok (.if_icmp .eq 5, 3) := by decide +kernel
theorem dL_law_298 : decode code 298 = .ok (.iconst 0, 1) := by decide +kernel
theorem dL_law_299 : decode code 299 = .ok (.ireturn, 1) := by decide +kernel
theorem dL_law_300 : decode code 300 = .ok (.goto 621, 3) := by decide +kernel
theorem dL_law_303 : decode code 303 = .ok (.aload_n 1, 1) := by decide +kernel
theorem dL_law_304 : decode code 304 = .ok (.invokevirtual 61, 3) := by decide +kernel
theorem dL_law_307 : decode code 307 = .ok (.aload_n 2, 1) := by decide +kernel
theorem dL_law_308 : decode code 308 = .ok (.invokevirtual 65, 3) := by decide +kernel
theorem dL_law_311 : decode code 311 = .ok (.lcmp, 1) := by decide +kernel
theorem dL_law_312 : decode code 312 = .ok (.ifCond .eq 609, 3) := by decide +kernel
theorem dL_law_315 : decode code 315 = .ok (.iconst 0, 1) := by decide +kernel
theorem dL_law_316 : decode code 316 = .ok (.ireturn, 1) := by decide +kernel
theorem dL_law_317 : decode code 317 = .ok (.aload_n 1, 1) := by decide +kernel
theorem dL_law_318 : decode code 318 = .ok (.aload_n 0, 1) := by decide +kernel
theorem dL_law_319 : decode code 319 = .ok (.iload 4, 2) := by decide +kernel
theorem dL_law_321 : decode code 321 = .ok (.iconst 1, 1) := by decide +kernel
theorem dL_law_322 : decode code 322 = .ok (.iadd, 1) := by decide +kernel
theorem dL_law_323 : decode code 323 = .ok (.iaload, 1) := by decide +kernel
theorem dL_law_324 : decode code 324 = .ok (.i2l, 1) := by decide +kernel
theorem dL_law_325 : decode code 325 = .ok (.bipush 32, 2) := by decide +kernel
theorem dL_law_327 : decode code 327 = .ok (.lshl, 1) := by decide +kernel
theorem dL_law_328 : decode code 328 = .ok (.aload_n 0, 1) := by decide +kernel
theorem dL_law_329 : decode code 329 = .ok (.iload 4, 2) := by decide +kernel
theorem dL_law_331 : decode code 331 = .ok (.iconst 2, 1) := by decide +kernel
theorem dL_law_332 : decode code 332 = .ok (.iadd, 1) := by decide +kernel
theorem dL_law_333 : decode code 333 = .ok (.iaload, 1) := by decide +kernel
theorem dL_law_334 : decode code 334 = .ok (.i2l, 1) := by decide +kernel
theorem dL_law_335 : decode code 335 = .ok (.ldc2_w 45, 3) := by decide +kernel
theorem dL_law_338 : decode code 338 = .ok (.land, 1) := by decide +kernel
theorem dL_law_339 : decode code 339 = .ok (.lor, 1) := by decide +kernel
theorem dL_law_340 : decode code 340 = .ok (.invokestatic 66, 3) := by decide +kernel
theorem dL_law_343 : decode code 343 = .ok (.istore 5, 2) := by decide +kernel
theorem dL_law_345 : decode code 345 = .ok (.aload_n 2, 1) := by decide +kernel
theorem dL_law_346 : decode code 346 = .ok (.aload_n 0, 1) := by decide +kernel
theorem dL_law_347 : decode code 347 = .ok (.iload 4, 2) := by decide +kernel
theorem dL_law_349 : decode code 349 = .ok (.iconst 1, 1) := by decide +kernel
theorem dL_law_350 : decode code 350 = .ok (.iadd, 1) := by decide +kernel
theorem dL_law_351 : decode code 351 = .ok (.iaload, 1) := by decide +kernel
theorem dL_law_352 : decode code 352 = .ok (.i2l, 1) := by decide +kernel
theorem dL_law_353 : decode code 353 = .ok (.bipush 32, 2) := by decide +kernel
theorem dL_law_355 : decode code 355 = .ok (.lshl, 1) := by decide +kernel
theorem dL_law_356 : decode code 356 = .ok (.aload_n 0, 1) := by decide +kernel
theorem dL_law_357 : decode code 357 = .ok (.iload 4, 2) := by decide +kernel
theorem dL_law_359 : decode code 359 = .ok (.iconst 2, 1) := by decide +kernel
theorem dL_law_360 : decode code 360 = .ok (.iadd, 1) := by decide +kernel
theorem dL_law_361 : decode code 361 = .ok (.iaload, 1) := by decide +kernel
theorem dL_law_362 : decode code 362 = .ok (.i2l, 1) := by decide +kernel
theorem dL_law_363 : decode code 363 = .ok (.ldc2_w 45, 3) := by decide +kernel
theorem dL_law_366 : decode code 366 = .ok (.land, 1) := by decide +kernel
theorem dL_law_367 : decode code 367 = .ok (.lor, 1) := by decide +kernel
theorem dL_law_368 : decode code 368 = .ok (.invokevirtual 69, 3) := by decide +kernel
theorem dL_law_371 : decode code 371 = .ok (.aload_n 2, 1) := by decide +kernel
theorem dL_law_372 : decode code 372 = .ok (.invokevirtual 53, 3) := by decide +kernel
theorem dL_law_375 : decode code 375 = .ok (.iload 5, 2) := by decide +kernel
theorem dL_law_377 : decode code 377 = .ok (.if_icmp .eq 5, 3) := by decide +kernel
theorem dL_law_380 : decode code 380 = .ok (.iconst 0, 1) := by decide +kernel
theorem dL_law_381 : decode code 381 = .ok (.ireturn, 1) := by decide +kernel
theorem dL_law_382 : decode code 382 = .ok (.goto 539, 3) := by decide +kernel
theorem dL_law_385 : decode code 385 = .ok (.aload_n 1, 1) := by decide +kernel
theorem dL_law_386 : decode code 386 = .ok (.aload_n 0, 1) := by decide +kernel
theorem dL_law_387 : decode code 387 = .ok (.iload 4, 2) := by decide +kernel
theorem dL_law_389 : decode code 389 = .ok (.iconst 1, 1) := by decide +kernel
theorem dL_law_390 : decode code 390 = .ok (.iadd, 1) := by decide +kernel
theorem dL_law_391 : decode code 391 = .ok (.iaload, 1) := by decide +kernel
theorem dL_law_392 : decode code 392 = .ok (.ifCond .eq 7, 3) := by decide +kernel
theorem dL_law_395 : decode code 395 = .ok (.iconst 1, 1) := by decide +kernel
theorem dL_law_396 : decode code 396 = .ok (.goto 4, 3) := by decide +kernel
theorem dL_law_399 : decode code 399 = .ok (.iconst 0, 1) := by decide +kernel
theorem dL_law_400 : decode code 400 = .ok (.aload_n 0, 1) := by decide +kernel
theorem dL_law_401 : decode code 401 = .ok (.iload 4, 2) := by decide +kernel
theorem dL_law_403 : decode code 403 = .ok (.iconst 2, 1) := by decide +kernel
theorem dL_law_404 : decode code 404 = .ok (.iadd, 1) := by decide +kernel
theorem dL_law_405 : decode code 405 = .ok (.iaload, 1) := by decide +kernel
theorem dL_law_406 : decode code 406 = .ok (.ifCond .eq 7, 3) := by decide +kernel
theorem dL_law_409 : decode code 409 = .ok (.iconst 1, 1) := by decide +kernel
theorem dL_law_410 : decode code 410 = .ok (.goto 4, 3) := by decide +kernel
theorem dL_law_413 : decode code 413 = .ok (.iconst 0, 1) := by decide +kernel
theorem dL_law_414 : decode code 414 = .ok (.invokevirtual 70, 3) := by decide +kernel
theorem dL_law_417 : decode code 417 = .ok (.aload_n 2, 1) := by decide +kernel
theorem dL_law_418 : decode code 418 = .ok (.aload_n 0, 1) := by decide +kernel
theorem dL_law_419 : decode code 419 = .ok (.iload 4, 2) := by decide +kernel
theorem dL_law_421 : decode code 421 = .ok (.iconst 1, 1) := by decide +kernel
theorem dL_law_422 : decode code 422 = .ok (.iadd, 1) := by decide +kernel
theorem dL_law_423 : decode code 423 = .ok (.iaload, 1) := by decide +kernel
theorem dL_law_424 : decode code 424 = .ok (.ifCond .eq 7, 3) := by decide +kernel
theorem dL_law_427 : decode code 427 = .ok (.iconst 1, 1) := by decide +kernel
theorem dL_law_428 : decode code 428 = .ok (.goto 4, 3) := by decide +kernel
theorem dL_law_431 : decode code 431 = .ok (.iconst 0, 1) := by decide +kernel
theorem dL_law_432 : decode code 432 = .ok (.aload_n 0, 1) := by decide +kernel
theorem dL_law_433 : decode code 433 = .ok (.iload 4, 2) := by decide +kernel
theorem dL_law_435 : decode code 435 = .ok (.iconst 2, 1) := by decide +kernel
theorem dL_law_436 : decode code 436 = .ok (.iadd, 1) := by decide +kernel
theorem dL_law_437 : decode code 437 = .ok (.iaload, 1) := by decide +kernel
theorem dL_law_438 : decode code 438 = .ok (.ifCond .eq 7, 3) := by decide +kernel
theorem dL_law_441 : decode code 441 = .ok (.iconst 1, 1) := by decide +kernel
theorem dL_law_442 : decode code 442 = .ok (.goto 4, 3) := by decide +kernel
theorem dL_law_445 : decode code 445 = .ok (.iconst 0, 1) := by decide +kernel
theorem dL_law_446 : decode code 446 = .ok (.invokevirtual 74, 3) := by decide +kernel
theorem dL_law_449 : decode code 449 = .ok (.goto 472, 3) := by decide +kernel
theorem dL_law_452 : decode code 452 = .ok (.aload_n 1, 1) := by decide +kernel
theorem dL_law_453 : decode code 453 = .ok (.invokevirtual 75, 3) := by decide +kernel
theorem dL_law_456 : decode code 456 = .ok (.aload_n 2, 1) := by decide +kernel
theorem dL_law_457 : decode code 457 = .ok (.invokevirtual 78, 3) := by decide +kernel
theorem dL_law_460 : decode code 460 = .ok (.lcmp, 1) := by decide +kernel
theorem dL_law_461 : decode code 461 = .ok (.ifCond .eq 460, 3) := by decide +kernel
theorem dL_law_464 : decode code 464 = .ok (.iconst 0, 1) := by decide +kernel
theorem dL_law_465 : decode code 465 = .ok (.ireturn, 1) := by decide +kernel
theorem dL_law_466 : decode code 466 = .ok (.aload_n 1, 1) := by decide +kernel
theorem dL_law_467 : decode code 467 = .ok (.aload_n 0, 1) := by decide +kernel
theorem dL_law_468 : decode code 468 = .ok (.iload 4, 2) := by decide +kernel
theorem dL_law_470 : decode code 470 = .ok (.iconst 1, 1) := by decide +kernel
theorem dL_law_471 : decode code 471 = .ok (.iadd, 1) := by decide +kernel
theorem dL_law_472 : decode code 472 = .ok (.iaload, 1) := by decide +kernel
theorem dL_law_473 : decode code 473 = .ok (.i2l, 1) := by decide +kernel
theorem dL_law_474 : decode code 474 = .ok (.bipush 32, 2) := by decide +kernel
theorem dL_law_476 : decode code 476 = .ok (.lshl, 1) := by decide +kernel
theorem dL_law_477 : decode code 477 = .ok (.aload_n 0, 1) := by decide +kernel
theorem dL_law_478 : decode code 478 = .ok (.iload 4, 2) := by decide +kernel
theorem dL_law_480 : decode code 480 = .ok (.iconst 2, 1) := by decide +kernel
theorem dL_law_481 : decode code 481 = .ok (.iadd, 1) := by decide +kernel
theorem dL_law_482 : decode code 482 = .ok (.iaload, 1) := by decide +kernel
theorem dL_law_483 : decode code 483 = .ok (.i2l, 1) := by decide +kernel
theorem dL_law_484 : decode code 484 = .ok (.ldc2_w 45, 3) := by decide +kernel
theorem dL_law_487 : decode code 487 = .ok (.land, 1) := by decide +kernel
theorem dL_law_488 : decode code 488 = .ok (.lor, 1) := by decide +kernel
theorem dL_law_489 : decode code 489 = .ok (.invokevirtual 79, 3) := by decide +kernel
theorem dL_law_492 : decode code 492 = .ok (.aload_n 2, 1) := by decide +kernel
theorem dL_law_493 : decode code 493 = .ok (.aload_n 0, 1) := by decide +kernel
theorem dL_law_494 : decode code 494 = .ok (.iload 4, 2) := by decide +kernel
theorem dL_law_496 : decode code 496 = .ok (.iconst 1, 1) := by decide +kernel
theorem dL_law_497 : decode code 497 = .ok (.iadd, 1) := by decide +kernel
theorem dL_law_498 : decode code 498 = .ok (.iaload, 1) := by decide +kernel
theorem dL_law_499 : decode code 499 = .ok (.i2l, 1) := by decide +kernel
theorem dL_law_500 : decode code 500 = .ok (.bipush 32, 2) := by decide +kernel
theorem dL_law_502 : decode code 502 = .ok (.lshl, 1) := by decide +kernel
theorem dL_law_503 : decode code 503 = .ok (.aload_n 0, 1) := by decide +kernel
theorem dL_law_504 : decode code 504 = .ok (.iload 4, 2) := by decide +kernel
theorem dL_law_506 : decode code 506 = .ok (.iconst 2, 1) := by decide +kernel
theorem dL_law_507 : decode code 507 = .ok (.iadd, 1) := by decide +kernel
theorem dL_law_508 : decode code 508 = .ok (.iaload, 1) := by decide +kernel
theorem dL_law_509 : decode code 509 = .ok (.i2l, 1) := by decide +kernel
theorem dL_law_510 : decode code 510 = .ok (.ldc2_w 45, 3) := by decide +kernel
theorem dL_law_513 : decode code 513 = .ok (.land, 1) := by decide +kernel
theorem dL_law_514 : decode code 514 = .ok (.lor, 1) := by decide +kernel
theorem dL_law_515 : decode code 515 = .ok (.invokevirtual 82, 3) := by decide +kernel
theorem dL_law_518 : decode code 518 = .ok (.goto 403, 3) := by decide +kernel
theorem dL_law_521 : decode code 521 = .ok (.aload_n 1, 1) := by decide +kernel
theorem dL_law_522 : decode code 522 = .ok (.aload_n 0, 1) := by decide +kernel
theorem dL_law_523 : decode code 523 = .ok (.iload 4, 2) := by decide +kernel
theorem dL_law_525 : decode code 525 = .ok (.iconst 1, 1) := by decide +kernel
theorem dL_law_526 : decode code 526 = .ok (.iadd, 1) := by decide +kernel
theorem dL_law_527 : decode code 527 = .ok (.iaload, 1) := by decide +kernel
theorem dL_law_528 : decode code 528 = .ok (.aload_n 3, 1) := by decide +kernel
theorem dL_law_529 : decode code 529 = .ok (.invokestatic 83, 3) := by decide +kernel
theorem dL_law_532 : decode code 532 = .ok (.istore 5, 2) := by decide +kernel
theorem dL_law_534 : decode code 534 = .ok (.aload_n 2, 1) := by decide +kernel
theorem dL_law_535 : decode code 535 = .ok (.aload_n 0, 1) := by decide +kernel
theorem dL_law_536 : decode code 536 = .ok (.iload 4, 2) := by decide +kernel
theorem dL_law_538 : decode code 538 = .ok (.iconst 1, 1) := by decide +kernel
theorem dL_law_539 : decode code 539 = .ok (.iadd, 1) := by decide +kernel
theorem dL_law_540 : decode code 540 = .ok (.iaload, 1) := by decide +kernel
theorem dL_law_541 : decode code 541 = .ok (.invokevirtual 86, 3) := by decide +kernel
theorem dL_law_544 : decode code 544 = .ok (.lstore 6, 2) := by decide +kernel
theorem dL_law_546 : decode code 546 = .ok (.aload_n 2, 1) := by decide +kernel
theorem dL_law_547 : decode code 547 = .ok (.invokevirtual 53, 3) := by decide +kernel
theorem dL_law_550 : decode code 550 = .ok (.iload 5, 2) := by decide +kernel
theorem dL_law_552 : decode code 552 = .ok (.if_icmp .eq 5, 3) := by decide +kernel
theorem dL_law_555 : decode code 555 = .ok (.iconst 0, 1) := by decide +kernel
theorem dL_law_556 : decode code 556 = .ok (.ireturn, 1) := by decide +kernel
theorem dL_law_557 : decode code 557 = .ok (.iload 5, 2) := by decide +kernel
theorem dL_law_559 : decode code 559 = .ok (.ifCond .ne 14, 3) := by decide +kernel
theorem dL_law_562 : decode code 562 = .ok (.aload_n 3, 1) := by decide +kernel
theorem dL_law_563 : decode code 563 = .ok (.iconst 0, 1) := by decide +kernel
theorem dL_law_564 : decode code 564 = .ok (.laload, 1) := by decide +kernel
theorem dL_law_565 : decode code 565 = .ok (.lload 6, 2) := by decide +kernel
theorem dL_law_567 : decode code 567 = .ok (.lcmp, 1) := by decide +kernel
theorem dL_law_568 : decode code 568 = .ok (.ifCond .eq 5, 3) := by decide +kernel
theorem dL_law_571 : decode code 571 = .ok (.iconst 0, 1) := by decide +kernel
theorem dL_law_572 : decode code 572 = .ok (.ireturn, 1) := by decide +kernel
theorem dL_law_573 : decode code 573 = .ok (.goto 348, 3) := by decide +kernel
theorem dL_law_576 : decode code 576 = .ok (.aload_n 1, 1) := by decide +kernel
theorem dL_law_577 : decode code 577 = .ok (.aload_n 0, 1) := by decide +kernel
theorem dL_law_578 : decode code 578 = .ok (.iload 4, 2) := by decide +kernel
theorem dL_law_580 : decode code 580 = .ok (.iconst 1, 1) := by decide +kernel
theorem dL_law_581 : decode code 581 = .ok (.iadd, 1) := by decide +kernel
theorem dL_law_582 : decode code 582 = .ok (.iaload, 1) := by decide +kernel
theorem dL_law_583 : decode code 583 = .ok (.aload_n 0, 1) := by decide +kernel
theorem dL_law_584 : decode code 584 = .ok (.iload 4, 2) := by decide +kernel
theorem dL_law_586 : decode code 586 = .ok (.iconst 2, 1) := by decide +kernel
theorem dL_law_587 : decode code 587 = .ok (.iadd, 1) := by decide +kernel
theorem dL_law_588 : decode code 588 = .ok (.iaload, 1) := by decide +kernel
theorem dL_law_589 : decode code 589 = .ok (.i2l, 1) := by decide +kernel
theorem dL_law_590 : decode code 590 = .ok (.bipush 32, 2) := by decide +kernel
theorem dL_law_592 : decode code 592 = .ok (.lshl, 1) := by decide +kernel
theorem dL_law_593 : decode code 593 = .ok (.aload_n 0, 1) := by decide +kernel
theorem dL_law_594 : decode code 594 = .ok (.iload 4, 2) := by decide +kernel
theorem dL_law_596 : decode code 596 = .ok (.iconst 3, 1) := by decide +kernel
theorem dL_law_597 : decode code 597 = .ok (.iadd, 1) := by decide +kernel
theorem dL_law_598 : decode code 598 = .ok (.iaload, 1) := by decide +kernel
theorem dL_law_599 : decode code 599 = .ok (.i2l, 1) := by decide +kernel
theorem dL_law_600 : decode code 600 = .ok (.ldc2_w 45, 3) := by decide +kernel
theorem dL_law_603 : decode code 603 = .ok (.land, 1) := by decide +kernel
theorem dL_law_604 : decode code 604 = .ok (.lor, 1) := by decide +kernel
theorem dL_law_605 : decode code 605 = .ok (.invokestatic 87, 3) := by decide +kernel
theorem dL_law_608 : decode code 608 = .ok (.istore 5, 2) := by decide +kernel
theorem dL_law_610 : decode code 610 = .ok (.aload_n 2, 1) := by decide +kernel
theorem dL_law_611 : decode code 611 = .ok (.aload_n 0, 1) := by decide +kernel
theorem dL_law_612 : decode code 612 = .ok (.iload 4, 2) := by decide +kernel
theorem dL_law_614 : decode code 614 = .ok (.iconst 1, 1) := by decide +kernel
theorem dL_law_615 : decode code 615 = .ok (.iadd, 1) := by decide +kernel
theorem dL_law_616 : decode code 616 = .ok (.iaload, 1) := by decide +kernel
theorem dL_law_617 : decode code 617 = .ok (.aload_n 0, 1) := by decide +kernel
theorem dL_law_618 : decode code 618 = .ok (.iload 4, 2) := by decide +kernel
theorem dL_law_620 : decode code 620 = .ok (.iconst 2, 1) := by decide +kernel
theorem dL_law_621 : decode code 621 = .ok (.iadd, 1) := by decide +kernel
theorem dL_law_622 : decode code 622 = .ok (.iaload, 1) := by decide +kernel
theorem dL_law_623 : decode code 623 = .ok (.i2l, 1) := by decide +kernel
theorem dL_law_624 : decode code 624 = .ok (.bipush 32, 2) := by decide +kernel
theorem dL_law_626 : decode code 626 = .ok (.lshl, 1) := by decide +kernel
theorem dL_law_627 : decode code 627 = .ok (.aload_n 0, 1) := by decide +kernel
theorem dL_law_628 : decode code 628 = .ok (.iload 4, 2) := by decide +kernel
theorem dL_law_630 : decode code 630 = .ok (.iconst 3, 1) := by decide +kernel
theorem dL_law_631 : decode code 631 = .ok (.iadd, 1) := by decide +kernel
theorem dL_law_632 : decode code 632 = .ok (.iaload, 1) := by decide +kernel
theorem dL_law_633 : decode code 633 = .ok (.i2l, 1) := by decide +kernel
theorem dL_law_634 : decode code 634 = .ok (.ldc2_w 45, 3) := by decide +kernel
theorem dL_law_637 : decode code 637 = .ok (.land, 1) := by decide +kernel
theorem dL_law_638 : decode code 638 = .ok (.lor, 1) := by decide +kernel
theorem dL_law_639 : decode code 639 = .ok (.invokevirtual 90, 3) := by decide +kernel
theorem dL_law_642 : decode code 642 = .ok (.aload_n 2, 1) := by decide +kernel
theorem dL_law_643 : decode code 643 = .ok (.invokevirtual 53, 3) := by decide +kernel
theorem dL_law_646 : decode code 646 = .ok (.iload 5, 2) := by decide +kernel
theorem dL_law_648 : decode code 648 = .ok (.if_icmp .eq 5, 3) := by decide +kernel
theorem dL_law_651 : decode code 651 = .ok (.iconst 0, 1) := by decide +kernel
theorem dL_law_652 : decode code 652 = .ok (.ireturn, 1) := by decide +kernel
theorem dL_law_653 : decode code 653 = .ok (.goto 268, 3) := by decide +kernel
theorem dL_law_656 : decode code 656 = .ok (.aload_n 1, 1) := by decide +kernel
theorem dL_law_657 : decode code 657 = .ok (.aload_n 0, 1) := by decide +kernel
theorem dL_law_658 : decode code 658 = .ok (.iload 4, 2) := by decide +kernel
theorem dL_law_660 : decode code 660 = .ok (.iconst 1, 1) := by decide +kernel
theorem dL_law_661 : decode code 661 = .ok (.iadd, 1) := by decide +kernel
theorem dL_law_662 : decode code 662 = .ok (.iaload, 1) := by decide +kernel
theorem dL_law_663 : decode code 663 = .ok (.i2l, 1) := by decide +kernel
theorem dL_law_664 : decode code 664 = .ok (.bipush 32, 2) := by decide +kernel
theorem dL_law_666 : decode code 666 = .ok (.lshl, 1) := by decide +kernel
theorem dL_law_667 : decode code 667 = .ok (.aload_n 0, 1) := by decide +kernel
theorem dL_law_668 : decode code 668 = .ok (.iload 4, 2) := by decide +kernel
theorem dL_law_670 : decode code 670 = .ok (.iconst 2, 1) := by decide +kernel
theorem dL_law_671 : decode code 671 = .ok (.iadd, 1) := by decide +kernel
theorem dL_law_672 : decode code 672 = .ok (.iaload, 1) := by decide +kernel
theorem dL_law_673 : decode code 673 = .ok (.i2l, 1) := by decide +kernel
theorem dL_law_674 : decode code 674 = .ok (.ldc2_w 45, 3) := by decide +kernel
theorem dL_law_677 : decode code 677 = .ok (.land, 1) := by decide +kernel
theorem dL_law_678 : decode code 678 = .ok (.lor, 1) := by decide +kernel
theorem dL_law_679 : decode code 679 = .ok (.aload_n 0, 1) := by decide +kernel
theorem dL_law_680 : decode code 680 = .ok (.iload 4, 2) := by decide +kernel
theorem dL_law_682 : decode code 682 = .ok (.iconst 3, 1) := by decide +kernel
theorem dL_law_683 : decode code 683 = .ok (.iadd, 1) := by decide +kernel
theorem dL_law_684 : decode code 684 = .ok (.iaload, 1) := by decide +kernel
theorem dL_law_685 : decode code 685 = .ok (.aload_n 0, 1) := by decide +kernel
theorem dL_law_686 : decode code 686 = .ok (.iload 4, 2) := by decide +kernel
theorem dL_law_688 : decode code 688 = .ok (.iconst 4, 1) := by decide +kernel
theorem dL_law_689 : decode code 689 = .ok (.iadd, 1) := by decide +kernel
theorem dL_law_690 : decode code 690 = .ok (.iaload, 1) := by decide +kernel
theorem dL_law_691 : decode code 691 = .ok (.aload_n 0, 1) := by decide +kernel
theorem dL_law_692 : decode code 692 = .ok (.iload 4, 2) := by decide +kernel
theorem dL_law_694 : decode code 694 = .ok (.iconst 5, 1) := by decide +kernel
theorem dL_law_695 : decode code 695 = .ok (.iadd, 1) := by decide +kernel
theorem dL_law_696 : decode code 696 = .ok (.iaload, 1) := by decide +kernel
theorem dL_law_697 : decode code 697 = .ok (.aload_n 3, 1) := by decide +kernel
theorem dL_law_698 : decode code 698 = .ok (.invokestatic 91, 3) := by decide +kernel
theorem dL_law_701 : decode code 701 = .ok (.istore 5, 2) := by decide +kernel
theorem dL_law_703 : decode code 703 = .ok (.aload_n 2, 1) := by decide +kernel
theorem dL_law_704 : decode code 704 = .ok (.aload_n 0, 1) := by decide +kernel
theorem dL_law_705 : decode code 705 = .ok (.iload 4, 2) := by decide +kernel
theorem dL_law_707 : decode code 707 = .ok (.iconst 1, 1) := by decide +kernel
theorem dL_law_708 : decode code 708 = .ok (.iadd, 1) := by decide +kernel
theorem dL_law_709 : decode code 709 = .ok (.iaload, 1) := by decide +kernel
theorem dL_law_710 : decode code 710 = .ok (.i2l, 1) := by decide +kernel
theorem dL_law_711 : decode code 711 = .ok (.bipush 32, 2) := by decide +kernel
theorem dL_law_713 : decode code 713 = .ok (.lshl, 1) := by decide +kernel
theorem dL_law_714 : decode code 714 = .ok (.aload_n 0, 1) := by decide +kernel
theorem dL_law_715 : decode code 715 = .ok (.iload 4, 2) := by decide +kernel
theorem dL_law_717 : decode code 717 = .ok (.iconst 2, 1) := by decide +kernel
theorem dL_law_718 : decode code 718 = .ok (.iadd, 1) := by decide +kernel
theorem dL_law_719 : decode code 719 = .ok (.iaload, 1) := by decide +kernel
theorem dL_law_720 : decode code 720 = .ok (.i2l, 1) := by decide +kernel
theorem dL_law_721 : decode code 721 = .ok (.ldc2_w 45, 3) := by decide +kernel
theorem dL_law_724 : decode code 724 = .ok (.land, 1) := by decide +kernel
theorem dL_law_725 : decode code 725 = .ok (.lor, 1) := by decide +kernel
theorem dL_law_726 : decode code 726 = .ok (.aload_n 0, 1) := by decide +kernel
theorem dL_law_727 : decode code 727 = .ok (.iload 4, 2) := by decide +kernel
theorem dL_law_729 : decode code 729 = .ok (.iconst 3, 1) := by decide +kernel
theorem dL_law_730 : decode code 730 = .ok (.iadd, 1) := by decide +kernel
theorem dL_law_731 : decode code 731 = .ok (.iaload, 1) := by decide +kernel
theorem dL_law_732 : decode code 732 = .ok (.aload_n 0, 1) := by decide +kernel
theorem dL_law_733 : decode code 733 = .ok (.iload 4, 2) := by decide +kernel
theorem dL_law_735 : decode code 735 = .ok (.iconst 4, 1) := by decide +kernel
theorem dL_law_736 : decode code 736 = .ok (.iadd, 1) := by decide +kernel
theorem dL_law_737 : decode code 737 = .ok (.iaload, 1) := by decide +kernel
theorem dL_law_738 : decode code 738 = .ok (.aload_n 0, 1) := by decide +kernel
theorem dL_law_739 : decode code 739 = .ok (.iload 4, 2) := by decide +kernel
theorem dL_law_741 : decode code 741 = .ok (.iconst 5, 1) := by decide +kernel
theorem dL_law_742 : decode code 742 = .ok (.iadd, 1) := by decide +kernel
theorem dL_law_743 : decode code 743 = .ok (.iaload, 1) := by decide +kernel
theorem dL_law_744 : decode code 744 = .ok (.invokevirtual 94, 3) := by decide +kernel
theorem dL_law_747 : decode code 747 = .ok (.lstore 6, 2) := by decide +kernel
theorem dL_law_749 : decode code 749 = .ok (.aload_n 2, 1) := by decide +kernel
theorem dL_law_750 : decode code 750 = .ok (.invokevirtual 53, 3) := by decide +kernel
theorem dL_law_753 : decode code 753 = .ok (.iload 5, 2) := by decide +kernel
theorem dL_law_755 : decode code 755 = .ok (.if_icmp .eq 5, 3) := by decide +kernel
theorem dL_law_758 : decode code 758 = .ok (.iconst 0, 1) := by decide +kernel
theorem dL_law_759 : decode code 759 = .ok (.ireturn, 1) := by decide +kernel
theorem dL_law_760 : decode code 760 = .ok (.iload 5, 2) := by decide +kernel
theorem dL_law_762 : decode code 762 = .ok (.ifCond .ne 14, 3) := by decide +kernel
theorem dL_law_765 : decode code 765 = .ok (.aload_n 3, 1) := by decide +kernel
theorem dL_law_766 : decode code 766 = .ok (.iconst 0, 1) := by decide +kernel
theorem dL_law_767 : decode code 767 = .ok (.laload, 1) := by decide +kernel
theorem dL_law_768 : decode code 768 = .ok (.lload 6, 2) := by decide +kernel
theorem dL_law_770 : decode code 770 = .ok (.lcmp, 1) := by decide +kernel
theorem dL_law_771 : decode code 771 = .ok (.ifCond .eq 5, 3) := by decide +kernel
theorem dL_law_774 : decode code 774 = .ok (.iconst 0, 1) := by decide +kernel
theorem dL_law_775 : decode code 775 = .ok (.ireturn, 1) := by decide +kernel
theorem dL_law_776 : decode code 776 = .ok (.goto 145, 3) := by decide +kernel
theorem dL_law_779 : decode code 779 = .ok (.aload_n 1, 1) := by decide +kernel
theorem dL_law_780 : decode code 780 = .ok (.aload_n 0, 1) := by decide +kernel
theorem dL_law_781 : decode code 781 = .ok (.iload 4, 2) := by decide +kernel
theorem dL_law_783 : decode code 783 = .ok (.iconst 1, 1) := by decide +kernel
theorem dL_law_784 : decode code 784 = .ok (.iadd, 1) := by decide +kernel
theorem dL_law_785 : decode code 785 = .ok (.iaload, 1) := by decide +kernel
theorem dL_law_786 : decode code 786 = .ok (.i2l, 1) := by decide +kernel
theorem dL_law_787 : decode code 787 = .ok (.bipush 32, 2) := by decide +kernel
theorem dL_law_789 : decode code 789 = .ok (.lshl, 1) := by decide +kernel
theorem dL_law_790 : decode code 790 = .ok (.aload_n 0, 1) := by decide +kernel
theorem dL_law_791 : decode code 791 = .ok (.iload 4, 2) := by decide +kernel
theorem dL_law_793 : decode code 793 = .ok (.iconst 2, 1) := by decide +kernel
theorem dL_law_794 : decode code 794 = .ok (.iadd, 1) := by decide +kernel
theorem dL_law_795 : decode code 795 = .ok (.iaload, 1) := by decide +kernel
theorem dL_law_796 : decode code 796 = .ok (.i2l, 1) := by decide +kernel
theorem dL_law_797 : decode code 797 = .ok (.ldc2_w 45, 3) := by decide +kernel
theorem dL_law_800 : decode code 800 = .ok (.land, 1) := by decide +kernel
theorem dL_law_801 : decode code 801 = .ok (.lor, 1) := by decide +kernel
theorem dL_law_802 : decode code 802 = .ok (.aload_n 0, 1) := by decide +kernel
theorem dL_law_803 : decode code 803 = .ok (.iload 4, 2) := by decide +kernel
theorem dL_law_805 : decode code 805 = .ok (.iconst 3, 1) := by decide +kernel
theorem dL_law_806 : decode code 806 = .ok (.iadd, 1) := by decide +kernel
theorem dL_law_807 : decode code 807 = .ok (.iaload, 1) := by decide +kernel
theorem dL_law_808 : decode code 808 = .ok (.aload_n 0, 1) := by decide +kernel
theorem dL_law_809 : decode code 809 = .ok (.iload 4, 2) := by decide +kernel
theorem dL_law_811 : decode code 811 = .ok (.iconst 4, 1) := by decide +kernel
theorem dL_law_812 : decode code 812 = .ok (.iadd, 1) := by decide +kernel
theorem dL_law_813 : decode code 813 = .ok (.iaload, 1) := by decide +kernel
theorem dL_law_814 : decode code 814 = .ok (.aload_n 0, 1) := by decide +kernel
theorem dL_law_815 : decode code 815 = .ok (.iload 4, 2) := by decide +kernel
theorem dL_law_817 : decode code 817 = .ok (.iconst 5, 1) := by decide +kernel
theorem dL_law_818 : decode code 818 = .ok (.iadd, 1) := by decide +kernel
theorem dL_law_819 : decode code 819 = .ok (.iaload, 1) := by decide +kernel
theorem dL_law_820 : decode code 820 = .ok (.aload_n 3, 1) := by decide +kernel
theorem dL_law_821 : decode code 821 = .ok (.invokestatic 95, 3) := by decide +kernel
theorem dL_law_824 : decode code 824 = .ok (.istore 5, 2) := by decide +kernel
theorem dL_law_826 : decode code 826 = .ok (.aload_n 2, 1) := by decide +kernel
theorem dL_law_827 : decode code 827 = .ok (.aload_n 0, 1) := by decide +kernel
theorem dL_law_828 : decode code 828 = .ok (.iload 4, 2) := by decide +kernel
theorem dL_law_830 : decode code 830 = .ok (.iconst 1, 1) := by decide +kernel
theorem dL_law_831 : decode code 831 = .ok (.iadd, 1) := by decide +kernel
theorem dL_law_832 : decode code 832 = .ok (.iaload, 1) := by decide +kernel
theorem dL_law_833 : decode code 833 = .ok (.i2l, 1) := by decide +kernel
theorem dL_law_834 : decode code 834 = .ok (.bipush 32, 2) := by decide +kernel
theorem dL_law_836 : decode code 836 = .ok (.lshl, 1) := by decide +kernel
theorem dL_law_837 : decode code 837 = .ok (.aload_n 0, 1) := by decide +kernel
theorem dL_law_838 : decode code 838 = .ok (.iload 4, 2) := by decide +kernel
theorem dL_law_840 : decode code 840 = .ok (.iconst 2, 1) := by decide +kernel
theorem dL_law_841 : decode code 841 = .ok (.iadd, 1) := by decide +kernel
theorem dL_law_842 : decode code 842 = .ok (.iaload, 1) := by decide +kernel
theorem dL_law_843 : decode code 843 = .ok (.i2l, 1) := by decide +kernel
theorem dL_law_844 : decode code 844 = .ok (.ldc2_w 45, 3) := by decide +kernel
theorem dL_law_847 : decode code 847 = .ok (.land, 1) := by decide +kernel
theorem dL_law_848 : decode code 848 = .ok (.lor, 1) := by decide +kernel
theorem dL_law_849 : decode code 849 = .ok (.aload_n 0, 1) := by decide +kernel
theorem dL_law_850 : decode code 850 = .ok (.iload 4, 2) := by decide +kernel
theorem dL_law_852 : decode code 852 = .ok (.iconst 3, 1) := by decide +kernel
theorem dL_law_853 : decode code 853 = .ok (.iadd, 1) := by decide +kernel
theorem dL_law_854 : decode code 854 = .ok (.iaload, 1) := by decide +kernel
theorem dL_law_855 : decode code 855 = .ok (.aload_n 0, 1) := by decide +kernel
theorem dL_law_856 : decode code 856 = .ok (.iload 4, 2) := by decide +kernel
theorem dL_law_858 : decode code 858 = .ok (.iconst 4, 1) := by decide +kernel
theorem dL_law_859 : decode code 859 = .ok (.iadd, 1) := by decide +kernel
theorem dL_law_860 : decode code 860 = .ok (.iaload, 1) := by decide +kernel
theorem dL_law_861 : decode code 861 = .ok (.aload_n 0, 1) := by decide +kernel
theorem dL_law_862 : decode code 862 = .ok (.iload 4, 2) := by decide +kernel
theorem dL_law_864 : decode code 864 = .ok (.iconst 5, 1) := by decide +kernel
theorem dL_law_865 : decode code 865 = .ok (.iadd, 1) := by decide +kernel
theorem dL_law_866 : decode code 866 = .ok (.iaload, 1) := by decide +kernel
theorem dL_law_867 : decode code 867 = .ok (.invokevirtual 97, 3) := by decide +kernel
theorem dL_law_870 : decode code 870 = .ok (.istore 6, 2) := by decide +kernel
theorem dL_law_872 : decode code 872 = .ok (.aload_n 2, 1) := by decide +kernel
theorem dL_law_873 : decode code 873 = .ok (.invokevirtual 53, 3) := by decide +kernel
theorem dL_law_876 : decode code 876 = .ok (.iload 5, 2) := by decide +kernel
theorem dL_law_878 : decode code 878 = .ok (.if_icmp .eq 5, 3) := by decide +kernel
theorem dL_law_881 : decode code 881 = .ok (.iconst 0, 1) := by decide +kernel
theorem dL_law_882 : decode code 882 = .ok (.ireturn, 1) := by decide +kernel
theorem dL_law_883 : decode code 883 = .ok (.iload 5, 2) := by decide +kernel
theorem dL_law_885 : decode code 885 = .ok (.ifCond .ne 22, 3) := by decide +kernel
theorem dL_law_888 : decode code 888 = .ok (.aload_n 3, 1) := by decide +kernel
theorem dL_law_889 : decode code 889 = .ok (.iconst 0, 1) := by decide +kernel
theorem dL_law_890 : decode code 890 = .ok (.laload, 1) := by decide +kernel
theorem dL_law_891 : decode code 891 = .ok (.iload 6, 2) := by decide +kernel
theorem dL_law_893 : decode code 893 = .ok (.ifCond .eq 7, 3) := by decide +kernel
theorem dL_law_896 : decode code 896 = .ok (.lconst 1, 1) := by decide +kernel
theorem dL_law_897 : decode code 897 = .ok (.goto 4, 3) := by decide +kernel
theorem dL_law_900 : decode code 900 = .ok (.lconst 0, 1) := by decide +kernel
theorem dL_law_901 : decode code 901 = .ok (.lcmp, 1) := by decide +kernel
theorem dL_law_902 : decode code 902 = .ok (.ifCond .eq 5, 3) := by decide +kernel
theorem dL_law_905 : decode code 905 = .ok (.iconst 0, 1) := by decide +kernel
theorem dL_law_906 : decode code 906 = .ok (.ireturn, 1) := by decide +kernel
theorem dL_law_907 : decode code 907 = .ok (.goto 14, 3) := by decide +kernel
theorem dL_law_910 : decode code 910 = .ok (.aload_n 1, 1) := by decide +kernel
theorem dL_law_911 : decode code 911 = .ok (.invokevirtual 98, 3) := by decide +kernel
theorem dL_law_914 : decode code 914 = .ok (.aload_n 2, 1) := by decide +kernel
theorem dL_law_915 : decode code 915 = .ok (.invokevirtual 101, 3) := by decide +kernel
theorem dL_law_918 : decode code 918 = .ok (.goto 3, 3) := by decide +kernel
theorem dL_law_921 : decode code 921 = .ok (.iinc 4 6, 3) := by decide +kernel
theorem dL_law_924 : decode code 924 = .ok (.goto (-901), 3) := by decide +kernel
theorem dL_law_927 : decode code 927 = .ok (.iconst 1, 1) := by decide +kernel
theorem dL_law_928 : decode code 928 = .ok (.ireturn, 1) := by decide +kernel
end
section
/-! The class's own functions, as numbers. -/
def b2i (b : Bool) : Int32 := if b = true then 1 else 0
theorem b2i_z (b : Bool) : (b2i b = 0) ↔ b = false := by cases b <;> decide
theorem b2i_t : b2i true = 1 := rfl
theorem b2i_f : b2i false = 0 := rfl
theorem nar_b2i (b : Bool) : narrow .boolean (.int (b2i b)) = .int (b2i b) := by cases b <;> rfl
theorem fit_b2i (b : Bool) : fits .boolean (.int (b2i b)) = true := by cases b <;> rfl
def k_ush (x : Int64) (y : Int32) : Int64 := (x.toUInt64 >>> (y.toInt64.toUInt64 &&& Int64.toUInt64 63)).toInt64
def k_shl (x : Int64) (y : Int32) : Int64 := x <<< (y.toInt64 &&& 63)
def k_shr (x : Int64) (y : Int32) : Int64 := x >>> (y.toInt64 &&& 63)
def k_isAccess (a : Int64) (ac md sz : Int32) : Bool :=
  (decide (ac = 0) || decide (ac = 1) || decide (ac = 2)) && (decide (md = 0) || decide (md = 1) || decide (md = 3)) &&
  (decide (sz = 1) || decide (sz = 2) || decide (sz = 4) || decide (sz = 8)) && !decide ((4096 : Int64) < (a &&& 4095) + Int32.toInt64 sz)
def k_isPhysical (a : Int64) : Bool := decide (k_ush a 56 = 0)
def k_sortOf (t : Int64) : Int32 := Int64.toInt32 (k_ush t 60)
def k_accessFault (ac : Int32) : Int64 := if ac = 0 then -1 else if ac = 1 then -5 else -7
def k_pageFault (ac : Int32) : Int64 := if ac = 0 then -12 else if ac = 1 then -13 else -15
def k_wordIndex (a : Int64) : Int32 :=
  if a - 2147483648 < 0 then -1 else if (65536 : Int64) ≤ a - 2147483648 then -1 else
  if (a - 2147483648) - (a - 2147483648) / 8 * 8 = 0 then Int64.toInt32 ((a - 2147483648) / 8) else -1
def k_shiftOf (d : Int32) : Int32 := 12 + 9 * d
def k_entryPlace (pg a : Int64) (d : Int32) : Int64 := pg * 4096 + (k_shr a (k_shiftOf d) &&& 511) * 8
def k_has (e b : Int64) : Bool := !decide (e &&& b = 0)
def k_pageNumber (e : Int64) : Int64 := k_ush e 10 &&& 17592186044415
def k_isLast (e : Int64) : Bool := k_has e 10
def k_isMalformed (e : Int64) : Bool := !k_has e 1 || (k_has e 4 && !k_has e 2) || !decide (k_ush e 54 = 0) || (!k_isLast e && k_has e 208)
def k_target (e a : Int64) (d : Int32) : Int64 := (k_pageNumber e * 4096) ||| (a &&& (k_shl 1 (k_shiftOf d) - 1))
def k_legalConfig (x : Int32) : Int32 := if (x &&& 159) &&& 1 = 0 then (x &&& 159) &&& (-3) else x &&& 159
def k_isLocked (c : Int32) : Bool := !decide (c &&& 128 = 0)
def k_kindOf (c : Int32) : Int32 := (c >>> ((3 : Int32) &&& 31)) &&& 3
def k_fixes (c : Int32) : Bool := k_isLocked c && decide (k_kindOf c = 1)
def k_permits (c ac md : Int32) : Bool :=
  if md = 3 ∧ k_isLocked c = false then true else !decide (c &&& (if ac = 0 then 4 else if ac = 1 then 1 else 2) = 0)
def k_startOf (c : Int32) (n b : Int64) : Int64 :=
  if k_kindOf c = 1 then 4 * b else if k_kindOf c = 2 then 4 * n else if k_kindOf c = 3 then 4 * (n &&& (n + 1)) else 0
def k_endOf (c : Int32) (n : Int64) : Int64 :=
  if k_kindOf c = 1 then 4 * n else if k_kindOf c = 2 then 4 * (n + 1) else if k_kindOf c = 3 then 4 * ((n ||| (n + 1)) + 1) else 0
/-- does the region (config c, number n, the number before b) cover one of the bytes first .. fin - 1 -/
def k_meets (c : Int32) (n b first fin : Int64) : Bool := !decide (k_endOf c n ≤ k_startOf c n b) && !decide (fin ≤ k_startOf c n b) && !decide (k_endOf c n ≤ first)
def k_holds (c : Int32) (n b first fin : Int64) (ac md : Int32) : Bool := !decide (first < k_startOf c n b) && !decide (k_endOf c n < fin) && k_permits c ac md
/-- from region i on, n regions more, b the number before -/
def k_letF (cf : Nat → Int32) (nu : Nat → Int64) (first fin : Int64) (ac md : Int32) : Nat → Nat → Int64 → Bool
  | 0, _, _ => decide (md = 3)
  | n + 1, i, b => if k_meets (cf i) (nu i) b first fin = true then k_holds (cf i) (nu i) b first fin ac md else k_letF cf nu first fin ac md n (i + 1) (nu i)
def k_let (cf : Nat → Int32) (nu : Nat → Int64) (first : Int64) (ac md sz : Int32) : Bool := k_letF cf nu first (first + Int32.toInt64 sz) ac md 8 0 0
def k_packF (cf : Nat → Int32) : Nat → Int64
  | 0 => 0
  | n + 1 => k_packF cf n ||| k_shl (Int32.toInt64 (cf n)) (8 * nI n)
def k_takeF (cf : Nat → Int32) (c : Int64) : Nat → (Nat → Int32)
  | 0 => cf
  | n + 1 => if k_isLocked (k_takeF cf c n n) = true then k_takeF cf c n else upd (k_takeF cf c n) n (k_legalConfig (Int64.toInt32 (k_ush c (8 * nI n))))
def k_isFixed (cf : Nat → Int32) (i : Nat) : Bool := decide (i + 1 < 8) && k_fixes (cf (i + 1))
def k_takeNumber (cf : Nat → Int32) (nu : Nat → Int64) (i : Nat) (v : Int64) : Nat → Int64 :=
  if k_isLocked (cf i) = true ∨ k_isFixed cf i = true then nu else vp_updL nu i (v &&& 18014398509481983)
def k_openMode (su : Bool) (e : Int64) (ac md : Int32) : Bool := if md = 0 then k_has e 16 else (!k_has e 16 || (su && !decide (ac = 0)))
def k_openAccess (mx : Bool) (e : Int64) (ac : Int32) : Bool := if ac = 0 then k_has e 8 else if ac = 2 then k_has e 4 else (k_has e 2 || (mx && k_has e 8))
def k_grants (su mx : Bool) (e : Int64) (ac md d : Int32) : Bool :=
  decide (k_pageNumber e &&& (k_shl 1 (9 * d) - 1) = 0) && k_openMode su e ac md && k_openAccess mx e ac
def k_marks (ac : Int32) : Int64 := if ac = 2 then 192 else 64
def k_mark (w : Nat → Int64) (cf : Nat → Int32) (nu : Nat → Int64) (pl en : Int64) (ac : Int32) : Bool × (Nat → Int64) :=
  if en &&& k_marks ac = k_marks ac then (true, w) else if k_let cf nu pl 2 1 8 = false then (false, w) else (true, vp_updL w (Int32.toNatClampNeg (k_wordIndex pl)) (en ||| k_marks ac))
def k_at (w : Nat → Int64) (pl : Int64) : Int64 := w (Int32.toNatClampNeg (k_wordIndex pl))
def k_last (w : Nat → Int64) (su mx : Bool) (cf : Nat → Int32) (nu : Nat → Int64) (a : Int64) (ac md : Int32) (n : Nat) (pl : Int64) : Int64 × (Nat → Int64) :=
  if k_grants su mx (k_at w pl) ac md (nI n) = false then (k_pageFault ac, w) else
  if (k_mark w cf nu pl (k_at w pl) ac).1 = true then (k_target (k_at w pl) a (nI n), (k_mark w cf nu pl (k_at w pl) ac).2) else (k_accessFault ac, (k_mark w cf nu pl (k_at w pl) ac).2)
def k_walkF (w : Nat → Int64) (su mx : Bool) (cf : Nat → Int32) (nu : Nat → Int64) (a : Int64) (ac md : Int32) : Nat → Int64 → Int64 × (Nat → Int64)
  | 0, _ => (k_pageFault ac, w)
  | n + 1, pg =>
    if k_wordIndex (k_entryPlace pg a (nI n)) = -1 ∨ k_let cf nu (k_entryPlace pg a (nI n)) 1 1 8 = false then (k_accessFault ac, w) else
    if k_isMalformed (k_at w (k_entryPlace pg a (nI n))) = true then (k_pageFault ac, w) else
    if k_isLast (k_at w (k_entryPlace pg a (nI n))) = true then k_last w su mx cf nu a ac md n (k_entryPlace pg a (nI n)) else
    k_walkF w su mx cf nu a ac md n (k_pageNumber (k_at w (k_entryPlace pg a (nI n))))
def k_above (a : Int64) (n : Int32) : Int64 := k_shr a (12 + 9 * n - 1)
def k_depths (t : Int64) : Nat := if k_sortOf t = 8 then 3 else 4
def k_translate (w : Nat → Int64) (t : Int64) (su mx : Bool) (cf : Nat → Int32) (nu : Nat → Int64) (a : Int64) (ac md : Int32) : Int64 × (Nat → Int64) :=
  if md = 3 ∨ k_sortOf t = 0 then (if k_isPhysical a = true then (a, w) else (k_accessFault ac, w)) else
  if k_above a (nI (k_depths t)) = 0 ∨ k_above a (nI (k_depths t)) = -1 then k_walkF w su mx cf nu a ac md (k_depths t) (t &&& 17592186044415) else (k_pageFault ac, w)
def k_find (w : Nat → Int64) (t : Int64) (su mx : Bool) (cf : Nat → Int32) (nu : Nat → Int64) (a : Int64) (ac md sz : Int32) : Int64 × (Nat → Int64) :=
  if ¬ 0 ≤ (k_translate w t su mx cf nu a ac md).1 then k_translate w t su mx cf nu a ac md else
  if k_let cf nu (k_translate w t su mx cf nu a ac md).1 ac md sz = true then k_translate w t su mx cf nu a ac md else (k_accessFault ac, (k_translate w t su mx cf nu a ac md).2)
end
section
/-! Worlds of the class, and small laws that the walks use. -/
abbrev wRG (cL cI : ClassId) (qr qc qn : Nat) (cf : Nat → Int32) (nu : Nat → Int64) : va_W := [(qr, .inr (0, [.ref qc, .ref qn])), (qc, .inl (cI, 8, .inl cf)), (qn, .inl (cL, 8, .inr (.inl nu)))]
abbrev wPW (cL cI : ClassId) (q0 qw qr qc qn : Nat) (w : Nat → Int64) (tb : Int64) (su mx : Bool) (cf : Nat → Int32) (nu : Nat → Int64) : va_W := [(q0, .inr (1, [.ref qw, .ref qr, .long tb, .int (b2i su), .int (b2i mx)])), (qw, .inl (cL, 8192, .inr (.inl w))), (qr, .inr (0, [.ref qc, .ref qn])), (qc, .inl (cI, 8, .inl cf)), (qn, .inl (cL, 8, .inr (.inl nu)))]
theorem rd_pre {s : State} {H : Heap} {D : va_G} {cl : List vw_C} {ws : va_W} {tys : List (ClassId × FieldType)} {q : vw_C} {b ci q0 : Nat} {fs As : List Value} (hK : va_K D cl tys s) (hP : va_P D cl ws H) (hc : cl[ci]? = some q) (he : ws[q0]? = some (b, .inr (ci, fs))) :
    PreV s H q.1 b (va_Pc (.ref b :: As) (fun U => va_P D cl ws U.heap ∧ va_K D cl tys U)) As :=
  ⟨fun a U g mk z => ⟨z.1, z.2.1, va_K.moved (u := U) (U := U.calling g mk a) (Vm.Alike.refl U.vm) z.2.2⟩, va_recv hK hP hc he, fun U hU hW => ⟨rfl, by rw [hU]; exact hP, va_K.moved hW.alike hK⟩⟩
theorem mu_pre {s : State} {H : Heap} {D : va_G} {cl : List vw_C} {ws : va_W} {tys : List (ClassId × FieldType)} {q : vw_C} {b ci q0 : Nat} {fs As : List Value} {A : Nat → Prop} (hK : va_K D cl tys s) (hP : va_P D cl ws H) (hD : va_D A ws) (hc : cl[ci]? = some q) (he : ws[q0]? = some (b, .inr (ci, fs))) :
    PreV s H q.1 b (va_Pc (.ref b :: As) (fun U => U.heap.size = H.size ∧ va_P D cl ws U.heap ∧ va_K D cl tys U ∧ va_D (fun _ => True) ws)) As :=
  ⟨fun a U g mk z => ⟨z.1, z.2.1, z.2.2.1, va_K.moved (u := U) (U := U.calling g mk a) (Vm.Alike.refl U.vm) z.2.2.2.1, z.2.2.2.2⟩, va_recv hK hP hc he, fun U hU hW => ⟨rfl, by rw [hU], by rw [hU]; exact hP, va_K.moved hW.alike hK, hD.weaken (fun _ _ _ _ => trivial)⟩⟩
theorem k8_eq {k : Nat} (hk : k ≤ 8) (c : (8 : Int32) ≤ nI k) : k = 8 := by
  have h : nI 8 ≤ nI k := c
  rw [nI_leI (by omega) (by omega)] at h
  omega
theorem k8_lt {k : Nat} (hk : k ≤ 8) (c : ¬ (8 : Int32) ≤ nI k) : k < 8 := by
  have h : ¬ nI 8 ≤ nI k := c
  rw [nI_leI (by omega) (by omega)] at h
  omega
theorem of8 {i : Int32} (h0 : ¬ i < 0) (h8 : i < 8) : ∃ j : Nat, j < 8 ∧ i = nI j := by
  obtain ⟨j, hj, rfl⟩ := nI_of h0
  have h : nI j < nI 8 := h8
  rw [nI_ltI hj (by omega)] at h
  exact ⟨j, h, rfl⟩
theorem in8 {i : Int32} (h0 : ¬ i < 0) (h8 : i < 8) : vp_in i 8 := by
  obtain ⟨j, hj, rfl⟩ := of8 h0 h8
  exact vp_in_nI hj (by omega)
theorem i8_cl {i : Int32} (h0 : ¬ i < 0) (h8 : i < 8) : Int32.toNatClampNeg (i + 1) = Int32.toNatClampNeg i + 1 := by
  obtain ⟨j, hj, rfl⟩ := of8 h0 h8
  rw [nI_1, nI_clamp (by omega), nI_clamp (by omega)]
theorem i8_no {i : Int32} (h0 : ¬ i < 0) (h8 : i < 8) (c : (8 : Int32) ≤ i + 1) : ¬ (Int32.toNatClampNeg i + 1 < 8) := by
  obtain ⟨j, hj, rfl⟩ := of8 h0 h8
  rw [nI_1] at c
  have h : nI 8 ≤ nI (j + 1) := c
  rw [nI_leI (by omega) (by omega)] at h
  rw [nI_clamp (by omega)]
  omega
theorem i8_yes {i : Int32} (h0 : ¬ i < 0) (h8 : i < 8) (c : ¬ (8 : Int32) ≤ i + 1) : Int32.toNatClampNeg i + 1 < 8 := by
  obtain ⟨j, hj, rfl⟩ := of8 h0 h8
  rw [nI_1] at c
  have h : ¬ nI 8 ≤ nI (j + 1) := c
  rw [nI_leI (by omega) (by omega)] at h
  rw [nI_clamp (by omega)]
  omega
theorem i8_in {i : Int32} (h0 : ¬ i < 0) (h8 : i < 8) (n1 : Int32.toNatClampNeg i + 1 < 8) : vp_in (i + 1) 8 := by
  obtain ⟨j, hj, rfl⟩ := of8 h0 h8
  rw [nI_clamp (by omega)] at n1
  rw [nI_1]
  exact vp_in_nI n1 (by omega)
theorem wi_nat {a : Int64} (h : ¬ k_wordIndex a = -1) : ∃ j : Nat, j < 8192 ∧ a - 2147483648 = lN (8 * j) ∧ k_wordIndex a = nI j := by
  unfold k_wordIndex at h ⊢
  generalize ho : a - 2147483648 = o at h ⊢
  by_cases h1 : o < 0
  · rw [if_pos h1] at h; exact absurd rfl h
  · rw [if_neg h1] at h ⊢
    by_cases h2 : (65536 : Int64) ≤ o
    · rw [if_pos h2] at h; exact absurd rfl h
    · rw [if_neg h2] at h ⊢
      by_cases h3 : o - o / 8 * 8 = 0
      · rw [if_pos h3] at h ⊢
        obtain ⟨k, hk, rfl⟩ := pk_lOf h1
        have h2' : ¬ lN 65536 ≤ lN k := h2
        rw [pk_lLE (by omega) hk] at h2'
        have h3' : lN k - lN k / lN 8 * lN 8 = lN 0 := h3
        rw [pk_lRem hk (by omega) (by omega), pk_lEQ (by omega) (by omega)] at h3'
        refine ⟨k / 8, by omega, by rw [show 8 * (k / 8) = k by omega], ?_⟩
        show Int64.toInt32 (lN k / lN 8) = _
        rw [pk_lDiv hk (by omega) (by omega), lN_i]
      · rw [if_neg h3] at h; exact absurd rfl h
theorem wi_in {a : Int64} (h : ¬ k_wordIndex a = -1) : vp_in (k_wordIndex a) 8192 := by
  obtain ⟨j, hj, -, e⟩ := wi_nat h
  rw [e]
  exact vp_in_nI hj (by omega)
end
section
set_option maxHeartbeats 4000000 in
set_option maxRecDepth 100000 in
theorem mtX0_legalConfig (l : Launch) (cg : Int32) : Met l yX0_legalConfig wsX0_legalConfig ({ frames := 0, cells := 0, slots := 0, locals := 0 }) (fun v _ => v = ([.int cg] : List Value).toArray) (vp_Si (fun r => r = k_legalConfig cg)) 0 0 (fun _ => False) := by
  refine Met.ofW (cc := cX0_legalConfig) (maxL := 2) (ret := (some .int)) (by decide) rfl ?_
  intro p e s m args below meth c s₁ B hml hv
  have hv : args = ([.int cg] : List Value).toArray := hv
  subst hv
  have hx := B.exec
  have hb := B.bytes
  have hr := B.returns
  have hts := atoms_spec (ws := wsX0_legalConfig) B.pre
  have hown : s.vm.findClass RX0 = some m.cls := findClass_of_methodNamed B.named
  have hlocks := B.notSynchronized
  have hl := lv_entry ([.int cg]) (n := 2) (Nat.le_of_ble_eq_true rfl)
  rw [lg_entry_eq]
  generalize (lg_sl ([.int cg]) ++ List.replicate (2 - (lg_sl ([.int cg])).length) Slot.unset).toArray = ls at hl ⊢
  have hl : lv_has ls 2 [(0, .int cg)] := hl
  refine lv_iload_n hx hb dX0_legalConfig_0 rfl (lv_at hl 0 rfl) ?_
  refine lv_sipush (v := 159) hx hb dX0_legalConfig_1 (by decide) ?_
  refine lv_iand hx hb dX0_legalConfig_4 ?_
  refine lv_istore_n (lv' := [(1, .int (cg &&& 159)), (0, .int cg)]) hx hb dX0_legalConfig_5 rfl hl (by decide) rfl (fun ls hl => ?_)
  refine lv_iload_n hx hb dX0_legalConfig_6 rfl (lv_at hl 0 rfl) ?_
  refine lv_iconst (v := 1) hx hb dX0_legalConfig_7 (by decide) ?_
  refine lv_iand hx hb dX0_legalConfig_8 ?_
  refine lv_if_ne (tgt := 19) hx hb dX0_legalConfig_9 (by decide) (fun c_1 => ?_) (fun c_1 => ?_)
  · refine lv_iload_n hx hb dX0_legalConfig_19 rfl (lv_at hl 0 rfl) ?_
    exact W.iret (v := (cg &&& 159)) hx hb hr (fun t ht hW => ⟨(cg &&& 159), rfl, (by first | rfl | (simp only [k_legalConfig, c_1, b2i, decide_true, decide_false, Bool.not_true, Bool.not_false, Bool.and_true, Bool.and_false, Bool.true_and, Bool.false_and, Bool.or_true, Bool.or_false, Bool.true_or, Bool.false_or, reduceIte, or_true, true_or, or_false, false_or, and_true, true_and, and_false, false_and, not_true_eq_false, not_false_eq_true, Bool.false_eq_true, eq_self]; done) | (simp [k_legalConfig, c_1]; done)), ht⟩) (fun _ h => nomatch h) dX0_legalConfig_20
  · refine lv_iload_n hx hb dX0_legalConfig_12 rfl (lv_at hl 0 rfl) ?_
    refine lv_bipush (v := (-3)) hx hb dX0_legalConfig_13 (by decide) ?_
    refine lv_iand hx hb dX0_legalConfig_15 ?_
    refine lv_goto (tgt := 20) hx hb dX0_legalConfig_16 (by decide) ?_
    exact W.iret (v := ((cg &&& 159) &&& (-3))) hx hb hr (fun t ht hW => ⟨((cg &&& 159) &&& (-3)), rfl, (by first | rfl | (simp only [k_legalConfig, c_1, b2i, decide_true, decide_false, Bool.not_true, Bool.not_false, Bool.and_true, Bool.and_false, Bool.true_and, Bool.false_and, Bool.or_true, Bool.or_false, Bool.true_or, Bool.false_or, reduceIte, or_true, true_or, or_false, false_or, and_true, true_and, and_false, false_and, not_true_eq_false, not_false_eq_true, Bool.false_eq_true, eq_self]; done) | (simp [k_legalConfig, c_1]; done)), ht⟩) (fun _ h => nomatch h) dX0_legalConfig_20
set_option maxHeartbeats 4000000 in
set_option maxRecDepth 100000 in
theorem mtX0_isLocked (l : Launch) (cg : Int32) : Met l yX0_isLocked wsX0_isLocked ({ frames := 0, cells := 0, slots := 0, locals := 0 }) (fun v _ => v = ([.int cg] : List Value).toArray) (vp_Si (fun r => r = b2i (k_isLocked cg))) 0 0 (fun _ => False) := by
  refine Met.ofW (cc := cX0_isLocked) (maxL := 1) (ret := (some .boolean)) (by decide) rfl ?_
  intro p e s m args below meth c s₁ B hml hv
  have hv : args = ([.int cg] : List Value).toArray := hv
  subst hv
  have hx := B.exec
  have hb := B.bytes
  have hr := B.returns
  have hts := atoms_spec (ws := wsX0_isLocked) B.pre
  have hown : s.vm.findClass RX0 = some m.cls := findClass_of_methodNamed B.named
  have hlocks := B.notSynchronized
  have hl := lv_entry ([.int cg]) (n := 1) (Nat.le_of_ble_eq_true rfl)
  rw [lg_entry_eq]
  generalize (lg_sl ([.int cg]) ++ List.replicate (1 - (lg_sl ([.int cg])).length) Slot.unset).toArray = ls at hl ⊢
  have hl : lv_has ls 1 [(0, .int cg)] := hl
  refine lv_iload_n hx hb dX0_isLocked_0 rfl (lv_at hl 0 rfl) ?_
  refine lv_sipush (v := 128) hx hb dX0_isLocked_1 (by decide) ?_
  refine lv_iand hx hb dX0_isLocked_4 ?_
  refine lv_if_eq (tgt := 12) hx hb dX0_isLocked_5 (by decide) (fun c_1 => ?_) (fun c_1 => ?_)
  · refine lv_iconst (v := 0) hx hb dX0_isLocked_12 (by decide) ?_
    exact W.zret (v := 0) hx hb hr rfl (fun t ht hW => ⟨0, rfl, (by first | rfl | (simp only [k_isLocked, b2i, c_1, b2i, decide_true, decide_false, Bool.not_true, Bool.not_false, Bool.and_true, Bool.and_false, Bool.true_and, Bool.false_and, Bool.or_true, Bool.or_false, Bool.true_or, Bool.false_or, reduceIte, or_true, true_or, or_false, false_or, and_true, true_and, and_false, false_and, not_true_eq_false, not_false_eq_true, Bool.false_eq_true, eq_self]; done) | (simp [k_isLocked, b2i, c_1]; done)), ht⟩) (fun _ h => nomatch h) dX0_isLocked_13
  · refine lv_iconst (v := 1) hx hb dX0_isLocked_8 (by decide) ?_
    refine lv_goto (tgt := 13) hx hb dX0_isLocked_9 (by decide) ?_
    exact W.zret (v := 1) hx hb hr rfl (fun t ht hW => ⟨1, rfl, (by first | rfl | (simp only [k_isLocked, b2i, c_1, b2i, decide_true, decide_false, Bool.not_true, Bool.not_false, Bool.and_true, Bool.and_false, Bool.true_and, Bool.false_and, Bool.or_true, Bool.or_false, Bool.true_or, Bool.false_or, reduceIte, or_true, true_or, or_false, false_or, and_true, true_and, and_false, false_and, not_true_eq_false, not_false_eq_true, Bool.false_eq_true, eq_self]; done) | (simp [k_isLocked, b2i, c_1]; done)), ht⟩) (fun _ h => nomatch h) dX0_isLocked_13
set_option maxHeartbeats 4000000 in
set_option maxRecDepth 100000 in
theorem mtX0_kindOf (l : Launch) (cg : Int32) : Met l yX0_kindOf wsX0_kindOf ({ frames := 0, cells := 0, slots := 0, locals := 0 }) (fun v _ => v = ([.int cg] : List Value).toArray) (vp_Si (fun r => r = k_kindOf cg)) 0 0 (fun _ => False) := by
  refine Met.ofW (cc := cX0_kindOf) (maxL := 1) (ret := (some .int)) (by decide) rfl ?_
  intro p e s m args below meth c s₁ B hml hv
  have hv : args = ([.int cg] : List Value).toArray := hv
  subst hv
  have hx := B.exec
  have hb := B.bytes
  have hr := B.returns
  have hts := atoms_spec (ws := wsX0_kindOf) B.pre
  have hown : s.vm.findClass RX0 = some m.cls := findClass_of_methodNamed B.named
  have hlocks := B.notSynchronized
  have hl := lv_entry ([.int cg]) (n := 1) (Nat.le_of_ble_eq_true rfl)
  rw [lg_entry_eq]
  generalize (lg_sl ([.int cg]) ++ List.replicate (1 - (lg_sl ([.int cg])).length) Slot.unset).toArray = ls at hl ⊢
  have hl : lv_has ls 1 [(0, .int cg)] := hl
  refine lv_iload_n hx hb dX0_kindOf_0 rfl (lv_at hl 0 rfl) ?_
  refine lv_iconst (v := 3) hx hb dX0_kindOf_1 (by decide) ?_
  refine lv_ishr hx hb dX0_kindOf_2 ?_
  refine lv_iconst (v := 3) hx hb dX0_kindOf_3 (by decide) ?_
  refine lv_iand hx hb dX0_kindOf_4 ?_
  exact W.iret (v := ((cg >>> (3 &&& 31)) &&& 3)) hx hb hr (fun t ht hW => ⟨((cg >>> (3 &&& 31)) &&& 3), rfl, (by first | rfl | (simp only [k_kindOf, b2i, decide_true, decide_false, Bool.not_true, Bool.not_false, Bool.and_true, Bool.and_false, Bool.true_and, Bool.false_and, Bool.or_true, Bool.or_false, Bool.true_or, Bool.false_or, reduceIte, or_true, true_or, or_false, false_or, and_true, true_and, and_false, false_and, not_true_eq_false, not_false_eq_true, Bool.false_eq_true, eq_self]; done) | (simp [k_kindOf]; done)), ht⟩) (fun _ h => nomatch h) dX0_kindOf_5
set_option maxHeartbeats 4000000 in
set_option maxRecDepth 100000 in
theorem mtX0_fixesNumberBefore (l : Launch) (cg : Int32) : Met l yX0_fixesNumberBefore wsX0_fixesNumberBefore ({ frames := 1, cells := 0, slots := 0, locals := 20 }) (fun v _ => v = ([.int cg] : List Value).toArray) (vp_Si (fun r => r = b2i (k_fixes cg))) 0 0 (fun _ => False) := by
  refine Met.ofW (cc := cX0_fixesNumberBefore) (maxL := 1) (ret := (some .boolean)) (by decide) rfl ?_
  intro p e s m args below meth c s₁ B hml hv
  have hv : args = ([.int cg] : List Value).toArray := hv
  subst hv
  have hx := B.exec
  have hb := B.bytes
  have hr := B.returns
  have hts := atoms_spec (ws := wsX0_fixesNumberBefore) B.pre
  have hown : s.vm.findClass RX0 = some m.cls := findClass_of_methodNamed B.named
  have hlocks := B.notSynchronized
  have hl := lv_entry ([.int cg]) (n := 1) (Nat.le_of_ble_eq_true rfl)
  rw [lg_entry_eq]
  generalize (lg_sl ([.int cg]) ++ List.replicate (1 - (lg_sl ([.int cg])).length) Slot.unset).toArray = ls at hl ⊢
  have hl : lv_has ls 1 [(0, .int cg)] := hl
  refine lv_iload_n hx hb dX0_fixesNumberBefore_0 rfl (lv_at hl 0 rfl) ?_
  refine vp_callSi (W.runS (As := [.int cg]) (rest := []) ⟨hx, hb, hml, hown, hts⟩ (mtX0_isLocked l cg) (va_cwS 1 hts (gAll (mc1 (wa 86 (by decide +kernel) rfl) (mc1 (wa 87 (by decide +kernel) rfl) (mc1 (wa 16 (by decide +kernel) rfl) mc0))) (wa 88 (by decide +kernel) rfl) (by decide +kernel)) rfl rfl rfl (by decide +kernel) ⟨Nat.le_of_ble_eq_true rfl, Nat.le_of_ble_eq_true rfl⟩) preEq rfl rfl hl.1 rfl (lv_room (Nat.le_of_ble_eq_true rfl)) dX0_fixesNumberBefore_1 ⟨Nat.le_of_ble_eq_true rfl, Nat.le_of_ble_eq_true rfl⟩) (fun r_1 er_1 => ?_)
  have er_1 : r_1 = (b2i (k_isLocked cg)) := er_1
  subst er_1
  refine lv_if_eq (tgt := 19) hx hb dX0_fixesNumberBefore_4 (by decide) (fun c_2 => ?_) (fun c_2 => ?_)
  · rw [b2i_z] at c_2
    refine lv_iconst (v := 0) hx hb dX0_fixesNumberBefore_19 (by decide) ?_
    exact W.zret (v := 0) hx hb hr rfl (fun t ht hW => ⟨0, rfl, (by first | rfl | (simp only [k_fixes, b2i, c_2, b2i, decide_true, decide_false, Bool.not_true, Bool.not_false, Bool.and_true, Bool.and_false, Bool.true_and, Bool.false_and, Bool.or_true, Bool.or_false, Bool.true_or, Bool.false_or, reduceIte, or_true, true_or, or_false, false_or, and_true, true_and, and_false, false_and, not_true_eq_false, not_false_eq_true, Bool.false_eq_true, eq_self]; done) | (simp [k_fixes, b2i, c_2]; done)), ht⟩) (fun _ h => nomatch h) dX0_fixesNumberBefore_20
  · rw [b2i_z] at c_2
    rw [Bool.not_eq_false] at c_2
    refine lv_iload_n hx hb dX0_fixesNumberBefore_7 rfl (lv_at hl 0 rfl) ?_
    refine vp_callSi (W.runS (As := [.int cg]) (rest := []) ⟨hx, hb, hml, hown, hts⟩ (mtX0_kindOf l cg) (va_cwS 1 hts (gAll (mc1 (wa 239 (by decide +kernel) rfl) (mc1 (wa 240 (by decide +kernel) rfl) (mc1 (wa 16 (by decide +kernel) rfl) mc0))) (wa 241 (by decide +kernel) rfl) (by decide +kernel)) rfl rfl rfl (by decide +kernel) ⟨Nat.le_of_ble_eq_true rfl, Nat.le_of_ble_eq_true rfl⟩) preEq rfl rfl hl.1 rfl (lv_room (Nat.le_of_ble_eq_true rfl)) dX0_fixesNumberBefore_8 ⟨Nat.le_of_ble_eq_true rfl, Nat.le_of_ble_eq_true rfl⟩) (fun r_3 er_3 => ?_)
    have er_3 : r_3 = (k_kindOf cg) := er_3
    subst er_3
    refine lv_iconst (v := 1) hx hb dX0_fixesNumberBefore_11 (by decide) ?_
    refine lv_icmp_ne (tgt := 19) hx hb dX0_fixesNumberBefore_12 (by decide) (fun c_4 => ?_) (fun c_4 => ?_)
    · refine lv_iconst (v := 0) hx hb dX0_fixesNumberBefore_19 (by decide) ?_
      exact W.zret (v := 0) hx hb hr rfl (fun t ht hW => ⟨0, rfl, (by first | rfl | (simp only [k_fixes, b2i, c_2, c_4, b2i, decide_true, decide_false, Bool.not_true, Bool.not_false, Bool.and_true, Bool.and_false, Bool.true_and, Bool.false_and, Bool.or_true, Bool.or_false, Bool.true_or, Bool.false_or, reduceIte, or_true, true_or, or_false, false_or, and_true, true_and, and_false, false_and, not_true_eq_false, not_false_eq_true, Bool.false_eq_true, eq_self]; done) | (simp [k_fixes, b2i, c_2, c_4]; done)), ht⟩) (fun _ h => nomatch h) dX0_fixesNumberBefore_20
    · refine lv_iconst (v := 1) hx hb dX0_fixesNumberBefore_15 (by decide) ?_
      refine lv_goto (tgt := 20) hx hb dX0_fixesNumberBefore_16 (by decide) ?_
      exact W.zret (v := 1) hx hb hr rfl (fun t ht hW => ⟨1, rfl, (by first | rfl | (simp only [k_fixes, b2i, c_2, c_4, b2i, decide_true, decide_false, Bool.not_true, Bool.not_false, Bool.and_true, Bool.and_false, Bool.true_and, Bool.false_and, Bool.or_true, Bool.or_false, Bool.true_or, Bool.false_or, reduceIte, or_true, true_or, or_false, false_or, and_true, true_and, and_false, false_and, not_true_eq_false, not_false_eq_true, Bool.false_eq_true, eq_self]; done) | (simp [k_fixes, b2i, c_2, c_4]; done)), ht⟩) (fun _ h => nomatch h) dX0_fixesNumberBefore_20
set_option maxHeartbeats 4000000 in
set_option maxRecDepth 100000 in
theorem mtX0_permits (l : Launch) (cg : Int32) (ac : Int32) (md : Int32) : Met l yX0_permits wsX0_permits ({ frames := 1, cells := 0, slots := 0, locals := 20 }) (fun v _ => v = ([.int cg, .int ac, .int md] : List Value).toArray) (vp_Si (fun r => r = b2i (k_permits cg ac md))) 0 0 (fun _ => False) := by
  refine Met.ofW (cc := cX0_permits) (maxL := 4) (ret := (some .boolean)) (by decide) rfl ?_
  intro p e s m args below meth c s₁ B hml hv
  have hv : args = ([.int cg, .int ac, .int md] : List Value).toArray := hv
  subst hv
  have hx := B.exec
  have hb := B.bytes
  have hr := B.returns
  have hts := atoms_spec (ws := wsX0_permits) B.pre
  have hown : s.vm.findClass RX0 = some m.cls := findClass_of_methodNamed B.named
  have hlocks := B.notSynchronized
  have hl := lv_entry ([.int cg, .int ac, .int md]) (n := 4) (Nat.le_of_ble_eq_true rfl)
  rw [lg_entry_eq]
  generalize (lg_sl ([.int cg, .int ac, .int md]) ++ List.replicate (4 - (lg_sl ([.int cg, .int ac, .int md])).length) Slot.unset).toArray = ls at hl ⊢
  have hl : lv_has ls 4 [(0, .int cg), (1, .int ac), (2, .int md)] := hl
  refine lv_iload_n hx hb dX0_permits_0 rfl (lv_at hl 2 rfl) ?_
  refine lv_iconst (v := 3) hx hb dX0_permits_1 (by decide) ?_
  refine lv_icmp_ne (tgt := 14) hx hb dX0_permits_2 (by decide) (fun c_1 => ?_) (fun c_1 => ?_)
  · refine lv_iload_n hx hb dX0_permits_14 rfl (lv_at hl 1 rfl) ?_
    refine lv_if_ne (tgt := 22) hx hb dX0_permits_15 (by decide) (fun c_2 => ?_) (fun c_2 => ?_)
    · refine lv_iload_n hx hb dX0_permits_22 rfl (lv_at hl 1 rfl) ?_
      refine lv_iconst (v := 1) hx hb dX0_permits_23 (by decide) ?_
      refine lv_icmp_ne (tgt := 31) hx hb dX0_permits_24 (by decide) (fun c_3 => ?_) (fun c_3 => ?_)
      · refine lv_iconst (v := 2) hx hb dX0_permits_31 (by decide) ?_
        refine lv_istore_n (lv' := [(3, .int 2), (0, .int cg), (1, .int ac), (2, .int md)]) hx hb dX0_permits_32 rfl hl (by decide) rfl (fun ls hl => ?_)
        refine lv_iload_n hx hb dX0_permits_33 rfl (lv_at hl 1 rfl) ?_
        refine lv_iload_n hx hb dX0_permits_34 rfl (lv_at hl 0 rfl) ?_
        refine lv_iand hx hb dX0_permits_35 ?_
        refine lv_if_eq (tgt := 43) hx hb dX0_permits_36 (by decide) (fun c_4 => ?_) (fun c_4 => ?_)
        · refine lv_iconst (v := 0) hx hb dX0_permits_43 (by decide) ?_
          exact W.zret (v := 0) hx hb hr rfl (fun t ht hW => ⟨0, rfl, (by first | rfl | (simp only [k_permits, b2i, c_1, c_2, c_3, c_4, b2i, decide_true, decide_false, Bool.not_true, Bool.not_false, Bool.and_true, Bool.and_false, Bool.true_and, Bool.false_and, Bool.or_true, Bool.or_false, Bool.true_or, Bool.false_or, reduceIte, or_true, true_or, or_false, false_or, and_true, true_and, and_false, false_and, not_true_eq_false, not_false_eq_true, Bool.false_eq_true, eq_self]; done) | (simp [k_permits, b2i, c_1, c_2, c_3, c_4]; done)), ht⟩) (fun _ h => nomatch h) dX0_permits_44
        · refine lv_iconst (v := 1) hx hb dX0_permits_39 (by decide) ?_
          refine lv_goto (tgt := 44) hx hb dX0_permits_40 (by decide) ?_
          exact W.zret (v := 1) hx hb hr rfl (fun t ht hW => ⟨1, rfl, (by first | rfl | (simp only [k_permits, b2i, c_1, c_2, c_3, c_4, b2i, decide_true, decide_false, Bool.not_true, Bool.not_false, Bool.and_true, Bool.and_false, Bool.true_and, Bool.false_and, Bool.or_true, Bool.or_false, Bool.true_or, Bool.false_or, reduceIte, or_true, true_or, or_false, false_or, and_true, true_and, and_false, false_and, not_true_eq_false, not_false_eq_true, Bool.false_eq_true, eq_self]; done) | (simp [k_permits, b2i, c_1, c_2, c_3, c_4]; done)), ht⟩) (fun _ h => nomatch h) dX0_permits_44
      · refine lv_iconst (v := 1) hx hb dX0_permits_27 (by decide) ?_
        refine lv_goto (tgt := 32) hx hb dX0_permits_28 (by decide) ?_
        refine lv_istore_n (lv' := [(3, .int 1), (0, .int cg), (1, .int ac), (2, .int md)]) hx hb dX0_permits_32 rfl hl (by decide) rfl (fun ls hl => ?_)
        refine lv_iload_n hx hb dX0_permits_33 rfl (lv_at hl 1 rfl) ?_
        refine lv_iload_n hx hb dX0_permits_34 rfl (lv_at hl 0 rfl) ?_
        refine lv_iand hx hb dX0_permits_35 ?_
        refine lv_if_eq (tgt := 43) hx hb dX0_permits_36 (by decide) (fun c_5 => ?_) (fun c_5 => ?_)
        · refine lv_iconst (v := 0) hx hb dX0_permits_43 (by decide) ?_
          exact W.zret (v := 0) hx hb hr rfl (fun t ht hW => ⟨0, rfl, (by first | rfl | (simp only [k_permits, b2i, c_1, c_2, c_3, c_5, b2i, decide_true, decide_false, Bool.not_true, Bool.not_false, Bool.and_true, Bool.and_false, Bool.true_and, Bool.false_and, Bool.or_true, Bool.or_false, Bool.true_or, Bool.false_or, reduceIte, or_true, true_or, or_false, false_or, and_true, true_and, and_false, false_and, not_true_eq_false, not_false_eq_true, Bool.false_eq_true, eq_self]; done) | (simp [k_permits, b2i, c_1, c_2, c_3, c_5]; done)), ht⟩) (fun _ h => nomatch h) dX0_permits_44
        · refine lv_iconst (v := 1) hx hb dX0_permits_39 (by decide) ?_
          refine lv_goto (tgt := 44) hx hb dX0_permits_40 (by decide) ?_
          exact W.zret (v := 1) hx hb hr rfl (fun t ht hW => ⟨1, rfl, (by first | rfl | (simp only [k_permits, b2i, c_1, c_2, c_3, c_5, b2i, decide_true, decide_false, Bool.not_true, Bool.not_false, Bool.and_true, Bool.and_false, Bool.true_and, Bool.false_and, Bool.or_true, Bool.or_false, Bool.true_or, Bool.false_or, reduceIte, or_true, true_or, or_false, false_or, and_true, true_and, and_false, false_and, not_true_eq_false, not_false_eq_true, Bool.false_eq_true, eq_self]; done) | (simp [k_permits, b2i, c_1, c_2, c_3, c_5]; done)), ht⟩) (fun _ h => nomatch h) dX0_permits_44
    · refine lv_iconst (v := 4) hx hb dX0_permits_18 (by decide) ?_
      refine lv_goto (tgt := 32) hx hb dX0_permits_19 (by decide) ?_
      refine lv_istore_n (lv' := [(3, .int 4), (0, .int cg), (1, .int ac), (2, .int md)]) hx hb dX0_permits_32 rfl hl (by decide) rfl (fun ls hl => ?_)
      refine lv_iload_n hx hb dX0_permits_33 rfl (lv_at hl 1 rfl) ?_
      refine lv_iload_n hx hb dX0_permits_34 rfl (lv_at hl 0 rfl) ?_
      refine lv_iand hx hb dX0_permits_35 ?_
      refine lv_if_eq (tgt := 43) hx hb dX0_permits_36 (by decide) (fun c_6 => ?_) (fun c_6 => ?_)
      · refine lv_iconst (v := 0) hx hb dX0_permits_43 (by decide) ?_
        exact W.zret (v := 0) hx hb hr rfl (fun t ht hW => ⟨0, rfl, (by first | rfl | (simp only [k_permits, b2i, c_1, c_2, c_6, b2i, decide_true, decide_false, Bool.not_true, Bool.not_false, Bool.and_true, Bool.and_false, Bool.true_and, Bool.false_and, Bool.or_true, Bool.or_false, Bool.true_or, Bool.false_or, reduceIte, or_true, true_or, or_false, false_or, and_true, true_and, and_false, false_and, not_true_eq_false, not_false_eq_true, Bool.false_eq_true, eq_self]; done) | (simp [k_permits, b2i, c_1, c_2, c_6]; done)), ht⟩) (fun _ h => nomatch h) dX0_permits_44
      · refine lv_iconst (v := 1) hx hb dX0_permits_39 (by decide) ?_
        refine lv_goto (tgt := 44) hx hb dX0_permits_40 (by decide) ?_
        exact W.zret (v := 1) hx hb hr rfl (fun t ht hW => ⟨1, rfl, (by first | rfl | (simp only [k_permits, b2i, c_1, c_2, c_6, b2i, decide_true, decide_false, Bool.not_true, Bool.not_false, Bool.and_true, Bool.and_false, Bool.true_and, Bool.false_and, Bool.or_true, Bool.or_false, Bool.true_or, Bool.false_or, reduceIte, or_true, true_or, or_false, false_or, and_true, true_and, and_false, false_and, not_true_eq_false, not_false_eq_true, Bool.false_eq_true, eq_self]; done) | (simp [k_permits, b2i, c_1, c_2, c_6]; done)), ht⟩) (fun _ h => nomatch h) dX0_permits_44
  · refine lv_iload_n hx hb dX0_permits_5 rfl (lv_at hl 0 rfl) ?_
    refine vp_callSi (W.runS (As := [.int cg]) (rest := []) ⟨hx, hb, hml, hown, hts⟩ (mtX0_isLocked l cg) (va_cwS 1 hts (gAll (mc1 (wa 86 (by decide +kernel) rfl) (mc1 (wa 87 (by decide +kernel) rfl) (mc1 (wa 16 (by decide +kernel) rfl) mc0))) (wa 88 (by decide +kernel) rfl) (by decide +kernel)) rfl rfl rfl (by decide +kernel) ⟨Nat.le_of_ble_eq_true rfl, Nat.le_of_ble_eq_true rfl⟩) preEq rfl rfl hl.1 rfl (lv_room (Nat.le_of_ble_eq_true rfl)) dX0_permits_6 ⟨Nat.le_of_ble_eq_true rfl, Nat.le_of_ble_eq_true rfl⟩) (fun r_7 er_7 => ?_)
    have er_7 : r_7 = (b2i (k_isLocked cg)) := er_7
    subst er_7
    refine lv_if_ne (tgt := 14) hx hb dX0_permits_9 (by decide) (fun c_8 => ?_) (fun c_8 => ?_)
    · rw [b2i_z] at c_8
      rw [Bool.not_eq_false] at c_8
      refine lv_iload_n hx hb dX0_permits_14 rfl (lv_at hl 1 rfl) ?_
      refine lv_if_ne (tgt := 22) hx hb dX0_permits_15 (by decide) (fun c_9 => ?_) (fun c_9 => ?_)
      · refine lv_iload_n hx hb dX0_permits_22 rfl (lv_at hl 1 rfl) ?_
        refine lv_iconst (v := 1) hx hb dX0_permits_23 (by decide) ?_
        refine lv_icmp_ne (tgt := 31) hx hb dX0_permits_24 (by decide) (fun c_10 => ?_) (fun c_10 => ?_)
        · refine lv_iconst (v := 2) hx hb dX0_permits_31 (by decide) ?_
          refine lv_istore_n (lv' := [(3, .int 2), (0, .int cg), (1, .int ac), (2, .int md)]) hx hb dX0_permits_32 rfl hl (by decide) rfl (fun ls hl => ?_)
          refine lv_iload_n hx hb dX0_permits_33 rfl (lv_at hl 1 rfl) ?_
          refine lv_iload_n hx hb dX0_permits_34 rfl (lv_at hl 0 rfl) ?_
          refine lv_iand hx hb dX0_permits_35 ?_
          refine lv_if_eq (tgt := 43) hx hb dX0_permits_36 (by decide) (fun c_11 => ?_) (fun c_11 => ?_)
          · refine lv_iconst (v := 0) hx hb dX0_permits_43 (by decide) ?_
            exact W.zret (v := 0) hx hb hr rfl (fun t ht hW => ⟨0, rfl, (by first | rfl | (simp only [k_permits, b2i, c_1, c_8, c_9, c_10, c_11, b2i, decide_true, decide_false, Bool.not_true, Bool.not_false, Bool.and_true, Bool.and_false, Bool.true_and, Bool.false_and, Bool.or_true, Bool.or_false, Bool.true_or, Bool.false_or, reduceIte, or_true, true_or, or_false, false_or, and_true, true_and, and_false, false_and, not_true_eq_false, not_false_eq_true, Bool.false_eq_true, eq_self]; done) | (simp [k_permits, b2i, c_1, c_8, c_9, c_10, c_11]; done)), ht⟩) (fun _ h => nomatch h) dX0_permits_44
          · refine lv_iconst (v := 1) hx hb dX0_permits_39 (by decide) ?_
            refine lv_goto (tgt := 44) hx hb dX0_permits_40 (by decide) ?_
            exact W.zret (v := 1) hx hb hr rfl (fun t ht hW => ⟨1, rfl, (by first | rfl | (simp only [k_permits, b2i, c_1, c_8, c_9, c_10, c_11, b2i, decide_true, decide_false, Bool.not_true, Bool.not_false, Bool.and_true, Bool.and_false, Bool.true_and, Bool.false_and, Bool.or_true, Bool.or_false, Bool.true_or, Bool.false_or, reduceIte, or_true, true_or, or_false, false_or, and_true, true_and, and_false, false_and, not_true_eq_false, not_false_eq_true, Bool.false_eq_true, eq_self]; done) | (simp [k_permits, b2i, c_1, c_8, c_9, c_10, c_11]; done)), ht⟩) (fun _ h => nomatch h) dX0_permits_44
        · refine lv_iconst (v := 1) hx hb dX0_permits_27 (by decide) ?_
          refine lv_goto (tgt := 32) hx hb dX0_permits_28 (by decide) ?_
          refine lv_istore_n (lv' := [(3, .int 1), (0, .int cg), (1, .int ac), (2, .int md)]) hx hb dX0_permits_32 rfl hl (by decide) rfl (fun ls hl => ?_)
          refine lv_iload_n hx hb dX0_permits_33 rfl (lv_at hl 1 rfl) ?_
          refine lv_iload_n hx hb dX0_permits_34 rfl (lv_at hl 0 rfl) ?_
          refine lv_iand hx hb dX0_permits_35 ?_
          refine lv_if_eq (tgt := 43) hx hb dX0_permits_36 (by decide) (fun c_12 => ?_) (fun c_12 => ?_)
          · refine lv_iconst (v := 0) hx hb dX0_permits_43 (by decide) ?_
            exact W.zret (v := 0) hx hb hr rfl (fun t ht hW => ⟨0, rfl, (by first | rfl | (simp only [k_permits, b2i, c_1, c_8, c_9, c_10, c_12, b2i, decide_true, decide_false, Bool.not_true, Bool.not_false, Bool.and_true, Bool.and_false, Bool.true_and, Bool.false_and, Bool.or_true, Bool.or_false, Bool.true_or, Bool.false_or, reduceIte, or_true, true_or, or_false, false_or, and_true, true_and, and_false, false_and, not_true_eq_false, not_false_eq_true, Bool.false_eq_true, eq_self]; done) | (simp [k_permits, b2i, c_1, c_8, c_9, c_10, c_12]; done)), ht⟩) (fun _ h => nomatch h) dX0_permits_44
          · refine lv_iconst (v := 1) hx hb dX0_permits_39 (by decide) ?_
            refine lv_goto (tgt := 44) hx hb dX0_permits_40 (by decide) ?_
            exact W.zret (v := 1) hx hb hr rfl (fun t ht hW => ⟨1, rfl, (by first | rfl | (simp only [k_permits, b2i, c_1, c_8, c_9, c_10, c_12, b2i, decide_true, decide_false, Bool.not_true, Bool.not_false, Bool.and_true, Bool.and_false, Bool.true_and, Bool.false_and, Bool.or_true, Bool.or_false, Bool.true_or, Bool.false_or, reduceIte, or_true, true_or, or_false, false_or, and_true, true_and, and_false, false_and, not_true_eq_false, not_false_eq_true, Bool.false_eq_true, eq_self]; done) | (simp [k_permits, b2i, c_1, c_8, c_9, c_10, c_12]; done)), ht⟩) (fun _ h => nomatch h) dX0_permits_44
      · refine lv_iconst (v := 4) hx hb dX0_permits_18 (by decide) ?_
        refine lv_goto (tgt := 32) hx hb dX0_permits_19 (by decide) ?_
        refine lv_istore_n (lv' := [(3, .int 4), (0, .int cg), (1, .int ac), (2, .int md)]) hx hb dX0_permits_32 rfl hl (by decide) rfl (fun ls hl => ?_)
        refine lv_iload_n hx hb dX0_permits_33 rfl (lv_at hl 1 rfl) ?_
        refine lv_iload_n hx hb dX0_permits_34 rfl (lv_at hl 0 rfl) ?_
        refine lv_iand hx hb dX0_permits_35 ?_
        refine lv_if_eq (tgt := 43) hx hb dX0_permits_36 (by decide) (fun c_13 => ?_) (fun c_13 => ?_)
        · refine lv_iconst (v := 0) hx hb dX0_permits_43 (by decide) ?_
          exact W.zret (v := 0) hx hb hr rfl (fun t ht hW => ⟨0, rfl, (by first | rfl | (simp only [k_permits, b2i, c_1, c_8, c_9, c_13, b2i, decide_true, decide_false, Bool.not_true, Bool.not_false, Bool.and_true, Bool.and_false, Bool.true_and, Bool.false_and, Bool.or_true, Bool.or_false, Bool.true_or, Bool.false_or, reduceIte, or_true, true_or, or_false, false_or, and_true, true_and, and_false, false_and, not_true_eq_false, not_false_eq_true, Bool.false_eq_true, eq_self]; done) | (simp [k_permits, b2i, c_1, c_8, c_9, c_13]; done)), ht⟩) (fun _ h => nomatch h) dX0_permits_44
        · refine lv_iconst (v := 1) hx hb dX0_permits_39 (by decide) ?_
          refine lv_goto (tgt := 44) hx hb dX0_permits_40 (by decide) ?_
          exact W.zret (v := 1) hx hb hr rfl (fun t ht hW => ⟨1, rfl, (by first | rfl | (simp only [k_permits, b2i, c_1, c_8, c_9, c_13, b2i, decide_true, decide_false, Bool.not_true, Bool.not_false, Bool.and_true, Bool.and_false, Bool.true_and, Bool.false_and, Bool.or_true, Bool.or_false, Bool.true_or, Bool.false_or, reduceIte, or_true, true_or, or_false, false_or, and_true, true_and, and_false, false_and, not_true_eq_false, not_false_eq_true, Bool.false_eq_true, eq_self]; done) | (simp [k_permits, b2i, c_1, c_8, c_9, c_13]; done)), ht⟩) (fun _ h => nomatch h) dX0_permits_44
    · rw [b2i_z] at c_8
      refine lv_iconst (v := 1) hx hb dX0_permits_12 (by decide) ?_
      exact W.zret (v := 1) hx hb hr rfl (fun t ht hW => ⟨1, rfl, (by first | rfl | (simp only [k_permits, b2i, c_1, c_8, b2i, decide_true, decide_false, Bool.not_true, Bool.not_false, Bool.and_true, Bool.and_false, Bool.true_and, Bool.false_and, Bool.or_true, Bool.or_false, Bool.true_or, Bool.false_or, reduceIte, or_true, true_or, or_false, false_or, and_true, true_and, and_false, false_and, not_true_eq_false, not_false_eq_true, Bool.false_eq_true, eq_self]; done) | (simp [k_permits, b2i, c_1, c_8]; done)), ht⟩) (fun _ h => nomatch h) dX0_permits_13
set_option maxHeartbeats 4000000 in
set_option maxRecDepth 100000 in
theorem mtX0_startOf (l : Launch) (cg : Int32) (nb : Int64) (bf : Int64) : Met l yX0_startOf wsX0_startOf ({ frames := 1, cells := 0, slots := 0, locals := 20 }) (fun v _ => v = ([.int cg, .long nb, .long bf] : List Value).toArray) (vp_Sl (fun r => r = k_startOf cg nb bf)) 0 0 (fun _ => False) := by
  refine Met.ofW (cc := cX0_startOf) (maxL := 5) (ret := (some .long)) (by decide) rfl ?_
  intro p e s m args below meth c s₁ B hml hv
  have hv : args = ([.int cg, .long nb, .long bf] : List Value).toArray := hv
  subst hv
  have hx := B.exec
  have hb := B.bytes
  have hr := B.returns
  have hts := atoms_spec (ws := wsX0_startOf) B.pre
  have hown : s.vm.findClass RX0 = some m.cls := findClass_of_methodNamed B.named
  have hlocks := B.notSynchronized
  have hl := lv_entry ([.int cg, .long nb, .long bf]) (n := 5) (Nat.le_of_ble_eq_true rfl)
  rw [lg_entry_eq]
  generalize (lg_sl ([.int cg, .long nb, .long bf]) ++ List.replicate (5 - (lg_sl ([.int cg, .long nb, .long bf])).length) Slot.unset).toArray = ls at hl ⊢
  have hl : lv_has ls 5 [(0, .int cg), (1, .long nb), (3, .long bf)] := hl
  refine lv_iload_n hx hb dX0_startOf_0 rfl (lv_at hl 0 rfl) ?_
  refine vp_callSi (W.runS (As := [.int cg]) (rest := []) ⟨hx, hb, hml, hown, hts⟩ (mtX0_kindOf l cg) (va_cwS 1 hts (gAll (mc1 (wa 239 (by decide +kernel) rfl) (mc1 (wa 240 (by decide +kernel) rfl) (mc1 (wa 16 (by decide +kernel) rfl) mc0))) (wa 241 (by decide +kernel) rfl) (by decide +kernel)) rfl rfl rfl (by decide +kernel) ⟨Nat.le_of_ble_eq_true rfl, Nat.le_of_ble_eq_true rfl⟩) preEq rfl rfl hl.1 rfl (lv_room (Nat.le_of_ble_eq_true rfl)) dX0_startOf_1 ⟨Nat.le_of_ble_eq_true rfl, Nat.le_of_ble_eq_true rfl⟩) (fun r_1 er_1 => ?_)
  have er_1 : r_1 = (k_kindOf cg) := er_1
  subst er_1
  by_cases c_2 : (k_kindOf cg) = 1
  · refine lv_tableIn (off := 28) (tgt := 32) hx hb dX0_startOf_4 (by rw [c_2]; decide) (by rw [c_2]; decide) (by rw [c_2]; decide) (by decide) ?_
    refine lv_ldc2 (v := 4) hx hb hown (hts (.constantLong RX0 54 4) (wa 294 (by decide +kernel) rfl)) dX0_startOf_32 ?_
    refine lv_lload_n hx hb dX0_startOf_35 rfl (lv_at hl 2 rfl) ?_
    refine lv_lmul hx hb dX0_startOf_36 ?_
    exact W.lret (v := (4 * bf)) hx hb hr (fun t ht hW => ⟨(4 * bf), rfl, (by first | rfl | (simp only [k_startOf, c_2, b2i, decide_true, decide_false, Bool.not_true, Bool.not_false, Bool.and_true, Bool.and_false, Bool.true_and, Bool.false_and, Bool.or_true, Bool.or_false, Bool.true_or, Bool.false_or, reduceIte, or_true, true_or, or_false, false_or, and_true, true_and, and_false, false_and, not_true_eq_false, not_false_eq_true, Bool.false_eq_true, eq_self]; done) | (simp [k_startOf, c_2]; done)), ht⟩) (fun _ h => nomatch h) dX0_startOf_37
  by_cases c_3 : (k_kindOf cg) = 2
  · refine lv_tableIn (off := 34) (tgt := 38) hx hb dX0_startOf_4 (by rw [c_3]; decide) (by rw [c_3]; decide) (by rw [c_3]; decide) (by decide) ?_
    refine lv_ldc2 (v := 4) hx hb hown (hts (.constantLong RX0 54 4) (wa 294 (by decide +kernel) rfl)) dX0_startOf_38 ?_
    refine lv_lload_n hx hb dX0_startOf_41 rfl (lv_at hl 1 rfl) ?_
    refine lv_lmul hx hb dX0_startOf_42 ?_
    exact W.lret (v := (4 * nb)) hx hb hr (fun t ht hW => ⟨(4 * nb), rfl, (by first | rfl | (simp only [k_startOf, c_2, c_3, b2i, decide_true, decide_false, Bool.not_true, Bool.not_false, Bool.and_true, Bool.and_false, Bool.true_and, Bool.false_and, Bool.or_true, Bool.or_false, Bool.true_or, Bool.false_or, reduceIte, or_true, true_or, or_false, false_or, and_true, true_and, and_false, false_and, not_true_eq_false, not_false_eq_true, Bool.false_eq_true, eq_self]; done) | (simp [k_startOf, c_2, c_3]; done)), ht⟩) (fun _ h => nomatch h) dX0_startOf_43
  by_cases c_4 : (k_kindOf cg) = 3
  · refine lv_tableIn (off := 40) (tgt := 44) hx hb dX0_startOf_4 (by rw [c_4]; decide) (by rw [c_4]; decide) (by rw [c_4]; decide) (by decide) ?_
    refine lv_ldc2 (v := 4) hx hb hown (hts (.constantLong RX0 54 4) (wa 294 (by decide +kernel) rfl)) dX0_startOf_44 ?_
    refine lv_lload_n hx hb dX0_startOf_47 rfl (lv_at hl 1 rfl) ?_
    refine lv_lload_n hx hb dX0_startOf_48 rfl (lv_at hl 1 rfl) ?_
    refine lv_lconst (v := 1) hx hb dX0_startOf_49 (by decide) ?_
    refine lv_ladd hx hb dX0_startOf_50 ?_
    refine lv_land hx hb dX0_startOf_51 ?_
    refine lv_lmul hx hb dX0_startOf_52 ?_
    exact W.lret (v := (4 * (nb &&& (nb + 1)))) hx hb hr (fun t ht hW => ⟨(4 * (nb &&& (nb + 1))), rfl, (by first | rfl | (simp only [k_startOf, c_2, c_3, c_4, b2i, decide_true, decide_false, Bool.not_true, Bool.not_false, Bool.and_true, Bool.and_false, Bool.true_and, Bool.false_and, Bool.or_true, Bool.or_false, Bool.true_or, Bool.false_or, reduceIte, or_true, true_or, or_false, false_or, and_true, true_and, and_false, false_and, not_true_eq_false, not_false_eq_true, Bool.false_eq_true, eq_self]; done) | (simp [k_startOf, c_2, c_3, c_4]; done)), ht⟩) (fun _ h => nomatch h) dX0_startOf_53
  refine lv_tableOut (tgt := 54) hx hb dX0_startOf_4 (by have n_c_2 := lv_neT c_2 (a := 1) (by decide); have n_c_3 := lv_neT c_3 (a := 2) (by decide); have n_c_4 := lv_neT c_4 (a := 3) (by decide); omega) (by decide) ?_
  refine lv_lconst (v := 0) hx hb dX0_startOf_54 (by decide) ?_
  exact W.lret (v := 0) hx hb hr (fun t ht hW => ⟨0, rfl, (by first | rfl | (simp only [k_startOf, c_2, c_3, c_4, b2i, decide_true, decide_false, Bool.not_true, Bool.not_false, Bool.and_true, Bool.and_false, Bool.true_and, Bool.false_and, Bool.or_true, Bool.or_false, Bool.true_or, Bool.false_or, reduceIte, or_true, true_or, or_false, false_or, and_true, true_and, and_false, false_and, not_true_eq_false, not_false_eq_true, Bool.false_eq_true, eq_self]; done) | (simp [k_startOf, c_2, c_3, c_4]; done)), ht⟩) (fun _ h => nomatch h) dX0_startOf_55
set_option maxHeartbeats 4000000 in
set_option maxRecDepth 100000 in
theorem mtX0_endOf (l : Launch) (cg : Int32) (nb : Int64) : Met l yX0_endOf wsX0_endOf ({ frames := 1, cells := 0, slots := 0, locals := 20 }) (fun v _ => v = ([.int cg, .long nb] : List Value).toArray) (vp_Sl (fun r => r = k_endOf cg nb)) 0 0 (fun _ => False) := by
  refine Met.ofW (cc := cX0_endOf) (maxL := 3) (ret := (some .long)) (by decide) rfl ?_
  intro p e s m args below meth c s₁ B hml hv
  have hv : args = ([.int cg, .long nb] : List Value).toArray := hv
  subst hv
  have hx := B.exec
  have hb := B.bytes
  have hr := B.returns
  have hts := atoms_spec (ws := wsX0_endOf) B.pre
  have hown : s.vm.findClass RX0 = some m.cls := findClass_of_methodNamed B.named
  have hlocks := B.notSynchronized
  have hl := lv_entry ([.int cg, .long nb]) (n := 3) (Nat.le_of_ble_eq_true rfl)
  rw [lg_entry_eq]
  generalize (lg_sl ([.int cg, .long nb]) ++ List.replicate (3 - (lg_sl ([.int cg, .long nb])).length) Slot.unset).toArray = ls at hl ⊢
  have hl : lv_has ls 3 [(0, .int cg), (1, .long nb)] := hl
  refine lv_iload_n hx hb dX0_endOf_0 rfl (lv_at hl 0 rfl) ?_
  refine vp_callSi (W.runS (As := [.int cg]) (rest := []) ⟨hx, hb, hml, hown, hts⟩ (mtX0_kindOf l cg) (va_cwS 1 hts (gAll (mc1 (wa 239 (by decide +kernel) rfl) (mc1 (wa 240 (by decide +kernel) rfl) (mc1 (wa 16 (by decide +kernel) rfl) mc0))) (wa 241 (by decide +kernel) rfl) (by decide +kernel)) rfl rfl rfl (by decide +kernel) ⟨Nat.le_of_ble_eq_true rfl, Nat.le_of_ble_eq_true rfl⟩) preEq rfl rfl hl.1 rfl (lv_room (Nat.le_of_ble_eq_true rfl)) dX0_endOf_1 ⟨Nat.le_of_ble_eq_true rfl, Nat.le_of_ble_eq_true rfl⟩) (fun r_1 er_1 => ?_)
  have er_1 : r_1 = (k_kindOf cg) := er_1
  subst er_1
  by_cases c_2 : (k_kindOf cg) = 1
  · refine lv_tableIn (off := 28) (tgt := 32) hx hb dX0_endOf_4 (by rw [c_2]; decide) (by rw [c_2]; decide) (by rw [c_2]; decide) (by decide) ?_
    refine lv_ldc2 (v := 4) hx hb hown (hts (.constantLong RX0 54 4) (wa 294 (by decide +kernel) rfl)) dX0_endOf_32 ?_
    refine lv_lload_n hx hb dX0_endOf_35 rfl (lv_at hl 1 rfl) ?_
    refine lv_lmul hx hb dX0_endOf_36 ?_
    exact W.lret (v := (4 * nb)) hx hb hr (fun t ht hW => ⟨(4 * nb), rfl, (by first | rfl | (simp only [k_endOf, c_2, b2i, decide_true, decide_false, Bool.not_true, Bool.not_false, Bool.and_true, Bool.and_false, Bool.true_and, Bool.false_and, Bool.or_true, Bool.or_false, Bool.true_or, Bool.false_or, reduceIte, or_true, true_or, or_false, false_or, and_true, true_and, and_false, false_and, not_true_eq_false, not_false_eq_true, Bool.false_eq_true, eq_self]; done) | (simp [k_endOf, c_2]; done)), ht⟩) (fun _ h => nomatch h) dX0_endOf_37
  by_cases c_3 : (k_kindOf cg) = 2
  · refine lv_tableIn (off := 34) (tgt := 38) hx hb dX0_endOf_4 (by rw [c_3]; decide) (by rw [c_3]; decide) (by rw [c_3]; decide) (by decide) ?_
    refine lv_ldc2 (v := 4) hx hb hown (hts (.constantLong RX0 54 4) (wa 294 (by decide +kernel) rfl)) dX0_endOf_38 ?_
    refine lv_lload_n hx hb dX0_endOf_41 rfl (lv_at hl 1 rfl) ?_
    refine lv_lconst (v := 1) hx hb dX0_endOf_42 (by decide) ?_
    refine lv_ladd hx hb dX0_endOf_43 ?_
    refine lv_lmul hx hb dX0_endOf_44 ?_
    exact W.lret (v := (4 * (nb + 1))) hx hb hr (fun t ht hW => ⟨(4 * (nb + 1)), rfl, (by first | rfl | (simp only [k_endOf, c_2, c_3, b2i, decide_true, decide_false, Bool.not_true, Bool.not_false, Bool.and_true, Bool.and_false, Bool.true_and, Bool.false_and, Bool.or_true, Bool.or_false, Bool.true_or, Bool.false_or, reduceIte, or_true, true_or, or_false, false_or, and_true, true_and, and_false, false_and, not_true_eq_false, not_false_eq_true, Bool.false_eq_true, eq_self]; done) | (simp [k_endOf, c_2, c_3]; done)), ht⟩) (fun _ h => nomatch h) dX0_endOf_45
  by_cases c_4 : (k_kindOf cg) = 3
  · refine lv_tableIn (off := 42) (tgt := 46) hx hb dX0_endOf_4 (by rw [c_4]; decide) (by rw [c_4]; decide) (by rw [c_4]; decide) (by decide) ?_
    refine lv_ldc2 (v := 4) hx hb hown (hts (.constantLong RX0 54 4) (wa 294 (by decide +kernel) rfl)) dX0_endOf_46 ?_
    refine lv_lload_n hx hb dX0_endOf_49 rfl (lv_at hl 1 rfl) ?_
    refine lv_lload_n hx hb dX0_endOf_50 rfl (lv_at hl 1 rfl) ?_
    refine lv_lconst (v := 1) hx hb dX0_endOf_51 (by decide) ?_
    refine lv_ladd hx hb dX0_endOf_52 ?_
    refine lv_lor hx hb dX0_endOf_53 ?_
    refine lv_lconst (v := 1) hx hb dX0_endOf_54 (by decide) ?_
    refine lv_ladd hx hb dX0_endOf_55 ?_
    refine lv_lmul hx hb dX0_endOf_56 ?_
    exact W.lret (v := (4 * ((nb ||| (nb + 1)) + 1))) hx hb hr (fun t ht hW => ⟨(4 * ((nb ||| (nb + 1)) + 1)), rfl, (by first | rfl | (simp only [k_endOf, c_2, c_3, c_4, b2i, decide_true, decide_false, Bool.not_true, Bool.not_false, Bool.and_true, Bool.and_false, Bool.true_and, Bool.false_and, Bool.or_true, Bool.or_false, Bool.true_or, Bool.false_or, reduceIte, or_true, true_or, or_false, false_or, and_true, true_and, and_false, false_and, not_true_eq_false, not_false_eq_true, Bool.false_eq_true, eq_self]; done) | (simp [k_endOf, c_2, c_3, c_4]; done)), ht⟩) (fun _ h => nomatch h) dX0_endOf_57
  refine lv_tableOut (tgt := 58) hx hb dX0_endOf_4 (by have n_c_2 := lv_neT c_2 (a := 1) (by decide); have n_c_3 := lv_neT c_3 (a := 2) (by decide); have n_c_4 := lv_neT c_4 (a := 3) (by decide); omega) (by decide) ?_
  refine lv_lconst (v := 0) hx hb dX0_endOf_58 (by decide) ?_
  exact W.lret (v := 0) hx hb hr (fun t ht hW => ⟨0, rfl, (by first | rfl | (simp only [k_endOf, c_2, c_3, c_4, b2i, decide_true, decide_false, Bool.not_true, Bool.not_false, Bool.and_true, Bool.and_false, Bool.true_and, Bool.false_and, Bool.or_true, Bool.or_false, Bool.true_or, Bool.false_or, reduceIte, or_true, true_or, or_false, false_or, and_true, true_and, and_false, false_and, not_true_eq_false, not_false_eq_true, Bool.false_eq_true, eq_self]; done) | (simp [k_endOf, c_2, c_3, c_4]; done)), ht⟩) (fun _ h => nomatch h) dX0_endOf_59
end
section
set_option maxHeartbeats 4000000 in
set_option maxRecDepth 100000 in
theorem mtX0_packedConfigs (l : Launch) (dC : Nat → ClassId) (dI : Nat → Nat → Nat) (cL : ClassId) (cI : ClassId) (qr : Nat) (qc : Nat) (qn : Nat) (cf : Nat → Int32) (nu : Nat → Int64)   : Met l yX0_packedConfigs wsX0_packedConfigs ({ frames := 0, cells := 0, slots := 0, locals := 0 }) (va_Pc [.ref qr] (fun U => va_P (dC, dI) vwCl (wRG cL cI qr qc qn cf nu) U.heap ∧ va_K (dC, dI) vwCl [(cL, .long), (cI, .int)] U)) (vp_Sl (fun r => r = k_packF cf 8)) 0 0 (fun _ => False) := by
  refine Met.ofW (cc := cX0_packedConfigs) (maxL := 4) (ret := (some .long)) (by decide) rfl ?_
  intro p e s m args below meth c s₁ B hml hv
  obtain ⟨rfl, hP, hK⟩ := hv
  have hx := B.exec
  have hb := B.bytes
  have hr := B.returns
  have hts := atoms_spec (ws := wsX0_packedConfigs) B.pre
  have hown : s.vm.findClass RX0 = some m.cls := findClass_of_methodNamed B.named
  have hlocks := B.notSynchronized
  have hP : va_P (dC, dI) vwCl [(qr, .inr (0, [.ref qc, .ref qn])), (qc, .inl (cI, 8, .inl cf)), (qn, .inl (cL, 8, .inr (.inl nu)))] s.heap := hP
  have hl := lv_entry ([.ref qr]) (n := 4) (Nat.le_of_ble_eq_true rfl)
  rw [lg_entry_eq]
  generalize (lg_sl ([.ref qr]) ++ List.replicate (4 - (lg_sl ([.ref qr])).length) Slot.unset).toArray = ls at hl ⊢
  have hl : lv_has ls 4 [(0, .ref qr)] := hl
  have loop : ∀ (n k : Nat) (ls : Array Slot), k ≤ 8 → 9 ≤ k + n → lv_has ls 4 [(0, .ref qr), (1, .long (k_packF cf k)), (3, .int (nI k))] → W p l e (headSpec wsX0_packedConfigs ({ frames := 0, cells := 0, slots := 0, locals := 0 })).room s m (([.ref qr] : List Value).toArray) below meth c s.heap [] 0 0 (MQ below (vp_Sl (fun r => r = k_packF cf 8)) (([.ref qr] : List Value).toArray) s 0 0 (fun _ => False)) (F0 m 4 ls []) := by
    intro n
    induction n with
    | zero =>
      intro k ls h1 h2
      exact absurd h2 (by omega)
    | succ n ih =>
      intro k ls hk hn hl
      refine lv_iload_n hx hb dX0_packedConfigs_4 rfl (lv_at hl 2 rfl) ?_
      refine lv_bipush (v := 8) hx hb dX0_packedConfigs_5 (by decide) ?_
      refine lv_icmp_ge (tgt := 31) hx hb dX0_packedConfigs_7 (by decide) (fun c_1 => ?_) (fun c_1 => ?_)
      · have hk8 : k = 8 := k8_eq hk c_1
        refine lv_lload_n hx hb dX0_packedConfigs_31 rfl (lv_at hl 1 rfl) ?_
        exact W.lret (v := (k_packF cf k)) hx hb hr (fun t ht hW => ⟨(k_packF cf k), rfl, (by first | rfl | (simp only [c_1, hk8, b2i, decide_true, decide_false, Bool.not_true, Bool.not_false, Bool.and_true, Bool.and_false, Bool.true_and, Bool.false_and, Bool.or_true, Bool.or_false, Bool.true_or, Bool.false_or, reduceIte, or_true, true_or, or_false, false_or, and_true, true_and, and_false, false_and, not_true_eq_false, not_false_eq_true, Bool.false_eq_true, eq_self]; done) | (simp [c_1, hk8]; done)), ht⟩) (fun _ h => nomatch h) dX0_packedConfigs_32
      · have hk8 : k < 8 := k8_lt hk c_1
        refine lv_lload_n hx hb dX0_packedConfigs_10 rfl (lv_at hl 1 rfl) ?_
        refine lv_aload_n hx hb dX0_packedConfigs_11 rfl (lv_at hl 0 rfl) ?_
        refine va_get (D := (dC, dI)) (ci := 0) (v := .ref qc) (C := RX0) (T := TX0) (N := 2) hx hb hts iwX0 hown hK hP 0 rfl rfl 0 (by decide) (hts (.fieldLink RX0 11 RX0 "configs" "[I") (wa 37 (by decide +kernel) rfl)) (fun _ h9 => h9) rfl dX0_packedConfigs_12 ?_
        refine lv_iload_n hx hb dX0_packedConfigs_15 rfl (lv_at hl 2 rfl) ?_
        refine va_iald hx hb hK hP 1 1 rfl rfl (vp_in_nI hk8 (by omega)) dX0_packedConfigs_16 ?_
        rw [nI_clamp (show k < 2 ^ 31 by omega)]
        refine lv_i2l (v := Int32.toInt64 (cf k)) hx hb dX0_packedConfigs_17 rfl ?_
        refine lv_bipush (v := 8) hx hb dX0_packedConfigs_18 (by decide) ?_
        refine lv_iload_n hx hb dX0_packedConfigs_20 rfl (lv_at hl 2 rfl) ?_
        refine lv_imul hx hb dX0_packedConfigs_21 ?_
        refine lv_lshl (v := (k_shl (Int32.toInt64 (cf k)) (8 * (nI k)))) hx hb dX0_packedConfigs_22 rfl ?_
        refine lv_lor hx hb dX0_packedConfigs_23 ?_
        refine lv_lstore_n (lv' := [(1, .long ((k_packF cf k) ||| (k_shl (Int32.toInt64 (cf k)) (8 * (nI k))))), (0, .ref qr), (3, .int (nI k))]) hx hb dX0_packedConfigs_24 rfl hl (by decide) rfl (fun ls hl => ?_)
        refine lv_iinc (v := ((nI k) + 1)) (lv' := [(3, .int ((nI k) + 1)), (1, .long ((k_packF cf k) ||| (k_shl (Int32.toInt64 (cf k)) (8 * (nI k))))), (0, .ref qr)]) hx hb dX0_packedConfigs_25 hl (k := 2) rfl rfl (by decide) rfl (fun ls hl => ?_)
        refine lv_goto (tgt := 4) hx hb dX0_packedConfigs_28 (by decide) ?_
        rw [← nI_succ] at hl
        exact ih (k + 1) ls (by omega) (by omega) (lv_sub hl [2, 1, 0] rfl)
  refine lv_lconst (v := 0) hx hb dX0_packedConfigs_0 (by decide) ?_
  refine lv_lstore_n (lv' := [(1, .long 0), (0, .ref qr)]) hx hb dX0_packedConfigs_1 rfl hl (by decide) rfl (fun ls hl => ?_)
  refine lv_iconst (v := 0) hx hb dX0_packedConfigs_2 (by decide) ?_
  refine lv_istore_n (lv' := [(3, .int 0), (1, .long 0), (0, .ref qr)]) hx hb dX0_packedConfigs_3 rfl hl (by decide) rfl (fun ls hl => ?_)
  exact loop 9 0 ls (by omega) (by omega) (lv_sub hl [2, 1, 0] rfl)
set_option maxHeartbeats 4000000 in
set_option maxRecDepth 100000 in
theorem mtX0_letThrough (l : Launch) (dC : Nat → ClassId) (dI : Nat → Nat → Nat) (cL : ClassId) (cI : ClassId) (qr : Nat) (qc : Nat) (qn : Nat) (cf : Nat → Int32) (nu : Nat → Int64) (fi : Int64) (ac : Int32) (md : Int32) (sz : Int32)  : Met l yX0_letThrough wsX0_letThrough ({ frames := 2, cells := 0, slots := 0, locals := 44 }) (va_Pc [.ref qr, .long fi, .int ac, .int md, .int sz] (fun U => va_P (dC, dI) vwCl (wRG cL cI qr qc qn cf nu) U.heap ∧ va_K (dC, dI) vwCl [(cL, .long), (cI, .int)] U)) (vp_Si (fun r => r = b2i (k_let cf nu fi ac md sz))) 0 0 (fun _ => False) := by
  refine Met.ofW (cc := cX0_letThrough) (maxL := 18) (ret := (some .boolean)) (by decide) rfl ?_
  intro p e s m args below meth c s₁ B hml hv
  obtain ⟨rfl, hP, hK⟩ := hv
  have hx := B.exec
  have hb := B.bytes
  have hr := B.returns
  have hts := atoms_spec (ws := wsX0_letThrough) B.pre
  have hown : s.vm.findClass RX0 = some m.cls := findClass_of_methodNamed B.named
  have hlocks := B.notSynchronized
  have hP : va_P (dC, dI) vwCl [(qr, .inr (0, [.ref qc, .ref qn])), (qc, .inl (cI, 8, .inl cf)), (qn, .inl (cL, 8, .inr (.inl nu)))] s.heap := hP
  have hl := lv_entry ([.ref qr, .long fi, .int ac, .int md, .int sz]) (n := 18) (Nat.le_of_ble_eq_true rfl)
  rw [lg_entry_eq]
  generalize (lg_sl ([.ref qr, .long fi, .int ac, .int md, .int sz]) ++ List.replicate (18 - (lg_sl ([.ref qr, .long fi, .int ac, .int md, .int sz])).length) Slot.unset).toArray = ls at hl ⊢
  have hl : lv_has ls 18 [(0, .ref qr), (1, .long fi), (3, .int ac), (4, .int md), (5, .int sz)] := hl
  have loop : ∀ (n k : Nat) (bf : Int64) (ls : Array Slot), k ≤ 8 → 9 ≤ k + n → k_letF cf nu fi (fi + Int32.toInt64 sz) ac md (8 - k) k bf = k_let cf nu fi ac md sz → lv_has ls 18 [(0, .ref qr), (1, .long fi), (3, .int ac), (4, .int md), (6, .long (fi + Int32.toInt64 sz)), (8, .long bf), (10, .int (nI k))] → W p l e (headSpec wsX0_letThrough ({ frames := 2, cells := 0, slots := 0, locals := 44 })).room s m (([.ref qr, .long fi, .int ac, .int md, .int sz] : List Value).toArray) below meth c s.heap [] 0 0 (MQ below (vp_Si (fun r => r = b2i (k_let cf nu fi ac md sz))) (([.ref qr, .long fi, .int ac, .int md, .int sz] : List Value).toArray) s 0 0 (fun _ => False)) (F0 m 13 ls []) := by
    intro n
    induction n with
    | zero =>
      intro k bf ls h1 h2
      exact absurd h2 (by omega)
    | succ n ih =>
      intro k bf ls hk hn hq hl
      refine lv_iload hx hb dX0_letThrough_13 (lv_at hl 6 rfl) ?_
      refine lv_bipush (v := 8) hx hb dX0_letThrough_15 (by decide) ?_
      refine lv_icmp_ge (tgt := 123) hx hb dX0_letThrough_17 (by decide) (fun c_1 => ?_) (fun c_1 => ?_)
      · have hk8 : k = 8 := k8_eq hk c_1
        rw [hk8] at hq
        refine lv_iload hx hb dX0_letThrough_123 (lv_at hl 3 rfl) ?_
        refine lv_iconst (v := 3) hx hb dX0_letThrough_125 (by decide) ?_
        refine lv_icmp_ne (tgt := 133) hx hb dX0_letThrough_126 (by decide) (fun c_2 => ?_) (fun c_2 => ?_)
        · refine lv_iconst (v := 0) hx hb dX0_letThrough_133 (by decide) ?_
          exact W.zret (v := 0) hx hb hr rfl (fun t ht hW => ⟨0, rfl, (by first | rfl | (rw [← hq]; simp only [k_letF, k_meets, k_holds, b2i, c_1, c_2, b2i, decide_true, decide_false, Bool.not_true, Bool.not_false, Bool.and_true, Bool.and_false, Bool.true_and, Bool.false_and, Bool.or_true, Bool.or_false, Bool.true_or, Bool.false_or, reduceIte, or_true, true_or, or_false, false_or, and_true, true_and, and_false, false_and, not_true_eq_false, not_false_eq_true, Bool.false_eq_true, eq_self]; done) | (rw [← hq]; simp [k_letF, k_meets, k_holds, b2i, c_1, c_2]; done)), ht⟩) (fun _ h => nomatch h) dX0_letThrough_134
        · refine lv_iconst (v := 1) hx hb dX0_letThrough_129 (by decide) ?_
          refine lv_goto (tgt := 134) hx hb dX0_letThrough_130 (by decide) ?_
          exact W.zret (v := 1) hx hb hr rfl (fun t ht hW => ⟨1, rfl, (by first | rfl | (rw [← hq]; simp only [k_letF, k_meets, k_holds, b2i, c_1, c_2, b2i, decide_true, decide_false, Bool.not_true, Bool.not_false, Bool.and_true, Bool.and_false, Bool.true_and, Bool.false_and, Bool.or_true, Bool.or_false, Bool.true_or, Bool.false_or, reduceIte, or_true, true_or, or_false, false_or, and_true, true_and, and_false, false_and, not_true_eq_false, not_false_eq_true, Bool.false_eq_true, eq_self]; done) | (rw [← hq]; simp [k_letF, k_meets, k_holds, b2i, c_1, c_2]; done)), ht⟩) (fun _ h => nomatch h) dX0_letThrough_134
      · have hk8 : k < 8 := k8_lt hk c_1
        rw [show 8 - k = (7 - k) + 1 by omega] at hq
        simp only [k_letF] at hq
        refine lv_aload_n hx hb dX0_letThrough_20 rfl (lv_at hl 0 rfl) ?_
        refine va_get (D := (dC, dI)) (ci := 0) (v := .ref qc) (C := RX0) (T := TX0) (N := 2) hx hb hts iwX0 hown hK hP 0 rfl rfl 0 (by decide) (hts (.fieldLink RX0 11 RX0 "configs" "[I") (wa 37 (by decide +kernel) rfl)) (fun _ h9 => h9) rfl dX0_letThrough_21 ?_
        refine lv_iload hx hb dX0_letThrough_24 (lv_at hl 6 rfl) ?_
        refine va_iald hx hb hK hP 1 1 rfl rfl (vp_in_nI hk8 (by omega)) dX0_letThrough_26 ?_
        rw [nI_clamp (show k < 2 ^ 31 by omega)]
        refine lv_istore (lv' := [(11, .int (cf k)), (0, .ref qr), (1, .long fi), (3, .int ac), (4, .int md), (6, .long (fi + Int32.toInt64 sz)), (8, .long bf), (10, .int (nI k))]) hx hb dX0_letThrough_27 hl (by decide) rfl (fun ls hl => ?_)
        refine lv_aload_n hx hb dX0_letThrough_29 rfl (lv_at hl 1 rfl) ?_
        refine va_get (D := (dC, dI)) (ci := 0) (v := .ref qn) (C := RX0) (T := TX0) (N := 2) hx hb hts iwX0 hown hK hP 0 rfl rfl 1 (by decide) (hts (.fieldLink RX0 15 RX0 "numbers" "[J") (wa 38 (by decide +kernel) rfl)) (fun _ h9 => h9) rfl dX0_letThrough_30 ?_
        refine lv_iload hx hb dX0_letThrough_33 (lv_at hl 7 rfl) ?_
        refine va_lald hx hb hK hP 2 0 rfl rfl (vp_in_nI hk8 (by omega)) dX0_letThrough_35 ?_
        rw [nI_clamp (show k < 2 ^ 31 by omega)]
        refine lv_lstore (lv' := [(12, .long (nu k)), (11, .int (cf k)), (0, .ref qr), (1, .long fi), (3, .int ac), (4, .int md), (6, .long (fi + Int32.toInt64 sz)), (8, .long bf), (10, .int (nI k))]) hx hb dX0_letThrough_36 hl (by decide) rfl (fun ls hl => ?_)
        refine lv_iload hx hb dX0_letThrough_38 (lv_at hl 1 rfl) ?_
        refine lv_lload hx hb dX0_letThrough_40 (lv_at hl 0 rfl) ?_
        refine lv_lload hx hb dX0_letThrough_42 (lv_at hl 7 rfl) ?_
        refine vp_callSl (W.runS (As := [.int (cf k), .long (nu k), .long bf]) (rest := []) ⟨hx, hb, hml, hown, hts⟩ (mtX0_startOf l (cf k) (nu k) bf) (va_cwS 3 hts (gAll (mc1 (wa 291 (by decide +kernel) rfl) (mc1 (wa 292 (by decide +kernel) rfl) (mc1 (wa 16 (by decide +kernel) rfl) mc0))) (wa 293 (by decide +kernel) rfl) (by decide +kernel)) rfl rfl rfl (by decide +kernel) ⟨Nat.le_of_ble_eq_true rfl, Nat.le_of_ble_eq_true rfl⟩) preEq rfl rfl hl.1 rfl (lv_room (Nat.le_of_ble_eq_true rfl)) dX0_letThrough_44 ⟨Nat.le_of_ble_eq_true rfl, Nat.le_of_ble_eq_true rfl⟩) (fun r_3 er_3 => ?_)
        have er_3 : r_3 = (k_startOf (cf k) (nu k) bf) := er_3
        subst er_3
        refine lv_lstore (lv' := [(14, .long (k_startOf (cf k) (nu k) bf)), (12, .long (nu k)), (11, .int (cf k)), (0, .ref qr), (1, .long fi), (3, .int ac), (4, .int md), (6, .long (fi + Int32.toInt64 sz)), (8, .long bf), (10, .int (nI k))]) hx hb dX0_letThrough_47 hl (by decide) rfl (fun ls hl => ?_)
        refine lv_iload hx hb dX0_letThrough_49 (lv_at hl 2 rfl) ?_
        refine lv_lload hx hb dX0_letThrough_51 (lv_at hl 1 rfl) ?_
        refine vp_callSl (W.runS (As := [.int (cf k), .long (nu k)]) (rest := []) ⟨hx, hb, hml, hown, hts⟩ (mtX0_endOf l (cf k) (nu k)) (va_cwS 2 hts (gAll (mc1 (wa 295 (by decide +kernel) rfl) (mc1 (wa 296 (by decide +kernel) rfl) (mc1 (wa 16 (by decide +kernel) rfl) mc0))) (wa 297 (by decide +kernel) rfl) (by decide +kernel)) rfl rfl rfl (by decide +kernel) ⟨Nat.le_of_ble_eq_true rfl, Nat.le_of_ble_eq_true rfl⟩) preEq rfl rfl hl.1 rfl (lv_room (Nat.le_of_ble_eq_true rfl)) dX0_letThrough_53 ⟨Nat.le_of_ble_eq_true rfl, Nat.le_of_ble_eq_true rfl⟩) (fun r_4 er_4 => ?_)
        have er_4 : r_4 = (k_endOf (cf k) (nu k)) := er_4
        subst er_4
        refine lv_lstore (lv' := [(16, .long (k_endOf (cf k) (nu k))), (14, .long (k_startOf (cf k) (nu k) bf)), (12, .long (nu k)), (11, .int (cf k)), (0, .ref qr), (1, .long fi), (3, .int ac), (4, .int md), (6, .long (fi + Int32.toInt64 sz)), (8, .long bf), (10, .int (nI k))]) hx hb dX0_letThrough_56 hl (by decide) rfl (fun ls hl => ?_)
        refine lv_lload hx hb dX0_letThrough_58 (lv_at hl 1 rfl) ?_
        refine lv_lload hx hb dX0_letThrough_60 (lv_at hl 0 rfl) ?_
        refine W.lcmp hx hb dX0_letThrough_62 ?_
        refine lv_if_ge (tgt := 113) hx hb dX0_letThrough_63 (by decide) (fun c_5 => ?_) (fun c_5 => ?_)
        · rw [lg_cmp_ge] at c_5
          refine lv_lload hx hb dX0_letThrough_113 (lv_at hl 2 rfl) ?_
          refine lv_lstore (lv' := [(8, .long (nu k)), (16, .long (k_endOf (cf k) (nu k))), (14, .long (k_startOf (cf k) (nu k) bf)), (12, .long (nu k)), (11, .int (cf k)), (0, .ref qr), (1, .long fi), (3, .int ac), (4, .int md), (6, .long (fi + Int32.toInt64 sz)), (10, .int (nI k))]) hx hb dX0_letThrough_115 hl (by decide) rfl (fun ls hl => ?_)
          refine lv_iinc (v := ((nI k) + 1)) (lv' := [(10, .int ((nI k) + 1)), (8, .long (nu k)), (16, .long (k_endOf (cf k) (nu k))), (14, .long (k_startOf (cf k) (nu k) bf)), (12, .long (nu k)), (11, .int (cf k)), (0, .ref qr), (1, .long fi), (3, .int ac), (4, .int md), (6, .long (fi + Int32.toInt64 sz))]) hx hb dX0_letThrough_117 hl (k := 10) rfl rfl (by decide) rfl (fun ls hl => ?_)
          refine lv_goto (tgt := 13) hx hb dX0_letThrough_120 (by decide) ?_
          rw [← nI_succ] at hl
          have hm : k_meets (cf k) (nu k) bf fi (fi + Int32.toInt64 sz) = false := by simp [k_meets, c_1, c_5]
          rw [hm, if_neg (by decide)] at hq
          exact ih (k + 1) (nu k) ls (by omega) (by omega) (by rw [show 8 - (k + 1) = 7 - k by omega]; exact hq) (lv_sub hl [6, 7, 8, 9, 10, 1, 0] rfl)
        · rw [lg_cmp_ge] at c_5
          refine lv_lload hx hb dX0_letThrough_66 (lv_at hl 1 rfl) ?_
          refine lv_lload hx hb dX0_letThrough_68 (lv_at hl 8 rfl) ?_
          refine W.lcmp hx hb dX0_letThrough_70 ?_
          refine lv_if_ge (tgt := 113) hx hb dX0_letThrough_71 (by decide) (fun c_6 => ?_) (fun c_6 => ?_)
          · rw [lg_cmp_ge] at c_6
            refine lv_lload hx hb dX0_letThrough_113 (lv_at hl 2 rfl) ?_
            refine lv_lstore (lv' := [(8, .long (nu k)), (16, .long (k_endOf (cf k) (nu k))), (14, .long (k_startOf (cf k) (nu k) bf)), (12, .long (nu k)), (11, .int (cf k)), (0, .ref qr), (1, .long fi), (3, .int ac), (4, .int md), (6, .long (fi + Int32.toInt64 sz)), (10, .int (nI k))]) hx hb dX0_letThrough_115 hl (by decide) rfl (fun ls hl => ?_)
            refine lv_iinc (v := ((nI k) + 1)) (lv' := [(10, .int ((nI k) + 1)), (8, .long (nu k)), (16, .long (k_endOf (cf k) (nu k))), (14, .long (k_startOf (cf k) (nu k) bf)), (12, .long (nu k)), (11, .int (cf k)), (0, .ref qr), (1, .long fi), (3, .int ac), (4, .int md), (6, .long (fi + Int32.toInt64 sz))]) hx hb dX0_letThrough_117 hl (k := 10) rfl rfl (by decide) rfl (fun ls hl => ?_)
            refine lv_goto (tgt := 13) hx hb dX0_letThrough_120 (by decide) ?_
            rw [← nI_succ] at hl
            have hm : k_meets (cf k) (nu k) bf fi (fi + Int32.toInt64 sz) = false := by simp [k_meets, c_1, c_5, c_6]
            rw [hm, if_neg (by decide)] at hq
            exact ih (k + 1) (nu k) ls (by omega) (by omega) (by rw [show 8 - (k + 1) = 7 - k by omega]; exact hq) (lv_sub hl [6, 7, 8, 9, 10, 1, 0] rfl)
          · rw [lg_cmp_ge] at c_6
            refine lv_lload_n hx hb dX0_letThrough_74 rfl (lv_at hl 5 rfl) ?_
            refine lv_lload hx hb dX0_letThrough_75 (lv_at hl 0 rfl) ?_
            refine W.lcmp hx hb dX0_letThrough_77 ?_
            refine lv_if_ge (tgt := 113) hx hb dX0_letThrough_78 (by decide) (fun c_7 => ?_) (fun c_7 => ?_)
            · rw [lg_cmp_ge] at c_7
              refine lv_lload hx hb dX0_letThrough_113 (lv_at hl 2 rfl) ?_
              refine lv_lstore (lv' := [(8, .long (nu k)), (16, .long (k_endOf (cf k) (nu k))), (14, .long (k_startOf (cf k) (nu k) bf)), (12, .long (nu k)), (11, .int (cf k)), (0, .ref qr), (1, .long fi), (3, .int ac), (4, .int md), (6, .long (fi + Int32.toInt64 sz)), (10, .int (nI k))]) hx hb dX0_letThrough_115 hl (by decide) rfl (fun ls hl => ?_)
              refine lv_iinc (v := ((nI k) + 1)) (lv' := [(10, .int ((nI k) + 1)), (8, .long (nu k)), (16, .long (k_endOf (cf k) (nu k))), (14, .long (k_startOf (cf k) (nu k) bf)), (12, .long (nu k)), (11, .int (cf k)), (0, .ref qr), (1, .long fi), (3, .int ac), (4, .int md), (6, .long (fi + Int32.toInt64 sz))]) hx hb dX0_letThrough_117 hl (k := 10) rfl rfl (by decide) rfl (fun ls hl => ?_)
              refine lv_goto (tgt := 13) hx hb dX0_letThrough_120 (by decide) ?_
              rw [← nI_succ] at hl
              have hm : k_meets (cf k) (nu k) bf fi (fi + Int32.toInt64 sz) = false := by simp [k_meets, c_1, c_5, c_6, c_7]
              rw [hm, if_neg (by decide)] at hq
              exact ih (k + 1) (nu k) ls (by omega) (by omega) (by rw [show 8 - (k + 1) = 7 - k by omega]; exact hq) (lv_sub hl [6, 7, 8, 9, 10, 1, 0] rfl)
            · rw [lg_cmp_ge] at c_7
              refine lv_lload hx hb dX0_letThrough_81 (lv_at hl 1 rfl) ?_
              refine lv_lload_n hx hb dX0_letThrough_83 rfl (lv_at hl 5 rfl) ?_
              refine W.lcmp hx hb dX0_letThrough_84 ?_
              refine lv_if_gt (tgt := 111) hx hb dX0_letThrough_85 (by decide) (fun c_8 => ?_) (fun c_8 => ?_)
              · rw [lg_cmp_gt] at c_8
                refine lv_iconst (v := 0) hx hb dX0_letThrough_111 (by decide) ?_
                exact W.zret (v := 0) hx hb hr rfl (fun t ht hW => ⟨0, rfl, (by first | rfl | (rw [← hq]; simp only [k_letF, k_meets, k_holds, b2i, c_1, c_5, c_6, c_7, c_8, b2i, decide_true, decide_false, Bool.not_true, Bool.not_false, Bool.and_true, Bool.and_false, Bool.true_and, Bool.false_and, Bool.or_true, Bool.or_false, Bool.true_or, Bool.false_or, reduceIte, or_true, true_or, or_false, false_or, and_true, true_and, and_false, false_and, not_true_eq_false, not_false_eq_true, Bool.false_eq_true, eq_self]; done) | (rw [← hq]; simp [k_letF, k_meets, k_holds, b2i, c_1, c_5, c_6, c_7, c_8]; done)), ht⟩) (fun _ h => nomatch h) dX0_letThrough_112
              · rw [lg_cmp_gt] at c_8
                refine lv_lload hx hb dX0_letThrough_88 (lv_at hl 8 rfl) ?_
                refine lv_lload hx hb dX0_letThrough_90 (lv_at hl 0 rfl) ?_
                refine W.lcmp hx hb dX0_letThrough_92 ?_
                refine lv_if_gt (tgt := 111) hx hb dX0_letThrough_93 (by decide) (fun c_9 => ?_) (fun c_9 => ?_)
                · rw [lg_cmp_gt] at c_9
                  refine lv_iconst (v := 0) hx hb dX0_letThrough_111 (by decide) ?_
                  exact W.zret (v := 0) hx hb hr rfl (fun t ht hW => ⟨0, rfl, (by first | rfl | (rw [← hq]; simp only [k_letF, k_meets, k_holds, b2i, c_1, c_5, c_6, c_7, c_8, c_9, b2i, decide_true, decide_false, Bool.not_true, Bool.not_false, Bool.and_true, Bool.and_false, Bool.true_and, Bool.false_and, Bool.or_true, Bool.or_false, Bool.true_or, Bool.false_or, reduceIte, or_true, true_or, or_false, false_or, and_true, true_and, and_false, false_and, not_true_eq_false, not_false_eq_true, Bool.false_eq_true, eq_self]; done) | (rw [← hq]; simp [k_letF, k_meets, k_holds, b2i, c_1, c_5, c_6, c_7, c_8, c_9]; done)), ht⟩) (fun _ h => nomatch h) dX0_letThrough_112
                · rw [lg_cmp_gt] at c_9
                  refine lv_iload hx hb dX0_letThrough_96 (lv_at hl 3 rfl) ?_
                  refine lv_iload_n hx hb dX0_letThrough_98 rfl (lv_at hl 6 rfl) ?_
                  refine lv_iload hx hb dX0_letThrough_99 (lv_at hl 7 rfl) ?_
                  refine vp_callSi (W.runS (As := [.int (cf k), .int ac, .int md]) (rest := []) ⟨hx, hb, hml, hown, hts⟩ (mtX0_permits l (cf k) ac md) (va_cwS 3 hts (gAll (mc1 (wa 298 (by decide +kernel) rfl) (mc1 (wa 299 (by decide +kernel) rfl) (mc1 (wa 16 (by decide +kernel) rfl) mc0))) (wa 300 (by decide +kernel) rfl) (by decide +kernel)) rfl rfl rfl (by decide +kernel) ⟨Nat.le_of_ble_eq_true rfl, Nat.le_of_ble_eq_true rfl⟩) preEq rfl rfl hl.1 rfl (lv_room (Nat.le_of_ble_eq_true rfl)) dX0_letThrough_101 ⟨Nat.le_of_ble_eq_true rfl, Nat.le_of_ble_eq_true rfl⟩) (fun r_10 er_10 => ?_)
                  have er_10 : r_10 = (b2i (k_permits (cf k) ac md)) := er_10
                  subst er_10
                  refine lv_if_eq (tgt := 111) hx hb dX0_letThrough_104 (by decide) (fun c_11 => ?_) (fun c_11 => ?_)
                  · rw [b2i_z] at c_11
                    refine lv_iconst (v := 0) hx hb dX0_letThrough_111 (by decide) ?_
                    exact W.zret (v := 0) hx hb hr rfl (fun t ht hW => ⟨0, rfl, (by first | rfl | (rw [← hq]; simp only [k_letF, k_meets, k_holds, b2i, c_1, c_5, c_6, c_7, c_8, c_9, c_11, b2i, decide_true, decide_false, Bool.not_true, Bool.not_false, Bool.and_true, Bool.and_false, Bool.true_and, Bool.false_and, Bool.or_true, Bool.or_false, Bool.true_or, Bool.false_or, reduceIte, or_true, true_or, or_false, false_or, and_true, true_and, and_false, false_and, not_true_eq_false, not_false_eq_true, Bool.false_eq_true, eq_self]; done) | (rw [← hq]; simp [k_letF, k_meets, k_holds, b2i, c_1, c_5, c_6, c_7, c_8, c_9, c_11]; done)), ht⟩) (fun _ h => nomatch h) dX0_letThrough_112
                  · rw [b2i_z] at c_11
                    rw [Bool.not_eq_false] at c_11
                    refine lv_iconst (v := 1) hx hb dX0_letThrough_107 (by decide) ?_
                    refine lv_goto (tgt := 112) hx hb dX0_letThrough_108 (by decide) ?_
                    exact W.zret (v := 1) hx hb hr rfl (fun t ht hW => ⟨1, rfl, (by first | rfl | (rw [← hq]; simp only [k_letF, k_meets, k_holds, b2i, c_1, c_5, c_6, c_7, c_8, c_9, c_11, b2i, decide_true, decide_false, Bool.not_true, Bool.not_false, Bool.and_true, Bool.and_false, Bool.true_and, Bool.false_and, Bool.or_true, Bool.or_false, Bool.true_or, Bool.false_or, reduceIte, or_true, true_or, or_false, false_or, and_true, true_and, and_false, false_and, not_true_eq_false, not_false_eq_true, Bool.false_eq_true, eq_self]; done) | (rw [← hq]; simp [k_letF, k_meets, k_holds, b2i, c_1, c_5, c_6, c_7, c_8, c_9, c_11]; done)), ht⟩) (fun _ h => nomatch h) dX0_letThrough_112
  refine lv_lload_n hx hb dX0_letThrough_0 rfl (lv_at hl 1 rfl) ?_
  refine lv_iload hx hb dX0_letThrough_1 (lv_at hl 4 rfl) ?_
  refine lv_i2l (v := Int32.toInt64 sz) hx hb dX0_letThrough_3 rfl ?_
  refine lv_ladd hx hb dX0_letThrough_4 ?_
  refine lv_lstore (lv' := [(6, .long (fi + (Int32.toInt64 sz))), (0, .ref qr), (1, .long fi), (3, .int ac), (4, .int md), (5, .int sz)]) hx hb dX0_letThrough_5 hl (by decide) rfl (fun ls hl => ?_)
  refine lv_lconst (v := 0) hx hb dX0_letThrough_7 (by decide) ?_
  refine lv_lstore (lv' := [(8, .long 0), (6, .long (fi + (Int32.toInt64 sz))), (0, .ref qr), (1, .long fi), (3, .int ac), (4, .int md), (5, .int sz)]) hx hb dX0_letThrough_8 hl (by decide) rfl (fun ls hl => ?_)
  refine lv_iconst (v := 0) hx hb dX0_letThrough_10 (by decide) ?_
  refine lv_istore (lv' := [(10, .int 0), (8, .long 0), (6, .long (fi + (Int32.toInt64 sz))), (0, .ref qr), (1, .long fi), (3, .int ac), (4, .int md), (5, .int sz)]) hx hb dX0_letThrough_11 hl (by decide) rfl (fun ls hl => ?_)
  exact loop 9 0 0 ls (by omega) (by omega) rfl (lv_sub hl [3, 4, 5, 6, 2, 1, 0] rfl)
set_option maxHeartbeats 4000000 in
set_option maxRecDepth 100000 in
theorem mtX0_numberOf (l : Launch) (dC : Nat → ClassId) (dI : Nat → Nat → Nat) (cL : ClassId) (cI : ClassId) (qr : Nat) (qc : Nat) (qn : Nat) (cf : Nat → Int32) (nu : Nat → Int64) (i : Int32) (hi0 : ¬ i < 0) (hi8 : i < 8) : Met l yX0_numberOf wsX0_numberOf ({ frames := 0, cells := 0, slots := 0, locals := 0 }) (va_Pc [.ref qr, .int i] (fun U => va_P (dC, dI) vwCl (wRG cL cI qr qc qn cf nu) U.heap ∧ va_K (dC, dI) vwCl [(cL, .long), (cI, .int)] U)) (vp_Sl (fun r => r = nu (Int32.toNatClampNeg i))) 0 0 (fun _ => False) := by
  refine Met.ofW (cc := cX0_numberOf) (maxL := 2) (ret := (some .long)) (by decide) rfl ?_
  intro p e s m args below meth c s₁ B hml hv
  obtain ⟨rfl, hP, hK⟩ := hv
  have hx := B.exec
  have hb := B.bytes
  have hr := B.returns
  have hts := atoms_spec (ws := wsX0_numberOf) B.pre
  have hown : s.vm.findClass RX0 = some m.cls := findClass_of_methodNamed B.named
  have hlocks := B.notSynchronized
  have hP : va_P (dC, dI) vwCl [(qr, .inr (0, [.ref qc, .ref qn])), (qc, .inl (cI, 8, .inl cf)), (qn, .inl (cL, 8, .inr (.inl nu)))] s.heap := hP
  have hl := lv_entry ([.ref qr, .int i]) (n := 2) (Nat.le_of_ble_eq_true rfl)
  rw [lg_entry_eq]
  generalize (lg_sl ([.ref qr, .int i]) ++ List.replicate (2 - (lg_sl ([.ref qr, .int i])).length) Slot.unset).toArray = ls at hl ⊢
  have hl : lv_has ls 2 [(0, .ref qr), (1, .int i)] := hl
  refine lv_iload_n hx hb dX0_numberOf_0 rfl (lv_at hl 1 rfl) ?_
  refine lv_if_lt (tgt := 10) hx hb dX0_numberOf_1 (by decide) (fun c_1 => ?_) (fun c_1 => ?_)
  · first | exact absurd c_1 hi0 | exact absurd c_1 hi8 | exact absurd hi0 c_1 | exact absurd hi8 c_1
  · refine lv_iload_n hx hb dX0_numberOf_4 rfl (lv_at hl 1 rfl) ?_
    refine lv_bipush (v := 8) hx hb dX0_numberOf_5 (by decide) ?_
    refine lv_icmp_lt (tgt := 20) hx hb dX0_numberOf_7 (by decide) (fun c_2 => ?_) (fun c_2 => ?_)
    · refine lv_aload_n hx hb dX0_numberOf_20 rfl (lv_at hl 0 rfl) ?_
      refine va_get (D := (dC, dI)) (ci := 0) (v := .ref qn) (C := RX0) (T := TX0) (N := 2) hx hb hts iwX0 hown hK hP 0 rfl rfl 1 (by decide) (hts (.fieldLink RX0 15 RX0 "numbers" "[J") (wa 38 (by decide +kernel) rfl)) (fun _ h9 => h9) rfl dX0_numberOf_21 ?_
      refine lv_iload_n hx hb dX0_numberOf_24 rfl (lv_at hl 1 rfl) ?_
      refine va_lald hx hb hK hP 2 0 rfl rfl (in8 hi0 hi8) dX0_numberOf_25 ?_
      exact W.lret (v := (nu (Int32.toNatClampNeg i))) hx hb hr (fun t ht hW => ⟨(nu (Int32.toNatClampNeg i)), rfl, (by first | rfl | (simp only [c_1, c_2, b2i, decide_true, decide_false, Bool.not_true, Bool.not_false, Bool.and_true, Bool.and_false, Bool.true_and, Bool.false_and, Bool.or_true, Bool.or_false, Bool.true_or, Bool.false_or, reduceIte, or_true, true_or, or_false, false_or, and_true, true_and, and_false, false_and, not_true_eq_false, not_false_eq_true, Bool.false_eq_true, eq_self]; done) | (simp [c_1, c_2]; done)), ht⟩) (fun _ h => nomatch h) dX0_numberOf_26
    · first | exact absurd c_1 hi0 | exact absurd c_1 hi8 | exact absurd c_2 hi0 | exact absurd c_2 hi8 | exact absurd hi0 c_1 | exact absurd hi8 c_1 | exact absurd hi0 c_2 | exact absurd hi8 c_2
end
section
set_option maxHeartbeats 4000000 in
set_option maxRecDepth 100000 in
theorem mtX0_takeConfigs (l : Launch) (dC : Nat → ClassId) (dI : Nat → Nat → Nat) (cL : ClassId) (cI : ClassId) (qr : Nat) (qc : Nat) (qn : Nat) (cf : Nat → Int32) (nu : Nat → Int64) (hz : Nat) (cv : Int64)  : Met l yX0_takeConfigs wsX0_takeConfigs ({ frames := 1, cells := 0, slots := 0, locals := 21 }) (va_Pc [.ref qr, .long cv] (fun U => U.heap.size = hz ∧ va_P (dC, dI) vwCl (wRG cL cI qr qc qn cf nu) U.heap ∧ va_K (dC, dI) vwCl [(cL, .long), (cI, .int)] U ∧ va_D (fun _ => True) (wRG cL cI qr qc qn cf nu))) (va_Qv (fun _ : Unit => True) (fun _ t => va_P (dC, dI) vwCl (wRG cL cI qr qc qn (k_takeF cf cv 8) nu) t.heap ∧ va_K (dC, dI) vwCl [(cL, .long), (cI, .int)] t ∧ va_D (va_A (wRG cL cI qr qc qn cf nu) hz) (wRG cL cI qr qc qn (k_takeF cf cv 8) nu)) (va_A (wRG cL cI qr qc qn cf nu) hz)) 0 0 (va_A (wRG cL cI qr qc qn cf nu) hz) := by
  refine Met.ofW (cc := cX0_takeConfigs) (maxL := 4) (ret := none) (by decide) rfl ?_
  intro p e s m args below meth c s₁ B hml hv
  obtain ⟨rfl, hsz, hP, hK, hD0⟩ := hv
  have hx := B.exec
  have hb := B.bytes
  have hr := B.returns
  have hts := atoms_spec (ws := wsX0_takeConfigs) B.pre
  have hown : s.vm.findClass RX0 = some m.cls := findClass_of_methodNamed B.named
  have hlocks := B.notSynchronized
  subst hsz
  have hD := hD0.self (sz := s.heap.size)
  generalize hAe : va_A (wRG cL cI qr qc qn cf nu) s.heap.size = A at hD ⊢
  have hA : ∀ q : Nat, s.heap.size ≤ q → A q := fun q h => by rw [← hAe]; exact Or.inr h
  have hS : va_S A s.heap s.heap [] := va_S.rf
  have hP : va_P (dC, dI) vwCl [(qr, .inr (0, [.ref qc, .ref qn])), (qc, .inl (cI, 8, .inl cf)), (qn, .inl (cL, 8, .inr (.inl nu)))] s.heap := hP
  have hD : va_D A [(qr, .inr (0, [.ref qc, .ref qn])), (qc, .inl (cI, 8, .inl cf)), (qn, .inl (cL, 8, .inr (.inl nu)))] := hD
  have hl := lv_entry ([.ref qr, .long cv]) (n := 4) (Nat.le_of_ble_eq_true rfl)
  rw [lg_entry_eq]
  generalize (lg_sl ([.ref qr, .long cv]) ++ List.replicate (4 - (lg_sl ([.ref qr, .long cv])).length) Slot.unset).toArray = ls at hl ⊢
  have hl : lv_has ls 4 [(0, .ref qr), (1, .long cv)] := hl
  have loop : ∀ (n k : Nat) (ls : Array Slot) (H : Heap) (locs : List Loc), k ≤ 8 → 9 ≤ k + n → va_P (dC, dI) vwCl (wRG cL cI qr qc qn (k_takeF cf cv k) nu) H → va_D A (wRG cL cI qr qc qn (k_takeF cf cv k) nu) → va_S A s.heap H locs → lv_has ls 4 [(0, .ref qr), (1, .long cv), (3, .int (nI k))] → W p l e (headSpec wsX0_takeConfigs ({ frames := 1, cells := 0, slots := 0, locals := 21 })).room s m (([.ref qr, .long cv] : List Value).toArray) below meth c H locs 0 0 (MQ below (va_Qv (fun _ : Unit => True) (fun _ t => va_P (dC, dI) vwCl (wRG cL cI qr qc qn (k_takeF cf cv 8) nu) t.heap ∧ va_K (dC, dI) vwCl [(cL, .long), (cI, .int)] t ∧ va_D A (wRG cL cI qr qc qn (k_takeF cf cv 8) nu)) A) (([.ref qr, .long cv] : List Value).toArray) s 0 0 A) (F0 m 2 ls []) := by
    intro n
    induction n with
    | zero =>
      intro k ls H locs h1 h2
      exact absurd h2 (by omega)
    | succ n ih =>
      intro k ls H locs hk hn hP hD hS hl
      refine lv_iload_n hx hb dX0_takeConfigs_2 rfl (lv_at hl 2 rfl) ?_
      refine lv_bipush (v := 8) hx hb dX0_takeConfigs_3 (by decide) ?_
      refine lv_icmp_ge (tgt := 42) hx hb dX0_takeConfigs_5 (by decide) (fun c_1 => ?_) (fun c_1 => ?_)
      · have hk8 : k = 8 := k8_eq hk c_1
        have w9_0 : (k_takeF cf cv 8) = (k_takeF cf cv k) := (by first | rfl | (simp only [c_1, hk8, b2i, decide_true, decide_false, Bool.not_true, Bool.not_false, Bool.and_true, Bool.and_false, Bool.true_and, Bool.false_and, Bool.or_true, Bool.or_false, Bool.true_or, Bool.false_or, reduceIte, or_true, true_or, or_false, false_or, and_true, true_and, and_false, false_and, not_true_eq_false, not_false_eq_true, Bool.false_eq_true, eq_self]; done) | (simp [c_1, hk8]; done))
        have hP9 : va_P (dC, dI) vwCl (wRG cL cI qr qc qn (k_takeF cf cv 8) nu) H := (by rw [w9_0]; exact hP)
        have hD9 : va_D A (wRG cL cI qr qc qn (k_takeF cf cv 8) nu) := (by rw [w9_0]; exact hD)
        exact W.vret hx hb hr (fun t ht hW => ⟨⟨(), rfl, trivial, (by rw [ht]; exact hP9), va_K.moved hW.alike hK, hD9⟩, hS.F ht⟩) hS.2.2 dX0_takeConfigs_42
      · have hk8 : k < 8 := k8_lt hk c_1
        refine lv_aload_n hx hb dX0_takeConfigs_8 rfl (lv_at hl 0 rfl) ?_
        refine va_get (D := (dC, dI)) (ci := 0) (v := .ref qc) (C := RX0) (T := TX0) (N := 2) hx hb hts iwX0 hown hK hP 0 rfl rfl 0 (by decide) (hts (.fieldLink RX0 11 RX0 "configs" "[I") (wa 37 (by decide +kernel) rfl)) (fun _ h9 => h9) rfl dX0_takeConfigs_9 ?_
        refine lv_iload_n hx hb dX0_takeConfigs_12 rfl (lv_at hl 2 rfl) ?_
        refine va_iald hx hb hK hP 1 1 rfl rfl (vp_in_nI hk8 (by omega)) dX0_takeConfigs_13 ?_
        rw [nI_clamp (show k < 2 ^ 31 by omega)]
        refine vp_callSi (W.runS (As := [.int ((k_takeF cf cv k) k)]) (rest := []) ⟨hx, hb, hml, hown, hts⟩ (mtX0_isLocked l ((k_takeF cf cv k) k)) (va_cwS 1 hts (gAll (mc1 (wa 86 (by decide +kernel) rfl) (mc1 (wa 87 (by decide +kernel) rfl) (mc1 (wa 16 (by decide +kernel) rfl) mc0))) (wa 88 (by decide +kernel) rfl) (by decide +kernel)) rfl rfl rfl (by decide +kernel) ⟨Nat.le_of_ble_eq_true rfl, Nat.le_of_ble_eq_true rfl⟩) preEq rfl rfl hl.1 rfl (lv_room (Nat.le_of_ble_eq_true rfl)) dX0_takeConfigs_14 ⟨Nat.le_of_ble_eq_true rfl, Nat.le_of_ble_eq_true rfl⟩) (fun r_2 er_2 => ?_)
        have er_2 : r_2 = (b2i (k_isLocked ((k_takeF cf cv k) k))) := er_2
        subst er_2
        refine lv_if_ne (tgt := 36) hx hb dX0_takeConfigs_17 (by decide) (fun c_3 => ?_) (fun c_3 => ?_)
        · rw [b2i_z] at c_3
          rw [Bool.not_eq_false] at c_3
          refine lv_iinc (v := ((nI k) + 1)) (lv' := [(3, .int ((nI k) + 1)), (0, .ref qr), (1, .long cv)]) hx hb dX0_takeConfigs_36 hl (k := 2) rfl rfl (by decide) rfl (fun ls hl => ?_)
          refine lv_goto (tgt := 2) hx hb dX0_takeConfigs_39 (by decide) ?_
          rw [← nI_succ] at hl
          have e9 : k_takeF cf cv (k + 1) = (k_takeF cf cv k) := by simp [k_takeF, c_1, c_3]
          exact ih (k + 1) ls _ _ (by omega) (by omega) (by rw [e9]; exact hP) (by rw [e9]; exact hD) hS (lv_sub hl [1, 2, 0] rfl)
        · rw [b2i_z] at c_3
          refine lv_aload_n hx hb dX0_takeConfigs_20 rfl (lv_at hl 0 rfl) ?_
          refine va_get (D := (dC, dI)) (ci := 0) (v := .ref qc) (C := RX0) (T := TX0) (N := 2) hx hb hts iwX0 hown hK hP 0 rfl rfl 0 (by decide) (hts (.fieldLink RX0 11 RX0 "configs" "[I") (wa 37 (by decide +kernel) rfl)) (fun _ h9 => h9) rfl dX0_takeConfigs_21 ?_
          refine lv_iload_n hx hb dX0_takeConfigs_24 rfl (lv_at hl 2 rfl) ?_
          refine lv_lload_n hx hb dX0_takeConfigs_25 rfl (lv_at hl 1 rfl) ?_
          refine lv_bipush (v := 8) hx hb dX0_takeConfigs_26 (by decide) ?_
          refine lv_iload_n hx hb dX0_takeConfigs_28 rfl (lv_at hl 2 rfl) ?_
          refine lv_imul hx hb dX0_takeConfigs_29 ?_
          refine lv_lushr (v := (k_ush cv (8 * (nI k)))) hx hb dX0_takeConfigs_30 rfl ?_
          refine lv_l2i (v := Int64.toInt32 (k_ush cv (8 * (nI k)))) hx hb dX0_takeConfigs_31 rfl ?_
          refine vp_callSi (W.runS (As := [.int (Int64.toInt32 (k_ush cv (8 * (nI k))))]) (rest := [.int (nI k), .ref qc]) ⟨hx, hb, hml, hown, hts⟩ (mtX0_legalConfig l (Int64.toInt32 (k_ush cv (8 * (nI k))))) (va_cwS 1 hts (gAll (mc1 (wa 89 (by decide +kernel) rfl) (mc1 (wa 90 (by decide +kernel) rfl) (mc1 (wa 16 (by decide +kernel) rfl) mc0))) (wa 91 (by decide +kernel) rfl) (by decide +kernel)) rfl rfl rfl (by decide +kernel) ⟨Nat.le_of_ble_eq_true rfl, Nat.le_of_ble_eq_true rfl⟩) preEq rfl rfl hl.1 rfl (lv_room (Nat.le_of_ble_eq_true rfl)) dX0_takeConfigs_32 ⟨Nat.le_of_ble_eq_true rfl, Nat.le_of_ble_eq_true rfl⟩) (fun r_4 er_4 => ?_)
          have er_4 : r_4 = (k_legalConfig (Int64.toInt32 (k_ush cv (8 * (nI k))))) := er_4
          subst er_4
          refine va_iast hx hb hK hP hD hS 1 1 rfl rfl (vp_in_nI hk8 (by omega)) dX0_takeConfigs_35 (fun H locs hP hD hS => ?_)
          have hP : va_P (dC, dI) vwCl [(qr, .inr (0, [.ref qc, .ref qn])), (qc, .inl (cI, 8, .inl (upd (k_takeF cf cv k) k (k_legalConfig (Int64.toInt32 (k_ush cv (8 * (nI k)))))))), (qn, .inl (cL, 8, .inr (.inl nu)))] H := by have h9 := hP; simp only [List.set] at h9; rw [nI_clamp (show k < 2 ^ 31 by omega)] at h9; exact h9
          have hD : va_D A [(qr, .inr (0, [.ref qc, .ref qn])), (qc, .inl (cI, 8, .inl (upd (k_takeF cf cv k) k (k_legalConfig (Int64.toInt32 (k_ush cv (8 * (nI k)))))))), (qn, .inl (cL, 8, .inr (.inl nu)))] := by have h9 := hD; simp only [List.set] at h9; rw [nI_clamp (show k < 2 ^ 31 by omega)] at h9; exact h9
          refine lv_iinc (v := ((nI k) + 1)) (lv' := [(3, .int ((nI k) + 1)), (0, .ref qr), (1, .long cv)]) hx hb dX0_takeConfigs_36 hl (k := 2) rfl rfl (by decide) rfl (fun ls hl => ?_)
          refine lv_goto (tgt := 2) hx hb dX0_takeConfigs_39 (by decide) ?_
          rw [← nI_succ] at hl
          have e9 : k_takeF cf cv (k + 1) = (upd (k_takeF cf cv k) k (k_legalConfig (Int64.toInt32 (k_ush cv (8 * (nI k)))))) := by simp [k_takeF, c_1, c_3]
          exact ih (k + 1) ls _ _ (by omega) (by omega) (by rw [e9]; exact hP) (by rw [e9]; exact hD) hS (lv_sub hl [1, 2, 0] rfl)
  refine lv_iconst (v := 0) hx hb dX0_takeConfigs_0 (by decide) ?_
  refine lv_istore_n (lv' := [(3, .int 0), (0, .ref qr), (1, .long cv)]) hx hb dX0_takeConfigs_1 rfl hl (by decide) rfl (fun ls hl => ?_)
  exact loop 9 0 ls _ _ (by omega) (by omega) hP hD hS (lv_sub hl [1, 2, 0] rfl)
set_option maxHeartbeats 4000000 in
set_option maxRecDepth 100000 in
theorem mtX0_takeNumber (l : Launch) (dC : Nat → ClassId) (dI : Nat → Nat → Nat) (cL : ClassId) (cI : ClassId) (qr : Nat) (qc : Nat) (qn : Nat) (cf : Nat → Int32) (nu : Nat → Int64) (hz : Nat) (i : Int32) (v : Int64) (hi0 : ¬ i < 0) (hi8 : i < 8) : Met l yX0_takeNumber wsX0_takeNumber ({ frames := 2, cells := 0, slots := 0, locals := 40 }) (va_Pc [.ref qr, .int i, .long v] (fun U => U.heap.size = hz ∧ va_P (dC, dI) vwCl (wRG cL cI qr qc qn cf nu) U.heap ∧ va_K (dC, dI) vwCl [(cL, .long), (cI, .int)] U ∧ va_D (fun _ => True) (wRG cL cI qr qc qn cf nu))) (va_Qv (fun _ : Unit => True) (fun _ t => va_P (dC, dI) vwCl (wRG cL cI qr qc qn cf (k_takeNumber cf nu (Int32.toNatClampNeg i) v)) t.heap ∧ va_K (dC, dI) vwCl [(cL, .long), (cI, .int)] t ∧ va_D (va_A (wRG cL cI qr qc qn cf nu) hz) (wRG cL cI qr qc qn cf (k_takeNumber cf nu (Int32.toNatClampNeg i) v))) (va_A (wRG cL cI qr qc qn cf nu) hz)) 0 0 (va_A (wRG cL cI qr qc qn cf nu) hz) := by
  refine Met.ofW (cc := cX0_takeNumber) (maxL := 5) (ret := none) (by decide) rfl ?_
  intro p e s m args below meth c s₁ B hml hv
  obtain ⟨rfl, hsz, hP, hK, hD0⟩ := hv
  have hx := B.exec
  have hb := B.bytes
  have hr := B.returns
  have hts := atoms_spec (ws := wsX0_takeNumber) B.pre
  have hown : s.vm.findClass RX0 = some m.cls := findClass_of_methodNamed B.named
  have hlocks := B.notSynchronized
  subst hsz
  have hD := hD0.self (sz := s.heap.size)
  generalize hAe : va_A (wRG cL cI qr qc qn cf nu) s.heap.size = A at hD ⊢
  have hA : ∀ q : Nat, s.heap.size ≤ q → A q := fun q h => by rw [← hAe]; exact Or.inr h
  have hS : va_S A s.heap s.heap [] := va_S.rf
  have hP : va_P (dC, dI) vwCl [(qr, .inr (0, [.ref qc, .ref qn])), (qc, .inl (cI, 8, .inl cf)), (qn, .inl (cL, 8, .inr (.inl nu)))] s.heap := hP
  have hD : va_D A [(qr, .inr (0, [.ref qc, .ref qn])), (qc, .inl (cI, 8, .inl cf)), (qn, .inl (cL, 8, .inr (.inl nu)))] := hD
  have hl := lv_entry ([.ref qr, .int i, .long v]) (n := 5) (Nat.le_of_ble_eq_true rfl)
  rw [lg_entry_eq]
  generalize (lg_sl ([.ref qr, .int i, .long v]) ++ List.replicate (5 - (lg_sl ([.ref qr, .int i, .long v])).length) Slot.unset).toArray = ls at hl ⊢
  have hl : lv_has ls 5 [(0, .ref qr), (1, .int i), (2, .long v)] := hl
  refine lv_iload_n hx hb dX0_takeNumber_0 rfl (lv_at hl 1 rfl) ?_
  refine lv_if_lt (tgt := 10) hx hb dX0_takeNumber_1 (by decide) (fun c_1 => ?_) (fun c_1 => ?_)
  · first | exact absurd c_1 hi0 | exact absurd c_1 hi8 | exact absurd hi0 c_1 | exact absurd hi8 c_1
  · refine lv_iload_n hx hb dX0_takeNumber_4 rfl (lv_at hl 1 rfl) ?_
    refine lv_bipush (v := 8) hx hb dX0_takeNumber_5 (by decide) ?_
    refine lv_icmp_lt (tgt := 20) hx hb dX0_takeNumber_7 (by decide) (fun c_2 => ?_) (fun c_2 => ?_)
    · refine lv_iload_n hx hb dX0_takeNumber_20 rfl (lv_at hl 1 rfl) ?_
      refine lv_iconst (v := 1) hx hb dX0_takeNumber_21 (by decide) ?_
      refine lv_iadd hx hb dX0_takeNumber_22 ?_
      refine lv_bipush (v := 8) hx hb dX0_takeNumber_23 (by decide) ?_
      refine lv_icmp_ge (tgt := 46) hx hb dX0_takeNumber_25 (by decide) (fun c_3 => ?_) (fun c_3 => ?_)
      · have n1 : ¬ (Int32.toNatClampNeg i + 1 < 8) := i8_no hi0 hi8 c_3
        refine lv_iconst (v := 0) hx hb dX0_takeNumber_46 (by decide) ?_
        refine lv_istore (lv' := [(4, .int 0), (0, .ref qr), (1, .int i), (2, .long v)]) hx hb dX0_takeNumber_47 hl (by decide) rfl (fun ls hl => ?_)
        refine lv_aload_n hx hb dX0_takeNumber_49 rfl (lv_at hl 1 rfl) ?_
        refine va_get (D := (dC, dI)) (ci := 0) (v := .ref qc) (C := RX0) (T := TX0) (N := 2) hx hb hts iwX0 hown hK hP 0 rfl rfl 0 (by decide) (hts (.fieldLink RX0 11 RX0 "configs" "[I") (wa 37 (by decide +kernel) rfl)) (fun _ h9 => h9) rfl dX0_takeNumber_50 ?_
        refine lv_iload_n hx hb dX0_takeNumber_53 rfl (lv_at hl 2 rfl) ?_
        refine va_iald hx hb hK hP 1 1 rfl rfl (in8 hi0 hi8) dX0_takeNumber_54 ?_
        refine vp_callSi (W.runS (As := [.int (cf (Int32.toNatClampNeg i))]) (rest := []) ⟨hx, hb, hml, hown, hts⟩ (mtX0_isLocked l (cf (Int32.toNatClampNeg i))) (va_cwS 1 hts (gAll (mc1 (wa 86 (by decide +kernel) rfl) (mc1 (wa 87 (by decide +kernel) rfl) (mc1 (wa 16 (by decide +kernel) rfl) mc0))) (wa 88 (by decide +kernel) rfl) (by decide +kernel)) rfl rfl rfl (by decide +kernel) ⟨Nat.le_of_ble_eq_true rfl, Nat.le_of_ble_eq_true rfl⟩) preEq rfl rfl hl.1 rfl (lv_room (Nat.le_of_ble_eq_true rfl)) dX0_takeNumber_55 ⟨Nat.le_of_ble_eq_true rfl, Nat.le_of_ble_eq_true rfl⟩) (fun r_4 er_4 => ?_)
        have er_4 : r_4 = (b2i (k_isLocked (cf (Int32.toNatClampNeg i)))) := er_4
        subst er_4
        refine lv_if_ne (tgt := 77) hx hb dX0_takeNumber_58 (by decide) (fun c_5 => ?_) (fun c_5 => ?_)
        · rw [b2i_z] at c_5
          rw [Bool.not_eq_false] at c_5
          have w9_0 : (k_takeNumber cf nu (Int32.toNatClampNeg i) v) = nu := (by first | rfl | (simp only [k_takeNumber, k_isFixed, c_1, c_2, c_3, c_5, n1, b2i, decide_true, decide_false, Bool.not_true, Bool.not_false, Bool.and_true, Bool.and_false, Bool.true_and, Bool.false_and, Bool.or_true, Bool.or_false, Bool.true_or, Bool.false_or, reduceIte, or_true, true_or, or_false, false_or, and_true, true_and, and_false, false_and, not_true_eq_false, not_false_eq_true, Bool.false_eq_true, eq_self]; done) | (simp [k_takeNumber, k_isFixed, c_1, c_2, c_3, c_5, n1]; done))
          have hP9 : va_P (dC, dI) vwCl (wRG cL cI qr qc qn cf (k_takeNumber cf nu (Int32.toNatClampNeg i) v)) s.heap := (by rw [w9_0]; exact hP)
          have hD9 : va_D A (wRG cL cI qr qc qn cf (k_takeNumber cf nu (Int32.toNatClampNeg i) v)) := (by rw [w9_0]; exact hD)
          exact W.vret hx hb hr (fun t ht hW => ⟨⟨(), rfl, trivial, (by rw [ht]; exact hP9), va_K.moved hW.alike hK, hD9⟩, hS.F ht⟩) hS.2.2 dX0_takeNumber_77
        · rw [b2i_z] at c_5
          refine lv_iload hx hb dX0_takeNumber_61 (lv_at hl 0 rfl) ?_
          refine lv_if_ne (tgt := 77) hx hb dX0_takeNumber_63 (by decide) (fun c_6 => ?_) (fun c_6 => ?_)
          · first | exact absurd c_6 (by decide) | exact absurd (by decide) c_6
          · refine lv_aload_n hx hb dX0_takeNumber_66 rfl (lv_at hl 1 rfl) ?_
            refine va_get (D := (dC, dI)) (ci := 0) (v := .ref qn) (C := RX0) (T := TX0) (N := 2) hx hb hts iwX0 hown hK hP 0 rfl rfl 1 (by decide) (hts (.fieldLink RX0 15 RX0 "numbers" "[J") (wa 38 (by decide +kernel) rfl)) (fun _ h9 => h9) rfl dX0_takeNumber_67 ?_
            refine lv_iload_n hx hb dX0_takeNumber_70 rfl (lv_at hl 2 rfl) ?_
            refine lv_lload_n hx hb dX0_takeNumber_71 rfl (lv_at hl 3 rfl) ?_
            refine lv_ldc2 (v := 18014398509481983) hx hb hown (hts (.constantLong RX0 37 18014398509481983) (wa 242 (by decide +kernel) rfl)) dX0_takeNumber_72 ?_
            refine lv_land hx hb dX0_takeNumber_75 ?_
            refine va_last hx hb hK hP hD hS 2 0 rfl rfl (in8 hi0 hi8) dX0_takeNumber_76 (fun H locs hP hD hS => ?_)
            have hP : va_P (dC, dI) vwCl [(qr, .inr (0, [.ref qc, .ref qn])), (qc, .inl (cI, 8, .inl cf)), (qn, .inl (cL, 8, .inr (.inl (vp_updL nu (Int32.toNatClampNeg i) (v &&& 18014398509481983)))))] H := hP
            have hD : va_D A [(qr, .inr (0, [.ref qc, .ref qn])), (qc, .inl (cI, 8, .inl cf)), (qn, .inl (cL, 8, .inr (.inl (vp_updL nu (Int32.toNatClampNeg i) (v &&& 18014398509481983)))))] := hD
            have w9_0 : (k_takeNumber cf nu (Int32.toNatClampNeg i) v) = (vp_updL nu (Int32.toNatClampNeg i) (v &&& 18014398509481983)) := (by first | rfl | (simp only [k_takeNumber, k_isFixed, c_1, c_2, c_3, c_5, n1, b2i, decide_true, decide_false, Bool.not_true, Bool.not_false, Bool.and_true, Bool.and_false, Bool.true_and, Bool.false_and, Bool.or_true, Bool.or_false, Bool.true_or, Bool.false_or, reduceIte, or_true, true_or, or_false, false_or, and_true, true_and, and_false, false_and, not_true_eq_false, not_false_eq_true, Bool.false_eq_true, eq_self]; done) | (simp [k_takeNumber, k_isFixed, c_1, c_2, c_3, c_5, n1]; done))
            have hP9 : va_P (dC, dI) vwCl (wRG cL cI qr qc qn cf (k_takeNumber cf nu (Int32.toNatClampNeg i) v)) H := (by rw [w9_0]; exact hP)
            have hD9 : va_D A (wRG cL cI qr qc qn cf (k_takeNumber cf nu (Int32.toNatClampNeg i) v)) := (by rw [w9_0]; exact hD)
            exact W.vret hx hb hr (fun t ht hW => ⟨⟨(), rfl, trivial, (by rw [ht]; exact hP9), va_K.moved hW.alike hK, hD9⟩, hS.F ht⟩) hS.2.2 dX0_takeNumber_77
      · have n1 : Int32.toNatClampNeg i + 1 < 8 := i8_yes hi0 hi8 c_3
        refine lv_aload_n hx hb dX0_takeNumber_28 rfl (lv_at hl 0 rfl) ?_
        refine va_get (D := (dC, dI)) (ci := 0) (v := .ref qc) (C := RX0) (T := TX0) (N := 2) hx hb hts iwX0 hown hK hP 0 rfl rfl 0 (by decide) (hts (.fieldLink RX0 11 RX0 "configs" "[I") (wa 37 (by decide +kernel) rfl)) (fun _ h9 => h9) rfl dX0_takeNumber_29 ?_
        refine lv_iload_n hx hb dX0_takeNumber_32 rfl (lv_at hl 1 rfl) ?_
        refine lv_iconst (v := 1) hx hb dX0_takeNumber_33 (by decide) ?_
        refine lv_iadd hx hb dX0_takeNumber_34 ?_
        refine va_iald hx hb hK hP 1 1 rfl rfl (i8_in hi0 hi8 n1) dX0_takeNumber_35 ?_
        rw [i8_cl hi0 hi8]
        refine vp_callSi (W.runS (As := [.int (cf (Int32.toNatClampNeg i + 1))]) (rest := []) ⟨hx, hb, hml, hown, hts⟩ (mtX0_fixesNumberBefore l (cf (Int32.toNatClampNeg i + 1))) (va_cwS 1 hts (gAll (mc1 (wa 236 (by decide +kernel) rfl) (mc1 (wa 237 (by decide +kernel) rfl) (mc1 (wa 16 (by decide +kernel) rfl) mc0))) (wa 238 (by decide +kernel) rfl) (by decide +kernel)) rfl rfl rfl (by decide +kernel) ⟨Nat.le_of_ble_eq_true rfl, Nat.le_of_ble_eq_true rfl⟩) preEq rfl rfl hl.1 rfl (lv_room (Nat.le_of_ble_eq_true rfl)) dX0_takeNumber_36 ⟨Nat.le_of_ble_eq_true rfl, Nat.le_of_ble_eq_true rfl⟩) (fun r_7 er_7 => ?_)
        have er_7 : r_7 = (b2i (k_fixes (cf (Int32.toNatClampNeg i + 1)))) := er_7
        subst er_7
        refine lv_if_eq (tgt := 46) hx hb dX0_takeNumber_39 (by decide) (fun c_8 => ?_) (fun c_8 => ?_)
        · rw [b2i_z] at c_8
          refine lv_iconst (v := 0) hx hb dX0_takeNumber_46 (by decide) ?_
          refine lv_istore (lv' := [(4, .int 0), (0, .ref qr), (1, .int i), (2, .long v)]) hx hb dX0_takeNumber_47 hl (by decide) rfl (fun ls hl => ?_)
          refine lv_aload_n hx hb dX0_takeNumber_49 rfl (lv_at hl 1 rfl) ?_
          refine va_get (D := (dC, dI)) (ci := 0) (v := .ref qc) (C := RX0) (T := TX0) (N := 2) hx hb hts iwX0 hown hK hP 0 rfl rfl 0 (by decide) (hts (.fieldLink RX0 11 RX0 "configs" "[I") (wa 37 (by decide +kernel) rfl)) (fun _ h9 => h9) rfl dX0_takeNumber_50 ?_
          refine lv_iload_n hx hb dX0_takeNumber_53 rfl (lv_at hl 2 rfl) ?_
          refine va_iald hx hb hK hP 1 1 rfl rfl (in8 hi0 hi8) dX0_takeNumber_54 ?_
          refine vp_callSi (W.runS (As := [.int (cf (Int32.toNatClampNeg i))]) (rest := []) ⟨hx, hb, hml, hown, hts⟩ (mtX0_isLocked l (cf (Int32.toNatClampNeg i))) (va_cwS 1 hts (gAll (mc1 (wa 86 (by decide +kernel) rfl) (mc1 (wa 87 (by decide +kernel) rfl) (mc1 (wa 16 (by decide +kernel) rfl) mc0))) (wa 88 (by decide +kernel) rfl) (by decide +kernel)) rfl rfl rfl (by decide +kernel) ⟨Nat.le_of_ble_eq_true rfl, Nat.le_of_ble_eq_true rfl⟩) preEq rfl rfl hl.1 rfl (lv_room (Nat.le_of_ble_eq_true rfl)) dX0_takeNumber_55 ⟨Nat.le_of_ble_eq_true rfl, Nat.le_of_ble_eq_true rfl⟩) (fun r_9 er_9 => ?_)
          have er_9 : r_9 = (b2i (k_isLocked (cf (Int32.toNatClampNeg i)))) := er_9
          subst er_9
          refine lv_if_ne (tgt := 77) hx hb dX0_takeNumber_58 (by decide) (fun c_10 => ?_) (fun c_10 => ?_)
          · rw [b2i_z] at c_10
            rw [Bool.not_eq_false] at c_10
            have w9_0 : (k_takeNumber cf nu (Int32.toNatClampNeg i) v) = nu := (by first | rfl | (simp only [k_takeNumber, k_isFixed, c_1, c_2, c_3, c_8, c_10, n1, b2i, decide_true, decide_false, Bool.not_true, Bool.not_false, Bool.and_true, Bool.and_false, Bool.true_and, Bool.false_and, Bool.or_true, Bool.or_false, Bool.true_or, Bool.false_or, reduceIte, or_true, true_or, or_false, false_or, and_true, true_and, and_false, false_and, not_true_eq_false, not_false_eq_true, Bool.false_eq_true, eq_self]; done) | (simp [k_takeNumber, k_isFixed, c_1, c_2, c_3, c_8, c_10, n1]; done))
            have hP9 : va_P (dC, dI) vwCl (wRG cL cI qr qc qn cf (k_takeNumber cf nu (Int32.toNatClampNeg i) v)) s.heap := (by rw [w9_0]; exact hP)
            have hD9 : va_D A (wRG cL cI qr qc qn cf (k_takeNumber cf nu (Int32.toNatClampNeg i) v)) := (by rw [w9_0]; exact hD)
            exact W.vret hx hb hr (fun t ht hW => ⟨⟨(), rfl, trivial, (by rw [ht]; exact hP9), va_K.moved hW.alike hK, hD9⟩, hS.F ht⟩) hS.2.2 dX0_takeNumber_77
          · rw [b2i_z] at c_10
            refine lv_iload hx hb dX0_takeNumber_61 (lv_at hl 0 rfl) ?_
            refine lv_if_ne (tgt := 77) hx hb dX0_takeNumber_63 (by decide) (fun c_11 => ?_) (fun c_11 => ?_)
            · first | exact absurd c_11 (by decide) | exact absurd (by decide) c_11
            · refine lv_aload_n hx hb dX0_takeNumber_66 rfl (lv_at hl 1 rfl) ?_
              refine va_get (D := (dC, dI)) (ci := 0) (v := .ref qn) (C := RX0) (T := TX0) (N := 2) hx hb hts iwX0 hown hK hP 0 rfl rfl 1 (by decide) (hts (.fieldLink RX0 15 RX0 "numbers" "[J") (wa 38 (by decide +kernel) rfl)) (fun _ h9 => h9) rfl dX0_takeNumber_67 ?_
              refine lv_iload_n hx hb dX0_takeNumber_70 rfl (lv_at hl 2 rfl) ?_
              refine lv_lload_n hx hb dX0_takeNumber_71 rfl (lv_at hl 3 rfl) ?_
              refine lv_ldc2 (v := 18014398509481983) hx hb hown (hts (.constantLong RX0 37 18014398509481983) (wa 242 (by decide +kernel) rfl)) dX0_takeNumber_72 ?_
              refine lv_land hx hb dX0_takeNumber_75 ?_
              refine va_last hx hb hK hP hD hS 2 0 rfl rfl (in8 hi0 hi8) dX0_takeNumber_76 (fun H locs hP hD hS => ?_)
              have hP : va_P (dC, dI) vwCl [(qr, .inr (0, [.ref qc, .ref qn])), (qc, .inl (cI, 8, .inl cf)), (qn, .inl (cL, 8, .inr (.inl (vp_updL nu (Int32.toNatClampNeg i) (v &&& 18014398509481983)))))] H := hP
              have hD : va_D A [(qr, .inr (0, [.ref qc, .ref qn])), (qc, .inl (cI, 8, .inl cf)), (qn, .inl (cL, 8, .inr (.inl (vp_updL nu (Int32.toNatClampNeg i) (v &&& 18014398509481983)))))] := hD
              have w9_0 : (k_takeNumber cf nu (Int32.toNatClampNeg i) v) = (vp_updL nu (Int32.toNatClampNeg i) (v &&& 18014398509481983)) := (by first | rfl | (simp only [k_takeNumber, k_isFixed, c_1, c_2, c_3, c_8, c_10, n1, b2i, decide_true, decide_false, Bool.not_true, Bool.not_false, Bool.and_true, Bool.and_false, Bool.true_and, Bool.false_and, Bool.or_true, Bool.or_false, Bool.true_or, Bool.false_or, reduceIte, or_true, true_or, or_false, false_or, and_true, true_and, and_false, false_and, not_true_eq_false, not_false_eq_true, Bool.false_eq_true, eq_self]; done) | (simp [k_takeNumber, k_isFixed, c_1, c_2, c_3, c_8, c_10, n1]; done))
              have hP9 : va_P (dC, dI) vwCl (wRG cL cI qr qc qn cf (k_takeNumber cf nu (Int32.toNatClampNeg i) v)) H := (by rw [w9_0]; exact hP)
              have hD9 : va_D A (wRG cL cI qr qc qn cf (k_takeNumber cf nu (Int32.toNatClampNeg i) v)) := (by rw [w9_0]; exact hD)
              exact W.vret hx hb hr (fun t ht hW => ⟨⟨(), rfl, trivial, (by rw [ht]; exact hP9), va_K.moved hW.alike hK, hD9⟩, hS.F ht⟩) hS.2.2 dX0_takeNumber_77
        · rw [b2i_z] at c_8
          rw [Bool.not_eq_false] at c_8
          refine lv_iconst (v := 1) hx hb dX0_takeNumber_42 (by decide) ?_
          refine lv_goto (tgt := 47) hx hb dX0_takeNumber_43 (by decide) ?_
          refine lv_istore (lv' := [(4, .int 1), (0, .ref qr), (1, .int i), (2, .long v)]) hx hb dX0_takeNumber_47 hl (by decide) rfl (fun ls hl => ?_)
          refine lv_aload_n hx hb dX0_takeNumber_49 rfl (lv_at hl 1 rfl) ?_
          refine va_get (D := (dC, dI)) (ci := 0) (v := .ref qc) (C := RX0) (T := TX0) (N := 2) hx hb hts iwX0 hown hK hP 0 rfl rfl 0 (by decide) (hts (.fieldLink RX0 11 RX0 "configs" "[I") (wa 37 (by decide +kernel) rfl)) (fun _ h9 => h9) rfl dX0_takeNumber_50 ?_
          refine lv_iload_n hx hb dX0_takeNumber_53 rfl (lv_at hl 2 rfl) ?_
          refine va_iald hx hb hK hP 1 1 rfl rfl (in8 hi0 hi8) dX0_takeNumber_54 ?_
          refine vp_callSi (W.runS (As := [.int (cf (Int32.toNatClampNeg i))]) (rest := []) ⟨hx, hb, hml, hown, hts⟩ (mtX0_isLocked l (cf (Int32.toNatClampNeg i))) (va_cwS 1 hts (gAll (mc1 (wa 86 (by decide +kernel) rfl) (mc1 (wa 87 (by decide +kernel) rfl) (mc1 (wa 16 (by decide +kernel) rfl) mc0))) (wa 88 (by decide +kernel) rfl) (by decide +kernel)) rfl rfl rfl (by decide +kernel) ⟨Nat.le_of_ble_eq_true rfl, Nat.le_of_ble_eq_true rfl⟩) preEq rfl rfl hl.1 rfl (lv_room (Nat.le_of_ble_eq_true rfl)) dX0_takeNumber_55 ⟨Nat.le_of_ble_eq_true rfl, Nat.le_of_ble_eq_true rfl⟩) (fun r_12 er_12 => ?_)
          have er_12 : r_12 = (b2i (k_isLocked (cf (Int32.toNatClampNeg i)))) := er_12
          subst er_12
          refine lv_if_ne (tgt := 77) hx hb dX0_takeNumber_58 (by decide) (fun c_13 => ?_) (fun c_13 => ?_)
          · rw [b2i_z] at c_13
            rw [Bool.not_eq_false] at c_13
            have w9_0 : (k_takeNumber cf nu (Int32.toNatClampNeg i) v) = nu := (by first | rfl | (simp only [k_takeNumber, k_isFixed, c_1, c_2, c_3, c_8, c_13, n1, b2i, decide_true, decide_false, Bool.not_true, Bool.not_false, Bool.and_true, Bool.and_false, Bool.true_and, Bool.false_and, Bool.or_true, Bool.or_false, Bool.true_or, Bool.false_or, reduceIte, or_true, true_or, or_false, false_or, and_true, true_and, and_false, false_and, not_true_eq_false, not_false_eq_true, Bool.false_eq_true, eq_self]; done) | (simp [k_takeNumber, k_isFixed, c_1, c_2, c_3, c_8, c_13, n1]; done))
            have hP9 : va_P (dC, dI) vwCl (wRG cL cI qr qc qn cf (k_takeNumber cf nu (Int32.toNatClampNeg i) v)) s.heap := (by rw [w9_0]; exact hP)
            have hD9 : va_D A (wRG cL cI qr qc qn cf (k_takeNumber cf nu (Int32.toNatClampNeg i) v)) := (by rw [w9_0]; exact hD)
            exact W.vret hx hb hr (fun t ht hW => ⟨⟨(), rfl, trivial, (by rw [ht]; exact hP9), va_K.moved hW.alike hK, hD9⟩, hS.F ht⟩) hS.2.2 dX0_takeNumber_77
          · rw [b2i_z] at c_13
            refine lv_iload hx hb dX0_takeNumber_61 (lv_at hl 0 rfl) ?_
            refine lv_if_ne (tgt := 77) hx hb dX0_takeNumber_63 (by decide) (fun c_14 => ?_) (fun c_14 => ?_)
            · have w9_0 : (k_takeNumber cf nu (Int32.toNatClampNeg i) v) = nu := (by first | rfl | (simp only [k_takeNumber, k_isFixed, c_1, c_2, c_3, c_8, c_13, n1, b2i, decide_true, decide_false, Bool.not_true, Bool.not_false, Bool.and_true, Bool.and_false, Bool.true_and, Bool.false_and, Bool.or_true, Bool.or_false, Bool.true_or, Bool.false_or, reduceIte, or_true, true_or, or_false, false_or, and_true, true_and, and_false, false_and, not_true_eq_false, not_false_eq_true, Bool.false_eq_true, eq_self]; done) | (simp [k_takeNumber, k_isFixed, c_1, c_2, c_3, c_8, c_13, n1]; done))
              have hP9 : va_P (dC, dI) vwCl (wRG cL cI qr qc qn cf (k_takeNumber cf nu (Int32.toNatClampNeg i) v)) s.heap := (by rw [w9_0]; exact hP)
              have hD9 : va_D A (wRG cL cI qr qc qn cf (k_takeNumber cf nu (Int32.toNatClampNeg i) v)) := (by rw [w9_0]; exact hD)
              exact W.vret hx hb hr (fun t ht hW => ⟨⟨(), rfl, trivial, (by rw [ht]; exact hP9), va_K.moved hW.alike hK, hD9⟩, hS.F ht⟩) hS.2.2 dX0_takeNumber_77
            · first | exact absurd c_14 (by decide) | exact absurd (by decide) c_14
    · first | exact absurd c_1 hi0 | exact absurd c_1 hi8 | exact absurd c_2 hi0 | exact absurd c_2 hi8 | exact absurd hi0 c_1 | exact absurd hi8 c_1 | exact absurd hi0 c_2 | exact absurd hi8 c_2
end
section
set_option maxHeartbeats 4000000 in
set_option maxRecDepth 100000 in
theorem mtX1_isAccess (l : Launch) (ad : Int64) (ac : Int32) (md : Int32) (sz : Int32) : Met l yX1_isAccess wsX1_isAccess ({ frames := 0, cells := 0, slots := 0, locals := 0 }) (fun v _ => v = ([.long ad, .int ac, .int md, .int sz] : List Value).toArray) (vp_Si (fun r => r = b2i (k_isAccess ad ac md sz))) 0 0 (fun _ => False) := by
  refine Met.ofW (cc := cX1_isAccess) (maxL := 5) (ret := (some .boolean)) (by decide) rfl ?_
  intro p e s m args below meth c s₁ B hml hv
  have hv : args = ([.long ad, .int ac, .int md, .int sz] : List Value).toArray := hv
  subst hv
  have hx := B.exec
  have hb := B.bytes
  have hr := B.returns
  have hts := atoms_spec (ws := wsX1_isAccess) B.pre
  have hown : s.vm.findClass RX1 = some m.cls := findClass_of_methodNamed B.named
  have hlocks := B.notSynchronized
  have hl := lv_entry ([.long ad, .int ac, .int md, .int sz]) (n := 5) (Nat.le_of_ble_eq_true rfl)
  rw [lg_entry_eq]
  generalize (lg_sl ([.long ad, .int ac, .int md, .int sz]) ++ List.replicate (5 - (lg_sl ([.long ad, .int ac, .int md, .int sz])).length) Slot.unset).toArray = ls at hl ⊢
  have hl : lv_has ls 5 [(0, .long ad), (2, .int ac), (3, .int md), (4, .int sz)] := hl
  refine lv_iload_n hx hb dX1_isAccess_0 rfl (lv_at hl 1 rfl) ?_
  refine lv_if_eq (tgt := 14) hx hb dX1_isAccess_1 (by decide) (fun c_1 => ?_) (fun c_1 => ?_)
  · have ha : (decide (ac = 0) || decide (ac = 1) || decide (ac = 2)) = true := by simp [c_1]
    refine lv_iload_n hx hb dX1_isAccess_14 rfl (lv_at hl 2 rfl) ?_
    refine lv_if_eq (tgt := 28) hx hb dX1_isAccess_15 (by decide) (fun c_2 => ?_) (fun c_2 => ?_)
    · have hm : (decide (md = 0) || decide (md = 1) || decide (md = 3)) = true := by simp [c_2]
      refine lv_iload hx hb dX1_isAccess_28 (lv_at hl 3 rfl) ?_
      refine lv_iconst (v := 1) hx hb dX1_isAccess_30 (by decide) ?_
      refine lv_icmp_eq (tgt := 53) hx hb dX1_isAccess_31 (by decide) (fun c_3 => ?_) (fun c_3 => ?_)
      · have hs : (decide (sz = 1) || decide (sz = 2) || decide (sz = 4) || decide (sz = 8)) = true := by simp [c_3]
        refine lv_lload_n hx hb dX1_isAccess_53 rfl (lv_at hl 0 rfl) ?_
        refine lv_ldc2 (v := 4095) hx hb hown (hts (.constantLong RX1 88 4095) (wa 253 (by decide +kernel) rfl)) dX1_isAccess_54 ?_
        refine lv_land hx hb dX1_isAccess_57 ?_
        refine lv_iload hx hb dX1_isAccess_58 (lv_at hl 3 rfl) ?_
        refine lv_i2l (v := Int32.toInt64 sz) hx hb dX1_isAccess_60 rfl ?_
        refine lv_ladd hx hb dX1_isAccess_61 ?_
        refine lv_ldc2 (v := 4096) hx hb hown (hts (.constantLong RX1 90 4096) (wa 254 (by decide +kernel) rfl)) dX1_isAccess_62 ?_
        refine W.lcmp hx hb dX1_isAccess_65 ?_
        refine lv_if_gt (tgt := 73) hx hb dX1_isAccess_66 (by decide) (fun c_4 => ?_) (fun c_4 => ?_)
        · rw [lg_cmp_gt] at c_4
          refine lv_iconst (v := 0) hx hb dX1_isAccess_73 (by decide) ?_
          exact W.zret (v := 0) hx hb hr rfl (fun t ht hW => ⟨0, rfl, (by first | rfl | (simp only [k_isAccess, b2i, ha, hm, hs, c_4, b2i, decide_true, decide_false, Bool.not_true, Bool.not_false, Bool.and_true, Bool.and_false, Bool.true_and, Bool.false_and, Bool.or_true, Bool.or_false, Bool.true_or, Bool.false_or, reduceIte, or_true, true_or, or_false, false_or, and_true, true_and, and_false, false_and, not_true_eq_false, not_false_eq_true, Bool.false_eq_true, eq_self]; done) | (simp [k_isAccess, b2i, ha, hm, hs, c_4]; done)), ht⟩) (fun _ h => nomatch h) dX1_isAccess_74
        · rw [lg_cmp_gt] at c_4
          refine lv_iconst (v := 1) hx hb dX1_isAccess_69 (by decide) ?_
          refine lv_goto (tgt := 74) hx hb dX1_isAccess_70 (by decide) ?_
          exact W.zret (v := 1) hx hb hr rfl (fun t ht hW => ⟨1, rfl, (by first | rfl | (simp only [k_isAccess, b2i, ha, hm, hs, c_4, b2i, decide_true, decide_false, Bool.not_true, Bool.not_false, Bool.and_true, Bool.and_false, Bool.true_and, Bool.false_and, Bool.or_true, Bool.or_false, Bool.true_or, Bool.false_or, reduceIte, or_true, true_or, or_false, false_or, and_true, true_and, and_false, false_and, not_true_eq_false, not_false_eq_true, Bool.false_eq_true, eq_self]; done) | (simp [k_isAccess, b2i, ha, hm, hs, c_4]; done)), ht⟩) (fun _ h => nomatch h) dX1_isAccess_74
      · refine lv_iload hx hb dX1_isAccess_34 (lv_at hl 3 rfl) ?_
        refine lv_iconst (v := 2) hx hb dX1_isAccess_36 (by decide) ?_
        refine lv_icmp_eq (tgt := 53) hx hb dX1_isAccess_37 (by decide) (fun c_5 => ?_) (fun c_5 => ?_)
        · have hs : (decide (sz = 1) || decide (sz = 2) || decide (sz = 4) || decide (sz = 8)) = true := by simp [c_3, c_5]
          refine lv_lload_n hx hb dX1_isAccess_53 rfl (lv_at hl 0 rfl) ?_
          refine lv_ldc2 (v := 4095) hx hb hown (hts (.constantLong RX1 88 4095) (wa 253 (by decide +kernel) rfl)) dX1_isAccess_54 ?_
          refine lv_land hx hb dX1_isAccess_57 ?_
          refine lv_iload hx hb dX1_isAccess_58 (lv_at hl 3 rfl) ?_
          refine lv_i2l (v := Int32.toInt64 sz) hx hb dX1_isAccess_60 rfl ?_
          refine lv_ladd hx hb dX1_isAccess_61 ?_
          refine lv_ldc2 (v := 4096) hx hb hown (hts (.constantLong RX1 90 4096) (wa 254 (by decide +kernel) rfl)) dX1_isAccess_62 ?_
          refine W.lcmp hx hb dX1_isAccess_65 ?_
          refine lv_if_gt (tgt := 73) hx hb dX1_isAccess_66 (by decide) (fun c_6 => ?_) (fun c_6 => ?_)
          · rw [lg_cmp_gt] at c_6
            refine lv_iconst (v := 0) hx hb dX1_isAccess_73 (by decide) ?_
            exact W.zret (v := 0) hx hb hr rfl (fun t ht hW => ⟨0, rfl, (by first | rfl | (simp only [k_isAccess, b2i, ha, hm, hs, c_6, b2i, decide_true, decide_false, Bool.not_true, Bool.not_false, Bool.and_true, Bool.and_false, Bool.true_and, Bool.false_and, Bool.or_true, Bool.or_false, Bool.true_or, Bool.false_or, reduceIte, or_true, true_or, or_false, false_or, and_true, true_and, and_false, false_and, not_true_eq_false, not_false_eq_true, Bool.false_eq_true, eq_self]; done) | (simp [k_isAccess, b2i, ha, hm, hs, c_6]; done)), ht⟩) (fun _ h => nomatch h) dX1_isAccess_74
          · rw [lg_cmp_gt] at c_6
            refine lv_iconst (v := 1) hx hb dX1_isAccess_69 (by decide) ?_
            refine lv_goto (tgt := 74) hx hb dX1_isAccess_70 (by decide) ?_
            exact W.zret (v := 1) hx hb hr rfl (fun t ht hW => ⟨1, rfl, (by first | rfl | (simp only [k_isAccess, b2i, ha, hm, hs, c_6, b2i, decide_true, decide_false, Bool.not_true, Bool.not_false, Bool.and_true, Bool.and_false, Bool.true_and, Bool.false_and, Bool.or_true, Bool.or_false, Bool.true_or, Bool.false_or, reduceIte, or_true, true_or, or_false, false_or, and_true, true_and, and_false, false_and, not_true_eq_false, not_false_eq_true, Bool.false_eq_true, eq_self]; done) | (simp [k_isAccess, b2i, ha, hm, hs, c_6]; done)), ht⟩) (fun _ h => nomatch h) dX1_isAccess_74
        · refine lv_iload hx hb dX1_isAccess_40 (lv_at hl 3 rfl) ?_
          refine lv_iconst (v := 4) hx hb dX1_isAccess_42 (by decide) ?_
          refine lv_icmp_eq (tgt := 53) hx hb dX1_isAccess_43 (by decide) (fun c_7 => ?_) (fun c_7 => ?_)
          · have hs : (decide (sz = 1) || decide (sz = 2) || decide (sz = 4) || decide (sz = 8)) = true := by simp [c_3, c_5, c_7]
            refine lv_lload_n hx hb dX1_isAccess_53 rfl (lv_at hl 0 rfl) ?_
            refine lv_ldc2 (v := 4095) hx hb hown (hts (.constantLong RX1 88 4095) (wa 253 (by decide +kernel) rfl)) dX1_isAccess_54 ?_
            refine lv_land hx hb dX1_isAccess_57 ?_
            refine lv_iload hx hb dX1_isAccess_58 (lv_at hl 3 rfl) ?_
            refine lv_i2l (v := Int32.toInt64 sz) hx hb dX1_isAccess_60 rfl ?_
            refine lv_ladd hx hb dX1_isAccess_61 ?_
            refine lv_ldc2 (v := 4096) hx hb hown (hts (.constantLong RX1 90 4096) (wa 254 (by decide +kernel) rfl)) dX1_isAccess_62 ?_
            refine W.lcmp hx hb dX1_isAccess_65 ?_
            refine lv_if_gt (tgt := 73) hx hb dX1_isAccess_66 (by decide) (fun c_8 => ?_) (fun c_8 => ?_)
            · rw [lg_cmp_gt] at c_8
              refine lv_iconst (v := 0) hx hb dX1_isAccess_73 (by decide) ?_
              exact W.zret (v := 0) hx hb hr rfl (fun t ht hW => ⟨0, rfl, (by first | rfl | (simp only [k_isAccess, b2i, ha, hm, hs, c_8, b2i, decide_true, decide_false, Bool.not_true, Bool.not_false, Bool.and_true, Bool.and_false, Bool.true_and, Bool.false_and, Bool.or_true, Bool.or_false, Bool.true_or, Bool.false_or, reduceIte, or_true, true_or, or_false, false_or, and_true, true_and, and_false, false_and, not_true_eq_false, not_false_eq_true, Bool.false_eq_true, eq_self]; done) | (simp [k_isAccess, b2i, ha, hm, hs, c_8]; done)), ht⟩) (fun _ h => nomatch h) dX1_isAccess_74
            · rw [lg_cmp_gt] at c_8
              refine lv_iconst (v := 1) hx hb dX1_isAccess_69 (by decide) ?_
              refine lv_goto (tgt := 74) hx hb dX1_isAccess_70 (by decide) ?_
              exact W.zret (v := 1) hx hb hr rfl (fun t ht hW => ⟨1, rfl, (by first | rfl | (simp only [k_isAccess, b2i, ha, hm, hs, c_8, b2i, decide_true, decide_false, Bool.not_true, Bool.not_false, Bool.and_true, Bool.and_false, Bool.true_and, Bool.false_and, Bool.or_true, Bool.or_false, Bool.true_or, Bool.false_or, reduceIte, or_true, true_or, or_false, false_or, and_true, true_and, and_false, false_and, not_true_eq_false, not_false_eq_true, Bool.false_eq_true, eq_self]; done) | (simp [k_isAccess, b2i, ha, hm, hs, c_8]; done)), ht⟩) (fun _ h => nomatch h) dX1_isAccess_74
          · refine lv_iload hx hb dX1_isAccess_46 (lv_at hl 3 rfl) ?_
            refine lv_bipush (v := 8) hx hb dX1_isAccess_48 (by decide) ?_
            refine lv_icmp_ne (tgt := 73) hx hb dX1_isAccess_50 (by decide) (fun c_9 => ?_) (fun c_9 => ?_)
            · refine lv_iconst (v := 0) hx hb dX1_isAccess_73 (by decide) ?_
              exact W.zret (v := 0) hx hb hr rfl (fun t ht hW => ⟨0, rfl, (by first | rfl | (simp only [k_isAccess, b2i, ha, hm, c_3, c_5, c_7, c_9, b2i, decide_true, decide_false, Bool.not_true, Bool.not_false, Bool.and_true, Bool.and_false, Bool.true_and, Bool.false_and, Bool.or_true, Bool.or_false, Bool.true_or, Bool.false_or, reduceIte, or_true, true_or, or_false, false_or, and_true, true_and, and_false, false_and, not_true_eq_false, not_false_eq_true, Bool.false_eq_true, eq_self]; done) | (simp [k_isAccess, b2i, ha, hm, c_3, c_5, c_7, c_9]; done)), ht⟩) (fun _ h => nomatch h) dX1_isAccess_74
            · have hs : (decide (sz = 1) || decide (sz = 2) || decide (sz = 4) || decide (sz = 8)) = true := by simp [c_3, c_5, c_7, c_9]
              refine lv_lload_n hx hb dX1_isAccess_53 rfl (lv_at hl 0 rfl) ?_
              refine lv_ldc2 (v := 4095) hx hb hown (hts (.constantLong RX1 88 4095) (wa 253 (by decide +kernel) rfl)) dX1_isAccess_54 ?_
              refine lv_land hx hb dX1_isAccess_57 ?_
              refine lv_iload hx hb dX1_isAccess_58 (lv_at hl 3 rfl) ?_
              refine lv_i2l (v := Int32.toInt64 sz) hx hb dX1_isAccess_60 rfl ?_
              refine lv_ladd hx hb dX1_isAccess_61 ?_
              refine lv_ldc2 (v := 4096) hx hb hown (hts (.constantLong RX1 90 4096) (wa 254 (by decide +kernel) rfl)) dX1_isAccess_62 ?_
              refine W.lcmp hx hb dX1_isAccess_65 ?_
              refine lv_if_gt (tgt := 73) hx hb dX1_isAccess_66 (by decide) (fun c_10 => ?_) (fun c_10 => ?_)
              · rw [lg_cmp_gt] at c_10
                refine lv_iconst (v := 0) hx hb dX1_isAccess_73 (by decide) ?_
                exact W.zret (v := 0) hx hb hr rfl (fun t ht hW => ⟨0, rfl, (by first | rfl | (simp only [k_isAccess, b2i, ha, hm, hs, c_10, b2i, decide_true, decide_false, Bool.not_true, Bool.not_false, Bool.and_true, Bool.and_false, Bool.true_and, Bool.false_and, Bool.or_true, Bool.or_false, Bool.true_or, Bool.false_or, reduceIte, or_true, true_or, or_false, false_or, and_true, true_and, and_false, false_and, not_true_eq_false, not_false_eq_true, Bool.false_eq_true, eq_self]; done) | (simp [k_isAccess, b2i, ha, hm, hs, c_10]; done)), ht⟩) (fun _ h => nomatch h) dX1_isAccess_74
              · rw [lg_cmp_gt] at c_10
                refine lv_iconst (v := 1) hx hb dX1_isAccess_69 (by decide) ?_
                refine lv_goto (tgt := 74) hx hb dX1_isAccess_70 (by decide) ?_
                exact W.zret (v := 1) hx hb hr rfl (fun t ht hW => ⟨1, rfl, (by first | rfl | (simp only [k_isAccess, b2i, ha, hm, hs, c_10, b2i, decide_true, decide_false, Bool.not_true, Bool.not_false, Bool.and_true, Bool.and_false, Bool.true_and, Bool.false_and, Bool.or_true, Bool.or_false, Bool.true_or, Bool.false_or, reduceIte, or_true, true_or, or_false, false_or, and_true, true_and, and_false, false_and, not_true_eq_false, not_false_eq_true, Bool.false_eq_true, eq_self]; done) | (simp [k_isAccess, b2i, ha, hm, hs, c_10]; done)), ht⟩) (fun _ h => nomatch h) dX1_isAccess_74
    · refine lv_iload_n hx hb dX1_isAccess_18 rfl (lv_at hl 2 rfl) ?_
      refine lv_iconst (v := 1) hx hb dX1_isAccess_19 (by decide) ?_
      refine lv_icmp_eq (tgt := 28) hx hb dX1_isAccess_20 (by decide) (fun c_11 => ?_) (fun c_11 => ?_)
      · have hm : (decide (md = 0) || decide (md = 1) || decide (md = 3)) = true := by simp [c_2, c_11]
        refine lv_iload hx hb dX1_isAccess_28 (lv_at hl 3 rfl) ?_
        refine lv_iconst (v := 1) hx hb dX1_isAccess_30 (by decide) ?_
        refine lv_icmp_eq (tgt := 53) hx hb dX1_isAccess_31 (by decide) (fun c_12 => ?_) (fun c_12 => ?_)
        · have hs : (decide (sz = 1) || decide (sz = 2) || decide (sz = 4) || decide (sz = 8)) = true := by simp [c_12]
          refine lv_lload_n hx hb dX1_isAccess_53 rfl (lv_at hl 0 rfl) ?_
          refine lv_ldc2 (v := 4095) hx hb hown (hts (.constantLong RX1 88 4095) (wa 253 (by decide +kernel) rfl)) dX1_isAccess_54 ?_
          refine lv_land hx hb dX1_isAccess_57 ?_
          refine lv_iload hx hb dX1_isAccess_58 (lv_at hl 3 rfl) ?_
          refine lv_i2l (v := Int32.toInt64 sz) hx hb dX1_isAccess_60 rfl ?_
          refine lv_ladd hx hb dX1_isAccess_61 ?_
          refine lv_ldc2 (v := 4096) hx hb hown (hts (.constantLong RX1 90 4096) (wa 254 (by decide +kernel) rfl)) dX1_isAccess_62 ?_
          refine W.lcmp hx hb dX1_isAccess_65 ?_
          refine lv_if_gt (tgt := 73) hx hb dX1_isAccess_66 (by decide) (fun c_13 => ?_) (fun c_13 => ?_)
          · rw [lg_cmp_gt] at c_13
            refine lv_iconst (v := 0) hx hb dX1_isAccess_73 (by decide) ?_
            exact W.zret (v := 0) hx hb hr rfl (fun t ht hW => ⟨0, rfl, (by first | rfl | (simp only [k_isAccess, b2i, ha, hm, hs, c_13, b2i, decide_true, decide_false, Bool.not_true, Bool.not_false, Bool.and_true, Bool.and_false, Bool.true_and, Bool.false_and, Bool.or_true, Bool.or_false, Bool.true_or, Bool.false_or, reduceIte, or_true, true_or, or_false, false_or, and_true, true_and, and_false, false_and, not_true_eq_false, not_false_eq_true, Bool.false_eq_true, eq_self]; done) | (simp [k_isAccess, b2i, ha, hm, hs, c_13]; done)), ht⟩) (fun _ h => nomatch h) dX1_isAccess_74
          · rw [lg_cmp_gt] at c_13
            refine lv_iconst (v := 1) hx hb dX1_isAccess_69 (by decide) ?_
            refine lv_goto (tgt := 74) hx hb dX1_isAccess_70 (by decide) ?_
            exact W.zret (v := 1) hx hb hr rfl (fun t ht hW => ⟨1, rfl, (by first | rfl | (simp only [k_isAccess, b2i, ha, hm, hs, c_13, b2i, decide_true, decide_false, Bool.not_true, Bool.not_false, Bool.and_true, Bool.and_false, Bool.true_and, Bool.false_and, Bool.or_true, Bool.or_false, Bool.true_or, Bool.false_or, reduceIte, or_true, true_or, or_false, false_or, and_true, true_and, and_false, false_and, not_true_eq_false, not_false_eq_true, Bool.false_eq_true, eq_self]; done) | (simp [k_isAccess, b2i, ha, hm, hs, c_13]; done)), ht⟩) (fun _ h => nomatch h) dX1_isAccess_74
        · refine lv_iload hx hb dX1_isAccess_34 (lv_at hl 3 rfl) ?_
          refine lv_iconst (v := 2) hx hb dX1_isAccess_36 (by decide) ?_
          refine lv_icmp_eq (tgt := 53) hx hb dX1_isAccess_37 (by decide) (fun c_14 => ?_) (fun c_14 => ?_)
          · have hs : (decide (sz = 1) || decide (sz = 2) || decide (sz = 4) || decide (sz = 8)) = true := by simp [c_12, c_14]
            refine lv_lload_n hx hb dX1_isAccess_53 rfl (lv_at hl 0 rfl) ?_
            refine lv_ldc2 (v := 4095) hx hb hown (hts (.constantLong RX1 88 4095) (wa 253 (by decide +kernel) rfl)) dX1_isAccess_54 ?_
            refine lv_land hx hb dX1_isAccess_57 ?_
            refine lv_iload hx hb dX1_isAccess_58 (lv_at hl 3 rfl) ?_
            refine lv_i2l (v := Int32.toInt64 sz) hx hb dX1_isAccess_60 rfl ?_
            refine lv_ladd hx hb dX1_isAccess_61 ?_
            refine lv_ldc2 (v := 4096) hx hb hown (hts (.constantLong RX1 90 4096) (wa 254 (by decide +kernel) rfl)) dX1_isAccess_62 ?_
            refine W.lcmp hx hb dX1_isAccess_65 ?_
            refine lv_if_gt (tgt := 73) hx hb dX1_isAccess_66 (by decide) (fun c_15 => ?_) (fun c_15 => ?_)
            · rw [lg_cmp_gt] at c_15
              refine lv_iconst (v := 0) hx hb dX1_isAccess_73 (by decide) ?_
              exact W.zret (v := 0) hx hb hr rfl (fun t ht hW => ⟨0, rfl, (by first | rfl | (simp only [k_isAccess, b2i, ha, hm, hs, c_15, b2i, decide_true, decide_false, Bool.not_true, Bool.not_false, Bool.and_true, Bool.and_false, Bool.true_and, Bool.false_and, Bool.or_true, Bool.or_false, Bool.true_or, Bool.false_or, reduceIte, or_true, true_or, or_false, false_or, and_true, true_and, and_false, false_and, not_true_eq_false, not_false_eq_true, Bool.false_eq_true, eq_self]; done) | (simp [k_isAccess, b2i, ha, hm, hs, c_15]; done)), ht⟩) (fun _ h => nomatch h) dX1_isAccess_74
            · rw [lg_cmp_gt] at c_15
              refine lv_iconst (v := 1) hx hb dX1_isAccess_69 (by decide) ?_
              refine lv_goto (tgt := 74) hx hb dX1_isAccess_70 (by decide) ?_
              exact W.zret (v := 1) hx hb hr rfl (fun t ht hW => ⟨1, rfl, (by first | rfl | (simp only [k_isAccess, b2i, ha, hm, hs, c_15, b2i, decide_true, decide_false, Bool.not_true, Bool.not_false, Bool.and_true, Bool.and_false, Bool.true_and, Bool.false_and, Bool.or_true, Bool.or_false, Bool.true_or, Bool.false_or, reduceIte, or_true, true_or, or_false, false_or, and_true, true_and, and_false, false_and, not_true_eq_false, not_false_eq_true, Bool.false_eq_true, eq_self]; done) | (simp [k_isAccess, b2i, ha, hm, hs, c_15]; done)), ht⟩) (fun _ h => nomatch h) dX1_isAccess_74
          · refine lv_iload hx hb dX1_isAccess_40 (lv_at hl 3 rfl) ?_
            refine lv_iconst (v := 4) hx hb dX1_isAccess_42 (by decide) ?_
            refine lv_icmp_eq (tgt := 53) hx hb dX1_isAccess_43 (by decide) (fun c_16 => ?_) (fun c_16 => ?_)
            · have hs : (decide (sz = 1) || decide (sz = 2) || decide (sz = 4) || decide (sz = 8)) = true := by simp [c_12, c_14, c_16]
              refine lv_lload_n hx hb dX1_isAccess_53 rfl (lv_at hl 0 rfl) ?_
              refine lv_ldc2 (v := 4095) hx hb hown (hts (.constantLong RX1 88 4095) (wa 253 (by decide +kernel) rfl)) dX1_isAccess_54 ?_
              refine lv_land hx hb dX1_isAccess_57 ?_
              refine lv_iload hx hb dX1_isAccess_58 (lv_at hl 3 rfl) ?_
              refine lv_i2l (v := Int32.toInt64 sz) hx hb dX1_isAccess_60 rfl ?_
              refine lv_ladd hx hb dX1_isAccess_61 ?_
              refine lv_ldc2 (v := 4096) hx hb hown (hts (.constantLong RX1 90 4096) (wa 254 (by decide +kernel) rfl)) dX1_isAccess_62 ?_
              refine W.lcmp hx hb dX1_isAccess_65 ?_
              refine lv_if_gt (tgt := 73) hx hb dX1_isAccess_66 (by decide) (fun c_17 => ?_) (fun c_17 => ?_)
              · rw [lg_cmp_gt] at c_17
                refine lv_iconst (v := 0) hx hb dX1_isAccess_73 (by decide) ?_
                exact W.zret (v := 0) hx hb hr rfl (fun t ht hW => ⟨0, rfl, (by first | rfl | (simp only [k_isAccess, b2i, ha, hm, hs, c_17, b2i, decide_true, decide_false, Bool.not_true, Bool.not_false, Bool.and_true, Bool.and_false, Bool.true_and, Bool.false_and, Bool.or_true, Bool.or_false, Bool.true_or, Bool.false_or, reduceIte, or_true, true_or, or_false, false_or, and_true, true_and, and_false, false_and, not_true_eq_false, not_false_eq_true, Bool.false_eq_true, eq_self]; done) | (simp [k_isAccess, b2i, ha, hm, hs, c_17]; done)), ht⟩) (fun _ h => nomatch h) dX1_isAccess_74
              · rw [lg_cmp_gt] at c_17
                refine lv_iconst (v := 1) hx hb dX1_isAccess_69 (by decide) ?_
                refine lv_goto (tgt := 74) hx hb dX1_isAccess_70 (by decide) ?_
                exact W.zret (v := 1) hx hb hr rfl (fun t ht hW => ⟨1, rfl, (by first | rfl | (simp only [k_isAccess, b2i, ha, hm, hs, c_17, b2i, decide_true, decide_false, Bool.not_true, Bool.not_false, Bool.and_true, Bool.and_false, Bool.true_and, Bool.false_and, Bool.or_true, Bool.or_false, Bool.true_or, Bool.false_or, reduceIte, or_true, true_or, or_false, false_or, and_true, true_and, and_false, false_and, not_true_eq_false, not_false_eq_true, Bool.false_eq_true, eq_self]; done) | (simp [k_isAccess, b2i, ha, hm, hs, c_17]; done)), ht⟩) (fun _ h => nomatch h) dX1_isAccess_74
            · refine lv_iload hx hb dX1_isAccess_46 (lv_at hl 3 rfl) ?_
              refine lv_bipush (v := 8) hx hb dX1_isAccess_48 (by decide) ?_
              refine lv_icmp_ne (tgt := 73) hx hb dX1_isAccess_50 (by decide) (fun c_18 => ?_) (fun c_18 => ?_)
              · refine lv_iconst (v := 0) hx hb dX1_isAccess_73 (by decide) ?_
                exact W.zret (v := 0) hx hb hr rfl (fun t ht hW => ⟨0, rfl, (by first | rfl | (simp only [k_isAccess, b2i, ha, hm, c_12, c_14, c_16, c_18, b2i, decide_true, decide_false, Bool.not_true, Bool.not_false, Bool.and_true, Bool.and_false, Bool.true_and, Bool.false_and, Bool.or_true, Bool.or_false, Bool.true_or, Bool.false_or, reduceIte, or_true, true_or, or_false, false_or, and_true, true_and, and_false, false_and, not_true_eq_false, not_false_eq_true, Bool.false_eq_true, eq_self]; done) | (simp [k_isAccess, b2i, ha, hm, c_12, c_14, c_16, c_18]; done)), ht⟩) (fun _ h => nomatch h) dX1_isAccess_74
              · have hs : (decide (sz = 1) || decide (sz = 2) || decide (sz = 4) || decide (sz = 8)) = true := by simp [c_12, c_14, c_16, c_18]
                refine lv_lload_n hx hb dX1_isAccess_53 rfl (lv_at hl 0 rfl) ?_
                refine lv_ldc2 (v := 4095) hx hb hown (hts (.constantLong RX1 88 4095) (wa 253 (by decide +kernel) rfl)) dX1_isAccess_54 ?_
                refine lv_land hx hb dX1_isAccess_57 ?_
                refine lv_iload hx hb dX1_isAccess_58 (lv_at hl 3 rfl) ?_
                refine lv_i2l (v := Int32.toInt64 sz) hx hb dX1_isAccess_60 rfl ?_
                refine lv_ladd hx hb dX1_isAccess_61 ?_
                refine lv_ldc2 (v := 4096) hx hb hown (hts (.constantLong RX1 90 4096) (wa 254 (by decide +kernel) rfl)) dX1_isAccess_62 ?_
                refine W.lcmp hx hb dX1_isAccess_65 ?_
                refine lv_if_gt (tgt := 73) hx hb dX1_isAccess_66 (by decide) (fun c_19 => ?_) (fun c_19 => ?_)
                · rw [lg_cmp_gt] at c_19
                  refine lv_iconst (v := 0) hx hb dX1_isAccess_73 (by decide) ?_
                  exact W.zret (v := 0) hx hb hr rfl (fun t ht hW => ⟨0, rfl, (by first | rfl | (simp only [k_isAccess, b2i, ha, hm, hs, c_19, b2i, decide_true, decide_false, Bool.not_true, Bool.not_false, Bool.and_true, Bool.and_false, Bool.true_and, Bool.false_and, Bool.or_true, Bool.or_false, Bool.true_or, Bool.false_or, reduceIte, or_true, true_or, or_false, false_or, and_true, true_and, and_false, false_and, not_true_eq_false, not_false_eq_true, Bool.false_eq_true, eq_self]; done) | (simp [k_isAccess, b2i, ha, hm, hs, c_19]; done)), ht⟩) (fun _ h => nomatch h) dX1_isAccess_74
                · rw [lg_cmp_gt] at c_19
                  refine lv_iconst (v := 1) hx hb dX1_isAccess_69 (by decide) ?_
                  refine lv_goto (tgt := 74) hx hb dX1_isAccess_70 (by decide) ?_
                  exact W.zret (v := 1) hx hb hr rfl (fun t ht hW => ⟨1, rfl, (by first | rfl | (simp only [k_isAccess, b2i, ha, hm, hs, c_19, b2i, decide_true, decide_false, Bool.not_true, Bool.not_false, Bool.and_true, Bool.and_false, Bool.true_and, Bool.false_and, Bool.or_true, Bool.or_false, Bool.true_or, Bool.false_or, reduceIte, or_true, true_or, or_false, false_or, and_true, true_and, and_false, false_and, not_true_eq_false, not_false_eq_true, Bool.false_eq_true, eq_self]; done) | (simp [k_isAccess, b2i, ha, hm, hs, c_19]; done)), ht⟩) (fun _ h => nomatch h) dX1_isAccess_74
      · refine lv_iload_n hx hb dX1_isAccess_23 rfl (lv_at hl 2 rfl) ?_
        refine lv_iconst (v := 3) hx hb dX1_isAccess_24 (by decide) ?_
        refine lv_icmp_ne (tgt := 73) hx hb dX1_isAccess_25 (by decide) (fun c_20 => ?_) (fun c_20 => ?_)
        · refine lv_iconst (v := 0) hx hb dX1_isAccess_73 (by decide) ?_
          exact W.zret (v := 0) hx hb hr rfl (fun t ht hW => ⟨0, rfl, (by first | rfl | (simp only [k_isAccess, b2i, ha, c_2, c_11, c_20, b2i, decide_true, decide_false, Bool.not_true, Bool.not_false, Bool.and_true, Bool.and_false, Bool.true_and, Bool.false_and, Bool.or_true, Bool.or_false, Bool.true_or, Bool.false_or, reduceIte, or_true, true_or, or_false, false_or, and_true, true_and, and_false, false_and, not_true_eq_false, not_false_eq_true, Bool.false_eq_true, eq_self]; done) | (simp [k_isAccess, b2i, ha, c_2, c_11, c_20]; done)), ht⟩) (fun _ h => nomatch h) dX1_isAccess_74
        · have hm : (decide (md = 0) || decide (md = 1) || decide (md = 3)) = true := by simp [c_2, c_11, c_20]
          refine lv_iload hx hb dX1_isAccess_28 (lv_at hl 3 rfl) ?_
          refine lv_iconst (v := 1) hx hb dX1_isAccess_30 (by decide) ?_
          refine lv_icmp_eq (tgt := 53) hx hb dX1_isAccess_31 (by decide) (fun c_21 => ?_) (fun c_21 => ?_)
          · have hs : (decide (sz = 1) || decide (sz = 2) || decide (sz = 4) || decide (sz = 8)) = true := by simp [c_21]
            refine lv_lload_n hx hb dX1_isAccess_53 rfl (lv_at hl 0 rfl) ?_
            refine lv_ldc2 (v := 4095) hx hb hown (hts (.constantLong RX1 88 4095) (wa 253 (by decide +kernel) rfl)) dX1_isAccess_54 ?_
            refine lv_land hx hb dX1_isAccess_57 ?_
            refine lv_iload hx hb dX1_isAccess_58 (lv_at hl 3 rfl) ?_
            refine lv_i2l (v := Int32.toInt64 sz) hx hb dX1_isAccess_60 rfl ?_
            refine lv_ladd hx hb dX1_isAccess_61 ?_
            refine lv_ldc2 (v := 4096) hx hb hown (hts (.constantLong RX1 90 4096) (wa 254 (by decide +kernel) rfl)) dX1_isAccess_62 ?_
            refine W.lcmp hx hb dX1_isAccess_65 ?_
            refine lv_if_gt (tgt := 73) hx hb dX1_isAccess_66 (by decide) (fun c_22 => ?_) (fun c_22 => ?_)
            · rw [lg_cmp_gt] at c_22
              refine lv_iconst (v := 0) hx hb dX1_isAccess_73 (by decide) ?_
              exact W.zret (v := 0) hx hb hr rfl (fun t ht hW => ⟨0, rfl, (by first | rfl | (simp only [k_isAccess, b2i, ha, hm, hs, c_22, b2i, decide_true, decide_false, Bool.not_true, Bool.not_false, Bool.and_true, Bool.and_false, Bool.true_and, Bool.false_and, Bool.or_true, Bool.or_false, Bool.true_or, Bool.false_or, reduceIte, or_true, true_or, or_false, false_or, and_true, true_and, and_false, false_and, not_true_eq_false, not_false_eq_true, Bool.false_eq_true, eq_self]; done) | (simp [k_isAccess, b2i, ha, hm, hs, c_22]; done)), ht⟩) (fun _ h => nomatch h) dX1_isAccess_74
            · rw [lg_cmp_gt] at c_22
              refine lv_iconst (v := 1) hx hb dX1_isAccess_69 (by decide) ?_
              refine lv_goto (tgt := 74) hx hb dX1_isAccess_70 (by decide) ?_
              exact W.zret (v := 1) hx hb hr rfl (fun t ht hW => ⟨1, rfl, (by first | rfl | (simp only [k_isAccess, b2i, ha, hm, hs, c_22, b2i, decide_true, decide_false, Bool.not_true, Bool.not_false, Bool.and_true, Bool.and_false, Bool.true_and, Bool.false_and, Bool.or_true, Bool.or_false, Bool.true_or, Bool.false_or, reduceIte, or_true, true_or, or_false, false_or, and_true, true_and, and_false, false_and, not_true_eq_false, not_false_eq_true, Bool.false_eq_true, eq_self]; done) | (simp [k_isAccess, b2i, ha, hm, hs, c_22]; done)), ht⟩) (fun _ h => nomatch h) dX1_isAccess_74
          · refine lv_iload hx hb dX1_isAccess_34 (lv_at hl 3 rfl) ?_
            refine lv_iconst (v := 2) hx hb dX1_isAccess_36 (by decide) ?_
            refine lv_icmp_eq (tgt := 53) hx hb dX1_isAccess_37 (by decide) (fun c_23 => ?_) (fun c_23 => ?_)
            · have hs : (decide (sz = 1) || decide (sz = 2) || decide (sz = 4) || decide (sz = 8)) = true := by simp [c_21, c_23]
              refine lv_lload_n hx hb dX1_isAccess_53 rfl (lv_at hl 0 rfl) ?_
              refine lv_ldc2 (v := 4095) hx hb hown (hts (.constantLong RX1 88 4095) (wa 253 (by decide +kernel) rfl)) dX1_isAccess_54 ?_
              refine lv_land hx hb dX1_isAccess_57 ?_
              refine lv_iload hx hb dX1_isAccess_58 (lv_at hl 3 rfl) ?_
              refine lv_i2l (v := Int32.toInt64 sz) hx hb dX1_isAccess_60 rfl ?_
              refine lv_ladd hx hb dX1_isAccess_61 ?_
              refine lv_ldc2 (v := 4096) hx hb hown (hts (.constantLong RX1 90 4096) (wa 254 (by decide +kernel) rfl)) dX1_isAccess_62 ?_
              refine W.lcmp hx hb dX1_isAccess_65 ?_
              refine lv_if_gt (tgt := 73) hx hb dX1_isAccess_66 (by decide) (fun c_24 => ?_) (fun c_24 => ?_)
              · rw [lg_cmp_gt] at c_24
                refine lv_iconst (v := 0) hx hb dX1_isAccess_73 (by decide) ?_
                exact W.zret (v := 0) hx hb hr rfl (fun t ht hW => ⟨0, rfl, (by first | rfl | (simp only [k_isAccess, b2i, ha, hm, hs, c_24, b2i, decide_true, decide_false, Bool.not_true, Bool.not_false, Bool.and_true, Bool.and_false, Bool.true_and, Bool.false_and, Bool.or_true, Bool.or_false, Bool.true_or, Bool.false_or, reduceIte, or_true, true_or, or_false, false_or, and_true, true_and, and_false, false_and, not_true_eq_false, not_false_eq_true, Bool.false_eq_true, eq_self]; done) | (simp [k_isAccess, b2i, ha, hm, hs, c_24]; done)), ht⟩) (fun _ h => nomatch h) dX1_isAccess_74
              · rw [lg_cmp_gt] at c_24
                refine lv_iconst (v := 1) hx hb dX1_isAccess_69 (by decide) ?_
                refine lv_goto (tgt := 74) hx hb dX1_isAccess_70 (by decide) ?_
                exact W.zret (v := 1) hx hb hr rfl (fun t ht hW => ⟨1, rfl, (by first | rfl | (simp only [k_isAccess, b2i, ha, hm, hs, c_24, b2i, decide_true, decide_false, Bool.not_true, Bool.not_false, Bool.and_true, Bool.and_false, Bool.true_and, Bool.false_and, Bool.or_true, Bool.or_false, Bool.true_or, Bool.false_or, reduceIte, or_true, true_or, or_false, false_or, and_true, true_and, and_false, false_and, not_true_eq_false, not_false_eq_true, Bool.false_eq_true, eq_self]; done) | (simp [k_isAccess, b2i, ha, hm, hs, c_24]; done)), ht⟩) (fun _ h => nomatch h) dX1_isAccess_74
            · refine lv_iload hx hb dX1_isAccess_40 (lv_at hl 3 rfl) ?_
              refine lv_iconst (v := 4) hx hb dX1_isAccess_42 (by decide) ?_
              refine lv_icmp_eq (tgt := 53) hx hb dX1_isAccess_43 (by decide) (fun c_25 => ?_) (fun c_25 => ?_)
              · have hs : (decide (sz = 1) || decide (sz = 2) || decide (sz = 4) || decide (sz = 8)) = true := by simp [c_21, c_23, c_25]
                refine lv_lload_n hx hb dX1_isAccess_53 rfl (lv_at hl 0 rfl) ?_
                refine lv_ldc2 (v := 4095) hx hb hown (hts (.constantLong RX1 88 4095) (wa 253 (by decide +kernel) rfl)) dX1_isAccess_54 ?_
                refine lv_land hx hb dX1_isAccess_57 ?_
                refine lv_iload hx hb dX1_isAccess_58 (lv_at hl 3 rfl) ?_
                refine lv_i2l (v := Int32.toInt64 sz) hx hb dX1_isAccess_60 rfl ?_
                refine lv_ladd hx hb dX1_isAccess_61 ?_
                refine lv_ldc2 (v := 4096) hx hb hown (hts (.constantLong RX1 90 4096) (wa 254 (by decide +kernel) rfl)) dX1_isAccess_62 ?_
                refine W.lcmp hx hb dX1_isAccess_65 ?_
                refine lv_if_gt (tgt := 73) hx hb dX1_isAccess_66 (by decide) (fun c_26 => ?_) (fun c_26 => ?_)
                · rw [lg_cmp_gt] at c_26
                  refine lv_iconst (v := 0) hx hb dX1_isAccess_73 (by decide) ?_
                  exact W.zret (v := 0) hx hb hr rfl (fun t ht hW => ⟨0, rfl, (by first | rfl | (simp only [k_isAccess, b2i, ha, hm, hs, c_26, b2i, decide_true, decide_false, Bool.not_true, Bool.not_false, Bool.and_true, Bool.and_false, Bool.true_and, Bool.false_and, Bool.or_true, Bool.or_false, Bool.true_or, Bool.false_or, reduceIte, or_true, true_or, or_false, false_or, and_true, true_and, and_false, false_and, not_true_eq_false, not_false_eq_true, Bool.false_eq_true, eq_self]; done) | (simp [k_isAccess, b2i, ha, hm, hs, c_26]; done)), ht⟩) (fun _ h => nomatch h) dX1_isAccess_74
                · rw [lg_cmp_gt] at c_26
                  refine lv_iconst (v := 1) hx hb dX1_isAccess_69 (by decide) ?_
                  refine lv_goto (tgt := 74) hx hb dX1_isAccess_70 (by decide) ?_
                  exact W.zret (v := 1) hx hb hr rfl (fun t ht hW => ⟨1, rfl, (by first | rfl | (simp only [k_isAccess, b2i, ha, hm, hs, c_26, b2i, decide_true, decide_false, Bool.not_true, Bool.not_false, Bool.and_true, Bool.and_false, Bool.true_and, Bool.false_and, Bool.or_true, Bool.or_false, Bool.true_or, Bool.false_or, reduceIte, or_true, true_or, or_false, false_or, and_true, true_and, and_false, false_and, not_true_eq_false, not_false_eq_true, Bool.false_eq_true, eq_self]; done) | (simp [k_isAccess, b2i, ha, hm, hs, c_26]; done)), ht⟩) (fun _ h => nomatch h) dX1_isAccess_74
              · refine lv_iload hx hb dX1_isAccess_46 (lv_at hl 3 rfl) ?_
                refine lv_bipush (v := 8) hx hb dX1_isAccess_48 (by decide) ?_
                refine lv_icmp_ne (tgt := 73) hx hb dX1_isAccess_50 (by decide) (fun c_27 => ?_) (fun c_27 => ?_)
                · refine lv_iconst (v := 0) hx hb dX1_isAccess_73 (by decide) ?_
                  exact W.zret (v := 0) hx hb hr rfl (fun t ht hW => ⟨0, rfl, (by first | rfl | (simp only [k_isAccess, b2i, ha, hm, c_21, c_23, c_25, c_27, b2i, decide_true, decide_false, Bool.not_true, Bool.not_false, Bool.and_true, Bool.and_false, Bool.true_and, Bool.false_and, Bool.or_true, Bool.or_false, Bool.true_or, Bool.false_or, reduceIte, or_true, true_or, or_false, false_or, and_true, true_and, and_false, false_and, not_true_eq_false, not_false_eq_true, Bool.false_eq_true, eq_self]; done) | (simp [k_isAccess, b2i, ha, hm, c_21, c_23, c_25, c_27]; done)), ht⟩) (fun _ h => nomatch h) dX1_isAccess_74
                · have hs : (decide (sz = 1) || decide (sz = 2) || decide (sz = 4) || decide (sz = 8)) = true := by simp [c_21, c_23, c_25, c_27]
                  refine lv_lload_n hx hb dX1_isAccess_53 rfl (lv_at hl 0 rfl) ?_
                  refine lv_ldc2 (v := 4095) hx hb hown (hts (.constantLong RX1 88 4095) (wa 253 (by decide +kernel) rfl)) dX1_isAccess_54 ?_
                  refine lv_land hx hb dX1_isAccess_57 ?_
                  refine lv_iload hx hb dX1_isAccess_58 (lv_at hl 3 rfl) ?_
                  refine lv_i2l (v := Int32.toInt64 sz) hx hb dX1_isAccess_60 rfl ?_
                  refine lv_ladd hx hb dX1_isAccess_61 ?_
                  refine lv_ldc2 (v := 4096) hx hb hown (hts (.constantLong RX1 90 4096) (wa 254 (by decide +kernel) rfl)) dX1_isAccess_62 ?_
                  refine W.lcmp hx hb dX1_isAccess_65 ?_
                  refine lv_if_gt (tgt := 73) hx hb dX1_isAccess_66 (by decide) (fun c_28 => ?_) (fun c_28 => ?_)
                  · rw [lg_cmp_gt] at c_28
                    refine lv_iconst (v := 0) hx hb dX1_isAccess_73 (by decide) ?_
                    exact W.zret (v := 0) hx hb hr rfl (fun t ht hW => ⟨0, rfl, (by first | rfl | (simp only [k_isAccess, b2i, ha, hm, hs, c_28, b2i, decide_true, decide_false, Bool.not_true, Bool.not_false, Bool.and_true, Bool.and_false, Bool.true_and, Bool.false_and, Bool.or_true, Bool.or_false, Bool.true_or, Bool.false_or, reduceIte, or_true, true_or, or_false, false_or, and_true, true_and, and_false, false_and, not_true_eq_false, not_false_eq_true, Bool.false_eq_true, eq_self]; done) | (simp [k_isAccess, b2i, ha, hm, hs, c_28]; done)), ht⟩) (fun _ h => nomatch h) dX1_isAccess_74
                  · rw [lg_cmp_gt] at c_28
                    refine lv_iconst (v := 1) hx hb dX1_isAccess_69 (by decide) ?_
                    refine lv_goto (tgt := 74) hx hb dX1_isAccess_70 (by decide) ?_
                    exact W.zret (v := 1) hx hb hr rfl (fun t ht hW => ⟨1, rfl, (by first | rfl | (simp only [k_isAccess, b2i, ha, hm, hs, c_28, b2i, decide_true, decide_false, Bool.not_true, Bool.not_false, Bool.and_true, Bool.and_false, Bool.true_and, Bool.false_and, Bool.or_true, Bool.or_false, Bool.true_or, Bool.false_or, reduceIte, or_true, true_or, or_false, false_or, and_true, true_and, and_false, false_and, not_true_eq_false, not_false_eq_true, Bool.false_eq_true, eq_self]; done) | (simp [k_isAccess, b2i, ha, hm, hs, c_28]; done)), ht⟩) (fun _ h => nomatch h) dX1_isAccess_74
  · refine lv_iload_n hx hb dX1_isAccess_4 rfl (lv_at hl 1 rfl) ?_
    refine lv_iconst (v := 1) hx hb dX1_isAccess_5 (by decide) ?_
    refine lv_icmp_eq (tgt := 14) hx hb dX1_isAccess_6 (by decide) (fun c_29 => ?_) (fun c_29 => ?_)
    · have ha : (decide (ac = 0) || decide (ac = 1) || decide (ac = 2)) = true := by simp [c_1, c_29]
      refine lv_iload_n hx hb dX1_isAccess_14 rfl (lv_at hl 2 rfl) ?_
      refine lv_if_eq (tgt := 28) hx hb dX1_isAccess_15 (by decide) (fun c_30 => ?_) (fun c_30 => ?_)
      · have hm : (decide (md = 0) || decide (md = 1) || decide (md = 3)) = true := by simp [c_30]
        refine lv_iload hx hb dX1_isAccess_28 (lv_at hl 3 rfl) ?_
        refine lv_iconst (v := 1) hx hb dX1_isAccess_30 (by decide) ?_
        refine lv_icmp_eq (tgt := 53) hx hb dX1_isAccess_31 (by decide) (fun c_31 => ?_) (fun c_31 => ?_)
        · have hs : (decide (sz = 1) || decide (sz = 2) || decide (sz = 4) || decide (sz = 8)) = true := by simp [c_31]
          refine lv_lload_n hx hb dX1_isAccess_53 rfl (lv_at hl 0 rfl) ?_
          refine lv_ldc2 (v := 4095) hx hb hown (hts (.constantLong RX1 88 4095) (wa 253 (by decide +kernel) rfl)) dX1_isAccess_54 ?_
          refine lv_land hx hb dX1_isAccess_57 ?_
          refine lv_iload hx hb dX1_isAccess_58 (lv_at hl 3 rfl) ?_
          refine lv_i2l (v := Int32.toInt64 sz) hx hb dX1_isAccess_60 rfl ?_
          refine lv_ladd hx hb dX1_isAccess_61 ?_
          refine lv_ldc2 (v := 4096) hx hb hown (hts (.constantLong RX1 90 4096) (wa 254 (by decide +kernel) rfl)) dX1_isAccess_62 ?_
          refine W.lcmp hx hb dX1_isAccess_65 ?_
          refine lv_if_gt (tgt := 73) hx hb dX1_isAccess_66 (by decide) (fun c_32 => ?_) (fun c_32 => ?_)
          · rw [lg_cmp_gt] at c_32
            refine lv_iconst (v := 0) hx hb dX1_isAccess_73 (by decide) ?_
            exact W.zret (v := 0) hx hb hr rfl (fun t ht hW => ⟨0, rfl, (by first | rfl | (simp only [k_isAccess, b2i, ha, hm, hs, c_32, b2i, decide_true, decide_false, Bool.not_true, Bool.not_false, Bool.and_true, Bool.and_false, Bool.true_and, Bool.false_and, Bool.or_true, Bool.or_false, Bool.true_or, Bool.false_or, reduceIte, or_true, true_or, or_false, false_or, and_true, true_and, and_false, false_and, not_true_eq_false, not_false_eq_true, Bool.false_eq_true, eq_self]; done) | (simp [k_isAccess, b2i, ha, hm, hs, c_32]; done)), ht⟩) (fun _ h => nomatch h) dX1_isAccess_74
          · rw [lg_cmp_gt] at c_32
            refine lv_iconst (v := 1) hx hb dX1_isAccess_69 (by decide) ?_
            refine lv_goto (tgt := 74) hx hb dX1_isAccess_70 (by decide) ?_
            exact W.zret (v := 1) hx hb hr rfl (fun t ht hW => ⟨1, rfl, (by first | rfl | (simp only [k_isAccess, b2i, ha, hm, hs, c_32, b2i, decide_true, decide_false, Bool.not_true, Bool.not_false, Bool.and_true, Bool.and_false, Bool.true_and, Bool.false_and, Bool.or_true, Bool.or_false, Bool.true_or, Bool.false_or, reduceIte, or_true, true_or, or_false, false_or, and_true, true_and, and_false, false_and, not_true_eq_false, not_false_eq_true, Bool.false_eq_true, eq_self]; done) | (simp [k_isAccess, b2i, ha, hm, hs, c_32]; done)), ht⟩) (fun _ h => nomatch h) dX1_isAccess_74
        · refine lv_iload hx hb dX1_isAccess_34 (lv_at hl 3 rfl) ?_
          refine lv_iconst (v := 2) hx hb dX1_isAccess_36 (by decide) ?_
          refine lv_icmp_eq (tgt := 53) hx hb dX1_isAccess_37 (by decide) (fun c_33 => ?_) (fun c_33 => ?_)
          · have hs : (decide (sz = 1) || decide (sz = 2) || decide (sz = 4) || decide (sz = 8)) = true := by simp [c_31, c_33]
            refine lv_lload_n hx hb dX1_isAccess_53 rfl (lv_at hl 0 rfl) ?_
            refine lv_ldc2 (v := 4095) hx hb hown (hts (.constantLong RX1 88 4095) (wa 253 (by decide +kernel) rfl)) dX1_isAccess_54 ?_
            refine lv_land hx hb dX1_isAccess_57 ?_
            refine lv_iload hx hb dX1_isAccess_58 (lv_at hl 3 rfl) ?_
            refine lv_i2l (v := Int32.toInt64 sz) hx hb dX1_isAccess_60 rfl ?_
            refine lv_ladd hx hb dX1_isAccess_61 ?_
            refine lv_ldc2 (v := 4096) hx hb hown (hts (.constantLong RX1 90 4096) (wa 254 (by decide +kernel) rfl)) dX1_isAccess_62 ?_
            refine W.lcmp hx hb dX1_isAccess_65 ?_
            refine lv_if_gt (tgt := 73) hx hb dX1_isAccess_66 (by decide) (fun c_34 => ?_) (fun c_34 => ?_)
            · rw [lg_cmp_gt] at c_34
              refine lv_iconst (v := 0) hx hb dX1_isAccess_73 (by decide) ?_
              exact W.zret (v := 0) hx hb hr rfl (fun t ht hW => ⟨0, rfl, (by first | rfl | (simp only [k_isAccess, b2i, ha, hm, hs, c_34, b2i, decide_true, decide_false, Bool.not_true, Bool.not_false, Bool.and_true, Bool.and_false, Bool.true_and, Bool.false_and, Bool.or_true, Bool.or_false, Bool.true_or, Bool.false_or, reduceIte, or_true, true_or, or_false, false_or, and_true, true_and, and_false, false_and, not_true_eq_false, not_false_eq_true, Bool.false_eq_true, eq_self]; done) | (simp [k_isAccess, b2i, ha, hm, hs, c_34]; done)), ht⟩) (fun _ h => nomatch h) dX1_isAccess_74
            · rw [lg_cmp_gt] at c_34
              refine lv_iconst (v := 1) hx hb dX1_isAccess_69 (by decide) ?_
              refine lv_goto (tgt := 74) hx hb dX1_isAccess_70 (by decide) ?_
              exact W.zret (v := 1) hx hb hr rfl (fun t ht hW => ⟨1, rfl, (by first | rfl | (simp only [k_isAccess, b2i, ha, hm, hs, c_34, b2i, decide_true, decide_false, Bool.not_true, Bool.not_false, Bool.and_true, Bool.and_false, Bool.true_and, Bool.false_and, Bool.or_true, Bool.or_false, Bool.true_or, Bool.false_or, reduceIte, or_true, true_or, or_false, false_or, and_true, true_and, and_false, false_and, not_true_eq_false, not_false_eq_true, Bool.false_eq_true, eq_self]; done) | (simp [k_isAccess, b2i, ha, hm, hs, c_34]; done)), ht⟩) (fun _ h => nomatch h) dX1_isAccess_74
          · refine lv_iload hx hb dX1_isAccess_40 (lv_at hl 3 rfl) ?_
            refine lv_iconst (v := 4) hx hb dX1_isAccess_42 (by decide) ?_
            refine lv_icmp_eq (tgt := 53) hx hb dX1_isAccess_43 (by decide) (fun c_35 => ?_) (fun c_35 => ?_)
            · have hs : (decide (sz = 1) || decide (sz = 2) || decide (sz = 4) || decide (sz = 8)) = true := by simp [c_31, c_33, c_35]
              refine lv_lload_n hx hb dX1_isAccess_53 rfl (lv_at hl 0 rfl) ?_
              refine lv_ldc2 (v := 4095) hx hb hown (hts (.constantLong RX1 88 4095) (wa 253 (by decide +kernel) rfl)) dX1_isAccess_54 ?_
              refine lv_land hx hb dX1_isAccess_57 ?_
              refine lv_iload hx hb dX1_isAccess_58 (lv_at hl 3 rfl) ?_
              refine lv_i2l (v := Int32.toInt64 sz) hx hb dX1_isAccess_60 rfl ?_
              refine lv_ladd hx hb dX1_isAccess_61 ?_
              refine lv_ldc2 (v := 4096) hx hb hown (hts (.constantLong RX1 90 4096) (wa 254 (by decide +kernel) rfl)) dX1_isAccess_62 ?_
              refine W.lcmp hx hb dX1_isAccess_65 ?_
              refine lv_if_gt (tgt := 73) hx hb dX1_isAccess_66 (by decide) (fun c_36 => ?_) (fun c_36 => ?_)
              · rw [lg_cmp_gt] at c_36
                refine lv_iconst (v := 0) hx hb dX1_isAccess_73 (by decide) ?_
                exact W.zret (v := 0) hx hb hr rfl (fun t ht hW => ⟨0, rfl, (by first | rfl | (simp only [k_isAccess, b2i, ha, hm, hs, c_36, b2i, decide_true, decide_false, Bool.not_true, Bool.not_false, Bool.and_true, Bool.and_false, Bool.true_and, Bool.false_and, Bool.or_true, Bool.or_false, Bool.true_or, Bool.false_or, reduceIte, or_true, true_or, or_false, false_or, and_true, true_and, and_false, false_and, not_true_eq_false, not_false_eq_true, Bool.false_eq_true, eq_self]; done) | (simp [k_isAccess, b2i, ha, hm, hs, c_36]; done)), ht⟩) (fun _ h => nomatch h) dX1_isAccess_74
              · rw [lg_cmp_gt] at c_36
                refine lv_iconst (v := 1) hx hb dX1_isAccess_69 (by decide) ?_
                refine lv_goto (tgt := 74) hx hb dX1_isAccess_70 (by decide) ?_
                exact W.zret (v := 1) hx hb hr rfl (fun t ht hW => ⟨1, rfl, (by first | rfl | (simp only [k_isAccess, b2i, ha, hm, hs, c_36, b2i, decide_true, decide_false, Bool.not_true, Bool.not_false, Bool.and_true, Bool.and_false, Bool.true_and, Bool.false_and, Bool.or_true, Bool.or_false, Bool.true_or, Bool.false_or, reduceIte, or_true, true_or, or_false, false_or, and_true, true_and, and_false, false_and, not_true_eq_false, not_false_eq_true, Bool.false_eq_true, eq_self]; done) | (simp [k_isAccess, b2i, ha, hm, hs, c_36]; done)), ht⟩) (fun _ h => nomatch h) dX1_isAccess_74
            · refine lv_iload hx hb dX1_isAccess_46 (lv_at hl 3 rfl) ?_
              refine lv_bipush (v := 8) hx hb dX1_isAccess_48 (by decide) ?_
              refine lv_icmp_ne (tgt := 73) hx hb dX1_isAccess_50 (by decide) (fun c_37 => ?_) (fun c_37 => ?_)
              · refine lv_iconst (v := 0) hx hb dX1_isAccess_73 (by decide) ?_
                exact W.zret (v := 0) hx hb hr rfl (fun t ht hW => ⟨0, rfl, (by first | rfl | (simp only [k_isAccess, b2i, ha, hm, c_31, c_33, c_35, c_37, b2i, decide_true, decide_false, Bool.not_true, Bool.not_false, Bool.and_true, Bool.and_false, Bool.true_and, Bool.false_and, Bool.or_true, Bool.or_false, Bool.true_or, Bool.false_or, reduceIte, or_true, true_or, or_false, false_or, and_true, true_and, and_false, false_and, not_true_eq_false, not_false_eq_true, Bool.false_eq_true, eq_self]; done) | (simp [k_isAccess, b2i, ha, hm, c_31, c_33, c_35, c_37]; done)), ht⟩) (fun _ h => nomatch h) dX1_isAccess_74
              · have hs : (decide (sz = 1) || decide (sz = 2) || decide (sz = 4) || decide (sz = 8)) = true := by simp [c_31, c_33, c_35, c_37]
                refine lv_lload_n hx hb dX1_isAccess_53 rfl (lv_at hl 0 rfl) ?_
                refine lv_ldc2 (v := 4095) hx hb hown (hts (.constantLong RX1 88 4095) (wa 253 (by decide +kernel) rfl)) dX1_isAccess_54 ?_
                refine lv_land hx hb dX1_isAccess_57 ?_
                refine lv_iload hx hb dX1_isAccess_58 (lv_at hl 3 rfl) ?_
                refine lv_i2l (v := Int32.toInt64 sz) hx hb dX1_isAccess_60 rfl ?_
                refine lv_ladd hx hb dX1_isAccess_61 ?_
                refine lv_ldc2 (v := 4096) hx hb hown (hts (.constantLong RX1 90 4096) (wa 254 (by decide +kernel) rfl)) dX1_isAccess_62 ?_
                refine W.lcmp hx hb dX1_isAccess_65 ?_
                refine lv_if_gt (tgt := 73) hx hb dX1_isAccess_66 (by decide) (fun c_38 => ?_) (fun c_38 => ?_)
                · rw [lg_cmp_gt] at c_38
                  refine lv_iconst (v := 0) hx hb dX1_isAccess_73 (by decide) ?_
                  exact W.zret (v := 0) hx hb hr rfl (fun t ht hW => ⟨0, rfl, (by first | rfl | (simp only [k_isAccess, b2i, ha, hm, hs, c_38, b2i, decide_true, decide_false, Bool.not_true, Bool.not_false, Bool.and_true, Bool.and_false, Bool.true_and, Bool.false_and, Bool.or_true, Bool.or_false, Bool.true_or, Bool.false_or, reduceIte, or_true, true_or, or_false, false_or, and_true, true_and, and_false, false_and, not_true_eq_false, not_false_eq_true, Bool.false_eq_true, eq_self]; done) | (simp [k_isAccess, b2i, ha, hm, hs, c_38]; done)), ht⟩) (fun _ h => nomatch h) dX1_isAccess_74
                · rw [lg_cmp_gt] at c_38
                  refine lv_iconst (v := 1) hx hb dX1_isAccess_69 (by decide) ?_
                  refine lv_goto (tgt := 74) hx hb dX1_isAccess_70 (by decide) ?_
                  exact W.zret (v := 1) hx hb hr rfl (fun t ht hW => ⟨1, rfl, (by first | rfl | (simp only [k_isAccess, b2i, ha, hm, hs, c_38, b2i, decide_true, decide_false, Bool.not_true, Bool.not_false, Bool.and_true, Bool.and_false, Bool.true_and, Bool.false_and, Bool.or_true, Bool.or_false, Bool.true_or, Bool.false_or, reduceIte, or_true, true_or, or_false, false_or, and_true, true_and, and_false, false_and, not_true_eq_false, not_false_eq_true, Bool.false_eq_true, eq_self]; done) | (simp [k_isAccess, b2i, ha, hm, hs, c_38]; done)), ht⟩) (fun _ h => nomatch h) dX1_isAccess_74
      · refine lv_iload_n hx hb dX1_isAccess_18 rfl (lv_at hl 2 rfl) ?_
        refine lv_iconst (v := 1) hx hb dX1_isAccess_19 (by decide) ?_
        refine lv_icmp_eq (tgt := 28) hx hb dX1_isAccess_20 (by decide) (fun c_39 => ?_) (fun c_39 => ?_)
        · have hm : (decide (md = 0) || decide (md = 1) || decide (md = 3)) = true := by simp [c_30, c_39]
          refine lv_iload hx hb dX1_isAccess_28 (lv_at hl 3 rfl) ?_
          refine lv_iconst (v := 1) hx hb dX1_isAccess_30 (by decide) ?_
          refine lv_icmp_eq (tgt := 53) hx hb dX1_isAccess_31 (by decide) (fun c_40 => ?_) (fun c_40 => ?_)
          · have hs : (decide (sz = 1) || decide (sz = 2) || decide (sz = 4) || decide (sz = 8)) = true := by simp [c_40]
            refine lv_lload_n hx hb dX1_isAccess_53 rfl (lv_at hl 0 rfl) ?_
            refine lv_ldc2 (v := 4095) hx hb hown (hts (.constantLong RX1 88 4095) (wa 253 (by decide +kernel) rfl)) dX1_isAccess_54 ?_
            refine lv_land hx hb dX1_isAccess_57 ?_
            refine lv_iload hx hb dX1_isAccess_58 (lv_at hl 3 rfl) ?_
            refine lv_i2l (v := Int32.toInt64 sz) hx hb dX1_isAccess_60 rfl ?_
            refine lv_ladd hx hb dX1_isAccess_61 ?_
            refine lv_ldc2 (v := 4096) hx hb hown (hts (.constantLong RX1 90 4096) (wa 254 (by decide +kernel) rfl)) dX1_isAccess_62 ?_
            refine W.lcmp hx hb dX1_isAccess_65 ?_
            refine lv_if_gt (tgt := 73) hx hb dX1_isAccess_66 (by decide) (fun c_41 => ?_) (fun c_41 => ?_)
            · rw [lg_cmp_gt] at c_41
              refine lv_iconst (v := 0) hx hb dX1_isAccess_73 (by decide) ?_
              exact W.zret (v := 0) hx hb hr rfl (fun t ht hW => ⟨0, rfl, (by first | rfl | (simp only [k_isAccess, b2i, ha, hm, hs, c_41, b2i, decide_true, decide_false, Bool.not_true, Bool.not_false, Bool.and_true, Bool.and_false, Bool.true_and, Bool.false_and, Bool.or_true, Bool.or_false, Bool.true_or, Bool.false_or, reduceIte, or_true, true_or, or_false, false_or, and_true, true_and, and_false, false_and, not_true_eq_false, not_false_eq_true, Bool.false_eq_true, eq_self]; done) | (simp [k_isAccess, b2i, ha, hm, hs, c_41]; done)), ht⟩) (fun _ h => nomatch h) dX1_isAccess_74
            · rw [lg_cmp_gt] at c_41
              refine lv_iconst (v := 1) hx hb dX1_isAccess_69 (by decide) ?_
              refine lv_goto (tgt := 74) hx hb dX1_isAccess_70 (by decide) ?_
              exact W.zret (v := 1) hx hb hr rfl (fun t ht hW => ⟨1, rfl, (by first | rfl | (simp only [k_isAccess, b2i, ha, hm, hs, c_41, b2i, decide_true, decide_false, Bool.not_true, Bool.not_false, Bool.and_true, Bool.and_false, Bool.true_and, Bool.false_and, Bool.or_true, Bool.or_false, Bool.true_or, Bool.false_or, reduceIte, or_true, true_or, or_false, false_or, and_true, true_and, and_false, false_and, not_true_eq_false, not_false_eq_true, Bool.false_eq_true, eq_self]; done) | (simp [k_isAccess, b2i, ha, hm, hs, c_41]; done)), ht⟩) (fun _ h => nomatch h) dX1_isAccess_74
          · refine lv_iload hx hb dX1_isAccess_34 (lv_at hl 3 rfl) ?_
            refine lv_iconst (v := 2) hx hb dX1_isAccess_36 (by decide) ?_
            refine lv_icmp_eq (tgt := 53) hx hb dX1_isAccess_37 (by decide) (fun c_42 => ?_) (fun c_42 => ?_)
            · have hs : (decide (sz = 1) || decide (sz = 2) || decide (sz = 4) || decide (sz = 8)) = true := by simp [c_40, c_42]
              refine lv_lload_n hx hb dX1_isAccess_53 rfl (lv_at hl 0 rfl) ?_
              refine lv_ldc2 (v := 4095) hx hb hown (hts (.constantLong RX1 88 4095) (wa 253 (by decide +kernel) rfl)) dX1_isAccess_54 ?_
              refine lv_land hx hb dX1_isAccess_57 ?_
              refine lv_iload hx hb dX1_isAccess_58 (lv_at hl 3 rfl) ?_
              refine lv_i2l (v := Int32.toInt64 sz) hx hb dX1_isAccess_60 rfl ?_
              refine lv_ladd hx hb dX1_isAccess_61 ?_
              refine lv_ldc2 (v := 4096) hx hb hown (hts (.constantLong RX1 90 4096) (wa 254 (by decide +kernel) rfl)) dX1_isAccess_62 ?_
              refine W.lcmp hx hb dX1_isAccess_65 ?_
              refine lv_if_gt (tgt := 73) hx hb dX1_isAccess_66 (by decide) (fun c_43 => ?_) (fun c_43 => ?_)
              · rw [lg_cmp_gt] at c_43
                refine lv_iconst (v := 0) hx hb dX1_isAccess_73 (by decide) ?_
                exact W.zret (v := 0) hx hb hr rfl (fun t ht hW => ⟨0, rfl, (by first | rfl | (simp only [k_isAccess, b2i, ha, hm, hs, c_43, b2i, decide_true, decide_false, Bool.not_true, Bool.not_false, Bool.and_true, Bool.and_false, Bool.true_and, Bool.false_and, Bool.or_true, Bool.or_false, Bool.true_or, Bool.false_or, reduceIte, or_true, true_or, or_false, false_or, and_true, true_and, and_false, false_and, not_true_eq_false, not_false_eq_true, Bool.false_eq_true, eq_self]; done) | (simp [k_isAccess, b2i, ha, hm, hs, c_43]; done)), ht⟩) (fun _ h => nomatch h) dX1_isAccess_74
              · rw [lg_cmp_gt] at c_43
                refine lv_iconst (v := 1) hx hb dX1_isAccess_69 (by decide) ?_
                refine lv_goto (tgt := 74) hx hb dX1_isAccess_70 (by decide) ?_
                exact W.zret (v := 1) hx hb hr rfl (fun t ht hW => ⟨1, rfl, (by first | rfl | (simp only [k_isAccess, b2i, ha, hm, hs, c_43, b2i, decide_true, decide_false, Bool.not_true, Bool.not_false, Bool.and_true, Bool.and_false, Bool.true_and, Bool.false_and, Bool.or_true, Bool.or_false, Bool.true_or, Bool.false_or, reduceIte, or_true, true_or, or_false, false_or, and_true, true_and, and_false, false_and, not_true_eq_false, not_false_eq_true, Bool.false_eq_true, eq_self]; done) | (simp [k_isAccess, b2i, ha, hm, hs, c_43]; done)), ht⟩) (fun _ h => nomatch h) dX1_isAccess_74
            · refine lv_iload hx hb dX1_isAccess_40 (lv_at hl 3 rfl) ?_
              refine lv_iconst (v := 4) hx hb dX1_isAccess_42 (by decide) ?_
              refine lv_icmp_eq (tgt := 53) hx hb dX1_isAccess_43 (by decide) (fun c_44 => ?_) (fun c_44 => ?_)
              · have hs : (decide (sz = 1) || decide (sz = 2) || decide (sz = 4) || decide (sz = 8)) = true := by simp [c_40, c_42, c_44]
                refine lv_lload_n hx hb dX1_isAccess_53 rfl (lv_at hl 0 rfl) ?_
                refine lv_ldc2 (v := 4095) hx hb hown (hts (.constantLong RX1 88 4095) (wa 253 (by decide +kernel) rfl)) dX1_isAccess_54 ?_
                refine lv_land hx hb dX1_isAccess_57 ?_
                refine lv_iload hx hb dX1_isAccess_58 (lv_at hl 3 rfl) ?_
                refine lv_i2l (v := Int32.toInt64 sz) hx hb dX1_isAccess_60 rfl ?_
                refine lv_ladd hx hb dX1_isAccess_61 ?_
                refine lv_ldc2 (v := 4096) hx hb hown (hts (.constantLong RX1 90 4096) (wa 254 (by decide +kernel) rfl)) dX1_isAccess_62 ?_
                refine W.lcmp hx hb dX1_isAccess_65 ?_
                refine lv_if_gt (tgt := 73) hx hb dX1_isAccess_66 (by decide) (fun c_45 => ?_) (fun c_45 => ?_)
                · rw [lg_cmp_gt] at c_45
                  refine lv_iconst (v := 0) hx hb dX1_isAccess_73 (by decide) ?_
                  exact W.zret (v := 0) hx hb hr rfl (fun t ht hW => ⟨0, rfl, (by first | rfl | (simp only [k_isAccess, b2i, ha, hm, hs, c_45, b2i, decide_true, decide_false, Bool.not_true, Bool.not_false, Bool.and_true, Bool.and_false, Bool.true_and, Bool.false_and, Bool.or_true, Bool.or_false, Bool.true_or, Bool.false_or, reduceIte, or_true, true_or, or_false, false_or, and_true, true_and, and_false, false_and, not_true_eq_false, not_false_eq_true, Bool.false_eq_true, eq_self]; done) | (simp [k_isAccess, b2i, ha, hm, hs, c_45]; done)), ht⟩) (fun _ h => nomatch h) dX1_isAccess_74
                · rw [lg_cmp_gt] at c_45
                  refine lv_iconst (v := 1) hx hb dX1_isAccess_69 (by decide) ?_
                  refine lv_goto (tgt := 74) hx hb dX1_isAccess_70 (by decide) ?_
                  exact W.zret (v := 1) hx hb hr rfl (fun t ht hW => ⟨1, rfl, (by first | rfl | (simp only [k_isAccess, b2i, ha, hm, hs, c_45, b2i, decide_true, decide_false, Bool.not_true, Bool.not_false, Bool.and_true, Bool.and_false, Bool.true_and, Bool.false_and, Bool.or_true, Bool.or_false, Bool.true_or, Bool.false_or, reduceIte, or_true, true_or, or_false, false_or, and_true, true_and, and_false, false_and, not_true_eq_false, not_false_eq_true, Bool.false_eq_true, eq_self]; done) | (simp [k_isAccess, b2i, ha, hm, hs, c_45]; done)), ht⟩) (fun _ h => nomatch h) dX1_isAccess_74
              · refine lv_iload hx hb dX1_isAccess_46 (lv_at hl 3 rfl) ?_
                refine lv_bipush (v := 8) hx hb dX1_isAccess_48 (by decide) ?_
                refine lv_icmp_ne (tgt := 73) hx hb dX1_isAccess_50 (by decide) (fun c_46 => ?_) (fun c_46 => ?_)
                · refine lv_iconst (v := 0) hx hb dX1_isAccess_73 (by decide) ?_
                  exact W.zret (v := 0) hx hb hr rfl (fun t ht hW => ⟨0, rfl, (by first | rfl | (simp only [k_isAccess, b2i, ha, hm, c_40, c_42, c_44, c_46, b2i, decide_true, decide_false, Bool.not_true, Bool.not_false, Bool.and_true, Bool.and_false, Bool.true_and, Bool.false_and, Bool.or_true, Bool.or_false, Bool.true_or, Bool.false_or, reduceIte, or_true, true_or, or_false, false_or, and_true, true_and, and_false, false_and, not_true_eq_false, not_false_eq_true, Bool.false_eq_true, eq_self]; done) | (simp [k_isAccess, b2i, ha, hm, c_40, c_42, c_44, c_46]; done)), ht⟩) (fun _ h => nomatch h) dX1_isAccess_74
                · have hs : (decide (sz = 1) || decide (sz = 2) || decide (sz = 4) || decide (sz = 8)) = true := by simp [c_40, c_42, c_44, c_46]
                  refine lv_lload_n hx hb dX1_isAccess_53 rfl (lv_at hl 0 rfl) ?_
                  refine lv_ldc2 (v := 4095) hx hb hown (hts (.constantLong RX1 88 4095) (wa 253 (by decide +kernel) rfl)) dX1_isAccess_54 ?_
                  refine lv_land hx hb dX1_isAccess_57 ?_
                  refine lv_iload hx hb dX1_isAccess_58 (lv_at hl 3 rfl) ?_
                  refine lv_i2l (v := Int32.toInt64 sz) hx hb dX1_isAccess_60 rfl ?_
                  refine lv_ladd hx hb dX1_isAccess_61 ?_
                  refine lv_ldc2 (v := 4096) hx hb hown (hts (.constantLong RX1 90 4096) (wa 254 (by decide +kernel) rfl)) dX1_isAccess_62 ?_
                  refine W.lcmp hx hb dX1_isAccess_65 ?_
                  refine lv_if_gt (tgt := 73) hx hb dX1_isAccess_66 (by decide) (fun c_47 => ?_) (fun c_47 => ?_)
                  · rw [lg_cmp_gt] at c_47
                    refine lv_iconst (v := 0) hx hb dX1_isAccess_73 (by decide) ?_
                    exact W.zret (v := 0) hx hb hr rfl (fun t ht hW => ⟨0, rfl, (by first | rfl | (simp only [k_isAccess, b2i, ha, hm, hs, c_47, b2i, decide_true, decide_false, Bool.not_true, Bool.not_false, Bool.and_true, Bool.and_false, Bool.true_and, Bool.false_and, Bool.or_true, Bool.or_false, Bool.true_or, Bool.false_or, reduceIte, or_true, true_or, or_false, false_or, and_true, true_and, and_false, false_and, not_true_eq_false, not_false_eq_true, Bool.false_eq_true, eq_self]; done) | (simp [k_isAccess, b2i, ha, hm, hs, c_47]; done)), ht⟩) (fun _ h => nomatch h) dX1_isAccess_74
                  · rw [lg_cmp_gt] at c_47
                    refine lv_iconst (v := 1) hx hb dX1_isAccess_69 (by decide) ?_
                    refine lv_goto (tgt := 74) hx hb dX1_isAccess_70 (by decide) ?_
                    exact W.zret (v := 1) hx hb hr rfl (fun t ht hW => ⟨1, rfl, (by first | rfl | (simp only [k_isAccess, b2i, ha, hm, hs, c_47, b2i, decide_true, decide_false, Bool.not_true, Bool.not_false, Bool.and_true, Bool.and_false, Bool.true_and, Bool.false_and, Bool.or_true, Bool.or_false, Bool.true_or, Bool.false_or, reduceIte, or_true, true_or, or_false, false_or, and_true, true_and, and_false, false_and, not_true_eq_false, not_false_eq_true, Bool.false_eq_true, eq_self]; done) | (simp [k_isAccess, b2i, ha, hm, hs, c_47]; done)), ht⟩) (fun _ h => nomatch h) dX1_isAccess_74
        · refine lv_iload_n hx hb dX1_isAccess_23 rfl (lv_at hl 2 rfl) ?_
          refine lv_iconst (v := 3) hx hb dX1_isAccess_24 (by decide) ?_
          refine lv_icmp_ne (tgt := 73) hx hb dX1_isAccess_25 (by decide) (fun c_48 => ?_) (fun c_48 => ?_)
          · refine lv_iconst (v := 0) hx hb dX1_isAccess_73 (by decide) ?_
            exact W.zret (v := 0) hx hb hr rfl (fun t ht hW => ⟨0, rfl, (by first | rfl | (simp only [k_isAccess, b2i, ha, c_30, c_39, c_48, b2i, decide_true, decide_false, Bool.not_true, Bool.not_false, Bool.and_true, Bool.and_false, Bool.true_and, Bool.false_and, Bool.or_true, Bool.or_false, Bool.true_or, Bool.false_or, reduceIte, or_true, true_or, or_false, false_or, and_true, true_and, and_false, false_and, not_true_eq_false, not_false_eq_true, Bool.false_eq_true, eq_self]; done) | (simp [k_isAccess, b2i, ha, c_30, c_39, c_48]; done)), ht⟩) (fun _ h => nomatch h) dX1_isAccess_74
          · have hm : (decide (md = 0) || decide (md = 1) || decide (md = 3)) = true := by simp [c_30, c_39, c_48]
            refine lv_iload hx hb dX1_isAccess_28 (lv_at hl 3 rfl) ?_
            refine lv_iconst (v := 1) hx hb dX1_isAccess_30 (by decide) ?_
            refine lv_icmp_eq (tgt := 53) hx hb dX1_isAccess_31 (by decide) (fun c_49 => ?_) (fun c_49 => ?_)
            · have hs : (decide (sz = 1) || decide (sz = 2) || decide (sz = 4) || decide (sz = 8)) = true := by simp [c_49]
              refine lv_lload_n hx hb dX1_isAccess_53 rfl (lv_at hl 0 rfl) ?_
              refine lv_ldc2 (v := 4095) hx hb hown (hts (.constantLong RX1 88 4095) (wa 253 (by decide +kernel) rfl)) dX1_isAccess_54 ?_
              refine lv_land hx hb dX1_isAccess_57 ?_
              refine lv_iload hx hb dX1_isAccess_58 (lv_at hl 3 rfl) ?_
              refine lv_i2l (v := Int32.toInt64 sz) hx hb dX1_isAccess_60 rfl ?_
              refine lv_ladd hx hb dX1_isAccess_61 ?_
              refine lv_ldc2 (v := 4096) hx hb hown (hts (.constantLong RX1 90 4096) (wa 254 (by decide +kernel) rfl)) dX1_isAccess_62 ?_
              refine W.lcmp hx hb dX1_isAccess_65 ?_
              refine lv_if_gt (tgt := 73) hx hb dX1_isAccess_66 (by decide) (fun c_50 => ?_) (fun c_50 => ?_)
              · rw [lg_cmp_gt] at c_50
                refine lv_iconst (v := 0) hx hb dX1_isAccess_73 (by decide) ?_
                exact W.zret (v := 0) hx hb hr rfl (fun t ht hW => ⟨0, rfl, (by first | rfl | (simp only [k_isAccess, b2i, ha, hm, hs, c_50, b2i, decide_true, decide_false, Bool.not_true, Bool.not_false, Bool.and_true, Bool.and_false, Bool.true_and, Bool.false_and, Bool.or_true, Bool.or_false, Bool.true_or, Bool.false_or, reduceIte, or_true, true_or, or_false, false_or, and_true, true_and, and_false, false_and, not_true_eq_false, not_false_eq_true, Bool.false_eq_true, eq_self]; done) | (simp [k_isAccess, b2i, ha, hm, hs, c_50]; done)), ht⟩) (fun _ h => nomatch h) dX1_isAccess_74
              · rw [lg_cmp_gt] at c_50
                refine lv_iconst (v := 1) hx hb dX1_isAccess_69 (by decide) ?_
                refine lv_goto (tgt := 74) hx hb dX1_isAccess_70 (by decide) ?_
                exact W.zret (v := 1) hx hb hr rfl (fun t ht hW => ⟨1, rfl, (by first | rfl | (simp only [k_isAccess, b2i, ha, hm, hs, c_50, b2i, decide_true, decide_false, Bool.not_true, Bool.not_false, Bool.and_true, Bool.and_false, Bool.true_and, Bool.false_and, Bool.or_true, Bool.or_false, Bool.true_or, Bool.false_or, reduceIte, or_true, true_or, or_false, false_or, and_true, true_and, and_false, false_and, not_true_eq_false, not_false_eq_true, Bool.false_eq_true, eq_self]; done) | (simp [k_isAccess, b2i, ha, hm, hs, c_50]; done)), ht⟩) (fun _ h => nomatch h) dX1_isAccess_74
            · refine lv_iload hx hb dX1_isAccess_34 (lv_at hl 3 rfl) ?_
              refine lv_iconst (v := 2) hx hb dX1_isAccess_36 (by decide) ?_
              refine lv_icmp_eq (tgt := 53) hx hb dX1_isAccess_37 (by decide) (fun c_51 => ?_) (fun c_51 => ?_)
              · have hs : (decide (sz = 1) || decide (sz = 2) || decide (sz = 4) || decide (sz = 8)) = true := by simp [c_49, c_51]
                refine lv_lload_n hx hb dX1_isAccess_53 rfl (lv_at hl 0 rfl) ?_
                refine lv_ldc2 (v := 4095) hx hb hown (hts (.constantLong RX1 88 4095) (wa 253 (by decide +kernel) rfl)) dX1_isAccess_54 ?_
                refine lv_land hx hb dX1_isAccess_57 ?_
                refine lv_iload hx hb dX1_isAccess_58 (lv_at hl 3 rfl) ?_
                refine lv_i2l (v := Int32.toInt64 sz) hx hb dX1_isAccess_60 rfl ?_
                refine lv_ladd hx hb dX1_isAccess_61 ?_
                refine lv_ldc2 (v := 4096) hx hb hown (hts (.constantLong RX1 90 4096) (wa 254 (by decide +kernel) rfl)) dX1_isAccess_62 ?_
                refine W.lcmp hx hb dX1_isAccess_65 ?_
                refine lv_if_gt (tgt := 73) hx hb dX1_isAccess_66 (by decide) (fun c_52 => ?_) (fun c_52 => ?_)
                · rw [lg_cmp_gt] at c_52
                  refine lv_iconst (v := 0) hx hb dX1_isAccess_73 (by decide) ?_
                  exact W.zret (v := 0) hx hb hr rfl (fun t ht hW => ⟨0, rfl, (by first | rfl | (simp only [k_isAccess, b2i, ha, hm, hs, c_52, b2i, decide_true, decide_false, Bool.not_true, Bool.not_false, Bool.and_true, Bool.and_false, Bool.true_and, Bool.false_and, Bool.or_true, Bool.or_false, Bool.true_or, Bool.false_or, reduceIte, or_true, true_or, or_false, false_or, and_true, true_and, and_false, false_and, not_true_eq_false, not_false_eq_true, Bool.false_eq_true, eq_self]; done) | (simp [k_isAccess, b2i, ha, hm, hs, c_52]; done)), ht⟩) (fun _ h => nomatch h) dX1_isAccess_74
                · rw [lg_cmp_gt] at c_52
                  refine lv_iconst (v := 1) hx hb dX1_isAccess_69 (by decide) ?_
                  refine lv_goto (tgt := 74) hx hb dX1_isAccess_70 (by decide) ?_
                  exact W.zret (v := 1) hx hb hr rfl (fun t ht hW => ⟨1, rfl, (by first | rfl | (simp only [k_isAccess, b2i, ha, hm, hs, c_52, b2i, decide_true, decide_false, Bool.not_true, Bool.not_false, Bool.and_true, Bool.and_false, Bool.true_and, Bool.false_and, Bool.or_true, Bool.or_false, Bool.true_or, Bool.false_or, reduceIte, or_true, true_or, or_false, false_or, and_true, true_and, and_false, false_and, not_true_eq_false, not_false_eq_true, Bool.false_eq_true, eq_self]; done) | (simp [k_isAccess, b2i, ha, hm, hs, c_52]; done)), ht⟩) (fun _ h => nomatch h) dX1_isAccess_74
              · refine lv_iload hx hb dX1_isAccess_40 (lv_at hl 3 rfl) ?_
                refine lv_iconst (v := 4) hx hb dX1_isAccess_42 (by decide) ?_
                refine lv_icmp_eq (tgt := 53) hx hb dX1_isAccess_43 (by decide) (fun c_53 => ?_) (fun c_53 => ?_)
                · have hs : (decide (sz = 1) || decide (sz = 2) || decide (sz = 4) || decide (sz = 8)) = true := by simp [c_49, c_51, c_53]
                  refine lv_lload_n hx hb dX1_isAccess_53 rfl (lv_at hl 0 rfl) ?_
                  refine lv_ldc2 (v := 4095) hx hb hown (hts (.constantLong RX1 88 4095) (wa 253 (by decide +kernel) rfl)) dX1_isAccess_54 ?_
                  refine lv_land hx hb dX1_isAccess_57 ?_
                  refine lv_iload hx hb dX1_isAccess_58 (lv_at hl 3 rfl) ?_
                  refine lv_i2l (v := Int32.toInt64 sz) hx hb dX1_isAccess_60 rfl ?_
                  refine lv_ladd hx hb dX1_isAccess_61 ?_
                  refine lv_ldc2 (v := 4096) hx hb hown (hts (.constantLong RX1 90 4096) (wa 254 (by decide +kernel) rfl)) dX1_isAccess_62 ?_
                  refine W.lcmp hx hb dX1_isAccess_65 ?_
                  refine lv_if_gt (tgt := 73) hx hb dX1_isAccess_66 (by decide) (fun c_54 => ?_) (fun c_54 => ?_)
                  · rw [lg_cmp_gt] at c_54
                    refine lv_iconst (v := 0) hx hb dX1_isAccess_73 (by decide) ?_
                    exact W.zret (v := 0) hx hb hr rfl (fun t ht hW => ⟨0, rfl, (by first | rfl | (simp only [k_isAccess, b2i, ha, hm, hs, c_54, b2i, decide_true, decide_false, Bool.not_true, Bool.not_false, Bool.and_true, Bool.and_false, Bool.true_and, Bool.false_and, Bool.or_true, Bool.or_false, Bool.true_or, Bool.false_or, reduceIte, or_true, true_or, or_false, false_or, and_true, true_and, and_false, false_and, not_true_eq_false, not_false_eq_true, Bool.false_eq_true, eq_self]; done) | (simp [k_isAccess, b2i, ha, hm, hs, c_54]; done)), ht⟩) (fun _ h => nomatch h) dX1_isAccess_74
                  · rw [lg_cmp_gt] at c_54
                    refine lv_iconst (v := 1) hx hb dX1_isAccess_69 (by decide) ?_
                    refine lv_goto (tgt := 74) hx hb dX1_isAccess_70 (by decide) ?_
                    exact W.zret (v := 1) hx hb hr rfl (fun t ht hW => ⟨1, rfl, (by first | rfl | (simp only [k_isAccess, b2i, ha, hm, hs, c_54, b2i, decide_true, decide_false, Bool.not_true, Bool.not_false, Bool.and_true, Bool.and_false, Bool.true_and, Bool.false_and, Bool.or_true, Bool.or_false, Bool.true_or, Bool.false_or, reduceIte, or_true, true_or, or_false, false_or, and_true, true_and, and_false, false_and, not_true_eq_false, not_false_eq_true, Bool.false_eq_true, eq_self]; done) | (simp [k_isAccess, b2i, ha, hm, hs, c_54]; done)), ht⟩) (fun _ h => nomatch h) dX1_isAccess_74
                · refine lv_iload hx hb dX1_isAccess_46 (lv_at hl 3 rfl) ?_
                  refine lv_bipush (v := 8) hx hb dX1_isAccess_48 (by decide) ?_
                  refine lv_icmp_ne (tgt := 73) hx hb dX1_isAccess_50 (by decide) (fun c_55 => ?_) (fun c_55 => ?_)
                  · refine lv_iconst (v := 0) hx hb dX1_isAccess_73 (by decide) ?_
                    exact W.zret (v := 0) hx hb hr rfl (fun t ht hW => ⟨0, rfl, (by first | rfl | (simp only [k_isAccess, b2i, ha, hm, c_49, c_51, c_53, c_55, b2i, decide_true, decide_false, Bool.not_true, Bool.not_false, Bool.and_true, Bool.and_false, Bool.true_and, Bool.false_and, Bool.or_true, Bool.or_false, Bool.true_or, Bool.false_or, reduceIte, or_true, true_or, or_false, false_or, and_true, true_and, and_false, false_and, not_true_eq_false, not_false_eq_true, Bool.false_eq_true, eq_self]; done) | (simp [k_isAccess, b2i, ha, hm, c_49, c_51, c_53, c_55]; done)), ht⟩) (fun _ h => nomatch h) dX1_isAccess_74
                  · have hs : (decide (sz = 1) || decide (sz = 2) || decide (sz = 4) || decide (sz = 8)) = true := by simp [c_49, c_51, c_53, c_55]
                    refine lv_lload_n hx hb dX1_isAccess_53 rfl (lv_at hl 0 rfl) ?_
                    refine lv_ldc2 (v := 4095) hx hb hown (hts (.constantLong RX1 88 4095) (wa 253 (by decide +kernel) rfl)) dX1_isAccess_54 ?_
                    refine lv_land hx hb dX1_isAccess_57 ?_
                    refine lv_iload hx hb dX1_isAccess_58 (lv_at hl 3 rfl) ?_
                    refine lv_i2l (v := Int32.toInt64 sz) hx hb dX1_isAccess_60 rfl ?_
                    refine lv_ladd hx hb dX1_isAccess_61 ?_
                    refine lv_ldc2 (v := 4096) hx hb hown (hts (.constantLong RX1 90 4096) (wa 254 (by decide +kernel) rfl)) dX1_isAccess_62 ?_
                    refine W.lcmp hx hb dX1_isAccess_65 ?_
                    refine lv_if_gt (tgt := 73) hx hb dX1_isAccess_66 (by decide) (fun c_56 => ?_) (fun c_56 => ?_)
                    · rw [lg_cmp_gt] at c_56
                      refine lv_iconst (v := 0) hx hb dX1_isAccess_73 (by decide) ?_
                      exact W.zret (v := 0) hx hb hr rfl (fun t ht hW => ⟨0, rfl, (by first | rfl | (simp only [k_isAccess, b2i, ha, hm, hs, c_56, b2i, decide_true, decide_false, Bool.not_true, Bool.not_false, Bool.and_true, Bool.and_false, Bool.true_and, Bool.false_and, Bool.or_true, Bool.or_false, Bool.true_or, Bool.false_or, reduceIte, or_true, true_or, or_false, false_or, and_true, true_and, and_false, false_and, not_true_eq_false, not_false_eq_true, Bool.false_eq_true, eq_self]; done) | (simp [k_isAccess, b2i, ha, hm, hs, c_56]; done)), ht⟩) (fun _ h => nomatch h) dX1_isAccess_74
                    · rw [lg_cmp_gt] at c_56
                      refine lv_iconst (v := 1) hx hb dX1_isAccess_69 (by decide) ?_
                      refine lv_goto (tgt := 74) hx hb dX1_isAccess_70 (by decide) ?_
                      exact W.zret (v := 1) hx hb hr rfl (fun t ht hW => ⟨1, rfl, (by first | rfl | (simp only [k_isAccess, b2i, ha, hm, hs, c_56, b2i, decide_true, decide_false, Bool.not_true, Bool.not_false, Bool.and_true, Bool.and_false, Bool.true_and, Bool.false_and, Bool.or_true, Bool.or_false, Bool.true_or, Bool.false_or, reduceIte, or_true, true_or, or_false, false_or, and_true, true_and, and_false, false_and, not_true_eq_false, not_false_eq_true, Bool.false_eq_true, eq_self]; done) | (simp [k_isAccess, b2i, ha, hm, hs, c_56]; done)), ht⟩) (fun _ h => nomatch h) dX1_isAccess_74
    · refine lv_iload_n hx hb dX1_isAccess_9 rfl (lv_at hl 1 rfl) ?_
      refine lv_iconst (v := 2) hx hb dX1_isAccess_10 (by decide) ?_
      refine lv_icmp_ne (tgt := 73) hx hb dX1_isAccess_11 (by decide) (fun c_57 => ?_) (fun c_57 => ?_)
      · refine lv_iconst (v := 0) hx hb dX1_isAccess_73 (by decide) ?_
        exact W.zret (v := 0) hx hb hr rfl (fun t ht hW => ⟨0, rfl, (by first | rfl | (simp only [k_isAccess, b2i, c_1, c_29, c_57, b2i, decide_true, decide_false, Bool.not_true, Bool.not_false, Bool.and_true, Bool.and_false, Bool.true_and, Bool.false_and, Bool.or_true, Bool.or_false, Bool.true_or, Bool.false_or, reduceIte, or_true, true_or, or_false, false_or, and_true, true_and, and_false, false_and, not_true_eq_false, not_false_eq_true, Bool.false_eq_true, eq_self]; done) | (simp [k_isAccess, b2i, c_1, c_29, c_57]; done)), ht⟩) (fun _ h => nomatch h) dX1_isAccess_74
      · have ha : (decide (ac = 0) || decide (ac = 1) || decide (ac = 2)) = true := by simp [c_1, c_29, c_57]
        refine lv_iload_n hx hb dX1_isAccess_14 rfl (lv_at hl 2 rfl) ?_
        refine lv_if_eq (tgt := 28) hx hb dX1_isAccess_15 (by decide) (fun c_58 => ?_) (fun c_58 => ?_)
        · have hm : (decide (md = 0) || decide (md = 1) || decide (md = 3)) = true := by simp [c_58]
          refine lv_iload hx hb dX1_isAccess_28 (lv_at hl 3 rfl) ?_
          refine lv_iconst (v := 1) hx hb dX1_isAccess_30 (by decide) ?_
          refine lv_icmp_eq (tgt := 53) hx hb dX1_isAccess_31 (by decide) (fun c_59 => ?_) (fun c_59 => ?_)
          · have hs : (decide (sz = 1) || decide (sz = 2) || decide (sz = 4) || decide (sz = 8)) = true := by simp [c_59]
            refine lv_lload_n hx hb dX1_isAccess_53 rfl (lv_at hl 0 rfl) ?_
            refine lv_ldc2 (v := 4095) hx hb hown (hts (.constantLong RX1 88 4095) (wa 253 (by decide +kernel) rfl)) dX1_isAccess_54 ?_
            refine lv_land hx hb dX1_isAccess_57 ?_
            refine lv_iload hx hb dX1_isAccess_58 (lv_at hl 3 rfl) ?_
            refine lv_i2l (v := Int32.toInt64 sz) hx hb dX1_isAccess_60 rfl ?_
            refine lv_ladd hx hb dX1_isAccess_61 ?_
            refine lv_ldc2 (v := 4096) hx hb hown (hts (.constantLong RX1 90 4096) (wa 254 (by decide +kernel) rfl)) dX1_isAccess_62 ?_
            refine W.lcmp hx hb dX1_isAccess_65 ?_
            refine lv_if_gt (tgt := 73) hx hb dX1_isAccess_66 (by decide) (fun c_60 => ?_) (fun c_60 => ?_)
            · rw [lg_cmp_gt] at c_60
              refine lv_iconst (v := 0) hx hb dX1_isAccess_73 (by decide) ?_
              exact W.zret (v := 0) hx hb hr rfl (fun t ht hW => ⟨0, rfl, (by first | rfl | (simp only [k_isAccess, b2i, ha, hm, hs, c_60, b2i, decide_true, decide_false, Bool.not_true, Bool.not_false, Bool.and_true, Bool.and_false, Bool.true_and, Bool.false_and, Bool.or_true, Bool.or_false, Bool.true_or, Bool.false_or, reduceIte, or_true, true_or, or_false, false_or, and_true, true_and, and_false, false_and, not_true_eq_false, not_false_eq_true, Bool.false_eq_true, eq_self]; done) | (simp [k_isAccess, b2i, ha, hm, hs, c_60]; done)), ht⟩) (fun _ h => nomatch h) dX1_isAccess_74
            · rw [lg_cmp_gt] at c_60
              refine lv_iconst (v := 1) hx hb dX1_isAccess_69 (by decide) ?_
              refine lv_goto (tgt := 74) hx hb dX1_isAccess_70 (by decide) ?_
              exact W.zret (v := 1) hx hb hr rfl (fun t ht hW => ⟨1, rfl, (by first | rfl | (simp only [k_isAccess, b2i, ha, hm, hs, c_60, b2i, decide_true, decide_false, Bool.not_true, Bool.not_false, Bool.and_true, Bool.and_false, Bool.true_and, Bool.false_and, Bool.or_true, Bool.or_false, Bool.true_or, Bool.false_or, reduceIte, or_true, true_or, or_false, false_or, and_true, true_and, and_false, false_and, not_true_eq_false, not_false_eq_true, Bool.false_eq_true, eq_self]; done) | (simp [k_isAccess, b2i, ha, hm, hs, c_60]; done)), ht⟩) (fun _ h => nomatch h) dX1_isAccess_74
          · refine lv_iload hx hb dX1_isAccess_34 (lv_at hl 3 rfl) ?_
            refine lv_iconst (v := 2) hx hb dX1_isAccess_36 (by decide) ?_
            refine lv_icmp_eq (tgt := 53) hx hb dX1_isAccess_37 (by decide) (fun c_61 => ?_) (fun c_61 => ?_)
            · have hs : (decide (sz = 1) || decide (sz = 2) || decide (sz = 4) || decide (sz = 8)) = true := by simp [c_59, c_61]
              refine lv_lload_n hx hb dX1_isAccess_53 rfl (lv_at hl 0 rfl) ?_
              refine lv_ldc2 (v := 4095) hx hb hown (hts (.constantLong RX1 88 4095) (wa 253 (by decide +kernel) rfl)) dX1_isAccess_54 ?_
              refine lv_land hx hb dX1_isAccess_57 ?_
              refine lv_iload hx hb dX1_isAccess_58 (lv_at hl 3 rfl) ?_
              refine lv_i2l (v := Int32.toInt64 sz) hx hb dX1_isAccess_60 rfl ?_
              refine lv_ladd hx hb dX1_isAccess_61 ?_
              refine lv_ldc2 (v := 4096) hx hb hown (hts (.constantLong RX1 90 4096) (wa 254 (by decide +kernel) rfl)) dX1_isAccess_62 ?_
              refine W.lcmp hx hb dX1_isAccess_65 ?_
              refine lv_if_gt (tgt := 73) hx hb dX1_isAccess_66 (by decide) (fun c_62 => ?_) (fun c_62 => ?_)
              · rw [lg_cmp_gt] at c_62
                refine lv_iconst (v := 0) hx hb dX1_isAccess_73 (by decide) ?_
                exact W.zret (v := 0) hx hb hr rfl (fun t ht hW => ⟨0, rfl, (by first | rfl | (simp only [k_isAccess, b2i, ha, hm, hs, c_62, b2i, decide_true, decide_false, Bool.not_true, Bool.not_false, Bool.and_true, Bool.and_false, Bool.true_and, Bool.false_and, Bool.or_true, Bool.or_false, Bool.true_or, Bool.false_or, reduceIte, or_true, true_or, or_false, false_or, and_true, true_and, and_false, false_and, not_true_eq_false, not_false_eq_true, Bool.false_eq_true, eq_self]; done) | (simp [k_isAccess, b2i, ha, hm, hs, c_62]; done)), ht⟩) (fun _ h => nomatch h) dX1_isAccess_74
              · rw [lg_cmp_gt] at c_62
                refine lv_iconst (v := 1) hx hb dX1_isAccess_69 (by decide) ?_
                refine lv_goto (tgt := 74) hx hb dX1_isAccess_70 (by decide) ?_
                exact W.zret (v := 1) hx hb hr rfl (fun t ht hW => ⟨1, rfl, (by first | rfl | (simp only [k_isAccess, b2i, ha, hm, hs, c_62, b2i, decide_true, decide_false, Bool.not_true, Bool.not_false, Bool.and_true, Bool.and_false, Bool.true_and, Bool.false_and, Bool.or_true, Bool.or_false, Bool.true_or, Bool.false_or, reduceIte, or_true, true_or, or_false, false_or, and_true, true_and, and_false, false_and, not_true_eq_false, not_false_eq_true, Bool.false_eq_true, eq_self]; done) | (simp [k_isAccess, b2i, ha, hm, hs, c_62]; done)), ht⟩) (fun _ h => nomatch h) dX1_isAccess_74
            · refine lv_iload hx hb dX1_isAccess_40 (lv_at hl 3 rfl) ?_
              refine lv_iconst (v := 4) hx hb dX1_isAccess_42 (by decide) ?_
              refine lv_icmp_eq (tgt := 53) hx hb dX1_isAccess_43 (by decide) (fun c_63 => ?_) (fun c_63 => ?_)
              · have hs : (decide (sz = 1) || decide (sz = 2) || decide (sz = 4) || decide (sz = 8)) = true := by simp [c_59, c_61, c_63]
                refine lv_lload_n hx hb dX1_isAccess_53 rfl (lv_at hl 0 rfl) ?_
                refine lv_ldc2 (v := 4095) hx hb hown (hts (.constantLong RX1 88 4095) (wa 253 (by decide +kernel) rfl)) dX1_isAccess_54 ?_
                refine lv_land hx hb dX1_isAccess_57 ?_
                refine lv_iload hx hb dX1_isAccess_58 (lv_at hl 3 rfl) ?_
                refine lv_i2l (v := Int32.toInt64 sz) hx hb dX1_isAccess_60 rfl ?_
                refine lv_ladd hx hb dX1_isAccess_61 ?_
                refine lv_ldc2 (v := 4096) hx hb hown (hts (.constantLong RX1 90 4096) (wa 254 (by decide +kernel) rfl)) dX1_isAccess_62 ?_
                refine W.lcmp hx hb dX1_isAccess_65 ?_
                refine lv_if_gt (tgt := 73) hx hb dX1_isAccess_66 (by decide) (fun c_64 => ?_) (fun c_64 => ?_)
                · rw [lg_cmp_gt] at c_64
                  refine lv_iconst (v := 0) hx hb dX1_isAccess_73 (by decide) ?_
                  exact W.zret (v := 0) hx hb hr rfl (fun t ht hW => ⟨0, rfl, (by first | rfl | (simp only [k_isAccess, b2i, ha, hm, hs, c_64, b2i, decide_true, decide_false, Bool.not_true, Bool.not_false, Bool.and_true, Bool.and_false, Bool.true_and, Bool.false_and, Bool.or_true, Bool.or_false, Bool.true_or, Bool.false_or, reduceIte, or_true, true_or, or_false, false_or, and_true, true_and, and_false, false_and, not_true_eq_false, not_false_eq_true, Bool.false_eq_true, eq_self]; done) | (simp [k_isAccess, b2i, ha, hm, hs, c_64]; done)), ht⟩) (fun _ h => nomatch h) dX1_isAccess_74
                · rw [lg_cmp_gt] at c_64
                  refine lv_iconst (v := 1) hx hb dX1_isAccess_69 (by decide) ?_
                  refine lv_goto (tgt := 74) hx hb dX1_isAccess_70 (by decide) ?_
                  exact W.zret (v := 1) hx hb hr rfl (fun t ht hW => ⟨1, rfl, (by first | rfl | (simp only [k_isAccess, b2i, ha, hm, hs, c_64, b2i, decide_true, decide_false, Bool.not_true, Bool.not_false, Bool.and_true, Bool.and_false, Bool.true_and, Bool.false_and, Bool.or_true, Bool.or_false, Bool.true_or, Bool.false_or, reduceIte, or_true, true_or, or_false, false_or, and_true, true_and, and_false, false_and, not_true_eq_false, not_false_eq_true, Bool.false_eq_true, eq_self]; done) | (simp [k_isAccess, b2i, ha, hm, hs, c_64]; done)), ht⟩) (fun _ h => nomatch h) dX1_isAccess_74
              · refine lv_iload hx hb dX1_isAccess_46 (lv_at hl 3 rfl) ?_
                refine lv_bipush (v := 8) hx hb dX1_isAccess_48 (by decide) ?_
                refine lv_icmp_ne (tgt := 73) hx hb dX1_isAccess_50 (by decide) (fun c_65 => ?_) (fun c_65 => ?_)
                · refine lv_iconst (v := 0) hx hb dX1_isAccess_73 (by decide) ?_
                  exact W.zret (v := 0) hx hb hr rfl (fun t ht hW => ⟨0, rfl, (by first | rfl | (simp only [k_isAccess, b2i, ha, hm, c_59, c_61, c_63, c_65, b2i, decide_true, decide_false, Bool.not_true, Bool.not_false, Bool.and_true, Bool.and_false, Bool.true_and, Bool.false_and, Bool.or_true, Bool.or_false, Bool.true_or, Bool.false_or, reduceIte, or_true, true_or, or_false, false_or, and_true, true_and, and_false, false_and, not_true_eq_false, not_false_eq_true, Bool.false_eq_true, eq_self]; done) | (simp [k_isAccess, b2i, ha, hm, c_59, c_61, c_63, c_65]; done)), ht⟩) (fun _ h => nomatch h) dX1_isAccess_74
                · have hs : (decide (sz = 1) || decide (sz = 2) || decide (sz = 4) || decide (sz = 8)) = true := by simp [c_59, c_61, c_63, c_65]
                  refine lv_lload_n hx hb dX1_isAccess_53 rfl (lv_at hl 0 rfl) ?_
                  refine lv_ldc2 (v := 4095) hx hb hown (hts (.constantLong RX1 88 4095) (wa 253 (by decide +kernel) rfl)) dX1_isAccess_54 ?_
                  refine lv_land hx hb dX1_isAccess_57 ?_
                  refine lv_iload hx hb dX1_isAccess_58 (lv_at hl 3 rfl) ?_
                  refine lv_i2l (v := Int32.toInt64 sz) hx hb dX1_isAccess_60 rfl ?_
                  refine lv_ladd hx hb dX1_isAccess_61 ?_
                  refine lv_ldc2 (v := 4096) hx hb hown (hts (.constantLong RX1 90 4096) (wa 254 (by decide +kernel) rfl)) dX1_isAccess_62 ?_
                  refine W.lcmp hx hb dX1_isAccess_65 ?_
                  refine lv_if_gt (tgt := 73) hx hb dX1_isAccess_66 (by decide) (fun c_66 => ?_) (fun c_66 => ?_)
                  · rw [lg_cmp_gt] at c_66
                    refine lv_iconst (v := 0) hx hb dX1_isAccess_73 (by decide) ?_
                    exact W.zret (v := 0) hx hb hr rfl (fun t ht hW => ⟨0, rfl, (by first | rfl | (simp only [k_isAccess, b2i, ha, hm, hs, c_66, b2i, decide_true, decide_false, Bool.not_true, Bool.not_false, Bool.and_true, Bool.and_false, Bool.true_and, Bool.false_and, Bool.or_true, Bool.or_false, Bool.true_or, Bool.false_or, reduceIte, or_true, true_or, or_false, false_or, and_true, true_and, and_false, false_and, not_true_eq_false, not_false_eq_true, Bool.false_eq_true, eq_self]; done) | (simp [k_isAccess, b2i, ha, hm, hs, c_66]; done)), ht⟩) (fun _ h => nomatch h) dX1_isAccess_74
                  · rw [lg_cmp_gt] at c_66
                    refine lv_iconst (v := 1) hx hb dX1_isAccess_69 (by decide) ?_
                    refine lv_goto (tgt := 74) hx hb dX1_isAccess_70 (by decide) ?_
                    exact W.zret (v := 1) hx hb hr rfl (fun t ht hW => ⟨1, rfl, (by first | rfl | (simp only [k_isAccess, b2i, ha, hm, hs, c_66, b2i, decide_true, decide_false, Bool.not_true, Bool.not_false, Bool.and_true, Bool.and_false, Bool.true_and, Bool.false_and, Bool.or_true, Bool.or_false, Bool.true_or, Bool.false_or, reduceIte, or_true, true_or, or_false, false_or, and_true, true_and, and_false, false_and, not_true_eq_false, not_false_eq_true, Bool.false_eq_true, eq_self]; done) | (simp [k_isAccess, b2i, ha, hm, hs, c_66]; done)), ht⟩) (fun _ h => nomatch h) dX1_isAccess_74
        · refine lv_iload_n hx hb dX1_isAccess_18 rfl (lv_at hl 2 rfl) ?_
          refine lv_iconst (v := 1) hx hb dX1_isAccess_19 (by decide) ?_
          refine lv_icmp_eq (tgt := 28) hx hb dX1_isAccess_20 (by decide) (fun c_67 => ?_) (fun c_67 => ?_)
          · have hm : (decide (md = 0) || decide (md = 1) || decide (md = 3)) = true := by simp [c_58, c_67]
            refine lv_iload hx hb dX1_isAccess_28 (lv_at hl 3 rfl) ?_
            refine lv_iconst (v := 1) hx hb dX1_isAccess_30 (by decide) ?_
            refine lv_icmp_eq (tgt := 53) hx hb dX1_isAccess_31 (by decide) (fun c_68 => ?_) (fun c_68 => ?_)
            · have hs : (decide (sz = 1) || decide (sz = 2) || decide (sz = 4) || decide (sz = 8)) = true := by simp [c_68]
              refine lv_lload_n hx hb dX1_isAccess_53 rfl (lv_at hl 0 rfl) ?_
              refine lv_ldc2 (v := 4095) hx hb hown (hts (.constantLong RX1 88 4095) (wa 253 (by decide +kernel) rfl)) dX1_isAccess_54 ?_
              refine lv_land hx hb dX1_isAccess_57 ?_
              refine lv_iload hx hb dX1_isAccess_58 (lv_at hl 3 rfl) ?_
              refine lv_i2l (v := Int32.toInt64 sz) hx hb dX1_isAccess_60 rfl ?_
              refine lv_ladd hx hb dX1_isAccess_61 ?_
              refine lv_ldc2 (v := 4096) hx hb hown (hts (.constantLong RX1 90 4096) (wa 254 (by decide +kernel) rfl)) dX1_isAccess_62 ?_
              refine W.lcmp hx hb dX1_isAccess_65 ?_
              refine lv_if_gt (tgt := 73) hx hb dX1_isAccess_66 (by decide) (fun c_69 => ?_) (fun c_69 => ?_)
              · rw [lg_cmp_gt] at c_69
                refine lv_iconst (v := 0) hx hb dX1_isAccess_73 (by decide) ?_
                exact W.zret (v := 0) hx hb hr rfl (fun t ht hW => ⟨0, rfl, (by first | rfl | (simp only [k_isAccess, b2i, ha, hm, hs, c_69, b2i, decide_true, decide_false, Bool.not_true, Bool.not_false, Bool.and_true, Bool.and_false, Bool.true_and, Bool.false_and, Bool.or_true, Bool.or_false, Bool.true_or, Bool.false_or, reduceIte, or_true, true_or, or_false, false_or, and_true, true_and, and_false, false_and, not_true_eq_false, not_false_eq_true, Bool.false_eq_true, eq_self]; done) | (simp [k_isAccess, b2i, ha, hm, hs, c_69]; done)), ht⟩) (fun _ h => nomatch h) dX1_isAccess_74
              · rw [lg_cmp_gt] at c_69
                refine lv_iconst (v := 1) hx hb dX1_isAccess_69 (by decide) ?_
                refine lv_goto (tgt := 74) hx hb dX1_isAccess_70 (by decide) ?_
                exact W.zret (v := 1) hx hb hr rfl (fun t ht hW => ⟨1, rfl, (by first | rfl | (simp only [k_isAccess, b2i, ha, hm, hs, c_69, b2i, decide_true, decide_false, Bool.not_true, Bool.not_false, Bool.and_true, Bool.and_false, Bool.true_and, Bool.false_and, Bool.or_true, Bool.or_false, Bool.true_or, Bool.false_or, reduceIte, or_true, true_or, or_false, false_or, and_true, true_and, and_false, false_and, not_true_eq_false, not_false_eq_true, Bool.false_eq_true, eq_self]; done) | (simp [k_isAccess, b2i, ha, hm, hs, c_69]; done)), ht⟩) (fun _ h => nomatch h) dX1_isAccess_74
            · refine lv_iload hx hb dX1_isAccess_34 (lv_at hl 3 rfl) ?_
              refine lv_iconst (v := 2) hx hb dX1_isAccess_36 (by decide) ?_
              refine lv_icmp_eq (tgt := 53) hx hb dX1_isAccess_37 (by decide) (fun c_70 => ?_) (fun c_70 => ?_)
              · have hs : (decide (sz = 1) || decide (sz = 2) || decide (sz = 4) || decide (sz = 8)) = true := by simp [c_68, c_70]
                refine lv_lload_n hx hb dX1_isAccess_53 rfl (lv_at hl 0 rfl) ?_
                refine lv_ldc2 (v := 4095) hx hb hown (hts (.constantLong RX1 88 4095) (wa 253 (by decide +kernel) rfl)) dX1_isAccess_54 ?_
                refine lv_land hx hb dX1_isAccess_57 ?_
                refine lv_iload hx hb dX1_isAccess_58 (lv_at hl 3 rfl) ?_
                refine lv_i2l (v := Int32.toInt64 sz) hx hb dX1_isAccess_60 rfl ?_
                refine lv_ladd hx hb dX1_isAccess_61 ?_
                refine lv_ldc2 (v := 4096) hx hb hown (hts (.constantLong RX1 90 4096) (wa 254 (by decide +kernel) rfl)) dX1_isAccess_62 ?_
                refine W.lcmp hx hb dX1_isAccess_65 ?_
                refine lv_if_gt (tgt := 73) hx hb dX1_isAccess_66 (by decide) (fun c_71 => ?_) (fun c_71 => ?_)
                · rw [lg_cmp_gt] at c_71
                  refine lv_iconst (v := 0) hx hb dX1_isAccess_73 (by decide) ?_
                  exact W.zret (v := 0) hx hb hr rfl (fun t ht hW => ⟨0, rfl, (by first | rfl | (simp only [k_isAccess, b2i, ha, hm, hs, c_71, b2i, decide_true, decide_false, Bool.not_true, Bool.not_false, Bool.and_true, Bool.and_false, Bool.true_and, Bool.false_and, Bool.or_true, Bool.or_false, Bool.true_or, Bool.false_or, reduceIte, or_true, true_or, or_false, false_or, and_true, true_and, and_false, false_and, not_true_eq_false, not_false_eq_true, Bool.false_eq_true, eq_self]; done) | (simp [k_isAccess, b2i, ha, hm, hs, c_71]; done)), ht⟩) (fun _ h => nomatch h) dX1_isAccess_74
                · rw [lg_cmp_gt] at c_71
                  refine lv_iconst (v := 1) hx hb dX1_isAccess_69 (by decide) ?_
                  refine lv_goto (tgt := 74) hx hb dX1_isAccess_70 (by decide) ?_
                  exact W.zret (v := 1) hx hb hr rfl (fun t ht hW => ⟨1, rfl, (by first | rfl | (simp only [k_isAccess, b2i, ha, hm, hs, c_71, b2i, decide_true, decide_false, Bool.not_true, Bool.not_false, Bool.and_true, Bool.and_false, Bool.true_and, Bool.false_and, Bool.or_true, Bool.or_false, Bool.true_or, Bool.false_or, reduceIte, or_true, true_or, or_false, false_or, and_true, true_and, and_false, false_and, not_true_eq_false, not_false_eq_true, Bool.false_eq_true, eq_self]; done) | (simp [k_isAccess, b2i, ha, hm, hs, c_71]; done)), ht⟩) (fun _ h => nomatch h) dX1_isAccess_74
              · refine lv_iload hx hb dX1_isAccess_40 (lv_at hl 3 rfl) ?_
                refine lv_iconst (v := 4) hx hb dX1_isAccess_42 (by decide) ?_
                refine lv_icmp_eq (tgt := 53) hx hb dX1_isAccess_43 (by decide) (fun c_72 => ?_) (fun c_72 => ?_)
                · have hs : (decide (sz = 1) || decide (sz = 2) || decide (sz = 4) || decide (sz = 8)) = true := by simp [c_68, c_70, c_72]
                  refine lv_lload_n hx hb dX1_isAccess_53 rfl (lv_at hl 0 rfl) ?_
                  refine lv_ldc2 (v := 4095) hx hb hown (hts (.constantLong RX1 88 4095) (wa 253 (by decide +kernel) rfl)) dX1_isAccess_54 ?_
                  refine lv_land hx hb dX1_isAccess_57 ?_
                  refine lv_iload hx hb dX1_isAccess_58 (lv_at hl 3 rfl) ?_
                  refine lv_i2l (v := Int32.toInt64 sz) hx hb dX1_isAccess_60 rfl ?_
                  refine lv_ladd hx hb dX1_isAccess_61 ?_
                  refine lv_ldc2 (v := 4096) hx hb hown (hts (.constantLong RX1 90 4096) (wa 254 (by decide +kernel) rfl)) dX1_isAccess_62 ?_
                  refine W.lcmp hx hb dX1_isAccess_65 ?_
                  refine lv_if_gt (tgt := 73) hx hb dX1_isAccess_66 (by decide) (fun c_73 => ?_) (fun c_73 => ?_)
                  · rw [lg_cmp_gt] at c_73
                    refine lv_iconst (v := 0) hx hb dX1_isAccess_73 (by decide) ?_
                    exact W.zret (v := 0) hx hb hr rfl (fun t ht hW => ⟨0, rfl, (by first | rfl | (simp only [k_isAccess, b2i, ha, hm, hs, c_73, b2i, decide_true, decide_false, Bool.not_true, Bool.not_false, Bool.and_true, Bool.and_false, Bool.true_and, Bool.false_and, Bool.or_true, Bool.or_false, Bool.true_or, Bool.false_or, reduceIte, or_true, true_or, or_false, false_or, and_true, true_and, and_false, false_and, not_true_eq_false, not_false_eq_true, Bool.false_eq_true, eq_self]; done) | (simp [k_isAccess, b2i, ha, hm, hs, c_73]; done)), ht⟩) (fun _ h => nomatch h) dX1_isAccess_74
                  · rw [lg_cmp_gt] at c_73
                    refine lv_iconst (v := 1) hx hb dX1_isAccess_69 (by decide) ?_
                    refine lv_goto (tgt := 74) hx hb dX1_isAccess_70 (by decide) ?_
                    exact W.zret (v := 1) hx hb hr rfl (fun t ht hW => ⟨1, rfl, (by first | rfl | (simp only [k_isAccess, b2i, ha, hm, hs, c_73, b2i, decide_true, decide_false, Bool.not_true, Bool.not_false, Bool.and_true, Bool.and_false, Bool.true_and, Bool.false_and, Bool.or_true, Bool.or_false, Bool.true_or, Bool.false_or, reduceIte, or_true, true_or, or_false, false_or, and_true, true_and, and_false, false_and, not_true_eq_false, not_false_eq_true, Bool.false_eq_true, eq_self]; done) | (simp [k_isAccess, b2i, ha, hm, hs, c_73]; done)), ht⟩) (fun _ h => nomatch h) dX1_isAccess_74
                · refine lv_iload hx hb dX1_isAccess_46 (lv_at hl 3 rfl) ?_
                  refine lv_bipush (v := 8) hx hb dX1_isAccess_48 (by decide) ?_
                  refine lv_icmp_ne (tgt := 73) hx hb dX1_isAccess_50 (by decide) (fun c_74 => ?_) (fun c_74 => ?_)
                  · refine lv_iconst (v := 0) hx hb dX1_isAccess_73 (by decide) ?_
                    exact W.zret (v := 0) hx hb hr rfl (fun t ht hW => ⟨0, rfl, (by first | rfl | (simp only [k_isAccess, b2i, ha, hm, c_68, c_70, c_72, c_74, b2i, decide_true, decide_false, Bool.not_true, Bool.not_false, Bool.and_true, Bool.and_false, Bool.true_and, Bool.false_and, Bool.or_true, Bool.or_false, Bool.true_or, Bool.false_or, reduceIte, or_true, true_or, or_false, false_or, and_true, true_and, and_false, false_and, not_true_eq_false, not_false_eq_true, Bool.false_eq_true, eq_self]; done) | (simp [k_isAccess, b2i, ha, hm, c_68, c_70, c_72, c_74]; done)), ht⟩) (fun _ h => nomatch h) dX1_isAccess_74
                  · have hs : (decide (sz = 1) || decide (sz = 2) || decide (sz = 4) || decide (sz = 8)) = true := by simp [c_68, c_70, c_72, c_74]
                    refine lv_lload_n hx hb dX1_isAccess_53 rfl (lv_at hl 0 rfl) ?_
                    refine lv_ldc2 (v := 4095) hx hb hown (hts (.constantLong RX1 88 4095) (wa 253 (by decide +kernel) rfl)) dX1_isAccess_54 ?_
                    refine lv_land hx hb dX1_isAccess_57 ?_
                    refine lv_iload hx hb dX1_isAccess_58 (lv_at hl 3 rfl) ?_
                    refine lv_i2l (v := Int32.toInt64 sz) hx hb dX1_isAccess_60 rfl ?_
                    refine lv_ladd hx hb dX1_isAccess_61 ?_
                    refine lv_ldc2 (v := 4096) hx hb hown (hts (.constantLong RX1 90 4096) (wa 254 (by decide +kernel) rfl)) dX1_isAccess_62 ?_
                    refine W.lcmp hx hb dX1_isAccess_65 ?_
                    refine lv_if_gt (tgt := 73) hx hb dX1_isAccess_66 (by decide) (fun c_75 => ?_) (fun c_75 => ?_)
                    · rw [lg_cmp_gt] at c_75
                      refine lv_iconst (v := 0) hx hb dX1_isAccess_73 (by decide) ?_
                      exact W.zret (v := 0) hx hb hr rfl (fun t ht hW => ⟨0, rfl, (by first | rfl | (simp only [k_isAccess, b2i, ha, hm, hs, c_75, b2i, decide_true, decide_false, Bool.not_true, Bool.not_false, Bool.and_true, Bool.and_false, Bool.true_and, Bool.false_and, Bool.or_true, Bool.or_false, Bool.true_or, Bool.false_or, reduceIte, or_true, true_or, or_false, false_or, and_true, true_and, and_false, false_and, not_true_eq_false, not_false_eq_true, Bool.false_eq_true, eq_self]; done) | (simp [k_isAccess, b2i, ha, hm, hs, c_75]; done)), ht⟩) (fun _ h => nomatch h) dX1_isAccess_74
                    · rw [lg_cmp_gt] at c_75
                      refine lv_iconst (v := 1) hx hb dX1_isAccess_69 (by decide) ?_
                      refine lv_goto (tgt := 74) hx hb dX1_isAccess_70 (by decide) ?_
                      exact W.zret (v := 1) hx hb hr rfl (fun t ht hW => ⟨1, rfl, (by first | rfl | (simp only [k_isAccess, b2i, ha, hm, hs, c_75, b2i, decide_true, decide_false, Bool.not_true, Bool.not_false, Bool.and_true, Bool.and_false, Bool.true_and, Bool.false_and, Bool.or_true, Bool.or_false, Bool.true_or, Bool.false_or, reduceIte, or_true, true_or, or_false, false_or, and_true, true_and, and_false, false_and, not_true_eq_false, not_false_eq_true, Bool.false_eq_true, eq_self]; done) | (simp [k_isAccess, b2i, ha, hm, hs, c_75]; done)), ht⟩) (fun _ h => nomatch h) dX1_isAccess_74
          · refine lv_iload_n hx hb dX1_isAccess_23 rfl (lv_at hl 2 rfl) ?_
            refine lv_iconst (v := 3) hx hb dX1_isAccess_24 (by decide) ?_
            refine lv_icmp_ne (tgt := 73) hx hb dX1_isAccess_25 (by decide) (fun c_76 => ?_) (fun c_76 => ?_)
            · refine lv_iconst (v := 0) hx hb dX1_isAccess_73 (by decide) ?_
              exact W.zret (v := 0) hx hb hr rfl (fun t ht hW => ⟨0, rfl, (by first | rfl | (simp only [k_isAccess, b2i, ha, c_58, c_67, c_76, b2i, decide_true, decide_false, Bool.not_true, Bool.not_false, Bool.and_true, Bool.and_false, Bool.true_and, Bool.false_and, Bool.or_true, Bool.or_false, Bool.true_or, Bool.false_or, reduceIte, or_true, true_or, or_false, false_or, and_true, true_and, and_false, false_and, not_true_eq_false, not_false_eq_true, Bool.false_eq_true, eq_self]; done) | (simp [k_isAccess, b2i, ha, c_58, c_67, c_76]; done)), ht⟩) (fun _ h => nomatch h) dX1_isAccess_74
            · have hm : (decide (md = 0) || decide (md = 1) || decide (md = 3)) = true := by simp [c_58, c_67, c_76]
              refine lv_iload hx hb dX1_isAccess_28 (lv_at hl 3 rfl) ?_
              refine lv_iconst (v := 1) hx hb dX1_isAccess_30 (by decide) ?_
              refine lv_icmp_eq (tgt := 53) hx hb dX1_isAccess_31 (by decide) (fun c_77 => ?_) (fun c_77 => ?_)
              · have hs : (decide (sz = 1) || decide (sz = 2) || decide (sz = 4) || decide (sz = 8)) = true := by simp [c_77]
                refine lv_lload_n hx hb dX1_isAccess_53 rfl (lv_at hl 0 rfl) ?_
                refine lv_ldc2 (v := 4095) hx hb hown (hts (.constantLong RX1 88 4095) (wa 253 (by decide +kernel) rfl)) dX1_isAccess_54 ?_
                refine lv_land hx hb dX1_isAccess_57 ?_
                refine lv_iload hx hb dX1_isAccess_58 (lv_at hl 3 rfl) ?_
                refine lv_i2l (v := Int32.toInt64 sz) hx hb dX1_isAccess_60 rfl ?_
                refine lv_ladd hx hb dX1_isAccess_61 ?_
                refine lv_ldc2 (v := 4096) hx hb hown (hts (.constantLong RX1 90 4096) (wa 254 (by decide +kernel) rfl)) dX1_isAccess_62 ?_
                refine W.lcmp hx hb dX1_isAccess_65 ?_
                refine lv_if_gt (tgt := 73) hx hb dX1_isAccess_66 (by decide) (fun c_78 => ?_) (fun c_78 => ?_)
                · rw [lg_cmp_gt] at c_78
                  refine lv_iconst (v := 0) hx hb dX1_isAccess_73 (by decide) ?_
                  exact W.zret (v := 0) hx hb hr rfl (fun t ht hW => ⟨0, rfl, (by first | rfl | (simp only [k_isAccess, b2i, ha, hm, hs, c_78, b2i, decide_true, decide_false, Bool.not_true, Bool.not_false, Bool.and_true, Bool.and_false, Bool.true_and, Bool.false_and, Bool.or_true, Bool.or_false, Bool.true_or, Bool.false_or, reduceIte, or_true, true_or, or_false, false_or, and_true, true_and, and_false, false_and, not_true_eq_false, not_false_eq_true, Bool.false_eq_true, eq_self]; done) | (simp [k_isAccess, b2i, ha, hm, hs, c_78]; done)), ht⟩) (fun _ h => nomatch h) dX1_isAccess_74
                · rw [lg_cmp_gt] at c_78
                  refine lv_iconst (v := 1) hx hb dX1_isAccess_69 (by decide) ?_
                  refine lv_goto (tgt := 74) hx hb dX1_isAccess_70 (by decide) ?_
                  exact W.zret (v := 1) hx hb hr rfl (fun t ht hW => ⟨1, rfl, (by first | rfl | (simp only [k_isAccess, b2i, ha, hm, hs, c_78, b2i, decide_true, decide_false, Bool.not_true, Bool.not_false, Bool.and_true, Bool.and_false, Bool.true_and, Bool.false_and, Bool.or_true, Bool.or_false, Bool.true_or, Bool.false_or, reduceIte, or_true, true_or, or_false, false_or, and_true, true_and, and_false, false_and, not_true_eq_false, not_false_eq_true, Bool.false_eq_true, eq_self]; done) | (simp [k_isAccess, b2i, ha, hm, hs, c_78]; done)), ht⟩) (fun _ h => nomatch h) dX1_isAccess_74
              · refine lv_iload hx hb dX1_isAccess_34 (lv_at hl 3 rfl) ?_
                refine lv_iconst (v := 2) hx hb dX1_isAccess_36 (by decide) ?_
                refine lv_icmp_eq (tgt := 53) hx hb dX1_isAccess_37 (by decide) (fun c_79 => ?_) (fun c_79 => ?_)
                · have hs : (decide (sz = 1) || decide (sz = 2) || decide (sz = 4) || decide (sz = 8)) = true := by simp [c_77, c_79]
                  refine lv_lload_n hx hb dX1_isAccess_53 rfl (lv_at hl 0 rfl) ?_
                  refine lv_ldc2 (v := 4095) hx hb hown (hts (.constantLong RX1 88 4095) (wa 253 (by decide +kernel) rfl)) dX1_isAccess_54 ?_
                  refine lv_land hx hb dX1_isAccess_57 ?_
                  refine lv_iload hx hb dX1_isAccess_58 (lv_at hl 3 rfl) ?_
                  refine lv_i2l (v := Int32.toInt64 sz) hx hb dX1_isAccess_60 rfl ?_
                  refine lv_ladd hx hb dX1_isAccess_61 ?_
                  refine lv_ldc2 (v := 4096) hx hb hown (hts (.constantLong RX1 90 4096) (wa 254 (by decide +kernel) rfl)) dX1_isAccess_62 ?_
                  refine W.lcmp hx hb dX1_isAccess_65 ?_
                  refine lv_if_gt (tgt := 73) hx hb dX1_isAccess_66 (by decide) (fun c_80 => ?_) (fun c_80 => ?_)
                  · rw [lg_cmp_gt] at c_80
                    refine lv_iconst (v := 0) hx hb dX1_isAccess_73 (by decide) ?_
                    exact W.zret (v := 0) hx hb hr rfl (fun t ht hW => ⟨0, rfl, (by first | rfl | (simp only [k_isAccess, b2i, ha, hm, hs, c_80, b2i, decide_true, decide_false, Bool.not_true, Bool.not_false, Bool.and_true, Bool.and_false, Bool.true_and, Bool.false_and, Bool.or_true, Bool.or_false, Bool.true_or, Bool.false_or, reduceIte, or_true, true_or, or_false, false_or, and_true, true_and, and_false, false_and, not_true_eq_false, not_false_eq_true, Bool.false_eq_true, eq_self]; done) | (simp [k_isAccess, b2i, ha, hm, hs, c_80]; done)), ht⟩) (fun _ h => nomatch h) dX1_isAccess_74
                  · rw [lg_cmp_gt] at c_80
                    refine lv_iconst (v := 1) hx hb dX1_isAccess_69 (by decide) ?_
                    refine lv_goto (tgt := 74) hx hb dX1_isAccess_70 (by decide) ?_
                    exact W.zret (v := 1) hx hb hr rfl (fun t ht hW => ⟨1, rfl, (by first | rfl | (simp only [k_isAccess, b2i, ha, hm, hs, c_80, b2i, decide_true, decide_false, Bool.not_true, Bool.not_false, Bool.and_true, Bool.and_false, Bool.true_and, Bool.false_and, Bool.or_true, Bool.or_false, Bool.true_or, Bool.false_or, reduceIte, or_true, true_or, or_false, false_or, and_true, true_and, and_false, false_and, not_true_eq_false, not_false_eq_true, Bool.false_eq_true, eq_self]; done) | (simp [k_isAccess, b2i, ha, hm, hs, c_80]; done)), ht⟩) (fun _ h => nomatch h) dX1_isAccess_74
                · refine lv_iload hx hb dX1_isAccess_40 (lv_at hl 3 rfl) ?_
                  refine lv_iconst (v := 4) hx hb dX1_isAccess_42 (by decide) ?_
                  refine lv_icmp_eq (tgt := 53) hx hb dX1_isAccess_43 (by decide) (fun c_81 => ?_) (fun c_81 => ?_)
                  · have hs : (decide (sz = 1) || decide (sz = 2) || decide (sz = 4) || decide (sz = 8)) = true := by simp [c_77, c_79, c_81]
                    refine lv_lload_n hx hb dX1_isAccess_53 rfl (lv_at hl 0 rfl) ?_
                    refine lv_ldc2 (v := 4095) hx hb hown (hts (.constantLong RX1 88 4095) (wa 253 (by decide +kernel) rfl)) dX1_isAccess_54 ?_
                    refine lv_land hx hb dX1_isAccess_57 ?_
                    refine lv_iload hx hb dX1_isAccess_58 (lv_at hl 3 rfl) ?_
                    refine lv_i2l (v := Int32.toInt64 sz) hx hb dX1_isAccess_60 rfl ?_
                    refine lv_ladd hx hb dX1_isAccess_61 ?_
                    refine lv_ldc2 (v := 4096) hx hb hown (hts (.constantLong RX1 90 4096) (wa 254 (by decide +kernel) rfl)) dX1_isAccess_62 ?_
                    refine W.lcmp hx hb dX1_isAccess_65 ?_
                    refine lv_if_gt (tgt := 73) hx hb dX1_isAccess_66 (by decide) (fun c_82 => ?_) (fun c_82 => ?_)
                    · rw [lg_cmp_gt] at c_82
                      refine lv_iconst (v := 0) hx hb dX1_isAccess_73 (by decide) ?_
                      exact W.zret (v := 0) hx hb hr rfl (fun t ht hW => ⟨0, rfl, (by first | rfl | (simp only [k_isAccess, b2i, ha, hm, hs, c_82, b2i, decide_true, decide_false, Bool.not_true, Bool.not_false, Bool.and_true, Bool.and_false, Bool.true_and, Bool.false_and, Bool.or_true, Bool.or_false, Bool.true_or, Bool.false_or, reduceIte, or_true, true_or, or_false, false_or, and_true, true_and, and_false, false_and, not_true_eq_false, not_false_eq_true, Bool.false_eq_true, eq_self]; done) | (simp [k_isAccess, b2i, ha, hm, hs, c_82]; done)), ht⟩) (fun _ h => nomatch h) dX1_isAccess_74
                    · rw [lg_cmp_gt] at c_82
                      refine lv_iconst (v := 1) hx hb dX1_isAccess_69 (by decide) ?_
                      refine lv_goto (tgt := 74) hx hb dX1_isAccess_70 (by decide) ?_
                      exact W.zret (v := 1) hx hb hr rfl (fun t ht hW => ⟨1, rfl, (by first | rfl | (simp only [k_isAccess, b2i, ha, hm, hs, c_82, b2i, decide_true, decide_false, Bool.not_true, Bool.not_false, Bool.and_true, Bool.and_false, Bool.true_and, Bool.false_and, Bool.or_true, Bool.or_false, Bool.true_or, Bool.false_or, reduceIte, or_true, true_or, or_false, false_or, and_true, true_and, and_false, false_and, not_true_eq_false, not_false_eq_true, Bool.false_eq_true, eq_self]; done) | (simp [k_isAccess, b2i, ha, hm, hs, c_82]; done)), ht⟩) (fun _ h => nomatch h) dX1_isAccess_74
                  · refine lv_iload hx hb dX1_isAccess_46 (lv_at hl 3 rfl) ?_
                    refine lv_bipush (v := 8) hx hb dX1_isAccess_48 (by decide) ?_
                    refine lv_icmp_ne (tgt := 73) hx hb dX1_isAccess_50 (by decide) (fun c_83 => ?_) (fun c_83 => ?_)
                    · refine lv_iconst (v := 0) hx hb dX1_isAccess_73 (by decide) ?_
                      exact W.zret (v := 0) hx hb hr rfl (fun t ht hW => ⟨0, rfl, (by first | rfl | (simp only [k_isAccess, b2i, ha, hm, c_77, c_79, c_81, c_83, b2i, decide_true, decide_false, Bool.not_true, Bool.not_false, Bool.and_true, Bool.and_false, Bool.true_and, Bool.false_and, Bool.or_true, Bool.or_false, Bool.true_or, Bool.false_or, reduceIte, or_true, true_or, or_false, false_or, and_true, true_and, and_false, false_and, not_true_eq_false, not_false_eq_true, Bool.false_eq_true, eq_self]; done) | (simp [k_isAccess, b2i, ha, hm, c_77, c_79, c_81, c_83]; done)), ht⟩) (fun _ h => nomatch h) dX1_isAccess_74
                    · have hs : (decide (sz = 1) || decide (sz = 2) || decide (sz = 4) || decide (sz = 8)) = true := by simp [c_77, c_79, c_81, c_83]
                      refine lv_lload_n hx hb dX1_isAccess_53 rfl (lv_at hl 0 rfl) ?_
                      refine lv_ldc2 (v := 4095) hx hb hown (hts (.constantLong RX1 88 4095) (wa 253 (by decide +kernel) rfl)) dX1_isAccess_54 ?_
                      refine lv_land hx hb dX1_isAccess_57 ?_
                      refine lv_iload hx hb dX1_isAccess_58 (lv_at hl 3 rfl) ?_
                      refine lv_i2l (v := Int32.toInt64 sz) hx hb dX1_isAccess_60 rfl ?_
                      refine lv_ladd hx hb dX1_isAccess_61 ?_
                      refine lv_ldc2 (v := 4096) hx hb hown (hts (.constantLong RX1 90 4096) (wa 254 (by decide +kernel) rfl)) dX1_isAccess_62 ?_
                      refine W.lcmp hx hb dX1_isAccess_65 ?_
                      refine lv_if_gt (tgt := 73) hx hb dX1_isAccess_66 (by decide) (fun c_84 => ?_) (fun c_84 => ?_)
                      · rw [lg_cmp_gt] at c_84
                        refine lv_iconst (v := 0) hx hb dX1_isAccess_73 (by decide) ?_
                        exact W.zret (v := 0) hx hb hr rfl (fun t ht hW => ⟨0, rfl, (by first | rfl | (simp only [k_isAccess, b2i, ha, hm, hs, c_84, b2i, decide_true, decide_false, Bool.not_true, Bool.not_false, Bool.and_true, Bool.and_false, Bool.true_and, Bool.false_and, Bool.or_true, Bool.or_false, Bool.true_or, Bool.false_or, reduceIte, or_true, true_or, or_false, false_or, and_true, true_and, and_false, false_and, not_true_eq_false, not_false_eq_true, Bool.false_eq_true, eq_self]; done) | (simp [k_isAccess, b2i, ha, hm, hs, c_84]; done)), ht⟩) (fun _ h => nomatch h) dX1_isAccess_74
                      · rw [lg_cmp_gt] at c_84
                        refine lv_iconst (v := 1) hx hb dX1_isAccess_69 (by decide) ?_
                        refine lv_goto (tgt := 74) hx hb dX1_isAccess_70 (by decide) ?_
                        exact W.zret (v := 1) hx hb hr rfl (fun t ht hW => ⟨1, rfl, (by first | rfl | (simp only [k_isAccess, b2i, ha, hm, hs, c_84, b2i, decide_true, decide_false, Bool.not_true, Bool.not_false, Bool.and_true, Bool.and_false, Bool.true_and, Bool.false_and, Bool.or_true, Bool.or_false, Bool.true_or, Bool.false_or, reduceIte, or_true, true_or, or_false, false_or, and_true, true_and, and_false, false_and, not_true_eq_false, not_false_eq_true, Bool.false_eq_true, eq_self]; done) | (simp [k_isAccess, b2i, ha, hm, hs, c_84]; done)), ht⟩) (fun _ h => nomatch h) dX1_isAccess_74
set_option maxHeartbeats 4000000 in
set_option maxRecDepth 100000 in
theorem mtX1_isPhysical (l : Launch) (ad : Int64) : Met l yX1_isPhysical wsX1_isPhysical ({ frames := 0, cells := 0, slots := 0, locals := 0 }) (fun v _ => v = ([.long ad] : List Value).toArray) (vp_Si (fun r => r = b2i (k_isPhysical ad))) 0 0 (fun _ => False) := by
  refine Met.ofW (cc := cX1_isPhysical) (maxL := 2) (ret := (some .boolean)) (by decide) rfl ?_
  intro p e s m args below meth c s₁ B hml hv
  have hv : args = ([.long ad] : List Value).toArray := hv
  subst hv
  have hx := B.exec
  have hb := B.bytes
  have hr := B.returns
  have hts := atoms_spec (ws := wsX1_isPhysical) B.pre
  have hown : s.vm.findClass RX1 = some m.cls := findClass_of_methodNamed B.named
  have hlocks := B.notSynchronized
  have hl := lv_entry ([.long ad]) (n := 2) (Nat.le_of_ble_eq_true rfl)
  rw [lg_entry_eq]
  generalize (lg_sl ([.long ad]) ++ List.replicate (2 - (lg_sl ([.long ad])).length) Slot.unset).toArray = ls at hl ⊢
  have hl : lv_has ls 2 [(0, .long ad)] := hl
  refine lv_lload_n hx hb dX1_isPhysical_0 rfl (lv_at hl 0 rfl) ?_
  refine lv_bipush (v := 56) hx hb dX1_isPhysical_1 (by decide) ?_
  refine lv_lushr (v := (k_ush ad 56)) hx hb dX1_isPhysical_3 rfl ?_
  refine lv_lconst (v := 0) hx hb dX1_isPhysical_4 (by decide) ?_
  refine W.lcmp hx hb dX1_isPhysical_5 ?_
  refine lv_if_ne (tgt := 13) hx hb dX1_isPhysical_6 (by decide) (fun c_1 => ?_) (fun c_1 => ?_)
  · rw [lg_cmp_eq] at c_1
    refine lv_iconst (v := 0) hx hb dX1_isPhysical_13 (by decide) ?_
    exact W.zret (v := 0) hx hb hr rfl (fun t ht hW => ⟨0, rfl, (by first | rfl | (simp only [k_isPhysical, b2i, c_1, b2i, decide_true, decide_false, Bool.not_true, Bool.not_false, Bool.and_true, Bool.and_false, Bool.true_and, Bool.false_and, Bool.or_true, Bool.or_false, Bool.true_or, Bool.false_or, reduceIte, or_true, true_or, or_false, false_or, and_true, true_and, and_false, false_and, not_true_eq_false, not_false_eq_true, Bool.false_eq_true, eq_self]; done) | (simp [k_isPhysical, b2i, c_1]; done)), ht⟩) (fun _ h => nomatch h) dX1_isPhysical_14
  · rw [lg_cmp_eq] at c_1
    refine lv_iconst (v := 1) hx hb dX1_isPhysical_9 (by decide) ?_
    refine lv_goto (tgt := 14) hx hb dX1_isPhysical_10 (by decide) ?_
    exact W.zret (v := 1) hx hb hr rfl (fun t ht hW => ⟨1, rfl, (by first | rfl | (simp only [k_isPhysical, b2i, c_1, b2i, decide_true, decide_false, Bool.not_true, Bool.not_false, Bool.and_true, Bool.and_false, Bool.true_and, Bool.false_and, Bool.or_true, Bool.or_false, Bool.true_or, Bool.false_or, reduceIte, or_true, true_or, or_false, false_or, and_true, true_and, and_false, false_and, not_true_eq_false, not_false_eq_true, Bool.false_eq_true, eq_self]; done) | (simp [k_isPhysical, b2i, c_1]; done)), ht⟩) (fun _ h => nomatch h) dX1_isPhysical_14
set_option maxHeartbeats 4000000 in
set_option maxRecDepth 100000 in
theorem mtX1_sortOf (l : Launch) (tv : Int64) : Met l yX1_sortOf wsX1_sortOf ({ frames := 0, cells := 0, slots := 0, locals := 0 }) (fun v _ => v = ([.long tv] : List Value).toArray) (vp_Si (fun r => r = k_sortOf tv)) 0 0 (fun _ => False) := by
  refine Met.ofW (cc := cX1_sortOf) (maxL := 2) (ret := (some .int)) (by decide) rfl ?_
  intro p e s m args below meth c s₁ B hml hv
  have hv : args = ([.long tv] : List Value).toArray := hv
  subst hv
  have hx := B.exec
  have hb := B.bytes
  have hr := B.returns
  have hts := atoms_spec (ws := wsX1_sortOf) B.pre
  have hown : s.vm.findClass RX1 = some m.cls := findClass_of_methodNamed B.named
  have hlocks := B.notSynchronized
  have hl := lv_entry ([.long tv]) (n := 2) (Nat.le_of_ble_eq_true rfl)
  rw [lg_entry_eq]
  generalize (lg_sl ([.long tv]) ++ List.replicate (2 - (lg_sl ([.long tv])).length) Slot.unset).toArray = ls at hl ⊢
  have hl : lv_has ls 2 [(0, .long tv)] := hl
  refine lv_lload_n hx hb dX1_sortOf_0 rfl (lv_at hl 0 rfl) ?_
  refine lv_bipush (v := 60) hx hb dX1_sortOf_1 (by decide) ?_
  refine lv_lushr (v := (k_ush tv 60)) hx hb dX1_sortOf_3 rfl ?_
  refine lv_l2i (v := Int64.toInt32 (k_ush tv 60)) hx hb dX1_sortOf_4 rfl ?_
  exact W.iret (v := (Int64.toInt32 (k_ush tv 60))) hx hb hr (fun t ht hW => ⟨(Int64.toInt32 (k_ush tv 60)), rfl, (by first | rfl | (simp only [k_sortOf, b2i, decide_true, decide_false, Bool.not_true, Bool.not_false, Bool.and_true, Bool.and_false, Bool.true_and, Bool.false_and, Bool.or_true, Bool.or_false, Bool.true_or, Bool.false_or, reduceIte, or_true, true_or, or_false, false_or, and_true, true_and, and_false, false_and, not_true_eq_false, not_false_eq_true, Bool.false_eq_true, eq_self]; done) | (simp [k_sortOf]; done)), ht⟩) (fun _ h => nomatch h) dX1_sortOf_5
set_option maxHeartbeats 4000000 in
set_option maxRecDepth 100000 in
theorem mtX1_accessFault (l : Launch) (ac : Int32) : Met l yX1_accessFault wsX1_accessFault ({ frames := 0, cells := 0, slots := 0, locals := 0 }) (fun v _ => v = ([.int ac] : List Value).toArray) (vp_Sl (fun r => r = k_accessFault ac)) 0 0 (fun _ => False) := by
  refine Met.ofW (cc := cX1_accessFault) (maxL := 1) (ret := (some .long)) (by decide) rfl ?_
  intro p e s m args below meth c s₁ B hml hv
  have hv : args = ([.int ac] : List Value).toArray := hv
  subst hv
  have hx := B.exec
  have hb := B.bytes
  have hr := B.returns
  have hts := atoms_spec (ws := wsX1_accessFault) B.pre
  have hown : s.vm.findClass RX1 = some m.cls := findClass_of_methodNamed B.named
  have hlocks := B.notSynchronized
  have hl := lv_entry ([.int ac]) (n := 1) (Nat.le_of_ble_eq_true rfl)
  rw [lg_entry_eq]
  generalize (lg_sl ([.int ac]) ++ List.replicate (1 - (lg_sl ([.int ac])).length) Slot.unset).toArray = ls at hl ⊢
  have hl : lv_has ls 1 [(0, .int ac)] := hl
  refine lv_iload_n hx hb dX1_accessFault_0 rfl (lv_at hl 0 rfl) ?_
  refine lv_if_ne (tgt := 10) hx hb dX1_accessFault_1 (by decide) (fun c_1 => ?_) (fun c_1 => ?_)
  · refine lv_iload_n hx hb dX1_accessFault_10 rfl (lv_at hl 0 rfl) ?_
    refine lv_iconst (v := 1) hx hb dX1_accessFault_11 (by decide) ?_
    refine lv_icmp_ne (tgt := 21) hx hb dX1_accessFault_12 (by decide) (fun c_2 => ?_) (fun c_2 => ?_)
    · refine lv_ldc2 (v := (-7)) hx hb hown (hts (.constantLong RX1 96 (-7)) (wa 268 (by decide +kernel) rfl)) dX1_accessFault_21 ?_
      exact W.lret (v := (-7)) hx hb hr (fun t ht hW => ⟨(-7), rfl, (by first | rfl | (simp only [k_accessFault, c_1, c_2, b2i, decide_true, decide_false, Bool.not_true, Bool.not_false, Bool.and_true, Bool.and_false, Bool.true_and, Bool.false_and, Bool.or_true, Bool.or_false, Bool.true_or, Bool.false_or, reduceIte, or_true, true_or, or_false, false_or, and_true, true_and, and_false, false_and, not_true_eq_false, not_false_eq_true, Bool.false_eq_true, eq_self]; done) | (simp [k_accessFault, c_1, c_2]; done)), ht⟩) (fun _ h => nomatch h) dX1_accessFault_24
    · refine lv_ldc2 (v := (-5)) hx hb hown (hts (.constantLong RX1 94 (-5)) (wa 267 (by decide +kernel) rfl)) dX1_accessFault_15 ?_
      refine lv_goto (tgt := 24) hx hb dX1_accessFault_18 (by decide) ?_
      exact W.lret (v := (-5)) hx hb hr (fun t ht hW => ⟨(-5), rfl, (by first | rfl | (simp only [k_accessFault, c_1, c_2, b2i, decide_true, decide_false, Bool.not_true, Bool.not_false, Bool.and_true, Bool.and_false, Bool.true_and, Bool.false_and, Bool.or_true, Bool.or_false, Bool.true_or, Bool.false_or, reduceIte, or_true, true_or, or_false, false_or, and_true, true_and, and_false, false_and, not_true_eq_false, not_false_eq_true, Bool.false_eq_true, eq_self]; done) | (simp [k_accessFault, c_1, c_2]; done)), ht⟩) (fun _ h => nomatch h) dX1_accessFault_24
  · refine lv_ldc2 (v := (-1)) hx hb hown (hts (.constantLong RX1 92 (-1)) (wa 266 (by decide +kernel) rfl)) dX1_accessFault_4 ?_
    refine lv_goto (tgt := 24) hx hb dX1_accessFault_7 (by decide) ?_
    exact W.lret (v := (-1)) hx hb hr (fun t ht hW => ⟨(-1), rfl, (by first | rfl | (simp only [k_accessFault, c_1, b2i, decide_true, decide_false, Bool.not_true, Bool.not_false, Bool.and_true, Bool.and_false, Bool.true_and, Bool.false_and, Bool.or_true, Bool.or_false, Bool.true_or, Bool.false_or, reduceIte, or_true, true_or, or_false, false_or, and_true, true_and, and_false, false_and, not_true_eq_false, not_false_eq_true, Bool.false_eq_true, eq_self]; done) | (simp [k_accessFault, c_1]; done)), ht⟩) (fun _ h => nomatch h) dX1_accessFault_24
set_option maxHeartbeats 4000000 in
set_option maxRecDepth 100000 in
theorem mtX1_pageFault (l : Launch) (ac : Int32) : Met l yX1_pageFault wsX1_pageFault ({ frames := 0, cells := 0, slots := 0, locals := 0 }) (fun v _ => v = ([.int ac] : List Value).toArray) (vp_Sl (fun r => r = k_pageFault ac)) 0 0 (fun _ => False) := by
  refine Met.ofW (cc := cX1_pageFault) (maxL := 1) (ret := (some .long)) (by decide) rfl ?_
  intro p e s m args below meth c s₁ B hml hv
  have hv : args = ([.int ac] : List Value).toArray := hv
  subst hv
  have hx := B.exec
  have hb := B.bytes
  have hr := B.returns
  have hts := atoms_spec (ws := wsX1_pageFault) B.pre
  have hown : s.vm.findClass RX1 = some m.cls := findClass_of_methodNamed B.named
  have hlocks := B.notSynchronized
  have hl := lv_entry ([.int ac]) (n := 1) (Nat.le_of_ble_eq_true rfl)
  rw [lg_entry_eq]
  generalize (lg_sl ([.int ac]) ++ List.replicate (1 - (lg_sl ([.int ac])).length) Slot.unset).toArray = ls at hl ⊢
  have hl : lv_has ls 1 [(0, .int ac)] := hl
  refine lv_iload_n hx hb dX1_pageFault_0 rfl (lv_at hl 0 rfl) ?_
  refine lv_if_ne (tgt := 10) hx hb dX1_pageFault_1 (by decide) (fun c_1 => ?_) (fun c_1 => ?_)
  · refine lv_iload_n hx hb dX1_pageFault_10 rfl (lv_at hl 0 rfl) ?_
    refine lv_iconst (v := 1) hx hb dX1_pageFault_11 (by decide) ?_
    refine lv_icmp_ne (tgt := 21) hx hb dX1_pageFault_12 (by decide) (fun c_2 => ?_) (fun c_2 => ?_)
    · refine lv_ldc2 (v := (-15)) hx hb hown (hts (.constantLong RX1 102 (-15)) (wa 274 (by decide +kernel) rfl)) dX1_pageFault_21 ?_
      exact W.lret (v := (-15)) hx hb hr (fun t ht hW => ⟨(-15), rfl, (by first | rfl | (simp only [k_pageFault, c_1, c_2, b2i, decide_true, decide_false, Bool.not_true, Bool.not_false, Bool.and_true, Bool.and_false, Bool.true_and, Bool.false_and, Bool.or_true, Bool.or_false, Bool.true_or, Bool.false_or, reduceIte, or_true, true_or, or_false, false_or, and_true, true_and, and_false, false_and, not_true_eq_false, not_false_eq_true, Bool.false_eq_true, eq_self]; done) | (simp [k_pageFault, c_1, c_2]; done)), ht⟩) (fun _ h => nomatch h) dX1_pageFault_24
    · refine lv_ldc2 (v := (-13)) hx hb hown (hts (.constantLong RX1 100 (-13)) (wa 273 (by decide +kernel) rfl)) dX1_pageFault_15 ?_
      refine lv_goto (tgt := 24) hx hb dX1_pageFault_18 (by decide) ?_
      exact W.lret (v := (-13)) hx hb hr (fun t ht hW => ⟨(-13), rfl, (by first | rfl | (simp only [k_pageFault, c_1, c_2, b2i, decide_true, decide_false, Bool.not_true, Bool.not_false, Bool.and_true, Bool.and_false, Bool.true_and, Bool.false_and, Bool.or_true, Bool.or_false, Bool.true_or, Bool.false_or, reduceIte, or_true, true_or, or_false, false_or, and_true, true_and, and_false, false_and, not_true_eq_false, not_false_eq_true, Bool.false_eq_true, eq_self]; done) | (simp [k_pageFault, c_1, c_2]; done)), ht⟩) (fun _ h => nomatch h) dX1_pageFault_24
  · refine lv_ldc2 (v := (-12)) hx hb hown (hts (.constantLong RX1 98 (-12)) (wa 272 (by decide +kernel) rfl)) dX1_pageFault_4 ?_
    refine lv_goto (tgt := 24) hx hb dX1_pageFault_7 (by decide) ?_
    exact W.lret (v := (-12)) hx hb hr (fun t ht hW => ⟨(-12), rfl, (by first | rfl | (simp only [k_pageFault, c_1, b2i, decide_true, decide_false, Bool.not_true, Bool.not_false, Bool.and_true, Bool.and_false, Bool.true_and, Bool.false_and, Bool.or_true, Bool.or_false, Bool.true_or, Bool.false_or, reduceIte, or_true, true_or, or_false, false_or, and_true, true_and, and_false, false_and, not_true_eq_false, not_false_eq_true, Bool.false_eq_true, eq_self]; done) | (simp [k_pageFault, c_1]; done)), ht⟩) (fun _ h => nomatch h) dX1_pageFault_24
set_option maxHeartbeats 4000000 in
set_option maxRecDepth 100000 in
theorem mtX1_wordIndex (l : Launch) (ad : Int64) : Met l yX1_wordIndex wsX1_wordIndex ({ frames := 0, cells := 0, slots := 0, locals := 0 }) (fun v _ => v = ([.long ad] : List Value).toArray) (vp_Si (fun r => r = k_wordIndex ad)) 0 0 (fun _ => False) := by
  refine Met.ofW (cc := cX1_wordIndex) (maxL := 4) (ret := (some .int)) (by decide) rfl ?_
  intro p e s m args below meth c s₁ B hml hv
  have hv : args = ([.long ad] : List Value).toArray := hv
  subst hv
  have hx := B.exec
  have hb := B.bytes
  have hr := B.returns
  have hts := atoms_spec (ws := wsX1_wordIndex) B.pre
  have hown : s.vm.findClass RX1 = some m.cls := findClass_of_methodNamed B.named
  have hlocks := B.notSynchronized
  have hl := lv_entry ([.long ad]) (n := 4) (Nat.le_of_ble_eq_true rfl)
  rw [lg_entry_eq]
  generalize (lg_sl ([.long ad]) ++ List.replicate (4 - (lg_sl ([.long ad])).length) Slot.unset).toArray = ls at hl ⊢
  have hl : lv_has ls 4 [(0, .long ad)] := hl
  refine lv_lload_n hx hb dX1_wordIndex_0 rfl (lv_at hl 0 rfl) ?_
  refine lv_ldc2 (v := 2147483648) hx hb hown (hts (.constantLong RX1 104 2147483648) (wa 107 (by decide +kernel) rfl)) dX1_wordIndex_1 ?_
  refine lv_lsub hx hb dX1_wordIndex_4 ?_
  refine lv_lstore_n (lv' := [(2, .long (ad - 2147483648)), (0, .long ad)]) hx hb dX1_wordIndex_5 rfl hl (by decide) rfl (fun ls hl => ?_)
  refine lv_lload_n hx hb dX1_wordIndex_6 rfl (lv_at hl 0 rfl) ?_
  refine lv_lconst (v := 0) hx hb dX1_wordIndex_7 (by decide) ?_
  refine W.lcmp hx hb dX1_wordIndex_8 ?_
  refine lv_if_lt (tgt := 30) hx hb dX1_wordIndex_9 (by decide) (fun c_1 => ?_) (fun c_1 => ?_)
  · rw [lg_cmp_lt] at c_1
    refine lv_iconst (v := (-1)) hx hb dX1_wordIndex_30 (by decide) ?_
    exact W.iret (v := (-1)) hx hb hr (fun t ht hW => ⟨(-1), rfl, (by first | rfl | (simp only [k_wordIndex, c_1, b2i, decide_true, decide_false, Bool.not_true, Bool.not_false, Bool.and_true, Bool.and_false, Bool.true_and, Bool.false_and, Bool.or_true, Bool.or_false, Bool.true_or, Bool.false_or, reduceIte, or_true, true_or, or_false, false_or, and_true, true_and, and_false, false_and, not_true_eq_false, not_false_eq_true, Bool.false_eq_true, eq_self]; done) | (simp [k_wordIndex, c_1]; done)), ht⟩) (fun _ h => nomatch h) dX1_wordIndex_31
  · rw [lg_cmp_lt] at c_1
    refine lv_lload_n hx hb dX1_wordIndex_12 rfl (lv_at hl 0 rfl) ?_
    refine lv_ldc2 (v := 65536) hx hb hown (hts (.constantLong RX1 106 65536) (wa 108 (by decide +kernel) rfl)) dX1_wordIndex_13 ?_
    refine W.lcmp hx hb dX1_wordIndex_16 ?_
    refine lv_if_ge (tgt := 30) hx hb dX1_wordIndex_17 (by decide) (fun c_2 => ?_) (fun c_2 => ?_)
    · rw [lg_cmp_ge] at c_2
      refine lv_iconst (v := (-1)) hx hb dX1_wordIndex_30 (by decide) ?_
      exact W.iret (v := (-1)) hx hb hr (fun t ht hW => ⟨(-1), rfl, (by first | rfl | (simp only [k_wordIndex, c_1, c_2, b2i, decide_true, decide_false, Bool.not_true, Bool.not_false, Bool.and_true, Bool.and_false, Bool.true_and, Bool.false_and, Bool.or_true, Bool.or_false, Bool.true_or, Bool.false_or, reduceIte, or_true, true_or, or_false, false_or, and_true, true_and, and_false, false_and, not_true_eq_false, not_false_eq_true, Bool.false_eq_true, eq_self]; done) | (simp [k_wordIndex, c_1, c_2]; done)), ht⟩) (fun _ h => nomatch h) dX1_wordIndex_31
    · rw [lg_cmp_ge] at c_2
      refine lv_lload_n hx hb dX1_wordIndex_20 rfl (lv_at hl 0 rfl) ?_
      refine lv_ldc2 (v := 8) hx hb hown (hts (.constantLong RX1 108 8) (wa 109 (by decide +kernel) rfl)) dX1_wordIndex_21 ?_
      refine lv_lrem hx hb dX1_wordIndex_24 (by decide) ?_
      refine lv_lconst (v := 0) hx hb dX1_wordIndex_25 (by decide) ?_
      refine W.lcmp hx hb dX1_wordIndex_26 ?_
      refine lv_if_eq (tgt := 32) hx hb dX1_wordIndex_27 (by decide) (fun c_3 => ?_) (fun c_3 => ?_)
      · rw [lg_cmp_eq] at c_3
        refine lv_lload_n hx hb dX1_wordIndex_32 rfl (lv_at hl 0 rfl) ?_
        refine lv_ldc2 (v := 8) hx hb hown (hts (.constantLong RX1 108 8) (wa 109 (by decide +kernel) rfl)) dX1_wordIndex_33 ?_
        refine lv_ldiv hx hb dX1_wordIndex_36 (by decide) ?_
        refine lv_l2i (v := Int64.toInt32 ((ad - 2147483648) / 8)) hx hb dX1_wordIndex_37 rfl ?_
        exact W.iret (v := (Int64.toInt32 ((ad - 2147483648) / 8))) hx hb hr (fun t ht hW => ⟨(Int64.toInt32 ((ad - 2147483648) / 8)), rfl, (by first | rfl | (simp only [k_wordIndex, c_1, c_2, c_3, b2i, decide_true, decide_false, Bool.not_true, Bool.not_false, Bool.and_true, Bool.and_false, Bool.true_and, Bool.false_and, Bool.or_true, Bool.or_false, Bool.true_or, Bool.false_or, reduceIte, or_true, true_or, or_false, false_or, and_true, true_and, and_false, false_and, not_true_eq_false, not_false_eq_true, Bool.false_eq_true, eq_self]; done) | (simp [k_wordIndex, c_1, c_2, c_3]; done)), ht⟩) (fun _ h => nomatch h) dX1_wordIndex_38
      · rw [lg_cmp_eq] at c_3
        refine lv_iconst (v := (-1)) hx hb dX1_wordIndex_30 (by decide) ?_
        exact W.iret (v := (-1)) hx hb hr (fun t ht hW => ⟨(-1), rfl, (by first | rfl | (simp only [k_wordIndex, c_1, c_2, c_3, b2i, decide_true, decide_false, Bool.not_true, Bool.not_false, Bool.and_true, Bool.and_false, Bool.true_and, Bool.false_and, Bool.or_true, Bool.or_false, Bool.true_or, Bool.false_or, reduceIte, or_true, true_or, or_false, false_or, and_true, true_and, and_false, false_and, not_true_eq_false, not_false_eq_true, Bool.false_eq_true, eq_self]; done) | (simp [k_wordIndex, c_1, c_2, c_3]; done)), ht⟩) (fun _ h => nomatch h) dX1_wordIndex_31
set_option maxHeartbeats 4000000 in
set_option maxRecDepth 100000 in
theorem mtX1_shiftOf (l : Launch) (d : Int32) : Met l yX1_shiftOf wsX1_shiftOf ({ frames := 0, cells := 0, slots := 0, locals := 0 }) (fun v _ => v = ([.int d] : List Value).toArray) (vp_Si (fun r => r = k_shiftOf d)) 0 0 (fun _ => False) := by
  refine Met.ofW (cc := cX1_shiftOf) (maxL := 1) (ret := (some .int)) (by decide) rfl ?_
  intro p e s m args below meth c s₁ B hml hv
  have hv : args = ([.int d] : List Value).toArray := hv
  subst hv
  have hx := B.exec
  have hb := B.bytes
  have hr := B.returns
  have hts := atoms_spec (ws := wsX1_shiftOf) B.pre
  have hown : s.vm.findClass RX1 = some m.cls := findClass_of_methodNamed B.named
  have hlocks := B.notSynchronized
  have hl := lv_entry ([.int d]) (n := 1) (Nat.le_of_ble_eq_true rfl)
  rw [lg_entry_eq]
  generalize (lg_sl ([.int d]) ++ List.replicate (1 - (lg_sl ([.int d])).length) Slot.unset).toArray = ls at hl ⊢
  have hl : lv_has ls 1 [(0, .int d)] := hl
  refine lv_bipush (v := 12) hx hb dX1_shiftOf_0 (by decide) ?_
  refine lv_bipush (v := 9) hx hb dX1_shiftOf_2 (by decide) ?_
  refine lv_iload_n hx hb dX1_shiftOf_4 rfl (lv_at hl 0 rfl) ?_
  refine lv_imul hx hb dX1_shiftOf_5 ?_
  refine lv_iadd hx hb dX1_shiftOf_6 ?_
  exact W.iret (v := (12 + (9 * d))) hx hb hr (fun t ht hW => ⟨(12 + (9 * d)), rfl, (by first | rfl | (simp only [k_shiftOf, b2i, decide_true, decide_false, Bool.not_true, Bool.not_false, Bool.and_true, Bool.and_false, Bool.true_and, Bool.false_and, Bool.or_true, Bool.or_false, Bool.true_or, Bool.false_or, reduceIte, or_true, true_or, or_false, false_or, and_true, true_and, and_false, false_and, not_true_eq_false, not_false_eq_true, Bool.false_eq_true, eq_self]; done) | (simp [k_shiftOf]; done)), ht⟩) (fun _ h => nomatch h) dX1_shiftOf_7
set_option maxHeartbeats 4000000 in
set_option maxRecDepth 100000 in
theorem mtX1_entryPlace (l : Launch) (pg : Int64) (ad : Int64) (d : Int32) : Met l yX1_entryPlace wsX1_entryPlace ({ frames := 1, cells := 0, slots := 0, locals := 20 }) (fun v _ => v = ([.long pg, .long ad, .int d] : List Value).toArray) (vp_Sl (fun r => r = k_entryPlace pg ad d)) 0 0 (fun _ => False) := by
  refine Met.ofW (cc := cX1_entryPlace) (maxL := 7) (ret := (some .long)) (by decide) rfl ?_
  intro p e s m args below meth c s₁ B hml hv
  have hv : args = ([.long pg, .long ad, .int d] : List Value).toArray := hv
  subst hv
  have hx := B.exec
  have hb := B.bytes
  have hr := B.returns
  have hts := atoms_spec (ws := wsX1_entryPlace) B.pre
  have hown : s.vm.findClass RX1 = some m.cls := findClass_of_methodNamed B.named
  have hlocks := B.notSynchronized
  have hl := lv_entry ([.long pg, .long ad, .int d]) (n := 7) (Nat.le_of_ble_eq_true rfl)
  rw [lg_entry_eq]
  generalize (lg_sl ([.long pg, .long ad, .int d]) ++ List.replicate (7 - (lg_sl ([.long pg, .long ad, .int d])).length) Slot.unset).toArray = ls at hl ⊢
  have hl : lv_has ls 7 [(0, .long pg), (2, .long ad), (4, .int d)] := hl
  refine lv_lload_n hx hb dX1_entryPlace_0 rfl (lv_at hl 1 rfl) ?_
  refine lv_iload hx hb dX1_entryPlace_1 (lv_at hl 2 rfl) ?_
  refine vp_callSi (W.runS (As := [.int d]) (rest := [.long ad]) ⟨hx, hb, hml, hown, hts⟩ (mtX1_shiftOf l d) (va_cwS 1 hts (gAll (mc1 (wa 283 (by decide +kernel) rfl) (mc1 (wa 284 (by decide +kernel) rfl) (mc1 (wa 15 (by decide +kernel) rfl) mc0))) (wa 285 (by decide +kernel) rfl) (by decide +kernel)) rfl rfl rfl (by decide +kernel) ⟨Nat.le_of_ble_eq_true rfl, Nat.le_of_ble_eq_true rfl⟩) preEq rfl rfl hl.1 rfl (lv_room (Nat.le_of_ble_eq_true rfl)) dX1_entryPlace_3 ⟨Nat.le_of_ble_eq_true rfl, Nat.le_of_ble_eq_true rfl⟩) (fun r_1 er_1 => ?_)
  have er_1 : r_1 = (k_shiftOf d) := er_1
  subst er_1
  refine lv_lshr (v := (k_shr ad (k_shiftOf d))) hx hb dX1_entryPlace_6 rfl ?_
  refine lv_ldc2 (v := 511) hx hb hown (hts (.constantLong RX1 150 511) (wa 286 (by decide +kernel) rfl)) dX1_entryPlace_7 ?_
  refine lv_land hx hb dX1_entryPlace_10 ?_
  refine lv_lstore (lv' := [(5, .long ((k_shr ad (k_shiftOf d)) &&& 511)), (0, .long pg), (2, .long ad), (4, .int d)]) hx hb dX1_entryPlace_11 hl (by decide) rfl (fun ls hl => ?_)
  refine lv_lload_n hx hb dX1_entryPlace_13 rfl (lv_at hl 1 rfl) ?_
  refine lv_ldc2 (v := 4096) hx hb hown (hts (.constantLong RX1 90 4096) (wa 254 (by decide +kernel) rfl)) dX1_entryPlace_14 ?_
  refine lv_lmul hx hb dX1_entryPlace_17 ?_
  refine lv_lload hx hb dX1_entryPlace_18 (lv_at hl 0 rfl) ?_
  refine lv_ldc2 (v := 8) hx hb hown (hts (.constantLong RX1 108 8) (wa 109 (by decide +kernel) rfl)) dX1_entryPlace_20 ?_
  refine lv_lmul hx hb dX1_entryPlace_23 ?_
  refine lv_ladd hx hb dX1_entryPlace_24 ?_
  exact W.lret (v := ((pg * 4096) + (((k_shr ad (k_shiftOf d)) &&& 511) * 8))) hx hb hr (fun t ht hW => ⟨((pg * 4096) + (((k_shr ad (k_shiftOf d)) &&& 511) * 8)), rfl, (by first | rfl | (simp only [k_entryPlace, b2i, decide_true, decide_false, Bool.not_true, Bool.not_false, Bool.and_true, Bool.and_false, Bool.true_and, Bool.false_and, Bool.or_true, Bool.or_false, Bool.true_or, Bool.false_or, reduceIte, or_true, true_or, or_false, false_or, and_true, true_and, and_false, false_and, not_true_eq_false, not_false_eq_true, Bool.false_eq_true, eq_self]; done) | (simp [k_entryPlace]; done)), ht⟩) (fun _ h => nomatch h) dX1_entryPlace_25
set_option maxHeartbeats 4000000 in
set_option maxRecDepth 100000 in
theorem mtX1_has (l : Launch) (en : Int64) (bt : Int64) : Met l yX1_has wsX1_has ({ frames := 0, cells := 0, slots := 0, locals := 0 }) (fun v _ => v = ([.long en, .long bt] : List Value).toArray) (vp_Si (fun r => r = b2i (k_has en bt))) 0 0 (fun _ => False) := by
  refine Met.ofW (cc := cX1_has) (maxL := 4) (ret := (some .boolean)) (by decide) rfl ?_
  intro p e s m args below meth c s₁ B hml hv
  have hv : args = ([.long en, .long bt] : List Value).toArray := hv
  subst hv
  have hx := B.exec
  have hb := B.bytes
  have hr := B.returns
  have hts := atoms_spec (ws := wsX1_has) B.pre
  have hown : s.vm.findClass RX1 = some m.cls := findClass_of_methodNamed B.named
  have hlocks := B.notSynchronized
  have hl := lv_entry ([.long en, .long bt]) (n := 4) (Nat.le_of_ble_eq_true rfl)
  rw [lg_entry_eq]
  generalize (lg_sl ([.long en, .long bt]) ++ List.replicate (4 - (lg_sl ([.long en, .long bt])).length) Slot.unset).toArray = ls at hl ⊢
  have hl : lv_has ls 4 [(0, .long en), (2, .long bt)] := hl
  refine lv_lload_n hx hb dX1_has_0 rfl (lv_at hl 0 rfl) ?_
  refine lv_lload_n hx hb dX1_has_1 rfl (lv_at hl 1 rfl) ?_
  refine lv_land hx hb dX1_has_2 ?_
  refine lv_lconst (v := 0) hx hb dX1_has_3 (by decide) ?_
  refine W.lcmp hx hb dX1_has_4 ?_
  refine lv_if_eq (tgt := 12) hx hb dX1_has_5 (by decide) (fun c_1 => ?_) (fun c_1 => ?_)
  · rw [lg_cmp_eq] at c_1
    refine lv_iconst (v := 0) hx hb dX1_has_12 (by decide) ?_
    exact W.zret (v := 0) hx hb hr rfl (fun t ht hW => ⟨0, rfl, (by first | rfl | (simp only [k_has, b2i, c_1, b2i, decide_true, decide_false, Bool.not_true, Bool.not_false, Bool.and_true, Bool.and_false, Bool.true_and, Bool.false_and, Bool.or_true, Bool.or_false, Bool.true_or, Bool.false_or, reduceIte, or_true, true_or, or_false, false_or, and_true, true_and, and_false, false_and, not_true_eq_false, not_false_eq_true, Bool.false_eq_true, eq_self]; done) | (simp [k_has, b2i, c_1]; done)), ht⟩) (fun _ h => nomatch h) dX1_has_13
  · rw [lg_cmp_eq] at c_1
    refine lv_iconst (v := 1) hx hb dX1_has_8 (by decide) ?_
    refine lv_goto (tgt := 13) hx hb dX1_has_9 (by decide) ?_
    exact W.zret (v := 1) hx hb hr rfl (fun t ht hW => ⟨1, rfl, (by first | rfl | (simp only [k_has, b2i, c_1, b2i, decide_true, decide_false, Bool.not_true, Bool.not_false, Bool.and_true, Bool.and_false, Bool.true_and, Bool.false_and, Bool.or_true, Bool.or_false, Bool.true_or, Bool.false_or, reduceIte, or_true, true_or, or_false, false_or, and_true, true_and, and_false, false_and, not_true_eq_false, not_false_eq_true, Bool.false_eq_true, eq_self]; done) | (simp [k_has, b2i, c_1]; done)), ht⟩) (fun _ h => nomatch h) dX1_has_13
set_option maxHeartbeats 4000000 in
set_option maxRecDepth 100000 in
theorem mtX1_pageNumber (l : Launch) (en : Int64) : Met l yX1_pageNumber wsX1_pageNumber ({ frames := 0, cells := 0, slots := 0, locals := 0 }) (fun v _ => v = ([.long en] : List Value).toArray) (vp_Sl (fun r => r = k_pageNumber en)) 0 0 (fun _ => False) := by
  refine Met.ofW (cc := cX1_pageNumber) (maxL := 2) (ret := (some .long)) (by decide) rfl ?_
  intro p e s m args below meth c s₁ B hml hv
  have hv : args = ([.long en] : List Value).toArray := hv
  subst hv
  have hx := B.exec
  have hb := B.bytes
  have hr := B.returns
  have hts := atoms_spec (ws := wsX1_pageNumber) B.pre
  have hown : s.vm.findClass RX1 = some m.cls := findClass_of_methodNamed B.named
  have hlocks := B.notSynchronized
  have hl := lv_entry ([.long en]) (n := 2) (Nat.le_of_ble_eq_true rfl)
  rw [lg_entry_eq]
  generalize (lg_sl ([.long en]) ++ List.replicate (2 - (lg_sl ([.long en])).length) Slot.unset).toArray = ls at hl ⊢
  have hl : lv_has ls 2 [(0, .long en)] := hl
  refine lv_lload_n hx hb dX1_pageNumber_0 rfl (lv_at hl 0 rfl) ?_
  refine lv_bipush (v := 10) hx hb dX1_pageNumber_1 (by decide) ?_
  refine lv_lushr (v := (k_ush en 10)) hx hb dX1_pageNumber_3 rfl ?_
  refine lv_ldc2 (v := 17592186044415) hx hb hown (hts (.constantLong RX1 117 17592186044415) (wa 279 (by decide +kernel) rfl)) dX1_pageNumber_4 ?_
  refine lv_land hx hb dX1_pageNumber_7 ?_
  exact W.lret (v := ((k_ush en 10) &&& 17592186044415)) hx hb hr (fun t ht hW => ⟨((k_ush en 10) &&& 17592186044415), rfl, (by first | rfl | (simp only [k_pageNumber, b2i, decide_true, decide_false, Bool.not_true, Bool.not_false, Bool.and_true, Bool.and_false, Bool.true_and, Bool.false_and, Bool.or_true, Bool.or_false, Bool.true_or, Bool.false_or, reduceIte, or_true, true_or, or_false, false_or, and_true, true_and, and_false, false_and, not_true_eq_false, not_false_eq_true, Bool.false_eq_true, eq_self]; done) | (simp [k_pageNumber]; done)), ht⟩) (fun _ h => nomatch h) dX1_pageNumber_8
set_option maxHeartbeats 4000000 in
set_option maxRecDepth 100000 in
theorem mtX1_isLast (l : Launch) (en : Int64) : Met l yX1_isLast wsX1_isLast ({ frames := 1, cells := 0, slots := 0, locals := 23 }) (fun v _ => v = ([.long en] : List Value).toArray) (vp_Si (fun r => r = b2i (k_isLast en))) 0 0 (fun _ => False) := by
  refine Met.ofW (cc := cX1_isLast) (maxL := 2) (ret := (some .boolean)) (by decide) rfl ?_
  intro p e s m args below meth c s₁ B hml hv
  have hv : args = ([.long en] : List Value).toArray := hv
  subst hv
  have hx := B.exec
  have hb := B.bytes
  have hr := B.returns
  have hts := atoms_spec (ws := wsX1_isLast) B.pre
  have hown : s.vm.findClass RX1 = some m.cls := findClass_of_methodNamed B.named
  have hlocks := B.notSynchronized
  have hl := lv_entry ([.long en]) (n := 2) (Nat.le_of_ble_eq_true rfl)
  rw [lg_entry_eq]
  generalize (lg_sl ([.long en]) ++ List.replicate (2 - (lg_sl ([.long en])).length) Slot.unset).toArray = ls at hl ⊢
  have hl : lv_has ls 2 [(0, .long en)] := hl
  refine lv_lload_n hx hb dX1_isLast_0 rfl (lv_at hl 0 rfl) ?_
  refine lv_ldc2 (v := 10) hx hb hown (hts (.constantLong RX1 152 10) (wa 313 (by decide +kernel) rfl)) dX1_isLast_1 ?_
  refine vp_callSi (W.runS (As := [.long en, .long 10]) (rest := []) ⟨hx, hb, hml, hown, hts⟩ (mtX1_has l en 10) (va_cwS 2 hts (gAll (mc1 (wa 305 (by decide +kernel) rfl) (mc1 (wa 306 (by decide +kernel) rfl) (mc1 (wa 15 (by decide +kernel) rfl) mc0))) (wa 307 (by decide +kernel) rfl) (by decide +kernel)) rfl rfl rfl (by decide +kernel) ⟨Nat.le_of_ble_eq_true rfl, Nat.le_of_ble_eq_true rfl⟩) preEq rfl rfl hl.1 rfl (lv_room (Nat.le_of_ble_eq_true rfl)) dX1_isLast_4 ⟨Nat.le_of_ble_eq_true rfl, Nat.le_of_ble_eq_true rfl⟩) (fun r_1 er_1 => ?_)
  have er_1 : r_1 = (b2i (k_has en 10)) := er_1
  subst er_1
  exact W.zret (v := (b2i (k_has en 10))) hx hb hr (nar_b2i _) (fun t ht hW => ⟨(b2i (k_has en 10)), rfl, (by first | rfl | (simp only [k_isLast, b2i, b2i, decide_true, decide_false, Bool.not_true, Bool.not_false, Bool.and_true, Bool.and_false, Bool.true_and, Bool.false_and, Bool.or_true, Bool.or_false, Bool.true_or, Bool.false_or, reduceIte, or_true, true_or, or_false, false_or, and_true, true_and, and_false, false_and, not_true_eq_false, not_false_eq_true, Bool.false_eq_true, eq_self]; done) | (simp [k_isLast, b2i]; done)), ht⟩) (fun _ h => nomatch h) dX1_isLast_7
set_option maxHeartbeats 4000000 in
set_option maxRecDepth 100000 in
theorem mtX1_isMalformed (l : Launch) (en : Int64) : Met l yX1_isMalformed wsX1_isMalformed ({ frames := 2, cells := 0, slots := 0, locals := 44 }) (fun v _ => v = ([.long en] : List Value).toArray) (vp_Si (fun r => r = b2i (k_isMalformed en))) 0 0 (fun _ => False) := by
  refine Met.ofW (cc := cX1_isMalformed) (maxL := 2) (ret := (some .boolean)) (by decide) rfl ?_
  intro p e s m args below meth c s₁ B hml hv
  have hv : args = ([.long en] : List Value).toArray := hv
  subst hv
  have hx := B.exec
  have hb := B.bytes
  have hr := B.returns
  have hts := atoms_spec (ws := wsX1_isMalformed) B.pre
  have hown : s.vm.findClass RX1 = some m.cls := findClass_of_methodNamed B.named
  have hlocks := B.notSynchronized
  have hl := lv_entry ([.long en]) (n := 2) (Nat.le_of_ble_eq_true rfl)
  rw [lg_entry_eq]
  generalize (lg_sl ([.long en]) ++ List.replicate (2 - (lg_sl ([.long en])).length) Slot.unset).toArray = ls at hl ⊢
  have hl : lv_has ls 2 [(0, .long en)] := hl
  refine lv_lload_n hx hb dX1_isMalformed_0 rfl (lv_at hl 0 rfl) ?_
  refine lv_lconst (v := 1) hx hb dX1_isMalformed_1 (by decide) ?_
  refine vp_callSi (W.runS (As := [.long en, .long 1]) (rest := []) ⟨hx, hb, hml, hown, hts⟩ (mtX1_has l en 1) (va_cwS 2 hts (gAll (mc1 (wa 305 (by decide +kernel) rfl) (mc1 (wa 306 (by decide +kernel) rfl) (mc1 (wa 15 (by decide +kernel) rfl) mc0))) (wa 307 (by decide +kernel) rfl) (by decide +kernel)) rfl rfl rfl (by decide +kernel) ⟨Nat.le_of_ble_eq_true rfl, Nat.le_of_ble_eq_true rfl⟩) preEq rfl rfl hl.1 rfl (lv_room (Nat.le_of_ble_eq_true rfl)) dX1_isMalformed_2 ⟨Nat.le_of_ble_eq_true rfl, Nat.le_of_ble_eq_true rfl⟩) (fun r_1 er_1 => ?_)
  have er_1 : r_1 = (b2i (k_has en 1)) := er_1
  subst er_1
  refine lv_if_eq (tgt := 54) hx hb dX1_isMalformed_5 (by decide) (fun c_2 => ?_) (fun c_2 => ?_)
  · rw [b2i_z] at c_2
    refine lv_iconst (v := 1) hx hb dX1_isMalformed_54 (by decide) ?_
    refine lv_goto (tgt := 59) hx hb dX1_isMalformed_55 (by decide) ?_
    exact W.zret (v := 1) hx hb hr rfl (fun t ht hW => ⟨1, rfl, (by first | rfl | (simp only [k_isMalformed, b2i, c_2, b2i, decide_true, decide_false, Bool.not_true, Bool.not_false, Bool.and_true, Bool.and_false, Bool.true_and, Bool.false_and, Bool.or_true, Bool.or_false, Bool.true_or, Bool.false_or, reduceIte, or_true, true_or, or_false, false_or, and_true, true_and, and_false, false_and, not_true_eq_false, not_false_eq_true, Bool.false_eq_true, eq_self]; done) | (simp [k_isMalformed, b2i, c_2]; done)), ht⟩) (fun _ h => nomatch h) dX1_isMalformed_59
  · rw [b2i_z] at c_2
    rw [Bool.not_eq_false] at c_2
    refine lv_lload_n hx hb dX1_isMalformed_8 rfl (lv_at hl 0 rfl) ?_
    refine lv_ldc2 (v := 4) hx hb hown (hts (.constantLong RX1 158 4) (wa 308 (by decide +kernel) rfl)) dX1_isMalformed_9 ?_
    refine vp_callSi (W.runS (As := [.long en, .long 4]) (rest := []) ⟨hx, hb, hml, hown, hts⟩ (mtX1_has l en 4) (va_cwS 2 hts (gAll (mc1 (wa 305 (by decide +kernel) rfl) (mc1 (wa 306 (by decide +kernel) rfl) (mc1 (wa 15 (by decide +kernel) rfl) mc0))) (wa 307 (by decide +kernel) rfl) (by decide +kernel)) rfl rfl rfl (by decide +kernel) ⟨Nat.le_of_ble_eq_true rfl, Nat.le_of_ble_eq_true rfl⟩) preEq rfl rfl hl.1 rfl (lv_room (Nat.le_of_ble_eq_true rfl)) dX1_isMalformed_12 ⟨Nat.le_of_ble_eq_true rfl, Nat.le_of_ble_eq_true rfl⟩) (fun r_3 er_3 => ?_)
    have er_3 : r_3 = (b2i (k_has en 4)) := er_3
    subst er_3
    refine lv_if_eq (tgt := 28) hx hb dX1_isMalformed_15 (by decide) (fun c_4 => ?_) (fun c_4 => ?_)
    · rw [b2i_z] at c_4
      refine lv_lload_n hx hb dX1_isMalformed_28 rfl (lv_at hl 0 rfl) ?_
      refine lv_bipush (v := 54) hx hb dX1_isMalformed_29 (by decide) ?_
      refine lv_lushr (v := (k_ush en 54)) hx hb dX1_isMalformed_31 rfl ?_
      refine lv_lconst (v := 0) hx hb dX1_isMalformed_32 (by decide) ?_
      refine W.lcmp hx hb dX1_isMalformed_33 ?_
      refine lv_if_ne (tgt := 54) hx hb dX1_isMalformed_34 (by decide) (fun c_5 => ?_) (fun c_5 => ?_)
      · rw [lg_cmp_eq] at c_5
        refine lv_iconst (v := 1) hx hb dX1_isMalformed_54 (by decide) ?_
        refine lv_goto (tgt := 59) hx hb dX1_isMalformed_55 (by decide) ?_
        exact W.zret (v := 1) hx hb hr rfl (fun t ht hW => ⟨1, rfl, (by first | rfl | (simp only [k_isMalformed, b2i, c_2, c_4, c_5, b2i, decide_true, decide_false, Bool.not_true, Bool.not_false, Bool.and_true, Bool.and_false, Bool.true_and, Bool.false_and, Bool.or_true, Bool.or_false, Bool.true_or, Bool.false_or, reduceIte, or_true, true_or, or_false, false_or, and_true, true_and, and_false, false_and, not_true_eq_false, not_false_eq_true, Bool.false_eq_true, eq_self]; done) | (simp [k_isMalformed, b2i, c_2, c_4, c_5]; done)), ht⟩) (fun _ h => nomatch h) dX1_isMalformed_59
      · rw [lg_cmp_eq] at c_5
        refine lv_lload_n hx hb dX1_isMalformed_37 rfl (lv_at hl 0 rfl) ?_
        refine vp_callSi (W.runS (As := [.long en]) (rest := []) ⟨hx, hb, hml, hown, hts⟩ (mtX1_isLast l en) (va_cwS 1 hts (gAll (mc1 (wa 310 (by decide +kernel) rfl) (mc1 (wa 311 (by decide +kernel) rfl) (mc1 (wa 15 (by decide +kernel) rfl) mc0))) (wa 312 (by decide +kernel) rfl) (by decide +kernel)) rfl rfl rfl (by decide +kernel) ⟨Nat.le_of_ble_eq_true rfl, Nat.le_of_ble_eq_true rfl⟩) preEq rfl rfl hl.1 rfl (lv_room (Nat.le_of_ble_eq_true rfl)) dX1_isMalformed_38 ⟨Nat.le_of_ble_eq_true rfl, Nat.le_of_ble_eq_true rfl⟩) (fun r_6 er_6 => ?_)
        have er_6 : r_6 = (b2i (k_isLast en)) := er_6
        subst er_6
        refine lv_if_ne (tgt := 58) hx hb dX1_isMalformed_41 (by decide) (fun c_7 => ?_) (fun c_7 => ?_)
        · rw [b2i_z] at c_7
          rw [Bool.not_eq_false] at c_7
          refine lv_iconst (v := 0) hx hb dX1_isMalformed_58 (by decide) ?_
          exact W.zret (v := 0) hx hb hr rfl (fun t ht hW => ⟨0, rfl, (by first | rfl | (simp only [k_isMalformed, b2i, c_2, c_4, c_5, c_7, b2i, decide_true, decide_false, Bool.not_true, Bool.not_false, Bool.and_true, Bool.and_false, Bool.true_and, Bool.false_and, Bool.or_true, Bool.or_false, Bool.true_or, Bool.false_or, reduceIte, or_true, true_or, or_false, false_or, and_true, true_and, and_false, false_and, not_true_eq_false, not_false_eq_true, Bool.false_eq_true, eq_self]; done) | (simp [k_isMalformed, b2i, c_2, c_4, c_5, c_7]; done)), ht⟩) (fun _ h => nomatch h) dX1_isMalformed_59
        · rw [b2i_z] at c_7
          refine lv_lload_n hx hb dX1_isMalformed_44 rfl (lv_at hl 0 rfl) ?_
          refine lv_ldc2 (v := 208) hx hb hown (hts (.constantLong RX1 162 208) (wa 314 (by decide +kernel) rfl)) dX1_isMalformed_45 ?_
          refine vp_callSi (W.runS (As := [.long en, .long 208]) (rest := []) ⟨hx, hb, hml, hown, hts⟩ (mtX1_has l en 208) (va_cwS 2 hts (gAll (mc1 (wa 305 (by decide +kernel) rfl) (mc1 (wa 306 (by decide +kernel) rfl) (mc1 (wa 15 (by decide +kernel) rfl) mc0))) (wa 307 (by decide +kernel) rfl) (by decide +kernel)) rfl rfl rfl (by decide +kernel) ⟨Nat.le_of_ble_eq_true rfl, Nat.le_of_ble_eq_true rfl⟩) preEq rfl rfl hl.1 rfl (lv_room (Nat.le_of_ble_eq_true rfl)) dX1_isMalformed_48 ⟨Nat.le_of_ble_eq_true rfl, Nat.le_of_ble_eq_true rfl⟩) (fun r_8 er_8 => ?_)
          have er_8 : r_8 = (b2i (k_has en 208)) := er_8
          subst er_8
          refine lv_if_eq (tgt := 58) hx hb dX1_isMalformed_51 (by decide) (fun c_9 => ?_) (fun c_9 => ?_)
          · rw [b2i_z] at c_9
            refine lv_iconst (v := 0) hx hb dX1_isMalformed_58 (by decide) ?_
            exact W.zret (v := 0) hx hb hr rfl (fun t ht hW => ⟨0, rfl, (by first | rfl | (simp only [k_isMalformed, b2i, c_2, c_4, c_5, c_7, c_9, b2i, decide_true, decide_false, Bool.not_true, Bool.not_false, Bool.and_true, Bool.and_false, Bool.true_and, Bool.false_and, Bool.or_true, Bool.or_false, Bool.true_or, Bool.false_or, reduceIte, or_true, true_or, or_false, false_or, and_true, true_and, and_false, false_and, not_true_eq_false, not_false_eq_true, Bool.false_eq_true, eq_self]; done) | (simp [k_isMalformed, b2i, c_2, c_4, c_5, c_7, c_9]; done)), ht⟩) (fun _ h => nomatch h) dX1_isMalformed_59
          · rw [b2i_z] at c_9
            rw [Bool.not_eq_false] at c_9
            refine lv_iconst (v := 1) hx hb dX1_isMalformed_54 (by decide) ?_
            refine lv_goto (tgt := 59) hx hb dX1_isMalformed_55 (by decide) ?_
            exact W.zret (v := 1) hx hb hr rfl (fun t ht hW => ⟨1, rfl, (by first | rfl | (simp only [k_isMalformed, b2i, c_2, c_4, c_5, c_7, c_9, b2i, decide_true, decide_false, Bool.not_true, Bool.not_false, Bool.and_true, Bool.and_false, Bool.true_and, Bool.false_and, Bool.or_true, Bool.or_false, Bool.true_or, Bool.false_or, reduceIte, or_true, true_or, or_false, false_or, and_true, true_and, and_false, false_and, not_true_eq_false, not_false_eq_true, Bool.false_eq_true, eq_self]; done) | (simp [k_isMalformed, b2i, c_2, c_4, c_5, c_7, c_9]; done)), ht⟩) (fun _ h => nomatch h) dX1_isMalformed_59
    · rw [b2i_z] at c_4
      rw [Bool.not_eq_false] at c_4
      refine lv_lload_n hx hb dX1_isMalformed_18 rfl (lv_at hl 0 rfl) ?_
      refine lv_ldc2 (v := 2) hx hb hown (hts (.constantLong RX1 160 2) (wa 309 (by decide +kernel) rfl)) dX1_isMalformed_19 ?_
      refine vp_callSi (W.runS (As := [.long en, .long 2]) (rest := []) ⟨hx, hb, hml, hown, hts⟩ (mtX1_has l en 2) (va_cwS 2 hts (gAll (mc1 (wa 305 (by decide +kernel) rfl) (mc1 (wa 306 (by decide +kernel) rfl) (mc1 (wa 15 (by decide +kernel) rfl) mc0))) (wa 307 (by decide +kernel) rfl) (by decide +kernel)) rfl rfl rfl (by decide +kernel) ⟨Nat.le_of_ble_eq_true rfl, Nat.le_of_ble_eq_true rfl⟩) preEq rfl rfl hl.1 rfl (lv_room (Nat.le_of_ble_eq_true rfl)) dX1_isMalformed_22 ⟨Nat.le_of_ble_eq_true rfl, Nat.le_of_ble_eq_true rfl⟩) (fun r_10 er_10 => ?_)
      have er_10 : r_10 = (b2i (k_has en 2)) := er_10
      subst er_10
      refine lv_if_eq (tgt := 54) hx hb dX1_isMalformed_25 (by decide) (fun c_11 => ?_) (fun c_11 => ?_)
      · rw [b2i_z] at c_11
        refine lv_iconst (v := 1) hx hb dX1_isMalformed_54 (by decide) ?_
        refine lv_goto (tgt := 59) hx hb dX1_isMalformed_55 (by decide) ?_
        exact W.zret (v := 1) hx hb hr rfl (fun t ht hW => ⟨1, rfl, (by first | rfl | (simp only [k_isMalformed, b2i, c_2, c_4, c_11, b2i, decide_true, decide_false, Bool.not_true, Bool.not_false, Bool.and_true, Bool.and_false, Bool.true_and, Bool.false_and, Bool.or_true, Bool.or_false, Bool.true_or, Bool.false_or, reduceIte, or_true, true_or, or_false, false_or, and_true, true_and, and_false, false_and, not_true_eq_false, not_false_eq_true, Bool.false_eq_true, eq_self]; done) | (simp [k_isMalformed, b2i, c_2, c_4, c_11]; done)), ht⟩) (fun _ h => nomatch h) dX1_isMalformed_59
      · rw [b2i_z] at c_11
        rw [Bool.not_eq_false] at c_11
        refine lv_lload_n hx hb dX1_isMalformed_28 rfl (lv_at hl 0 rfl) ?_
        refine lv_bipush (v := 54) hx hb dX1_isMalformed_29 (by decide) ?_
        refine lv_lushr (v := (k_ush en 54)) hx hb dX1_isMalformed_31 rfl ?_
        refine lv_lconst (v := 0) hx hb dX1_isMalformed_32 (by decide) ?_
        refine W.lcmp hx hb dX1_isMalformed_33 ?_
        refine lv_if_ne (tgt := 54) hx hb dX1_isMalformed_34 (by decide) (fun c_12 => ?_) (fun c_12 => ?_)
        · rw [lg_cmp_eq] at c_12
          refine lv_iconst (v := 1) hx hb dX1_isMalformed_54 (by decide) ?_
          refine lv_goto (tgt := 59) hx hb dX1_isMalformed_55 (by decide) ?_
          exact W.zret (v := 1) hx hb hr rfl (fun t ht hW => ⟨1, rfl, (by first | rfl | (simp only [k_isMalformed, b2i, c_2, c_4, c_11, c_12, b2i, decide_true, decide_false, Bool.not_true, Bool.not_false, Bool.and_true, Bool.and_false, Bool.true_and, Bool.false_and, Bool.or_true, Bool.or_false, Bool.true_or, Bool.false_or, reduceIte, or_true, true_or, or_false, false_or, and_true, true_and, and_false, false_and, not_true_eq_false, not_false_eq_true, Bool.false_eq_true, eq_self]; done) | (simp [k_isMalformed, b2i, c_2, c_4, c_11, c_12]; done)), ht⟩) (fun _ h => nomatch h) dX1_isMalformed_59
        · rw [lg_cmp_eq] at c_12
          refine lv_lload_n hx hb dX1_isMalformed_37 rfl (lv_at hl 0 rfl) ?_
          refine vp_callSi (W.runS (As := [.long en]) (rest := []) ⟨hx, hb, hml, hown, hts⟩ (mtX1_isLast l en) (va_cwS 1 hts (gAll (mc1 (wa 310 (by decide +kernel) rfl) (mc1 (wa 311 (by decide +kernel) rfl) (mc1 (wa 15 (by decide +kernel) rfl) mc0))) (wa 312 (by decide +kernel) rfl) (by decide +kernel)) rfl rfl rfl (by decide +kernel) ⟨Nat.le_of_ble_eq_true rfl, Nat.le_of_ble_eq_true rfl⟩) preEq rfl rfl hl.1 rfl (lv_room (Nat.le_of_ble_eq_true rfl)) dX1_isMalformed_38 ⟨Nat.le_of_ble_eq_true rfl, Nat.le_of_ble_eq_true rfl⟩) (fun r_13 er_13 => ?_)
          have er_13 : r_13 = (b2i (k_isLast en)) := er_13
          subst er_13
          refine lv_if_ne (tgt := 58) hx hb dX1_isMalformed_41 (by decide) (fun c_14 => ?_) (fun c_14 => ?_)
          · rw [b2i_z] at c_14
            rw [Bool.not_eq_false] at c_14
            refine lv_iconst (v := 0) hx hb dX1_isMalformed_58 (by decide) ?_
            exact W.zret (v := 0) hx hb hr rfl (fun t ht hW => ⟨0, rfl, (by first | rfl | (simp only [k_isMalformed, b2i, c_2, c_4, c_11, c_12, c_14, b2i, decide_true, decide_false, Bool.not_true, Bool.not_false, Bool.and_true, Bool.and_false, Bool.true_and, Bool.false_and, Bool.or_true, Bool.or_false, Bool.true_or, Bool.false_or, reduceIte, or_true, true_or, or_false, false_or, and_true, true_and, and_false, false_and, not_true_eq_false, not_false_eq_true, Bool.false_eq_true, eq_self]; done) | (simp [k_isMalformed, b2i, c_2, c_4, c_11, c_12, c_14]; done)), ht⟩) (fun _ h => nomatch h) dX1_isMalformed_59
          · rw [b2i_z] at c_14
            refine lv_lload_n hx hb dX1_isMalformed_44 rfl (lv_at hl 0 rfl) ?_
            refine lv_ldc2 (v := 208) hx hb hown (hts (.constantLong RX1 162 208) (wa 314 (by decide +kernel) rfl)) dX1_isMalformed_45 ?_
            refine vp_callSi (W.runS (As := [.long en, .long 208]) (rest := []) ⟨hx, hb, hml, hown, hts⟩ (mtX1_has l en 208) (va_cwS 2 hts (gAll (mc1 (wa 305 (by decide +kernel) rfl) (mc1 (wa 306 (by decide +kernel) rfl) (mc1 (wa 15 (by decide +kernel) rfl) mc0))) (wa 307 (by decide +kernel) rfl) (by decide +kernel)) rfl rfl rfl (by decide +kernel) ⟨Nat.le_of_ble_eq_true rfl, Nat.le_of_ble_eq_true rfl⟩) preEq rfl rfl hl.1 rfl (lv_room (Nat.le_of_ble_eq_true rfl)) dX1_isMalformed_48 ⟨Nat.le_of_ble_eq_true rfl, Nat.le_of_ble_eq_true rfl⟩) (fun r_15 er_15 => ?_)
            have er_15 : r_15 = (b2i (k_has en 208)) := er_15
            subst er_15
            refine lv_if_eq (tgt := 58) hx hb dX1_isMalformed_51 (by decide) (fun c_16 => ?_) (fun c_16 => ?_)
            · rw [b2i_z] at c_16
              refine lv_iconst (v := 0) hx hb dX1_isMalformed_58 (by decide) ?_
              exact W.zret (v := 0) hx hb hr rfl (fun t ht hW => ⟨0, rfl, (by first | rfl | (simp only [k_isMalformed, b2i, c_2, c_4, c_11, c_12, c_14, c_16, b2i, decide_true, decide_false, Bool.not_true, Bool.not_false, Bool.and_true, Bool.and_false, Bool.true_and, Bool.false_and, Bool.or_true, Bool.or_false, Bool.true_or, Bool.false_or, reduceIte, or_true, true_or, or_false, false_or, and_true, true_and, and_false, false_and, not_true_eq_false, not_false_eq_true, Bool.false_eq_true, eq_self]; done) | (simp [k_isMalformed, b2i, c_2, c_4, c_11, c_12, c_14, c_16]; done)), ht⟩) (fun _ h => nomatch h) dX1_isMalformed_59
            · rw [b2i_z] at c_16
              rw [Bool.not_eq_false] at c_16
              refine lv_iconst (v := 1) hx hb dX1_isMalformed_54 (by decide) ?_
              refine lv_goto (tgt := 59) hx hb dX1_isMalformed_55 (by decide) ?_
              exact W.zret (v := 1) hx hb hr rfl (fun t ht hW => ⟨1, rfl, (by first | rfl | (simp only [k_isMalformed, b2i, c_2, c_4, c_11, c_12, c_14, c_16, b2i, decide_true, decide_false, Bool.not_true, Bool.not_false, Bool.and_true, Bool.and_false, Bool.true_and, Bool.false_and, Bool.or_true, Bool.or_false, Bool.true_or, Bool.false_or, reduceIte, or_true, true_or, or_false, false_or, and_true, true_and, and_false, false_and, not_true_eq_false, not_false_eq_true, Bool.false_eq_true, eq_self]; done) | (simp [k_isMalformed, b2i, c_2, c_4, c_11, c_12, c_14, c_16]; done)), ht⟩) (fun _ h => nomatch h) dX1_isMalformed_59
set_option maxHeartbeats 4000000 in
set_option maxRecDepth 100000 in
theorem mtX1_target (l : Launch) (en : Int64) (ad : Int64) (d : Int32) : Met l yX1_target wsX1_target ({ frames := 1, cells := 0, slots := 0, locals := 21 }) (fun v _ => v = ([.long en, .long ad, .int d] : List Value).toArray) (vp_Sl (fun r => r = k_target en ad d)) 0 0 (fun _ => False) := by
  refine Met.ofW (cc := cX1_target) (maxL := 7) (ret := (some .long)) (by decide) rfl ?_
  intro p e s m args below meth c s₁ B hml hv
  have hv : args = ([.long en, .long ad, .int d] : List Value).toArray := hv
  subst hv
  have hx := B.exec
  have hb := B.bytes
  have hr := B.returns
  have hts := atoms_spec (ws := wsX1_target) B.pre
  have hown : s.vm.findClass RX1 = some m.cls := findClass_of_methodNamed B.named
  have hlocks := B.notSynchronized
  have hl := lv_entry ([.long en, .long ad, .int d]) (n := 7) (Nat.le_of_ble_eq_true rfl)
  rw [lg_entry_eq]
  generalize (lg_sl ([.long en, .long ad, .int d]) ++ List.replicate (7 - (lg_sl ([.long en, .long ad, .int d])).length) Slot.unset).toArray = ls at hl ⊢
  have hl : lv_has ls 7 [(0, .long en), (2, .long ad), (4, .int d)] := hl
  refine lv_lconst (v := 1) hx hb dX1_target_0 (by decide) ?_
  refine lv_iload hx hb dX1_target_1 (lv_at hl 2 rfl) ?_
  refine vp_callSi (W.runS (As := [.int d]) (rest := [.long 1]) ⟨hx, hb, hml, hown, hts⟩ (mtX1_shiftOf l d) (va_cwS 1 hts (gAll (mc1 (wa 283 (by decide +kernel) rfl) (mc1 (wa 284 (by decide +kernel) rfl) (mc1 (wa 15 (by decide +kernel) rfl) mc0))) (wa 285 (by decide +kernel) rfl) (by decide +kernel)) rfl rfl rfl (by decide +kernel) ⟨Nat.le_of_ble_eq_true rfl, Nat.le_of_ble_eq_true rfl⟩) preEq rfl rfl hl.1 rfl (lv_room (Nat.le_of_ble_eq_true rfl)) dX1_target_3 ⟨Nat.le_of_ble_eq_true rfl, Nat.le_of_ble_eq_true rfl⟩) (fun r_1 er_1 => ?_)
  have er_1 : r_1 = (k_shiftOf d) := er_1
  subst er_1
  refine lv_lshl (v := (k_shl 1 (k_shiftOf d))) hx hb dX1_target_6 rfl ?_
  refine lv_lconst (v := 1) hx hb dX1_target_7 (by decide) ?_
  refine lv_lsub hx hb dX1_target_8 ?_
  refine lv_lstore (lv' := [(5, .long ((k_shl 1 (k_shiftOf d)) - 1)), (0, .long en), (2, .long ad), (4, .int d)]) hx hb dX1_target_9 hl (by decide) rfl (fun ls hl => ?_)
  refine lv_lload_n hx hb dX1_target_11 rfl (lv_at hl 1 rfl) ?_
  refine vp_callSl (W.runS (As := [.long en]) (rest := []) ⟨hx, hb, hml, hown, hts⟩ (mtX1_pageNumber l en) (va_cwS 1 hts (gAll (mc1 (wa 319 (by decide +kernel) rfl) (mc1 (wa 320 (by decide +kernel) rfl) (mc1 (wa 15 (by decide +kernel) rfl) mc0))) (wa 321 (by decide +kernel) rfl) (by decide +kernel)) rfl rfl rfl (by decide +kernel) ⟨Nat.le_of_ble_eq_true rfl, Nat.le_of_ble_eq_true rfl⟩) preEq rfl rfl hl.1 rfl (lv_room (Nat.le_of_ble_eq_true rfl)) dX1_target_12 ⟨Nat.le_of_ble_eq_true rfl, Nat.le_of_ble_eq_true rfl⟩) (fun r_2 er_2 => ?_)
  have er_2 : r_2 = (k_pageNumber en) := er_2
  subst er_2
  refine lv_ldc2 (v := 4096) hx hb hown (hts (.constantLong RX1 90 4096) (wa 254 (by decide +kernel) rfl)) dX1_target_15 ?_
  refine lv_lmul hx hb dX1_target_18 ?_
  refine lv_lload_n hx hb dX1_target_19 rfl (lv_at hl 2 rfl) ?_
  refine lv_lload hx hb dX1_target_20 (lv_at hl 0 rfl) ?_
  refine lv_land hx hb dX1_target_22 ?_
  refine lv_lor hx hb dX1_target_23 ?_
  exact W.lret (v := (((k_pageNumber en) * 4096) ||| (ad &&& ((k_shl 1 (k_shiftOf d)) - 1)))) hx hb hr (fun t ht hW => ⟨(((k_pageNumber en) * 4096) ||| (ad &&& ((k_shl 1 (k_shiftOf d)) - 1))), rfl, (by first | rfl | (simp only [k_target, b2i, decide_true, decide_false, Bool.not_true, Bool.not_false, Bool.and_true, Bool.and_false, Bool.true_and, Bool.false_and, Bool.or_true, Bool.or_false, Bool.true_or, Bool.false_or, reduceIte, or_true, true_or, or_false, false_or, and_true, true_and, and_false, false_and, not_true_eq_false, not_false_eq_true, Bool.false_eq_true, eq_self]; done) | (simp [k_target]; done)), ht⟩) (fun _ h => nomatch h) dX1_target_24
end
section
set_option maxHeartbeats 4000000 in
set_option maxRecDepth 100000 in
theorem mtX1_table (l : Launch) (dC : Nat → ClassId) (dI : Nat → Nat → Nat) (cL : ClassId) (cI : ClassId) (q0 : Nat) (qw : Nat) (qr : Nat) (qc : Nat) (qn : Nat) (w : Nat → Int64) (tb : Int64) (su : Bool) (mx : Bool) (cf : Nat → Int32) (nu : Nat → Int64)   : Met l yX1_table wsX1_table ({ frames := 0, cells := 0, slots := 0, locals := 0 }) (va_Pc [.ref q0] (fun U => va_P (dC, dI) vwCl (wPW cL cI q0 qw qr qc qn w tb su mx cf nu) U.heap ∧ va_K (dC, dI) vwCl [(cL, .long), (cI, .int)] U)) (vp_Sl (fun r => r = tb)) 0 0 (fun _ => False) := by
  refine Met.ofW (cc := cX1_table) (maxL := 1) (ret := (some .long)) (by decide) rfl ?_
  intro p e s m args below meth c s₁ B hml hv
  obtain ⟨rfl, hP, hK⟩ := hv
  have hx := B.exec
  have hb := B.bytes
  have hr := B.returns
  have hts := atoms_spec (ws := wsX1_table) B.pre
  have hown : s.vm.findClass RX1 = some m.cls := findClass_of_methodNamed B.named
  have hlocks := B.notSynchronized
  have hP : va_P (dC, dI) vwCl [(q0, .inr (1, [.ref qw, .ref qr, .long tb, .int (b2i su), .int (b2i mx)])), (qw, .inl (cL, 8192, .inr (.inl w))), (qr, .inr (0, [.ref qc, .ref qn])), (qc, .inl (cI, 8, .inl cf)), (qn, .inl (cL, 8, .inr (.inl nu)))] s.heap := hP
  have hl := lv_entry ([.ref q0]) (n := 1) (Nat.le_of_ble_eq_true rfl)
  rw [lg_entry_eq]
  generalize (lg_sl ([.ref q0]) ++ List.replicate (1 - (lg_sl ([.ref q0])).length) Slot.unset).toArray = ls at hl ⊢
  have hl : lv_has ls 1 [(0, .ref q0)] := hl
  refine lv_aload_n hx hb dX1_table_0 rfl (lv_at hl 0 rfl) ?_
  refine va_get (D := (dC, dI)) (ci := 1) (v := .long tb) (C := RX1) (T := TX1) (N := 5) hx hb hts iwX1 hown hK hP 0 rfl rfl 2 (by decide) (hts (.fieldLink RX1 20 RX1 "table" "J") (wa 48 (by decide +kernel) rfl)) (fun _ h9 => h9) rfl dX1_table_1 ?_
  exact W.lret (v := tb) hx hb hr (fun t ht hW => ⟨tb, rfl, (by first | rfl | (simp only [b2i, decide_true, decide_false, Bool.not_true, Bool.not_false, Bool.and_true, Bool.and_false, Bool.true_and, Bool.false_and, Bool.or_true, Bool.or_false, Bool.true_or, Bool.false_or, reduceIte, or_true, true_or, or_false, false_or, and_true, true_and, and_false, false_and, not_true_eq_false, not_false_eq_true, Bool.false_eq_true, eq_self]; done) | (simp []; done)), ht⟩) (fun _ h => nomatch h) dX1_table_4
set_option maxHeartbeats 4000000 in
set_option maxRecDepth 100000 in
theorem mtX1_configs (l : Launch) (dC : Nat → ClassId) (dI : Nat → Nat → Nat) (cL : ClassId) (cI : ClassId) (q0 : Nat) (qw : Nat) (qr : Nat) (qc : Nat) (qn : Nat) (w : Nat → Int64) (tb : Int64) (su : Bool) (mx : Bool) (cf : Nat → Int32) (nu : Nat → Int64)   : Met l yX1_configs wsX1_configs ({ frames := 1, cells := 0, slots := 0, locals := 23 }) (va_Pc [.ref q0] (fun U => va_P (dC, dI) vwCl (wPW cL cI q0 qw qr qc qn w tb su mx cf nu) U.heap ∧ va_K (dC, dI) vwCl [(cL, .long), (cI, .int)] U)) (vp_Sl (fun r => r = k_packF cf 8)) 0 0 (fun _ => False) := by
  refine Met.ofW (cc := cX1_configs) (maxL := 1) (ret := (some .long)) (by decide) rfl ?_
  intro p e s m args below meth c s₁ B hml hv
  obtain ⟨rfl, hP, hK⟩ := hv
  have hx := B.exec
  have hb := B.bytes
  have hr := B.returns
  have hts := atoms_spec (ws := wsX1_configs) B.pre
  have hown : s.vm.findClass RX1 = some m.cls := findClass_of_methodNamed B.named
  have hlocks := B.notSynchronized
  have hP : va_P (dC, dI) vwCl [(q0, .inr (1, [.ref qw, .ref qr, .long tb, .int (b2i su), .int (b2i mx)])), (qw, .inl (cL, 8192, .inr (.inl w))), (qr, .inr (0, [.ref qc, .ref qn])), (qc, .inl (cI, 8, .inl cf)), (qn, .inl (cL, 8, .inr (.inl nu)))] s.heap := hP
  have hl := lv_entry ([.ref q0]) (n := 1) (Nat.le_of_ble_eq_true rfl)
  rw [lg_entry_eq]
  generalize (lg_sl ([.ref q0]) ++ List.replicate (1 - (lg_sl ([.ref q0])).length) Slot.unset).toArray = ls at hl ⊢
  have hl : lv_has ls 1 [(0, .ref q0)] := hl
  refine lv_aload_n hx hb dX1_configs_0 rfl (lv_at hl 0 rfl) ?_
  refine va_get (D := (dC, dI)) (ci := 1) (v := .ref qr) (C := RX1) (T := TX1) (N := 5) hx hb hts iwX1 hown hK hP 0 rfl rfl 1 (by decide) (hts (.fieldLink RX1 16 RX1 "regions" "LPageWalker$Regions;") (wa 47 (by decide +kernel) rfl)) (fun _ h9 => h9) rfl dX1_configs_1 ?_
  refine vp_callSl (W.runV (As := []) (rest := []) ⟨hx, hb, hml, hown, hts⟩ (mtX0_packedConfigs l dC dI cL cI qr qc qn cf nu  ) (cwV 0 hts (gAll (mc1 (wa 74 (by decide +kernel) rfl) (mc1 (wa 75 (by decide +kernel) rfl) (mc1 (wa 76 (by decide +kernel) rfl) (mc1 (wa 16 (by decide +kernel) rfl) mc0)))) (wa 77 (by decide +kernel) rfl) (by decide +kernel)) rfl rfl rfl (by decide +kernel) ⟨Nat.le_of_ble_eq_true rfl, Nat.le_of_ble_eq_true rfl⟩) (rd_pre (ci := 0) (q0 := 0) hK (hP.sub (ws' := (wRG cL cI qr qc qn cf nu)) [2, 3, 4] rfl) rfl rfl) rfl rfl hl.1 rfl (lv_room (Nat.le_of_ble_eq_true rfl)) dX1_configs_4 ⟨Nat.le_of_ble_eq_true rfl, Nat.le_of_ble_eq_true rfl⟩) (fun r_1 er_1 => ?_)
  have er_1 : r_1 = (k_packF cf 8) := er_1
  subst er_1
  exact W.lret (v := (k_packF cf 8)) hx hb hr (fun t ht hW => ⟨(k_packF cf 8), rfl, (by first | rfl | (simp only [b2i, decide_true, decide_false, Bool.not_true, Bool.not_false, Bool.and_true, Bool.and_false, Bool.true_and, Bool.false_and, Bool.or_true, Bool.or_false, Bool.true_or, Bool.false_or, reduceIte, or_true, true_or, or_false, false_or, and_true, true_and, and_false, false_and, not_true_eq_false, not_false_eq_true, Bool.false_eq_true, eq_self]; done) | (simp []; done)), ht⟩) (fun _ h => nomatch h) dX1_configs_7
set_option maxHeartbeats 4000000 in
set_option maxRecDepth 100000 in
theorem mtX1_fence (l : Launch) (dC : Nat → ClassId) (dI : Nat → Nat → Nat) (cL : ClassId) (cI : ClassId) (q0 : Nat) (qw : Nat) (qr : Nat) (qc : Nat) (qn : Nat) (w : Nat → Int64) (tb : Int64) (su : Bool) (mx : Bool) (cf : Nat → Int32) (nu : Nat → Int64)   : Met l yX1_fence wsX1_fence ({ frames := 0, cells := 0, slots := 0, locals := 0 }) (va_Pc [.ref q0] (fun U => va_P (dC, dI) vwCl (wPW cL cI q0 qw qr qc qn w tb su mx cf nu) U.heap ∧ va_K (dC, dI) vwCl [(cL, .long), (cI, .int)] U)) (va_Sv (fun _ => True)) 0 0 (fun _ => False) := by
  refine Met.ofW (cc := cX1_fence) (maxL := 1) (ret := none) (by decide) rfl ?_
  intro p e s m args below meth c s₁ B hml hv
  obtain ⟨rfl, hP, hK⟩ := hv
  have hx := B.exec
  have hb := B.bytes
  have hr := B.returns
  have hts := atoms_spec (ws := wsX1_fence) B.pre
  have hown : s.vm.findClass RX1 = some m.cls := findClass_of_methodNamed B.named
  have hlocks := B.notSynchronized
  have hP : va_P (dC, dI) vwCl [(q0, .inr (1, [.ref qw, .ref qr, .long tb, .int (b2i su), .int (b2i mx)])), (qw, .inl (cL, 8192, .inr (.inl w))), (qr, .inr (0, [.ref qc, .ref qn])), (qc, .inl (cI, 8, .inl cf)), (qn, .inl (cL, 8, .inr (.inl nu)))] s.heap := hP
  have hl := lv_entry ([.ref q0]) (n := 1) (Nat.le_of_ble_eq_true rfl)
  rw [lg_entry_eq]
  generalize (lg_sl ([.ref q0]) ++ List.replicate (1 - (lg_sl ([.ref q0])).length) Slot.unset).toArray = ls at hl ⊢
  have hl : lv_has ls 1 [(0, .ref q0)] := hl
  exact W.vret hx hb hr (fun t ht hW => ⟨rfl, trivial, ht⟩) (fun _ h => nomatch h) dX1_fence_0
set_option maxHeartbeats 4000000 in
set_option maxRecDepth 100000 in
theorem mtX1_isOpenToMode (l : Launch) (dC : Nat → ClassId) (dI : Nat → Nat → Nat) (cL : ClassId) (cI : ClassId) (q0 : Nat) (qw : Nat) (qr : Nat) (qc : Nat) (qn : Nat) (w : Nat → Int64) (tb : Int64) (su : Bool) (mx : Bool) (cf : Nat → Int32) (nu : Nat → Int64) (en : Int64) (ac : Int32) (md : Int32)  : Met l yX1_isOpenToMode wsX1_isOpenToMode ({ frames := 1, cells := 0, slots := 0, locals := 23 }) (va_Pc [.ref q0, .long en, .int ac, .int md] (fun U => va_P (dC, dI) vwCl (wPW cL cI q0 qw qr qc qn w tb su mx cf nu) U.heap ∧ va_K (dC, dI) vwCl [(cL, .long), (cI, .int)] U)) (vp_Si (fun r => r = b2i (k_openMode su en ac md))) 0 0 (fun _ => False) := by
  refine Met.ofW (cc := cX1_isOpenToMode) (maxL := 5) (ret := (some .boolean)) (by decide) rfl ?_
  intro p e s m args below meth c s₁ B hml hv
  obtain ⟨rfl, hP, hK⟩ := hv
  have hx := B.exec
  have hb := B.bytes
  have hr := B.returns
  have hts := atoms_spec (ws := wsX1_isOpenToMode) B.pre
  have hown : s.vm.findClass RX1 = some m.cls := findClass_of_methodNamed B.named
  have hlocks := B.notSynchronized
  have hP : va_P (dC, dI) vwCl [(q0, .inr (1, [.ref qw, .ref qr, .long tb, .int (b2i su), .int (b2i mx)])), (qw, .inl (cL, 8192, .inr (.inl w))), (qr, .inr (0, [.ref qc, .ref qn])), (qc, .inl (cI, 8, .inl cf)), (qn, .inl (cL, 8, .inr (.inl nu)))] s.heap := hP
  have hl := lv_entry ([.ref q0, .long en, .int ac, .int md]) (n := 5) (Nat.le_of_ble_eq_true rfl)
  rw [lg_entry_eq]
  generalize (lg_sl ([.ref q0, .long en, .int ac, .int md]) ++ List.replicate (5 - (lg_sl ([.ref q0, .long en, .int ac, .int md])).length) Slot.unset).toArray = ls at hl ⊢
  have hl : lv_has ls 5 [(0, .ref q0), (1, .long en), (3, .int ac), (4, .int md)] := hl
  refine lv_iload hx hb dX1_isOpenToMode_0 (lv_at hl 3 rfl) ?_
  refine lv_if_ne (tgt := 13) hx hb dX1_isOpenToMode_2 (by decide) (fun c_1 => ?_) (fun c_1 => ?_)
  · refine lv_lload_n hx hb dX1_isOpenToMode_13 rfl (lv_at hl 1 rfl) ?_
    refine lv_ldc2 (v := 16) hx hb hown (hts (.constantLong RX1 172 16) (wa 326 (by decide +kernel) rfl)) dX1_isOpenToMode_14 ?_
    refine vp_callSi (W.runS (As := [.long en, .long 16]) (rest := []) ⟨hx, hb, hml, hown, hts⟩ (mtX1_has l en 16) (va_cwS 2 hts (gAll (mc1 (wa 305 (by decide +kernel) rfl) (mc1 (wa 306 (by decide +kernel) rfl) (mc1 (wa 15 (by decide +kernel) rfl) mc0))) (wa 307 (by decide +kernel) rfl) (by decide +kernel)) rfl rfl rfl (by decide +kernel) ⟨Nat.le_of_ble_eq_true rfl, Nat.le_of_ble_eq_true rfl⟩) preEq rfl rfl hl.1 rfl (lv_room (Nat.le_of_ble_eq_true rfl)) dX1_isOpenToMode_17 ⟨Nat.le_of_ble_eq_true rfl, Nat.le_of_ble_eq_true rfl⟩) (fun r_2 er_2 => ?_)
    have er_2 : r_2 = (b2i (k_has en 16)) := er_2
    subst er_2
    refine lv_if_eq (tgt := 34) hx hb dX1_isOpenToMode_20 (by decide) (fun c_3 => ?_) (fun c_3 => ?_)
    · rw [b2i_z] at c_3
      refine lv_iconst (v := 1) hx hb dX1_isOpenToMode_34 (by decide) ?_
      refine lv_goto (tgt := 39) hx hb dX1_isOpenToMode_35 (by decide) ?_
      exact W.zret (v := 1) hx hb hr rfl (fun t ht hW => ⟨1, rfl, (by first | rfl | (simp only [k_openMode, b2i, c_1, c_3, b2i, decide_true, decide_false, Bool.not_true, Bool.not_false, Bool.and_true, Bool.and_false, Bool.true_and, Bool.false_and, Bool.or_true, Bool.or_false, Bool.true_or, Bool.false_or, reduceIte, or_true, true_or, or_false, false_or, and_true, true_and, and_false, false_and, not_true_eq_false, not_false_eq_true, Bool.false_eq_true, eq_self]; done) | (simp [k_openMode, b2i, c_1, c_3]; done)), ht⟩) (fun _ h => nomatch h) dX1_isOpenToMode_39
    · rw [b2i_z] at c_3
      rw [Bool.not_eq_false] at c_3
      refine lv_aload_n hx hb dX1_isOpenToMode_23 rfl (lv_at hl 0 rfl) ?_
      refine va_get (D := (dC, dI)) (ci := 1) (v := .int (b2i su)) (C := RX1) (T := TX1) (N := 5) hx hb hts iwX1 hown hK hP 0 rfl rfl 3 (by decide) (hts (.fieldLink RX1 24 RX1 "sum" "Z") (wa 49 (by decide +kernel) rfl)) (fun _ h9 => h9) rfl dX1_isOpenToMode_24 ?_
      refine lv_if_eq (tgt := 38) hx hb dX1_isOpenToMode_27 (by decide) (fun c_4 => ?_) (fun c_4 => ?_)
      · rw [b2i_z] at c_4
        refine lv_iconst (v := 0) hx hb dX1_isOpenToMode_38 (by decide) ?_
        exact W.zret (v := 0) hx hb hr rfl (fun t ht hW => ⟨0, rfl, (by first | rfl | (simp only [k_openMode, b2i, c_1, c_3, c_4, b2i, decide_true, decide_false, Bool.not_true, Bool.not_false, Bool.and_true, Bool.and_false, Bool.true_and, Bool.false_and, Bool.or_true, Bool.or_false, Bool.true_or, Bool.false_or, reduceIte, or_true, true_or, or_false, false_or, and_true, true_and, and_false, false_and, not_true_eq_false, not_false_eq_true, Bool.false_eq_true, eq_self]; done) | (simp [k_openMode, b2i, c_1, c_3, c_4]; done)), ht⟩) (fun _ h => nomatch h) dX1_isOpenToMode_39
      · rw [b2i_z] at c_4
        rw [Bool.not_eq_false] at c_4
        refine lv_iload_n hx hb dX1_isOpenToMode_30 rfl (lv_at hl 2 rfl) ?_
        refine lv_if_eq (tgt := 38) hx hb dX1_isOpenToMode_31 (by decide) (fun c_5 => ?_) (fun c_5 => ?_)
        · refine lv_iconst (v := 0) hx hb dX1_isOpenToMode_38 (by decide) ?_
          exact W.zret (v := 0) hx hb hr rfl (fun t ht hW => ⟨0, rfl, (by first | rfl | (simp only [k_openMode, b2i, c_1, c_3, c_4, c_5, b2i, decide_true, decide_false, Bool.not_true, Bool.not_false, Bool.and_true, Bool.and_false, Bool.true_and, Bool.false_and, Bool.or_true, Bool.or_false, Bool.true_or, Bool.false_or, reduceIte, or_true, true_or, or_false, false_or, and_true, true_and, and_false, false_and, not_true_eq_false, not_false_eq_true, Bool.false_eq_true, eq_self]; done) | (simp [k_openMode, b2i, c_1, c_3, c_4, c_5]; done)), ht⟩) (fun _ h => nomatch h) dX1_isOpenToMode_39
        · refine lv_iconst (v := 1) hx hb dX1_isOpenToMode_34 (by decide) ?_
          refine lv_goto (tgt := 39) hx hb dX1_isOpenToMode_35 (by decide) ?_
          exact W.zret (v := 1) hx hb hr rfl (fun t ht hW => ⟨1, rfl, (by first | rfl | (simp only [k_openMode, b2i, c_1, c_3, c_4, c_5, b2i, decide_true, decide_false, Bool.not_true, Bool.not_false, Bool.and_true, Bool.and_false, Bool.true_and, Bool.false_and, Bool.or_true, Bool.or_false, Bool.true_or, Bool.false_or, reduceIte, or_true, true_or, or_false, false_or, and_true, true_and, and_false, false_and, not_true_eq_false, not_false_eq_true, Bool.false_eq_true, eq_self]; done) | (simp [k_openMode, b2i, c_1, c_3, c_4, c_5]; done)), ht⟩) (fun _ h => nomatch h) dX1_isOpenToMode_39
  · refine lv_lload_n hx hb dX1_isOpenToMode_5 rfl (lv_at hl 1 rfl) ?_
    refine lv_ldc2 (v := 16) hx hb hown (hts (.constantLong RX1 172 16) (wa 326 (by decide +kernel) rfl)) dX1_isOpenToMode_6 ?_
    refine vp_callSi (W.runS (As := [.long en, .long 16]) (rest := []) ⟨hx, hb, hml, hown, hts⟩ (mtX1_has l en 16) (va_cwS 2 hts (gAll (mc1 (wa 305 (by decide +kernel) rfl) (mc1 (wa 306 (by decide +kernel) rfl) (mc1 (wa 15 (by decide +kernel) rfl) mc0))) (wa 307 (by decide +kernel) rfl) (by decide +kernel)) rfl rfl rfl (by decide +kernel) ⟨Nat.le_of_ble_eq_true rfl, Nat.le_of_ble_eq_true rfl⟩) preEq rfl rfl hl.1 rfl (lv_room (Nat.le_of_ble_eq_true rfl)) dX1_isOpenToMode_9 ⟨Nat.le_of_ble_eq_true rfl, Nat.le_of_ble_eq_true rfl⟩) (fun r_6 er_6 => ?_)
    have er_6 : r_6 = (b2i (k_has en 16)) := er_6
    subst er_6
    exact W.zret (v := (b2i (k_has en 16))) hx hb hr (nar_b2i _) (fun t ht hW => ⟨(b2i (k_has en 16)), rfl, (by first | rfl | (simp only [k_openMode, b2i, c_1, b2i, decide_true, decide_false, Bool.not_true, Bool.not_false, Bool.and_true, Bool.and_false, Bool.true_and, Bool.false_and, Bool.or_true, Bool.or_false, Bool.true_or, Bool.false_or, reduceIte, or_true, true_or, or_false, false_or, and_true, true_and, and_false, false_and, not_true_eq_false, not_false_eq_true, Bool.false_eq_true, eq_self]; done) | (simp [k_openMode, b2i, c_1]; done)), ht⟩) (fun _ h => nomatch h) dX1_isOpenToMode_12
set_option maxHeartbeats 4000000 in
set_option maxRecDepth 100000 in
theorem mtX1_isOpenToAccess (l : Launch) (dC : Nat → ClassId) (dI : Nat → Nat → Nat) (cL : ClassId) (cI : ClassId) (q0 : Nat) (qw : Nat) (qr : Nat) (qc : Nat) (qn : Nat) (w : Nat → Int64) (tb : Int64) (su : Bool) (mx : Bool) (cf : Nat → Int32) (nu : Nat → Int64) (en : Int64) (ac : Int32)  : Met l yX1_isOpenToAccess wsX1_isOpenToAccess ({ frames := 1, cells := 0, slots := 0, locals := 23 }) (va_Pc [.ref q0, .long en, .int ac] (fun U => va_P (dC, dI) vwCl (wPW cL cI q0 qw qr qc qn w tb su mx cf nu) U.heap ∧ va_K (dC, dI) vwCl [(cL, .long), (cI, .int)] U)) (vp_Si (fun r => r = b2i (k_openAccess mx en ac))) 0 0 (fun _ => False) := by
  refine Met.ofW (cc := cX1_isOpenToAccess) (maxL := 4) (ret := (some .boolean)) (by decide) rfl ?_
  intro p e s m args below meth c s₁ B hml hv
  obtain ⟨rfl, hP, hK⟩ := hv
  have hx := B.exec
  have hb := B.bytes
  have hr := B.returns
  have hts := atoms_spec (ws := wsX1_isOpenToAccess) B.pre
  have hown : s.vm.findClass RX1 = some m.cls := findClass_of_methodNamed B.named
  have hlocks := B.notSynchronized
  have hP : va_P (dC, dI) vwCl [(q0, .inr (1, [.ref qw, .ref qr, .long tb, .int (b2i su), .int (b2i mx)])), (qw, .inl (cL, 8192, .inr (.inl w))), (qr, .inr (0, [.ref qc, .ref qn])), (qc, .inl (cI, 8, .inl cf)), (qn, .inl (cL, 8, .inr (.inl nu)))] s.heap := hP
  have hl := lv_entry ([.ref q0, .long en, .int ac]) (n := 4) (Nat.le_of_ble_eq_true rfl)
  rw [lg_entry_eq]
  generalize (lg_sl ([.ref q0, .long en, .int ac]) ++ List.replicate (4 - (lg_sl ([.ref q0, .long en, .int ac])).length) Slot.unset).toArray = ls at hl ⊢
  have hl : lv_has ls 4 [(0, .ref q0), (1, .long en), (3, .int ac)] := hl
  refine lv_iload_n hx hb dX1_isOpenToAccess_0 rfl (lv_at hl 2 rfl) ?_
  refine lv_if_ne (tgt := 12) hx hb dX1_isOpenToAccess_1 (by decide) (fun c_1 => ?_) (fun c_1 => ?_)
  · refine lv_iload_n hx hb dX1_isOpenToAccess_12 rfl (lv_at hl 2 rfl) ?_
    refine lv_iconst (v := 2) hx hb dX1_isOpenToAccess_13 (by decide) ?_
    refine lv_icmp_ne (tgt := 25) hx hb dX1_isOpenToAccess_14 (by decide) (fun c_2 => ?_) (fun c_2 => ?_)
    · refine lv_lload_n hx hb dX1_isOpenToAccess_25 rfl (lv_at hl 1 rfl) ?_
      refine lv_ldc2 (v := 2) hx hb hown (hts (.constantLong RX1 160 2) (wa 309 (by decide +kernel) rfl)) dX1_isOpenToAccess_26 ?_
      refine vp_callSi (W.runS (As := [.long en, .long 2]) (rest := []) ⟨hx, hb, hml, hown, hts⟩ (mtX1_has l en 2) (va_cwS 2 hts (gAll (mc1 (wa 305 (by decide +kernel) rfl) (mc1 (wa 306 (by decide +kernel) rfl) (mc1 (wa 15 (by decide +kernel) rfl) mc0))) (wa 307 (by decide +kernel) rfl) (by decide +kernel)) rfl rfl rfl (by decide +kernel) ⟨Nat.le_of_ble_eq_true rfl, Nat.le_of_ble_eq_true rfl⟩) preEq rfl rfl hl.1 rfl (lv_room (Nat.le_of_ble_eq_true rfl)) dX1_isOpenToAccess_29 ⟨Nat.le_of_ble_eq_true rfl, Nat.le_of_ble_eq_true rfl⟩) (fun r_3 er_3 => ?_)
      have er_3 : r_3 = (b2i (k_has en 2)) := er_3
      subst er_3
      refine lv_if_ne (tgt := 52) hx hb dX1_isOpenToAccess_32 (by decide) (fun c_4 => ?_) (fun c_4 => ?_)
      · rw [b2i_z] at c_4
        rw [Bool.not_eq_false] at c_4
        refine lv_iconst (v := 1) hx hb dX1_isOpenToAccess_52 (by decide) ?_
        refine lv_goto (tgt := 57) hx hb dX1_isOpenToAccess_53 (by decide) ?_
        exact W.zret (v := 1) hx hb hr rfl (fun t ht hW => ⟨1, rfl, (by first | rfl | (simp only [k_openAccess, b2i, c_1, c_2, c_4, b2i, decide_true, decide_false, Bool.not_true, Bool.not_false, Bool.and_true, Bool.and_false, Bool.true_and, Bool.false_and, Bool.or_true, Bool.or_false, Bool.true_or, Bool.false_or, reduceIte, or_true, true_or, or_false, false_or, and_true, true_and, and_false, false_and, not_true_eq_false, not_false_eq_true, Bool.false_eq_true, eq_self]; done) | (simp [k_openAccess, b2i, c_1, c_2, c_4]; done)), ht⟩) (fun _ h => nomatch h) dX1_isOpenToAccess_57
      · rw [b2i_z] at c_4
        refine lv_aload_n hx hb dX1_isOpenToAccess_35 rfl (lv_at hl 0 rfl) ?_
        refine va_get (D := (dC, dI)) (ci := 1) (v := .int (b2i mx)) (C := RX1) (T := TX1) (N := 5) hx hb hts iwX1 hown hK hP 0 rfl rfl 4 (by decide) (hts (.fieldLink RX1 28 RX1 "mxr" "Z") (wa 50 (by decide +kernel) rfl)) (fun _ h9 => h9) rfl dX1_isOpenToAccess_36 ?_
        refine lv_if_eq (tgt := 56) hx hb dX1_isOpenToAccess_39 (by decide) (fun c_5 => ?_) (fun c_5 => ?_)
        · rw [b2i_z] at c_5
          refine lv_iconst (v := 0) hx hb dX1_isOpenToAccess_56 (by decide) ?_
          exact W.zret (v := 0) hx hb hr rfl (fun t ht hW => ⟨0, rfl, (by first | rfl | (simp only [k_openAccess, b2i, c_1, c_2, c_4, c_5, b2i, decide_true, decide_false, Bool.not_true, Bool.not_false, Bool.and_true, Bool.and_false, Bool.true_and, Bool.false_and, Bool.or_true, Bool.or_false, Bool.true_or, Bool.false_or, reduceIte, or_true, true_or, or_false, false_or, and_true, true_and, and_false, false_and, not_true_eq_false, not_false_eq_true, Bool.false_eq_true, eq_self]; done) | (simp [k_openAccess, b2i, c_1, c_2, c_4, c_5]; done)), ht⟩) (fun _ h => nomatch h) dX1_isOpenToAccess_57
        · rw [b2i_z] at c_5
          rw [Bool.not_eq_false] at c_5
          refine lv_lload_n hx hb dX1_isOpenToAccess_42 rfl (lv_at hl 1 rfl) ?_
          refine lv_ldc2 (v := 8) hx hb hown (hts (.constantLong RX1 108 8) (wa 109 (by decide +kernel) rfl)) dX1_isOpenToAccess_43 ?_
          refine vp_callSi (W.runS (As := [.long en, .long 8]) (rest := []) ⟨hx, hb, hml, hown, hts⟩ (mtX1_has l en 8) (va_cwS 2 hts (gAll (mc1 (wa 305 (by decide +kernel) rfl) (mc1 (wa 306 (by decide +kernel) rfl) (mc1 (wa 15 (by decide +kernel) rfl) mc0))) (wa 307 (by decide +kernel) rfl) (by decide +kernel)) rfl rfl rfl (by decide +kernel) ⟨Nat.le_of_ble_eq_true rfl, Nat.le_of_ble_eq_true rfl⟩) preEq rfl rfl hl.1 rfl (lv_room (Nat.le_of_ble_eq_true rfl)) dX1_isOpenToAccess_46 ⟨Nat.le_of_ble_eq_true rfl, Nat.le_of_ble_eq_true rfl⟩) (fun r_6 er_6 => ?_)
          have er_6 : r_6 = (b2i (k_has en 8)) := er_6
          subst er_6
          refine lv_if_eq (tgt := 56) hx hb dX1_isOpenToAccess_49 (by decide) (fun c_7 => ?_) (fun c_7 => ?_)
          · rw [b2i_z] at c_7
            refine lv_iconst (v := 0) hx hb dX1_isOpenToAccess_56 (by decide) ?_
            exact W.zret (v := 0) hx hb hr rfl (fun t ht hW => ⟨0, rfl, (by first | rfl | (simp only [k_openAccess, b2i, c_1, c_2, c_4, c_5, c_7, b2i, decide_true, decide_false, Bool.not_true, Bool.not_false, Bool.and_true, Bool.and_false, Bool.true_and, Bool.false_and, Bool.or_true, Bool.or_false, Bool.true_or, Bool.false_or, reduceIte, or_true, true_or, or_false, false_or, and_true, true_and, and_false, false_and, not_true_eq_false, not_false_eq_true, Bool.false_eq_true, eq_self]; done) | (simp [k_openAccess, b2i, c_1, c_2, c_4, c_5, c_7]; done)), ht⟩) (fun _ h => nomatch h) dX1_isOpenToAccess_57
          · rw [b2i_z] at c_7
            rw [Bool.not_eq_false] at c_7
            refine lv_iconst (v := 1) hx hb dX1_isOpenToAccess_52 (by decide) ?_
            refine lv_goto (tgt := 57) hx hb dX1_isOpenToAccess_53 (by decide) ?_
            exact W.zret (v := 1) hx hb hr rfl (fun t ht hW => ⟨1, rfl, (by first | rfl | (simp only [k_openAccess, b2i, c_1, c_2, c_4, c_5, c_7, b2i, decide_true, decide_false, Bool.not_true, Bool.not_false, Bool.and_true, Bool.and_false, Bool.true_and, Bool.false_and, Bool.or_true, Bool.or_false, Bool.true_or, Bool.false_or, reduceIte, or_true, true_or, or_false, false_or, and_true, true_and, and_false, false_and, not_true_eq_false, not_false_eq_true, Bool.false_eq_true, eq_self]; done) | (simp [k_openAccess, b2i, c_1, c_2, c_4, c_5, c_7]; done)), ht⟩) (fun _ h => nomatch h) dX1_isOpenToAccess_57
    · refine lv_lload_n hx hb dX1_isOpenToAccess_17 rfl (lv_at hl 1 rfl) ?_
      refine lv_ldc2 (v := 4) hx hb hown (hts (.constantLong RX1 158 4) (wa 308 (by decide +kernel) rfl)) dX1_isOpenToAccess_18 ?_
      refine vp_callSi (W.runS (As := [.long en, .long 4]) (rest := []) ⟨hx, hb, hml, hown, hts⟩ (mtX1_has l en 4) (va_cwS 2 hts (gAll (mc1 (wa 305 (by decide +kernel) rfl) (mc1 (wa 306 (by decide +kernel) rfl) (mc1 (wa 15 (by decide +kernel) rfl) mc0))) (wa 307 (by decide +kernel) rfl) (by decide +kernel)) rfl rfl rfl (by decide +kernel) ⟨Nat.le_of_ble_eq_true rfl, Nat.le_of_ble_eq_true rfl⟩) preEq rfl rfl hl.1 rfl (lv_room (Nat.le_of_ble_eq_true rfl)) dX1_isOpenToAccess_21 ⟨Nat.le_of_ble_eq_true rfl, Nat.le_of_ble_eq_true rfl⟩) (fun r_8 er_8 => ?_)
      have er_8 : r_8 = (b2i (k_has en 4)) := er_8
      subst er_8
      exact W.zret (v := (b2i (k_has en 4))) hx hb hr (nar_b2i _) (fun t ht hW => ⟨(b2i (k_has en 4)), rfl, (by first | rfl | (simp only [k_openAccess, b2i, c_1, c_2, b2i, decide_true, decide_false, Bool.not_true, Bool.not_false, Bool.and_true, Bool.and_false, Bool.true_and, Bool.false_and, Bool.or_true, Bool.or_false, Bool.true_or, Bool.false_or, reduceIte, or_true, true_or, or_false, false_or, and_true, true_and, and_false, false_and, not_true_eq_false, not_false_eq_true, Bool.false_eq_true, eq_self]; done) | (simp [k_openAccess, b2i, c_1, c_2]; done)), ht⟩) (fun _ h => nomatch h) dX1_isOpenToAccess_24
  · refine lv_lload_n hx hb dX1_isOpenToAccess_4 rfl (lv_at hl 1 rfl) ?_
    refine lv_ldc2 (v := 8) hx hb hown (hts (.constantLong RX1 108 8) (wa 109 (by decide +kernel) rfl)) dX1_isOpenToAccess_5 ?_
    refine vp_callSi (W.runS (As := [.long en, .long 8]) (rest := []) ⟨hx, hb, hml, hown, hts⟩ (mtX1_has l en 8) (va_cwS 2 hts (gAll (mc1 (wa 305 (by decide +kernel) rfl) (mc1 (wa 306 (by decide +kernel) rfl) (mc1 (wa 15 (by decide +kernel) rfl) mc0))) (wa 307 (by decide +kernel) rfl) (by decide +kernel)) rfl rfl rfl (by decide +kernel) ⟨Nat.le_of_ble_eq_true rfl, Nat.le_of_ble_eq_true rfl⟩) preEq rfl rfl hl.1 rfl (lv_room (Nat.le_of_ble_eq_true rfl)) dX1_isOpenToAccess_8 ⟨Nat.le_of_ble_eq_true rfl, Nat.le_of_ble_eq_true rfl⟩) (fun r_9 er_9 => ?_)
    have er_9 : r_9 = (b2i (k_has en 8)) := er_9
    subst er_9
    exact W.zret (v := (b2i (k_has en 8))) hx hb hr (nar_b2i _) (fun t ht hW => ⟨(b2i (k_has en 8)), rfl, (by first | rfl | (simp only [k_openAccess, b2i, c_1, b2i, decide_true, decide_false, Bool.not_true, Bool.not_false, Bool.and_true, Bool.and_false, Bool.true_and, Bool.false_and, Bool.or_true, Bool.or_false, Bool.true_or, Bool.false_or, reduceIte, or_true, true_or, or_false, false_or, and_true, true_and, and_false, false_and, not_true_eq_false, not_false_eq_true, Bool.false_eq_true, eq_self]; done) | (simp [k_openAccess, b2i, c_1]; done)), ht⟩) (fun _ h => nomatch h) dX1_isOpenToAccess_11
set_option maxHeartbeats 4000000 in
set_option maxRecDepth 100000 in
theorem mtX1_grants (l : Launch) (dC : Nat → ClassId) (dI : Nat → Nat → Nat) (cL : ClassId) (cI : ClassId) (q0 : Nat) (qw : Nat) (qr : Nat) (qc : Nat) (qn : Nat) (w : Nat → Int64) (tb : Int64) (su : Bool) (mx : Bool) (cf : Nat → Int32) (nu : Nat → Int64) (en : Int64) (ac : Int32) (md : Int32) (d : Int32)  : Met l yX1_grants wsX1_grants ({ frames := 2, cells := 0, slots := 0, locals := 47 }) (va_Pc [.ref q0, .long en, .int ac, .int md, .int d] (fun U => va_P (dC, dI) vwCl (wPW cL cI q0 qw qr qc qn w tb su mx cf nu) U.heap ∧ va_K (dC, dI) vwCl [(cL, .long), (cI, .int)] U)) (vp_Si (fun r => r = b2i (k_grants su mx en ac md d))) 0 0 (fun _ => False) := by
  refine Met.ofW (cc := cX1_grants) (maxL := 8) (ret := (some .boolean)) (by decide) rfl ?_
  intro p e s m args below meth c s₁ B hml hv
  obtain ⟨rfl, hP, hK⟩ := hv
  have hx := B.exec
  have hb := B.bytes
  have hr := B.returns
  have hts := atoms_spec (ws := wsX1_grants) B.pre
  have hown : s.vm.findClass RX1 = some m.cls := findClass_of_methodNamed B.named
  have hlocks := B.notSynchronized
  have hP : va_P (dC, dI) vwCl [(q0, .inr (1, [.ref qw, .ref qr, .long tb, .int (b2i su), .int (b2i mx)])), (qw, .inl (cL, 8192, .inr (.inl w))), (qr, .inr (0, [.ref qc, .ref qn])), (qc, .inl (cI, 8, .inl cf)), (qn, .inl (cL, 8, .inr (.inl nu)))] s.heap := hP
  have hl := lv_entry ([.ref q0, .long en, .int ac, .int md, .int d]) (n := 8) (Nat.le_of_ble_eq_true rfl)
  rw [lg_entry_eq]
  generalize (lg_sl ([.ref q0, .long en, .int ac, .int md, .int d]) ++ List.replicate (8 - (lg_sl ([.ref q0, .long en, .int ac, .int md, .int d])).length) Slot.unset).toArray = ls at hl ⊢
  have hl : lv_has ls 8 [(0, .ref q0), (1, .long en), (3, .int ac), (4, .int md), (5, .int d)] := hl
  refine lv_lconst (v := 1) hx hb dX1_grants_0 (by decide) ?_
  refine lv_bipush (v := 9) hx hb dX1_grants_1 (by decide) ?_
  refine lv_iload hx hb dX1_grants_3 (lv_at hl 4 rfl) ?_
  refine lv_imul hx hb dX1_grants_5 ?_
  refine lv_lshl (v := (k_shl 1 (9 * d))) hx hb dX1_grants_6 rfl ?_
  refine lv_lconst (v := 1) hx hb dX1_grants_7 (by decide) ?_
  refine lv_lsub hx hb dX1_grants_8 ?_
  refine lv_lstore (lv' := [(6, .long ((k_shl 1 (9 * d)) - 1)), (0, .ref q0), (1, .long en), (3, .int ac), (4, .int md), (5, .int d)]) hx hb dX1_grants_9 hl (by decide) rfl (fun ls hl => ?_)
  refine lv_lload_n hx hb dX1_grants_11 rfl (lv_at hl 2 rfl) ?_
  refine vp_callSl (W.runS (As := [.long en]) (rest := []) ⟨hx, hb, hml, hown, hts⟩ (mtX1_pageNumber l en) (va_cwS 1 hts (gAll (mc1 (wa 319 (by decide +kernel) rfl) (mc1 (wa 320 (by decide +kernel) rfl) (mc1 (wa 15 (by decide +kernel) rfl) mc0))) (wa 321 (by decide +kernel) rfl) (by decide +kernel)) rfl rfl rfl (by decide +kernel) ⟨Nat.le_of_ble_eq_true rfl, Nat.le_of_ble_eq_true rfl⟩) preEq rfl rfl hl.1 rfl (lv_room (Nat.le_of_ble_eq_true rfl)) dX1_grants_12 ⟨Nat.le_of_ble_eq_true rfl, Nat.le_of_ble_eq_true rfl⟩) (fun r_1 er_1 => ?_)
  have er_1 : r_1 = (k_pageNumber en) := er_1
  subst er_1
  refine lv_lload hx hb dX1_grants_15 (lv_at hl 0 rfl) ?_
  refine lv_land hx hb dX1_grants_17 ?_
  refine lv_lconst (v := 0) hx hb dX1_grants_18 (by decide) ?_
  refine W.lcmp hx hb dX1_grants_19 ?_
  refine lv_if_ne (tgt := 47) hx hb dX1_grants_20 (by decide) (fun c_2 => ?_) (fun c_2 => ?_)
  · rw [lg_cmp_eq] at c_2
    refine lv_iconst (v := 0) hx hb dX1_grants_47 (by decide) ?_
    exact W.zret (v := 0) hx hb hr rfl (fun t ht hW => ⟨0, rfl, (by first | rfl | (simp only [k_grants, b2i, c_2, b2i, decide_true, decide_false, Bool.not_true, Bool.not_false, Bool.and_true, Bool.and_false, Bool.true_and, Bool.false_and, Bool.or_true, Bool.or_false, Bool.true_or, Bool.false_or, reduceIte, or_true, true_or, or_false, false_or, and_true, true_and, and_false, false_and, not_true_eq_false, not_false_eq_true, Bool.false_eq_true, eq_self]; done) | (simp [k_grants, b2i, c_2]; done)), ht⟩) (fun _ h => nomatch h) dX1_grants_48
  · rw [lg_cmp_eq] at c_2
    refine lv_aload_n hx hb dX1_grants_23 rfl (lv_at hl 1 rfl) ?_
    refine lv_lload_n hx hb dX1_grants_24 rfl (lv_at hl 2 rfl) ?_
    refine lv_iload_n hx hb dX1_grants_25 rfl (lv_at hl 3 rfl) ?_
    refine lv_iload hx hb dX1_grants_26 (lv_at hl 4 rfl) ?_
    refine vp_callSi (W.runV (As := [.long en, .int ac, .int md]) (rest := []) ⟨hx, hb, hml, hown, hts⟩ (mtX1_isOpenToMode l dC dI cL cI q0 qw qr qc qn w tb su mx cf nu en ac md ) (cwV 3 hts (gAll (mc1 (wa 322 (by decide +kernel) rfl) (mc1 (wa 324 (by decide +kernel) rfl) (mc1 (wa 4 (by decide +kernel) rfl) (mc1 (wa 15 (by decide +kernel) rfl) mc0)))) (wa 325 (by decide +kernel) rfl) (by decide +kernel)) rfl rfl rfl (by decide +kernel) ⟨Nat.le_of_ble_eq_true rfl, Nat.le_of_ble_eq_true rfl⟩) (rd_pre (ci := 1) (q0 := 0) hK hP rfl rfl) rfl rfl hl.1 rfl (lv_room (Nat.le_of_ble_eq_true rfl)) dX1_grants_28 ⟨Nat.le_of_ble_eq_true rfl, Nat.le_of_ble_eq_true rfl⟩) (fun r_3 er_3 => ?_)
    have er_3 : r_3 = (b2i (k_openMode su en ac md)) := er_3
    subst er_3
    refine lv_if_eq (tgt := 47) hx hb dX1_grants_31 (by decide) (fun c_4 => ?_) (fun c_4 => ?_)
    · rw [b2i_z] at c_4
      refine lv_iconst (v := 0) hx hb dX1_grants_47 (by decide) ?_
      exact W.zret (v := 0) hx hb hr rfl (fun t ht hW => ⟨0, rfl, (by first | rfl | (simp only [k_grants, b2i, c_2, c_4, b2i, decide_true, decide_false, Bool.not_true, Bool.not_false, Bool.and_true, Bool.and_false, Bool.true_and, Bool.false_and, Bool.or_true, Bool.or_false, Bool.true_or, Bool.false_or, reduceIte, or_true, true_or, or_false, false_or, and_true, true_and, and_false, false_and, not_true_eq_false, not_false_eq_true, Bool.false_eq_true, eq_self]; done) | (simp [k_grants, b2i, c_2, c_4]; done)), ht⟩) (fun _ h => nomatch h) dX1_grants_48
    · rw [b2i_z] at c_4
      rw [Bool.not_eq_false] at c_4
      refine lv_aload_n hx hb dX1_grants_34 rfl (lv_at hl 1 rfl) ?_
      refine lv_lload_n hx hb dX1_grants_35 rfl (lv_at hl 2 rfl) ?_
      refine lv_iload_n hx hb dX1_grants_36 rfl (lv_at hl 3 rfl) ?_
      refine vp_callSi (W.runV (As := [.long en, .int ac]) (rest := []) ⟨hx, hb, hml, hown, hts⟩ (mtX1_isOpenToAccess l dC dI cL cI q0 qw qr qc qn w tb su mx cf nu en ac ) (cwV 2 hts (gAll (mc1 (wa 327 (by decide +kernel) rfl) (mc1 (wa 329 (by decide +kernel) rfl) (mc1 (wa 5 (by decide +kernel) rfl) (mc1 (wa 15 (by decide +kernel) rfl) mc0)))) (wa 330 (by decide +kernel) rfl) (by decide +kernel)) rfl rfl rfl (by decide +kernel) ⟨Nat.le_of_ble_eq_true rfl, Nat.le_of_ble_eq_true rfl⟩) (rd_pre (ci := 1) (q0 := 0) hK hP rfl rfl) rfl rfl hl.1 rfl (lv_room (Nat.le_of_ble_eq_true rfl)) dX1_grants_37 ⟨Nat.le_of_ble_eq_true rfl, Nat.le_of_ble_eq_true rfl⟩) (fun r_5 er_5 => ?_)
      have er_5 : r_5 = (b2i (k_openAccess mx en ac)) := er_5
      subst er_5
      refine lv_if_eq (tgt := 47) hx hb dX1_grants_40 (by decide) (fun c_6 => ?_) (fun c_6 => ?_)
      · rw [b2i_z] at c_6
        refine lv_iconst (v := 0) hx hb dX1_grants_47 (by decide) ?_
        exact W.zret (v := 0) hx hb hr rfl (fun t ht hW => ⟨0, rfl, (by first | rfl | (simp only [k_grants, b2i, c_2, c_4, c_6, b2i, decide_true, decide_false, Bool.not_true, Bool.not_false, Bool.and_true, Bool.and_false, Bool.true_and, Bool.false_and, Bool.or_true, Bool.or_false, Bool.true_or, Bool.false_or, reduceIte, or_true, true_or, or_false, false_or, and_true, true_and, and_false, false_and, not_true_eq_false, not_false_eq_true, Bool.false_eq_true, eq_self]; done) | (simp [k_grants, b2i, c_2, c_4, c_6]; done)), ht⟩) (fun _ h => nomatch h) dX1_grants_48
      · rw [b2i_z] at c_6
        rw [Bool.not_eq_false] at c_6
        refine lv_iconst (v := 1) hx hb dX1_grants_43 (by decide) ?_
        refine lv_goto (tgt := 48) hx hb dX1_grants_44 (by decide) ?_
        exact W.zret (v := 1) hx hb hr rfl (fun t ht hW => ⟨1, rfl, (by first | rfl | (simp only [k_grants, b2i, c_2, c_4, c_6, b2i, decide_true, decide_false, Bool.not_true, Bool.not_false, Bool.and_true, Bool.and_false, Bool.true_and, Bool.false_and, Bool.or_true, Bool.or_false, Bool.true_or, Bool.false_or, reduceIte, or_true, true_or, or_false, false_or, and_true, true_and, and_false, false_and, not_true_eq_false, not_false_eq_true, Bool.false_eq_true, eq_self]; done) | (simp [k_grants, b2i, c_2, c_4, c_6]; done)), ht⟩) (fun _ h => nomatch h) dX1_grants_48
set_option maxHeartbeats 4000000 in
set_option maxRecDepth 100000 in
theorem mtX1_number (l : Launch) (dC : Nat → ClassId) (dI : Nat → Nat → Nat) (cL : ClassId) (cI : ClassId) (q0 : Nat) (qw : Nat) (qr : Nat) (qc : Nat) (qn : Nat) (w : Nat → Int64) (tb : Int64) (su : Bool) (mx : Bool) (cf : Nat → Int32) (nu : Nat → Int64) (i : Int32) (hi0 : ¬ i < 0) (hi8 : i < 8) : Met l yX1_number wsX1_number ({ frames := 1, cells := 0, slots := 0, locals := 21 }) (va_Pc [.ref q0, .int i] (fun U => va_P (dC, dI) vwCl (wPW cL cI q0 qw qr qc qn w tb su mx cf nu) U.heap ∧ va_K (dC, dI) vwCl [(cL, .long), (cI, .int)] U)) (vp_Sl (fun r => r = nu (Int32.toNatClampNeg i))) 0 0 (fun _ => False) := by
  refine Met.ofW (cc := cX1_number) (maxL := 2) (ret := (some .long)) (by decide) rfl ?_
  intro p e s m args below meth c s₁ B hml hv
  obtain ⟨rfl, hP, hK⟩ := hv
  have hx := B.exec
  have hb := B.bytes
  have hr := B.returns
  have hts := atoms_spec (ws := wsX1_number) B.pre
  have hown : s.vm.findClass RX1 = some m.cls := findClass_of_methodNamed B.named
  have hlocks := B.notSynchronized
  have hP : va_P (dC, dI) vwCl [(q0, .inr (1, [.ref qw, .ref qr, .long tb, .int (b2i su), .int (b2i mx)])), (qw, .inl (cL, 8192, .inr (.inl w))), (qr, .inr (0, [.ref qc, .ref qn])), (qc, .inl (cI, 8, .inl cf)), (qn, .inl (cL, 8, .inr (.inl nu)))] s.heap := hP
  have hl := lv_entry ([.ref q0, .int i]) (n := 2) (Nat.le_of_ble_eq_true rfl)
  rw [lg_entry_eq]
  generalize (lg_sl ([.ref q0, .int i]) ++ List.replicate (2 - (lg_sl ([.ref q0, .int i])).length) Slot.unset).toArray = ls at hl ⊢
  have hl : lv_has ls 2 [(0, .ref q0), (1, .int i)] := hl
  refine lv_aload_n hx hb dX1_number_0 rfl (lv_at hl 0 rfl) ?_
  refine va_get (D := (dC, dI)) (ci := 1) (v := .ref qr) (C := RX1) (T := TX1) (N := 5) hx hb hts iwX1 hown hK hP 0 rfl rfl 1 (by decide) (hts (.fieldLink RX1 16 RX1 "regions" "LPageWalker$Regions;") (wa 47 (by decide +kernel) rfl)) (fun _ h9 => h9) rfl dX1_number_1 ?_
  refine lv_iload_n hx hb dX1_number_4 rfl (lv_at hl 1 rfl) ?_
  refine vp_callSl (W.runV (As := [.int i]) (rest := []) ⟨hx, hb, hml, hown, hts⟩ (mtX0_numberOf l dC dI cL cI qr qc qn cf nu i (hi0) (hi8)) (cwV 1 hts (gAll (mc1 (wa 218 (by decide +kernel) rfl) (mc1 (wa 219 (by decide +kernel) rfl) (mc1 (wa 220 (by decide +kernel) rfl) (mc1 (wa 16 (by decide +kernel) rfl) mc0)))) (wa 221 (by decide +kernel) rfl) (by decide +kernel)) rfl rfl rfl (by decide +kernel) ⟨Nat.le_of_ble_eq_true rfl, Nat.le_of_ble_eq_true rfl⟩) (rd_pre (ci := 0) (q0 := 0) hK (hP.sub (ws' := (wRG cL cI qr qc qn cf nu)) [2, 3, 4] rfl) rfl rfl) rfl rfl hl.1 rfl (lv_room (Nat.le_of_ble_eq_true rfl)) dX1_number_5 ⟨Nat.le_of_ble_eq_true rfl, Nat.le_of_ble_eq_true rfl⟩) (fun r_1 er_1 => ?_)
  have er_1 : r_1 = (nu (Int32.toNatClampNeg i)) := er_1
  subst er_1
  exact W.lret (v := (nu (Int32.toNatClampNeg i))) hx hb hr (fun t ht hW => ⟨(nu (Int32.toNatClampNeg i)), rfl, (by first | rfl | (simp only [b2i, decide_true, decide_false, Bool.not_true, Bool.not_false, Bool.and_true, Bool.and_false, Bool.true_and, Bool.false_and, Bool.or_true, Bool.or_false, Bool.true_or, Bool.false_or, reduceIte, or_true, true_or, or_false, false_or, and_true, true_and, and_false, false_and, not_true_eq_false, not_false_eq_true, Bool.false_eq_true, eq_self]; done) | (simp []; done)), ht⟩) (fun _ h => nomatch h) dX1_number_8
set_option maxHeartbeats 4000000 in
set_option maxRecDepth 100000 in
theorem mtX1_word (l : Launch) (dC : Nat → ClassId) (dI : Nat → Nat → Nat) (cL : ClassId) (cI : ClassId) (q0 : Nat) (qw : Nat) (qr : Nat) (qc : Nat) (qn : Nat) (w : Nat → Int64) (tb : Int64) (su : Bool) (mx : Bool) (cf : Nat → Int32) (nu : Nat → Int64) (ad : Int64) (hi : ¬ k_wordIndex ad = -1) : Met l yX1_word wsX1_word ({ frames := 1, cells := 0, slots := 0, locals := 23 }) (va_Pc [.ref q0, .long ad] (fun U => va_P (dC, dI) vwCl (wPW cL cI q0 qw qr qc qn w tb su mx cf nu) U.heap ∧ va_K (dC, dI) vwCl [(cL, .long), (cI, .int)] U)) (vp_Sl (fun r => r = k_at w ad)) 0 0 (fun _ => False) := by
  refine Met.ofW (cc := cX1_word) (maxL := 4) (ret := (some .long)) (by decide) rfl ?_
  intro p e s m args below meth c s₁ B hml hv
  obtain ⟨rfl, hP, hK⟩ := hv
  have hx := B.exec
  have hb := B.bytes
  have hr := B.returns
  have hts := atoms_spec (ws := wsX1_word) B.pre
  have hown : s.vm.findClass RX1 = some m.cls := findClass_of_methodNamed B.named
  have hlocks := B.notSynchronized
  have hP : va_P (dC, dI) vwCl [(q0, .inr (1, [.ref qw, .ref qr, .long tb, .int (b2i su), .int (b2i mx)])), (qw, .inl (cL, 8192, .inr (.inl w))), (qr, .inr (0, [.ref qc, .ref qn])), (qc, .inl (cI, 8, .inl cf)), (qn, .inl (cL, 8, .inr (.inl nu)))] s.heap := hP
  have hl := lv_entry ([.ref q0, .long ad]) (n := 4) (Nat.le_of_ble_eq_true rfl)
  rw [lg_entry_eq]
  generalize (lg_sl ([.ref q0, .long ad]) ++ List.replicate (4 - (lg_sl ([.ref q0, .long ad])).length) Slot.unset).toArray = ls at hl ⊢
  have hl : lv_has ls 4 [(0, .ref q0), (1, .long ad)] := hl
  refine lv_lload_n hx hb dX1_word_0 rfl (lv_at hl 1 rfl) ?_
  refine vp_callSi (W.runS (As := [.long ad]) (rest := []) ⟨hx, hb, hml, hown, hts⟩ (mtX1_wordIndex l ad) (va_cwS 1 hts (gAll (mc1 (wa 104 (by decide +kernel) rfl) (mc1 (wa 105 (by decide +kernel) rfl) (mc1 (wa 15 (by decide +kernel) rfl) mc0))) (wa 106 (by decide +kernel) rfl) (by decide +kernel)) rfl rfl rfl (by decide +kernel) ⟨Nat.le_of_ble_eq_true rfl, Nat.le_of_ble_eq_true rfl⟩) preEq rfl rfl hl.1 rfl (lv_room (Nat.le_of_ble_eq_true rfl)) dX1_word_1 ⟨Nat.le_of_ble_eq_true rfl, Nat.le_of_ble_eq_true rfl⟩) (fun r_1 er_1 => ?_)
  have er_1 : r_1 = (k_wordIndex ad) := er_1
  subst er_1
  refine lv_istore_n (lv' := [(3, .int (k_wordIndex ad)), (0, .ref q0), (1, .long ad)]) hx hb dX1_word_4 rfl hl (by decide) rfl (fun ls hl => ?_)
  refine lv_iload_n hx hb dX1_word_5 rfl (lv_at hl 0 rfl) ?_
  refine lv_iconst (v := (-1)) hx hb dX1_word_6 (by decide) ?_
  refine lv_icmp_ne (tgt := 20) hx hb dX1_word_7 (by decide) (fun c_2 => ?_) (fun c_2 => ?_)
  · refine lv_aload_n hx hb dX1_word_20 rfl (lv_at hl 1 rfl) ?_
    refine va_get (D := (dC, dI)) (ci := 1) (v := .ref qw) (C := RX1) (T := TX1) (N := 5) hx hb hts iwX1 hown hK hP 0 rfl rfl 0 (by decide) (hts (.fieldLink RX1 9 RX1 "words" "[J") (wa 46 (by decide +kernel) rfl)) (fun _ h9 => h9) rfl dX1_word_21 ?_
    refine lv_iload_n hx hb dX1_word_24 rfl (lv_at hl 0 rfl) ?_
    refine va_lald hx hb hK hP 1 0 rfl rfl (wi_in hi) dX1_word_25 ?_
    exact W.lret (v := (w (Int32.toNatClampNeg (k_wordIndex ad)))) hx hb hr (fun t ht hW => ⟨(w (Int32.toNatClampNeg (k_wordIndex ad))), rfl, (by first | rfl | (simp only [k_at, c_2, b2i, decide_true, decide_false, Bool.not_true, Bool.not_false, Bool.and_true, Bool.and_false, Bool.true_and, Bool.false_and, Bool.or_true, Bool.or_false, Bool.true_or, Bool.false_or, reduceIte, or_true, true_or, or_false, false_or, and_true, true_and, and_false, false_and, not_true_eq_false, not_false_eq_true, Bool.false_eq_true, eq_self]; done) | (simp [k_at, c_2]; done)), ht⟩) (fun _ h => nomatch h) dX1_word_26
  · first | exact absurd c_2 hi | exact absurd hi c_2
set_option maxHeartbeats 4000000 in
set_option maxRecDepth 100000 in
theorem mtX1_allows (l : Launch) (dC : Nat → ClassId) (dI : Nat → Nat → Nat) (cL : ClassId) (cI : ClassId) (q0 : Nat) (qw : Nat) (qr : Nat) (qc : Nat) (qn : Nat) (w : Nat → Int64) (tb : Int64) (su : Bool) (mx : Bool) (cf : Nat → Int32) (nu : Nat → Int64) (ad : Int64) (ac : Int32) (md : Int32) (sz : Int32) (hi : k_isAccess ad ac md sz = true) (hj : k_isPhysical ad = true) : Met l yX1_allows wsX1_allows ({ frames := 3, cells := 0, slots := 0, locals := 81 }) (va_Pc [.ref q0, .long ad, .int ac, .int md, .int sz] (fun U => va_P (dC, dI) vwCl (wPW cL cI q0 qw qr qc qn w tb su mx cf nu) U.heap ∧ va_K (dC, dI) vwCl [(cL, .long), (cI, .int)] U)) (vp_Si (fun r => r = b2i (k_let cf nu ad ac md sz))) 0 0 (fun _ => False) := by
  refine Met.ofW (cc := cX1_allows) (maxL := 6) (ret := (some .boolean)) (by decide) rfl ?_
  intro p e s m args below meth c s₁ B hml hv
  obtain ⟨rfl, hP, hK⟩ := hv
  have hx := B.exec
  have hb := B.bytes
  have hr := B.returns
  have hts := atoms_spec (ws := wsX1_allows) B.pre
  have hown : s.vm.findClass RX1 = some m.cls := findClass_of_methodNamed B.named
  have hlocks := B.notSynchronized
  have hP : va_P (dC, dI) vwCl [(q0, .inr (1, [.ref qw, .ref qr, .long tb, .int (b2i su), .int (b2i mx)])), (qw, .inl (cL, 8192, .inr (.inl w))), (qr, .inr (0, [.ref qc, .ref qn])), (qc, .inl (cI, 8, .inl cf)), (qn, .inl (cL, 8, .inr (.inl nu)))] s.heap := hP
  have hl := lv_entry ([.ref q0, .long ad, .int ac, .int md, .int sz]) (n := 6) (Nat.le_of_ble_eq_true rfl)
  rw [lg_entry_eq]
  generalize (lg_sl ([.ref q0, .long ad, .int ac, .int md, .int sz]) ++ List.replicate (6 - (lg_sl ([.ref q0, .long ad, .int ac, .int md, .int sz])).length) Slot.unset).toArray = ls at hl ⊢
  have hl : lv_has ls 6 [(0, .ref q0), (1, .long ad), (3, .int ac), (4, .int md), (5, .int sz)] := hl
  refine lv_lload_n hx hb dX1_allows_0 rfl (lv_at hl 1 rfl) ?_
  refine lv_iload_n hx hb dX1_allows_1 rfl (lv_at hl 2 rfl) ?_
  refine lv_iload hx hb dX1_allows_2 (lv_at hl 3 rfl) ?_
  refine lv_iload hx hb dX1_allows_4 (lv_at hl 4 rfl) ?_
  refine vp_callSi (W.runS (As := [.long ad, .int ac, .int md, .int sz]) (rest := []) ⟨hx, hb, hml, hown, hts⟩ (mtX1_isAccess l ad ac md sz) (va_cwS 4 hts (gAll (mc1 (wa 250 (by decide +kernel) rfl) (mc1 (wa 251 (by decide +kernel) rfl) (mc1 (wa 15 (by decide +kernel) rfl) mc0))) (wa 252 (by decide +kernel) rfl) (by decide +kernel)) rfl rfl rfl (by decide +kernel) ⟨Nat.le_of_ble_eq_true rfl, Nat.le_of_ble_eq_true rfl⟩) preEq rfl rfl hl.1 rfl (lv_room (Nat.le_of_ble_eq_true rfl)) dX1_allows_6 ⟨Nat.le_of_ble_eq_true rfl, Nat.le_of_ble_eq_true rfl⟩) (fun r_1 er_1 => ?_)
  have er_1 : r_1 = (b2i (k_isAccess ad ac md sz)) := er_1
  subst er_1
  refine lv_if_eq (tgt := 19) hx hb dX1_allows_9 (by decide) (fun c_2 => ?_) (fun c_2 => ?_)
  · rw [b2i_z] at c_2
    first | exact absurd (c_2.symm.trans hi) (by decide) | exact absurd (c_2.symm.trans hj) (by decide)
  · rw [b2i_z] at c_2
    rw [Bool.not_eq_false] at c_2
    refine lv_lload_n hx hb dX1_allows_12 rfl (lv_at hl 1 rfl) ?_
    refine vp_callSi (W.runS (As := [.long ad]) (rest := []) ⟨hx, hb, hml, hown, hts⟩ (mtX1_isPhysical l ad) (va_cwS 1 hts (gAll (mc1 (wa 260 (by decide +kernel) rfl) (mc1 (wa 261 (by decide +kernel) rfl) (mc1 (wa 15 (by decide +kernel) rfl) mc0))) (wa 262 (by decide +kernel) rfl) (by decide +kernel)) rfl rfl rfl (by decide +kernel) ⟨Nat.le_of_ble_eq_true rfl, Nat.le_of_ble_eq_true rfl⟩) preEq rfl rfl hl.1 rfl (lv_room (Nat.le_of_ble_eq_true rfl)) dX1_allows_13 ⟨Nat.le_of_ble_eq_true rfl, Nat.le_of_ble_eq_true rfl⟩) (fun r_3 er_3 => ?_)
    have er_3 : r_3 = (b2i (k_isPhysical ad)) := er_3
    subst er_3
    refine lv_if_ne (tgt := 29) hx hb dX1_allows_16 (by decide) (fun c_4 => ?_) (fun c_4 => ?_)
    · rw [b2i_z] at c_4
      rw [Bool.not_eq_false] at c_4
      refine lv_aload_n hx hb dX1_allows_29 rfl (lv_at hl 0 rfl) ?_
      refine va_get (D := (dC, dI)) (ci := 1) (v := .ref qr) (C := RX1) (T := TX1) (N := 5) hx hb hts iwX1 hown hK hP 0 rfl rfl 1 (by decide) (hts (.fieldLink RX1 16 RX1 "regions" "LPageWalker$Regions;") (wa 47 (by decide +kernel) rfl)) (fun _ h9 => h9) rfl dX1_allows_30 ?_
      refine lv_lload_n hx hb dX1_allows_33 rfl (lv_at hl 1 rfl) ?_
      refine lv_iload_n hx hb dX1_allows_34 rfl (lv_at hl 2 rfl) ?_
      refine lv_iload hx hb dX1_allows_35 (lv_at hl 3 rfl) ?_
      refine lv_iload hx hb dX1_allows_37 (lv_at hl 4 rfl) ?_
      refine vp_callSi (W.runV (As := [.long ad, .int ac, .int md, .int sz]) (rest := []) ⟨hx, hb, hml, hown, hts⟩ (mtX0_letThrough l dC dI cL cI qr qc qn cf nu ad ac md sz ) (cwV 4 hts (gAll (mc1 (wa 287 (by decide +kernel) rfl) (mc1 (wa 288 (by decide +kernel) rfl) (mc1 (wa 289 (by decide +kernel) rfl) (mc1 (wa 16 (by decide +kernel) rfl) mc0)))) (wa 290 (by decide +kernel) rfl) (by decide +kernel)) rfl rfl rfl (by decide +kernel) ⟨Nat.le_of_ble_eq_true rfl, Nat.le_of_ble_eq_true rfl⟩) (rd_pre (ci := 0) (q0 := 0) hK (hP.sub (ws' := (wRG cL cI qr qc qn cf nu)) [2, 3, 4] rfl) rfl rfl) rfl rfl hl.1 rfl (lv_room (Nat.le_of_ble_eq_true rfl)) dX1_allows_39 ⟨Nat.le_of_ble_eq_true rfl, Nat.le_of_ble_eq_true rfl⟩) (fun r_5 er_5 => ?_)
      have er_5 : r_5 = (b2i (k_let cf nu ad ac md sz)) := er_5
      subst er_5
      exact W.zret (v := (b2i (k_let cf nu ad ac md sz))) hx hb hr (nar_b2i _) (fun t ht hW => ⟨(b2i (k_let cf nu ad ac md sz)), rfl, (by first | rfl | (simp only [c_2, c_4, b2i, decide_true, decide_false, Bool.not_true, Bool.not_false, Bool.and_true, Bool.and_false, Bool.true_and, Bool.false_and, Bool.or_true, Bool.or_false, Bool.true_or, Bool.false_or, reduceIte, or_true, true_or, or_false, false_or, and_true, true_and, and_false, false_and, not_true_eq_false, not_false_eq_true, Bool.false_eq_true, eq_self]; done) | (simp [c_2, c_4]; done)), ht⟩) (fun _ h => nomatch h) dX1_allows_42
    · rw [b2i_z] at c_4
      first | exact absurd (c_2.symm.trans hi) (by decide) | exact absurd (c_2.symm.trans hj) (by decide) | exact absurd (c_4.symm.trans hi) (by decide) | exact absurd (c_4.symm.trans hj) (by decide)
set_option maxHeartbeats 4000000 in
set_option maxRecDepth 100000 in
theorem mtX1_put (l : Launch) (dC : Nat → ClassId) (dI : Nat → Nat → Nat) (cL : ClassId) (cI : ClassId) (q0 : Nat) (qw : Nat) (qr : Nat) (qc : Nat) (qn : Nat) (w : Nat → Int64) (tb : Int64) (su : Bool) (mx : Bool) (cf : Nat → Int32) (nu : Nat → Int64) (hz : Nat) (ad : Int64) (v : Int64) (hi : ¬ k_wordIndex ad = -1) : Met l yX1_put wsX1_put ({ frames := 1, cells := 0, slots := 0, locals := 23 }) (va_Pc [.ref q0, .long ad, .long v] (fun U => U.heap.size = hz ∧ va_P (dC, dI) vwCl (wPW cL cI q0 qw qr qc qn w tb su mx cf nu) U.heap ∧ va_K (dC, dI) vwCl [(cL, .long), (cI, .int)] U ∧ va_D (fun _ => True) (wPW cL cI q0 qw qr qc qn w tb su mx cf nu))) (va_Qv (fun _ : Unit => True) (fun _ t => va_P (dC, dI) vwCl (wPW cL cI q0 qw qr qc qn (vp_updL w (Int32.toNatClampNeg (k_wordIndex ad)) v) tb su mx cf nu) t.heap ∧ va_K (dC, dI) vwCl [(cL, .long), (cI, .int)] t ∧ va_D (va_A (wPW cL cI q0 qw qr qc qn w tb su mx cf nu) hz) (wPW cL cI q0 qw qr qc qn (vp_updL w (Int32.toNatClampNeg (k_wordIndex ad)) v) tb su mx cf nu)) (va_A (wPW cL cI q0 qw qr qc qn w tb su mx cf nu) hz)) 0 0 (va_A (wPW cL cI q0 qw qr qc qn w tb su mx cf nu) hz) := by
  refine Met.ofW (cc := cX1_put) (maxL := 6) (ret := none) (by decide) rfl ?_
  intro p e s m args below meth c s₁ B hml hv
  obtain ⟨rfl, hsz, hP, hK, hD0⟩ := hv
  have hx := B.exec
  have hb := B.bytes
  have hr := B.returns
  have hts := atoms_spec (ws := wsX1_put) B.pre
  have hown : s.vm.findClass RX1 = some m.cls := findClass_of_methodNamed B.named
  have hlocks := B.notSynchronized
  subst hsz
  have hD := hD0.self (sz := s.heap.size)
  generalize hAe : va_A (wPW cL cI q0 qw qr qc qn w tb su mx cf nu) s.heap.size = A at hD ⊢
  have hA : ∀ q : Nat, s.heap.size ≤ q → A q := fun q h => by rw [← hAe]; exact Or.inr h
  have hS : va_S A s.heap s.heap [] := va_S.rf
  have hP : va_P (dC, dI) vwCl [(q0, .inr (1, [.ref qw, .ref qr, .long tb, .int (b2i su), .int (b2i mx)])), (qw, .inl (cL, 8192, .inr (.inl w))), (qr, .inr (0, [.ref qc, .ref qn])), (qc, .inl (cI, 8, .inl cf)), (qn, .inl (cL, 8, .inr (.inl nu)))] s.heap := hP
  have hD : va_D A [(q0, .inr (1, [.ref qw, .ref qr, .long tb, .int (b2i su), .int (b2i mx)])), (qw, .inl (cL, 8192, .inr (.inl w))), (qr, .inr (0, [.ref qc, .ref qn])), (qc, .inl (cI, 8, .inl cf)), (qn, .inl (cL, 8, .inr (.inl nu)))] := hD
  have hl := lv_entry ([.ref q0, .long ad, .long v]) (n := 6) (Nat.le_of_ble_eq_true rfl)
  rw [lg_entry_eq]
  generalize (lg_sl ([.ref q0, .long ad, .long v]) ++ List.replicate (6 - (lg_sl ([.ref q0, .long ad, .long v])).length) Slot.unset).toArray = ls at hl ⊢
  have hl : lv_has ls 6 [(0, .ref q0), (1, .long ad), (3, .long v)] := hl
  refine lv_lload_n hx hb dX1_put_0 rfl (lv_at hl 1 rfl) ?_
  refine vp_callSi (W.runS (As := [.long ad]) (rest := []) ⟨hx, hb, hml, hown, hts⟩ (mtX1_wordIndex l ad) (va_cwS 1 hts (gAll (mc1 (wa 104 (by decide +kernel) rfl) (mc1 (wa 105 (by decide +kernel) rfl) (mc1 (wa 15 (by decide +kernel) rfl) mc0))) (wa 106 (by decide +kernel) rfl) (by decide +kernel)) rfl rfl rfl (by decide +kernel) ⟨Nat.le_of_ble_eq_true rfl, Nat.le_of_ble_eq_true rfl⟩) preEq rfl rfl hl.1 rfl (lv_room (Nat.le_of_ble_eq_true rfl)) dX1_put_1 ⟨Nat.le_of_ble_eq_true rfl, Nat.le_of_ble_eq_true rfl⟩) (fun r_1 er_1 => ?_)
  have er_1 : r_1 = (k_wordIndex ad) := er_1
  subst er_1
  refine lv_istore (lv' := [(5, .int (k_wordIndex ad)), (0, .ref q0), (1, .long ad), (3, .long v)]) hx hb dX1_put_4 hl (by decide) rfl (fun ls hl => ?_)
  refine lv_iload hx hb dX1_put_6 (lv_at hl 0 rfl) ?_
  refine lv_iconst (v := (-1)) hx hb dX1_put_8 (by decide) ?_
  refine lv_icmp_ne (tgt := 22) hx hb dX1_put_9 (by decide) (fun c_2 => ?_) (fun c_2 => ?_)
  · refine lv_aload_n hx hb dX1_put_22 rfl (lv_at hl 1 rfl) ?_
    refine va_get (D := (dC, dI)) (ci := 1) (v := .ref qw) (C := RX1) (T := TX1) (N := 5) hx hb hts iwX1 hown hK hP 0 rfl rfl 0 (by decide) (hts (.fieldLink RX1 9 RX1 "words" "[J") (wa 46 (by decide +kernel) rfl)) (fun _ h9 => h9) rfl dX1_put_23 ?_
    refine lv_iload hx hb dX1_put_26 (lv_at hl 0 rfl) ?_
    refine lv_lload_n hx hb dX1_put_28 rfl (lv_at hl 3 rfl) ?_
    refine va_last hx hb hK hP hD hS 1 0 rfl rfl (wi_in hi) dX1_put_29 (fun H locs hP hD hS => ?_)
    have hP : va_P (dC, dI) vwCl [(q0, .inr (1, [.ref qw, .ref qr, .long tb, .int (b2i su), .int (b2i mx)])), (qw, .inl (cL, 8192, .inr (.inl (vp_updL w (Int32.toNatClampNeg (k_wordIndex ad)) v)))), (qr, .inr (0, [.ref qc, .ref qn])), (qc, .inl (cI, 8, .inl cf)), (qn, .inl (cL, 8, .inr (.inl nu)))] H := hP
    have hD : va_D A [(q0, .inr (1, [.ref qw, .ref qr, .long tb, .int (b2i su), .int (b2i mx)])), (qw, .inl (cL, 8192, .inr (.inl (vp_updL w (Int32.toNatClampNeg (k_wordIndex ad)) v)))), (qr, .inr (0, [.ref qc, .ref qn])), (qc, .inl (cI, 8, .inl cf)), (qn, .inl (cL, 8, .inr (.inl nu)))] := hD
    have hP9 : va_P (dC, dI) vwCl (wPW cL cI q0 qw qr qc qn (vp_updL w (Int32.toNatClampNeg (k_wordIndex ad)) v) tb su mx cf nu) H := hP
    have hD9 : va_D A (wPW cL cI q0 qw qr qc qn (vp_updL w (Int32.toNatClampNeg (k_wordIndex ad)) v) tb su mx cf nu) := hD
    exact W.vret hx hb hr (fun t ht hW => ⟨⟨(), rfl, trivial, (by rw [ht]; exact hP9), va_K.moved hW.alike hK, hD9⟩, hS.F ht⟩) hS.2.2 dX1_put_30
  · first | exact absurd c_2 hi | exact absurd hi c_2
set_option maxHeartbeats 4000000 in
set_option maxRecDepth 100000 in
theorem mtX1_setTable (l : Launch) (dC : Nat → ClassId) (dI : Nat → Nat → Nat) (cL : ClassId) (cI : ClassId) (q0 : Nat) (qw : Nat) (qr : Nat) (qc : Nat) (qn : Nat) (w : Nat → Int64) (tb : Int64) (su : Bool) (mx : Bool) (cf : Nat → Int32) (nu : Nat → Int64) (hz : Nat) (tv : Int64) (hi : k_sortOf tv = 0 ∨ k_sortOf tv = 8 ∨ k_sortOf tv = 9) : Met l yX1_setTable wsX1_setTable ({ frames := 1, cells := 0, slots := 0, locals := 21 }) (va_Pc [.ref q0, .long tv] (fun U => U.heap.size = hz ∧ va_P (dC, dI) vwCl (wPW cL cI q0 qw qr qc qn w tb su mx cf nu) U.heap ∧ va_K (dC, dI) vwCl [(cL, .long), (cI, .int)] U ∧ va_D (fun _ => True) (wPW cL cI q0 qw qr qc qn w tb su mx cf nu))) (va_Qv (fun _ : Unit => True) (fun _ t => va_P (dC, dI) vwCl (wPW cL cI q0 qw qr qc qn w tv su mx cf nu) t.heap ∧ va_K (dC, dI) vwCl [(cL, .long), (cI, .int)] t ∧ va_D (va_A (wPW cL cI q0 qw qr qc qn w tb su mx cf nu) hz) (wPW cL cI q0 qw qr qc qn w tv su mx cf nu)) (va_A (wPW cL cI q0 qw qr qc qn w tb su mx cf nu) hz)) 0 0 (va_A (wPW cL cI q0 qw qr qc qn w tb su mx cf nu) hz) := by
  refine Met.ofW (cc := cX1_setTable) (maxL := 4) (ret := none) (by decide) rfl ?_
  intro p e s m args below meth c s₁ B hml hv
  obtain ⟨rfl, hsz, hP, hK, hD0⟩ := hv
  have hx := B.exec
  have hb := B.bytes
  have hr := B.returns
  have hts := atoms_spec (ws := wsX1_setTable) B.pre
  have hown : s.vm.findClass RX1 = some m.cls := findClass_of_methodNamed B.named
  have hlocks := B.notSynchronized
  subst hsz
  have hD := hD0.self (sz := s.heap.size)
  generalize hAe : va_A (wPW cL cI q0 qw qr qc qn w tb su mx cf nu) s.heap.size = A at hD ⊢
  have hA : ∀ q : Nat, s.heap.size ≤ q → A q := fun q h => by rw [← hAe]; exact Or.inr h
  have hS : va_S A s.heap s.heap [] := va_S.rf
  have hP : va_P (dC, dI) vwCl [(q0, .inr (1, [.ref qw, .ref qr, .long tb, .int (b2i su), .int (b2i mx)])), (qw, .inl (cL, 8192, .inr (.inl w))), (qr, .inr (0, [.ref qc, .ref qn])), (qc, .inl (cI, 8, .inl cf)), (qn, .inl (cL, 8, .inr (.inl nu)))] s.heap := hP
  have hD : va_D A [(q0, .inr (1, [.ref qw, .ref qr, .long tb, .int (b2i su), .int (b2i mx)])), (qw, .inl (cL, 8192, .inr (.inl w))), (qr, .inr (0, [.ref qc, .ref qn])), (qc, .inl (cI, 8, .inl cf)), (qn, .inl (cL, 8, .inr (.inl nu)))] := hD
  have hl := lv_entry ([.ref q0, .long tv]) (n := 4) (Nat.le_of_ble_eq_true rfl)
  rw [lg_entry_eq]
  generalize (lg_sl ([.ref q0, .long tv]) ++ List.replicate (4 - (lg_sl ([.ref q0, .long tv])).length) Slot.unset).toArray = ls at hl ⊢
  have hl : lv_has ls 4 [(0, .ref q0), (1, .long tv)] := hl
  refine lv_lload_n hx hb dX1_setTable_0 rfl (lv_at hl 1 rfl) ?_
  refine vp_callSi (W.runS (As := [.long tv]) (rest := []) ⟨hx, hb, hml, hown, hts⟩ (mtX1_sortOf l tv) (va_cwS 1 hts (gAll (mc1 (wa 192 (by decide +kernel) rfl) (mc1 (wa 193 (by decide +kernel) rfl) (mc1 (wa 15 (by decide +kernel) rfl) mc0))) (wa 194 (by decide +kernel) rfl) (by decide +kernel)) rfl rfl rfl (by decide +kernel) ⟨Nat.le_of_ble_eq_true rfl, Nat.le_of_ble_eq_true rfl⟩) preEq rfl rfl hl.1 rfl (lv_room (Nat.le_of_ble_eq_true rfl)) dX1_setTable_1 ⟨Nat.le_of_ble_eq_true rfl, Nat.le_of_ble_eq_true rfl⟩) (fun r_1 er_1 => ?_)
  have er_1 : r_1 = (k_sortOf tv) := er_1
  subst er_1
  refine lv_istore_n (lv' := [(3, .int (k_sortOf tv)), (0, .ref q0), (1, .long tv)]) hx hb dX1_setTable_4 rfl hl (by decide) rfl (fun ls hl => ?_)
  refine lv_iload_n hx hb dX1_setTable_5 rfl (lv_at hl 0 rfl) ?_
  refine lv_if_eq (tgt := 31) hx hb dX1_setTable_6 (by decide) (fun c_2 => ?_) (fun c_2 => ?_)
  · refine lv_aload_n hx hb dX1_setTable_31 rfl (lv_at hl 1 rfl) ?_
    refine lv_lload_n hx hb dX1_setTable_32 rfl (lv_at hl 2 rfl) ?_
    refine va_put (D := (dC, dI)) (ci := 1) (v := .long tv) (ty := .long) (C := RX1) (T := TX1) (N := 5) hx hb hts iwX1 tyX1 tyX1_ok nmX1 hown hK hP hD hS 0 rfl rfl 2 (by decide) (hts (.fieldLink RX1 20 RX1 "table" "J") (wa 48 (by decide +kernel) rfl)) (fun _ h9 => h9) rfl (by decide +kernel) rfl rfl (Nat.le_of_ble_eq_true rfl) dX1_setTable_33 (fun H locs hP hD hS => ?_)
    have hP : va_P (dC, dI) vwCl [(q0, .inr (1, [.ref qw, .ref qr, .long tv, .int (b2i su), .int (b2i mx)])), (qw, .inl (cL, 8192, .inr (.inl w))), (qr, .inr (0, [.ref qc, .ref qn])), (qc, .inl (cI, 8, .inl cf)), (qn, .inl (cL, 8, .inr (.inl nu)))] H := hP
    have hD : va_D A [(q0, .inr (1, [.ref qw, .ref qr, .long tv, .int (b2i su), .int (b2i mx)])), (qw, .inl (cL, 8192, .inr (.inl w))), (qr, .inr (0, [.ref qc, .ref qn])), (qc, .inl (cI, 8, .inl cf)), (qn, .inl (cL, 8, .inr (.inl nu)))] := hD
    have hP9 : va_P (dC, dI) vwCl (wPW cL cI q0 qw qr qc qn w tv su mx cf nu) H := hP
    have hD9 : va_D A (wPW cL cI q0 qw qr qc qn w tv su mx cf nu) := hD
    exact W.vret hx hb hr (fun t ht hW => ⟨⟨(), rfl, trivial, (by rw [ht]; exact hP9), va_K.moved hW.alike hK, hD9⟩, hS.F ht⟩) hS.2.2 dX1_setTable_36
  · refine lv_iload_n hx hb dX1_setTable_9 rfl (lv_at hl 0 rfl) ?_
    refine lv_bipush (v := 8) hx hb dX1_setTable_10 (by decide) ?_
    refine lv_icmp_eq (tgt := 31) hx hb dX1_setTable_12 (by decide) (fun c_3 => ?_) (fun c_3 => ?_)
    · refine lv_aload_n hx hb dX1_setTable_31 rfl (lv_at hl 1 rfl) ?_
      refine lv_lload_n hx hb dX1_setTable_32 rfl (lv_at hl 2 rfl) ?_
      refine va_put (D := (dC, dI)) (ci := 1) (v := .long tv) (ty := .long) (C := RX1) (T := TX1) (N := 5) hx hb hts iwX1 tyX1 tyX1_ok nmX1 hown hK hP hD hS 0 rfl rfl 2 (by decide) (hts (.fieldLink RX1 20 RX1 "table" "J") (wa 48 (by decide +kernel) rfl)) (fun _ h9 => h9) rfl (by decide +kernel) rfl rfl (Nat.le_of_ble_eq_true rfl) dX1_setTable_33 (fun H locs hP hD hS => ?_)
      have hP : va_P (dC, dI) vwCl [(q0, .inr (1, [.ref qw, .ref qr, .long tv, .int (b2i su), .int (b2i mx)])), (qw, .inl (cL, 8192, .inr (.inl w))), (qr, .inr (0, [.ref qc, .ref qn])), (qc, .inl (cI, 8, .inl cf)), (qn, .inl (cL, 8, .inr (.inl nu)))] H := hP
      have hD : va_D A [(q0, .inr (1, [.ref qw, .ref qr, .long tv, .int (b2i su), .int (b2i mx)])), (qw, .inl (cL, 8192, .inr (.inl w))), (qr, .inr (0, [.ref qc, .ref qn])), (qc, .inl (cI, 8, .inl cf)), (qn, .inl (cL, 8, .inr (.inl nu)))] := hD
      have hP9 : va_P (dC, dI) vwCl (wPW cL cI q0 qw qr qc qn w tv su mx cf nu) H := hP
      have hD9 : va_D A (wPW cL cI q0 qw qr qc qn w tv su mx cf nu) := hD
      exact W.vret hx hb hr (fun t ht hW => ⟨⟨(), rfl, trivial, (by rw [ht]; exact hP9), va_K.moved hW.alike hK, hD9⟩, hS.F ht⟩) hS.2.2 dX1_setTable_36
    · refine lv_iload_n hx hb dX1_setTable_15 rfl (lv_at hl 0 rfl) ?_
      refine lv_bipush (v := 9) hx hb dX1_setTable_16 (by decide) ?_
      refine lv_icmp_eq (tgt := 31) hx hb dX1_setTable_18 (by decide) (fun c_4 => ?_) (fun c_4 => ?_)
      · refine lv_aload_n hx hb dX1_setTable_31 rfl (lv_at hl 1 rfl) ?_
        refine lv_lload_n hx hb dX1_setTable_32 rfl (lv_at hl 2 rfl) ?_
        refine va_put (D := (dC, dI)) (ci := 1) (v := .long tv) (ty := .long) (C := RX1) (T := TX1) (N := 5) hx hb hts iwX1 tyX1 tyX1_ok nmX1 hown hK hP hD hS 0 rfl rfl 2 (by decide) (hts (.fieldLink RX1 20 RX1 "table" "J") (wa 48 (by decide +kernel) rfl)) (fun _ h9 => h9) rfl (by decide +kernel) rfl rfl (Nat.le_of_ble_eq_true rfl) dX1_setTable_33 (fun H locs hP hD hS => ?_)
        have hP : va_P (dC, dI) vwCl [(q0, .inr (1, [.ref qw, .ref qr, .long tv, .int (b2i su), .int (b2i mx)])), (qw, .inl (cL, 8192, .inr (.inl w))), (qr, .inr (0, [.ref qc, .ref qn])), (qc, .inl (cI, 8, .inl cf)), (qn, .inl (cL, 8, .inr (.inl nu)))] H := hP
        have hD : va_D A [(q0, .inr (1, [.ref qw, .ref qr, .long tv, .int (b2i su), .int (b2i mx)])), (qw, .inl (cL, 8192, .inr (.inl w))), (qr, .inr (0, [.ref qc, .ref qn])), (qc, .inl (cI, 8, .inl cf)), (qn, .inl (cL, 8, .inr (.inl nu)))] := hD
        have hP9 : va_P (dC, dI) vwCl (wPW cL cI q0 qw qr qc qn w tv su mx cf nu) H := hP
        have hD9 : va_D A (wPW cL cI q0 qw qr qc qn w tv su mx cf nu) := hD
        exact W.vret hx hb hr (fun t ht hW => ⟨⟨(), rfl, trivial, (by rw [ht]; exact hP9), va_K.moved hW.alike hK, hD9⟩, hS.F ht⟩) hS.2.2 dX1_setTable_36
      · exact absurd hi (by simp [c_2, c_3, c_4])
set_option maxHeartbeats 4000000 in
set_option maxRecDepth 100000 in
theorem mtX1_rights (l : Launch) (dC : Nat → ClassId) (dI : Nat → Nat → Nat) (cL : ClassId) (cI : ClassId) (q0 : Nat) (qw : Nat) (qr : Nat) (qc : Nat) (qn : Nat) (w : Nat → Int64) (tb : Int64) (su : Bool) (mx : Bool) (cf : Nat → Int32) (nu : Nat → Int64) (hz : Nat) (s1 : Bool) (s2 : Bool)  : Met l yX1_rights wsX1_rights ({ frames := 0, cells := 0, slots := 0, locals := 0 }) (va_Pc [.ref q0, .int (b2i s1), .int (b2i s2)] (fun U => U.heap.size = hz ∧ va_P (dC, dI) vwCl (wPW cL cI q0 qw qr qc qn w tb su mx cf nu) U.heap ∧ va_K (dC, dI) vwCl [(cL, .long), (cI, .int)] U ∧ va_D (fun _ => True) (wPW cL cI q0 qw qr qc qn w tb su mx cf nu))) (va_Qv (fun _ : Unit => True) (fun _ t => va_P (dC, dI) vwCl (wPW cL cI q0 qw qr qc qn w tb s1 s2 cf nu) t.heap ∧ va_K (dC, dI) vwCl [(cL, .long), (cI, .int)] t ∧ va_D (va_A (wPW cL cI q0 qw qr qc qn w tb su mx cf nu) hz) (wPW cL cI q0 qw qr qc qn w tb s1 s2 cf nu)) (va_A (wPW cL cI q0 qw qr qc qn w tb su mx cf nu) hz)) 0 0 (va_A (wPW cL cI q0 qw qr qc qn w tb su mx cf nu) hz) := by
  refine Met.ofW (cc := cX1_rights) (maxL := 3) (ret := none) (by decide) rfl ?_
  intro p e s m args below meth c s₁ B hml hv
  obtain ⟨rfl, hsz, hP, hK, hD0⟩ := hv
  have hx := B.exec
  have hb := B.bytes
  have hr := B.returns
  have hts := atoms_spec (ws := wsX1_rights) B.pre
  have hown : s.vm.findClass RX1 = some m.cls := findClass_of_methodNamed B.named
  have hlocks := B.notSynchronized
  subst hsz
  have hD := hD0.self (sz := s.heap.size)
  generalize hAe : va_A (wPW cL cI q0 qw qr qc qn w tb su mx cf nu) s.heap.size = A at hD ⊢
  have hA : ∀ q : Nat, s.heap.size ≤ q → A q := fun q h => by rw [← hAe]; exact Or.inr h
  have hS : va_S A s.heap s.heap [] := va_S.rf
  have hP : va_P (dC, dI) vwCl [(q0, .inr (1, [.ref qw, .ref qr, .long tb, .int (b2i su), .int (b2i mx)])), (qw, .inl (cL, 8192, .inr (.inl w))), (qr, .inr (0, [.ref qc, .ref qn])), (qc, .inl (cI, 8, .inl cf)), (qn, .inl (cL, 8, .inr (.inl nu)))] s.heap := hP
  have hD : va_D A [(q0, .inr (1, [.ref qw, .ref qr, .long tb, .int (b2i su), .int (b2i mx)])), (qw, .inl (cL, 8192, .inr (.inl w))), (qr, .inr (0, [.ref qc, .ref qn])), (qc, .inl (cI, 8, .inl cf)), (qn, .inl (cL, 8, .inr (.inl nu)))] := hD
  have hl := lv_entry ([.ref q0, .int (b2i s1), .int (b2i s2)]) (n := 3) (Nat.le_of_ble_eq_true rfl)
  rw [lg_entry_eq]
  generalize (lg_sl ([.ref q0, .int (b2i s1), .int (b2i s2)]) ++ List.replicate (3 - (lg_sl ([.ref q0, .int (b2i s1), .int (b2i s2)])).length) Slot.unset).toArray = ls at hl ⊢
  have hl : lv_has ls 3 [(0, .ref q0), (1, .int (b2i s1)), (2, .int (b2i s2))] := hl
  refine lv_aload_n hx hb dX1_rights_0 rfl (lv_at hl 0 rfl) ?_
  refine lv_iload_n hx hb dX1_rights_1 rfl (lv_at hl 1 rfl) ?_
  refine va_put (D := (dC, dI)) (ci := 1) (v := .int (b2i s1)) (ty := .boolean) (C := RX1) (T := TX1) (N := 5) hx hb hts iwX1 tyX1 tyX1_ok nmX1 hown hK hP hD hS 0 rfl rfl 3 (by decide) (hts (.fieldLink RX1 24 RX1 "sum" "Z") (wa 49 (by decide +kernel) rfl)) (fun _ h9 => h9) rfl (by decide +kernel) (nar_b2i _) (fit_b2i _) (Nat.le_of_ble_eq_true rfl) dX1_rights_2 (fun H locs hP hD hS => ?_)
  have hP : va_P (dC, dI) vwCl [(q0, .inr (1, [.ref qw, .ref qr, .long tb, .int (b2i s1), .int (b2i mx)])), (qw, .inl (cL, 8192, .inr (.inl w))), (qr, .inr (0, [.ref qc, .ref qn])), (qc, .inl (cI, 8, .inl cf)), (qn, .inl (cL, 8, .inr (.inl nu)))] H := hP
  have hD : va_D A [(q0, .inr (1, [.ref qw, .ref qr, .long tb, .int (b2i s1), .int (b2i mx)])), (qw, .inl (cL, 8192, .inr (.inl w))), (qr, .inr (0, [.ref qc, .ref qn])), (qc, .inl (cI, 8, .inl cf)), (qn, .inl (cL, 8, .inr (.inl nu)))] := hD
  refine lv_aload_n hx hb dX1_rights_5 rfl (lv_at hl 0 rfl) ?_
  refine lv_iload_n hx hb dX1_rights_6 rfl (lv_at hl 2 rfl) ?_
  refine va_put (D := (dC, dI)) (ci := 1) (v := .int (b2i s2)) (ty := .boolean) (C := RX1) (T := TX1) (N := 5) hx hb hts iwX1 tyX1 tyX1_ok nmX1 hown hK hP hD hS 0 rfl rfl 4 (by decide) (hts (.fieldLink RX1 28 RX1 "mxr" "Z") (wa 50 (by decide +kernel) rfl)) (fun _ h9 => h9) rfl (by decide +kernel) (nar_b2i _) (fit_b2i _) (Nat.le_of_ble_eq_true rfl) dX1_rights_7 (fun H locs hP hD hS => ?_)
  have hP : va_P (dC, dI) vwCl [(q0, .inr (1, [.ref qw, .ref qr, .long tb, .int (b2i s1), .int (b2i s2)])), (qw, .inl (cL, 8192, .inr (.inl w))), (qr, .inr (0, [.ref qc, .ref qn])), (qc, .inl (cI, 8, .inl cf)), (qn, .inl (cL, 8, .inr (.inl nu)))] H := hP
  have hD : va_D A [(q0, .inr (1, [.ref qw, .ref qr, .long tb, .int (b2i s1), .int (b2i s2)])), (qw, .inl (cL, 8192, .inr (.inl w))), (qr, .inr (0, [.ref qc, .ref qn])), (qc, .inl (cI, 8, .inl cf)), (qn, .inl (cL, 8, .inr (.inl nu)))] := hD
  have hP9 : va_P (dC, dI) vwCl (wPW cL cI q0 qw qr qc qn w tb s1 s2 cf nu) H := hP
  have hD9 : va_D A (wPW cL cI q0 qw qr qc qn w tb s1 s2 cf nu) := hD
  exact W.vret hx hb hr (fun t ht hW => ⟨⟨(), rfl, trivial, (by rw [ht]; exact hP9), va_K.moved hW.alike hK, hD9⟩, hS.F ht⟩) hS.2.2 dX1_rights_10
set_option maxHeartbeats 4000000 in
set_option maxRecDepth 100000 in
theorem mtX1_setConfigs (l : Launch) (dC : Nat → ClassId) (dI : Nat → Nat → Nat) (cL : ClassId) (cI : ClassId) (q0 : Nat) (qw : Nat) (qr : Nat) (qc : Nat) (qn : Nat) (w : Nat → Int64) (tb : Int64) (su : Bool) (mx : Bool) (cf : Nat → Int32) (nu : Nat → Int64) (hz : Nat) (cv : Int64)  : Met l yX1_setConfigs wsX1_setConfigs ({ frames := 2, cells := 0, slots := 0, locals := 44 }) (va_Pc [.ref q0, .long cv] (fun U => U.heap.size = hz ∧ va_P (dC, dI) vwCl (wPW cL cI q0 qw qr qc qn w tb su mx cf nu) U.heap ∧ va_K (dC, dI) vwCl [(cL, .long), (cI, .int)] U ∧ va_D (fun _ => True) (wPW cL cI q0 qw qr qc qn w tb su mx cf nu))) (va_Qv (fun _ : Unit => True) (fun _ t => va_P (dC, dI) vwCl (wPW cL cI q0 qw qr qc qn w tb su mx (k_takeF cf cv 8) nu) t.heap ∧ va_K (dC, dI) vwCl [(cL, .long), (cI, .int)] t ∧ va_D (va_A (wPW cL cI q0 qw qr qc qn w tb su mx cf nu) hz) (wPW cL cI q0 qw qr qc qn w tb su mx (k_takeF cf cv 8) nu)) (va_A (wPW cL cI q0 qw qr qc qn w tb su mx cf nu) hz)) 0 0 (va_A (wPW cL cI q0 qw qr qc qn w tb su mx cf nu) hz) := by
  refine Met.ofW (cc := cX1_setConfigs) (maxL := 3) (ret := none) (by decide) rfl ?_
  intro p e s m args below meth c s₁ B hml hv
  obtain ⟨rfl, hsz, hP, hK, hD0⟩ := hv
  have hx := B.exec
  have hb := B.bytes
  have hr := B.returns
  have hts := atoms_spec (ws := wsX1_setConfigs) B.pre
  have hown : s.vm.findClass RX1 = some m.cls := findClass_of_methodNamed B.named
  have hlocks := B.notSynchronized
  subst hsz
  have hD := hD0.self (sz := s.heap.size)
  generalize hAe : va_A (wPW cL cI q0 qw qr qc qn w tb su mx cf nu) s.heap.size = A at hD ⊢
  have hA : ∀ q : Nat, s.heap.size ≤ q → A q := fun q h => by rw [← hAe]; exact Or.inr h
  have hS : va_S A s.heap s.heap [] := va_S.rf
  have hP : va_P (dC, dI) vwCl [(q0, .inr (1, [.ref qw, .ref qr, .long tb, .int (b2i su), .int (b2i mx)])), (qw, .inl (cL, 8192, .inr (.inl w))), (qr, .inr (0, [.ref qc, .ref qn])), (qc, .inl (cI, 8, .inl cf)), (qn, .inl (cL, 8, .inr (.inl nu)))] s.heap := hP
  have hD : va_D A [(q0, .inr (1, [.ref qw, .ref qr, .long tb, .int (b2i su), .int (b2i mx)])), (qw, .inl (cL, 8192, .inr (.inl w))), (qr, .inr (0, [.ref qc, .ref qn])), (qc, .inl (cI, 8, .inl cf)), (qn, .inl (cL, 8, .inr (.inl nu)))] := hD
  have hl := lv_entry ([.ref q0, .long cv]) (n := 3) (Nat.le_of_ble_eq_true rfl)
  rw [lg_entry_eq]
  generalize (lg_sl ([.ref q0, .long cv]) ++ List.replicate (3 - (lg_sl ([.ref q0, .long cv])).length) Slot.unset).toArray = ls at hl ⊢
  have hl : lv_has ls 3 [(0, .ref q0), (1, .long cv)] := hl
  refine lv_aload_n hx hb dX1_setConfigs_0 rfl (lv_at hl 0 rfl) ?_
  refine va_get (D := (dC, dI)) (ci := 1) (v := .ref qr) (C := RX1) (T := TX1) (N := 5) hx hb hts iwX1 hown hK hP 0 rfl rfl 1 (by decide) (hts (.fieldLink RX1 16 RX1 "regions" "LPageWalker$Regions;") (wa 47 (by decide +kernel) rfl)) (fun _ h9 => h9) rfl dX1_setConfigs_1 ?_
  refine lv_lload_n hx hb dX1_setConfigs_4 rfl (lv_at hl 1 rfl) ?_
  have hPc := hP.sub (ws' := (wRG cL cI qr qc qn cf nu)) [2, 3, 4] rfl
  have hDc := hD.sub (ws' := (wRG cL cI qr qc qn cf nu)) [2, 3, 4] (by decide) rfl
  have hFc := va_free (wc := (wRG cL cI qr qc qn cf nu)) hD hS hA [2, 3, 4] rfl
  refine va_callv (va_runV (As := [.long cv]) (rest := []) ⟨hx, hb, hml, hown, hts⟩ (mtX0_takeConfigs l dC dI cL cI qr qc qn cf nu s.heap.size cv ) (cwV 1 hts (gAll (mc1 (wa 82 (by decide +kernel) rfl) (mc1 (wa 83 (by decide +kernel) rfl) (mc1 (wa 84 (by decide +kernel) rfl) (mc1 (wa 16 (by decide +kernel) rfl) mc0)))) (wa 85 (by decide +kernel) rfl) (by decide +kernel)) rfl rfl rfl (by decide +kernel) ⟨Nat.le_of_ble_eq_true rfl, Nat.le_of_ble_eq_true rfl⟩) (mu_pre (ci := 0) (q0 := 0) hK hPc hDc rfl rfl) rfl rfl hl.1 rfl (lv_room (Nat.le_of_ble_eq_true rfl)) dX1_setConfigs_5 ⟨Nat.le_of_ble_eq_true rfl, Nat.le_of_ble_eq_true rfl⟩) hS (fun q _ h => hFc q h) hFc (fun u t H1 locs ht hvm hw hB hz1 hk1 hS => ?_)
  obtain ⟨hP1, hK1, hD1⟩ := hB
  rw [ht] at hP1
  obtain ⟨hP, hD⟩ := va_join (wr := [(q0, .inr (1, [.ref qw, .ref qr, .long tb, .int (b2i su), .int (b2i mx)])), (qw, .inl (cL, 8192, .inr (.inl w)))]) (w1 := (wRG cL cI qr qc qn (k_takeF cf cv 8) nu)) hP hD [2, 3, 4] [0, 1] rfl rfl (by decide) (by decide) hk1 hFc hP1 hD1
  generalize H1 = H at hP hS ⊢
  have hP : va_P (dC, dI) vwCl [(q0, .inr (1, [.ref qw, .ref qr, .long tb, .int (b2i su), .int (b2i mx)])), (qw, .inl (cL, 8192, .inr (.inl w))), (qr, .inr (0, [.ref qc, .ref qn])), (qc, .inl (cI, 8, .inl (k_takeF cf cv 8))), (qn, .inl (cL, 8, .inr (.inl nu)))] H := hP
  have hD : va_D A [(q0, .inr (1, [.ref qw, .ref qr, .long tb, .int (b2i su), .int (b2i mx)])), (qw, .inl (cL, 8192, .inr (.inl w))), (qr, .inr (0, [.ref qc, .ref qn])), (qc, .inl (cI, 8, .inl (k_takeF cf cv 8))), (qn, .inl (cL, 8, .inr (.inl nu)))] := hD
  have hP9 : va_P (dC, dI) vwCl (wPW cL cI q0 qw qr qc qn w tb su mx (k_takeF cf cv 8) nu) H := hP
  have hD9 : va_D A (wPW cL cI q0 qw qr qc qn w tb su mx (k_takeF cf cv 8) nu) := hD
  exact W.vret hx hb hr (fun t ht hW => ⟨⟨(), rfl, trivial, (by rw [ht]; exact hP9), va_K.moved hW.alike hK, hD9⟩, hS.F ht⟩) hS.2.2 dX1_setConfigs_8
set_option maxHeartbeats 4000000 in
set_option maxRecDepth 100000 in
theorem mtX1_setNumber (l : Launch) (dC : Nat → ClassId) (dI : Nat → Nat → Nat) (cL : ClassId) (cI : ClassId) (q0 : Nat) (qw : Nat) (qr : Nat) (qc : Nat) (qn : Nat) (w : Nat → Int64) (tb : Int64) (su : Bool) (mx : Bool) (cf : Nat → Int32) (nu : Nat → Int64) (hz : Nat) (i : Int32) (v : Int64) (hi0 : ¬ i < 0) (hi8 : i < 8) : Met l yX1_setNumber wsX1_setNumber ({ frames := 3, cells := 0, slots := 0, locals := 64 }) (va_Pc [.ref q0, .int i, .long v] (fun U => U.heap.size = hz ∧ va_P (dC, dI) vwCl (wPW cL cI q0 qw qr qc qn w tb su mx cf nu) U.heap ∧ va_K (dC, dI) vwCl [(cL, .long), (cI, .int)] U ∧ va_D (fun _ => True) (wPW cL cI q0 qw qr qc qn w tb su mx cf nu))) (va_Qv (fun _ : Unit => True) (fun _ t => va_P (dC, dI) vwCl (wPW cL cI q0 qw qr qc qn w tb su mx cf (k_takeNumber cf nu (Int32.toNatClampNeg i) v)) t.heap ∧ va_K (dC, dI) vwCl [(cL, .long), (cI, .int)] t ∧ va_D (va_A (wPW cL cI q0 qw qr qc qn w tb su mx cf nu) hz) (wPW cL cI q0 qw qr qc qn w tb su mx cf (k_takeNumber cf nu (Int32.toNatClampNeg i) v))) (va_A (wPW cL cI q0 qw qr qc qn w tb su mx cf nu) hz)) 0 0 (va_A (wPW cL cI q0 qw qr qc qn w tb su mx cf nu) hz) := by
  refine Met.ofW (cc := cX1_setNumber) (maxL := 4) (ret := none) (by decide) rfl ?_
  intro p e s m args below meth c s₁ B hml hv
  obtain ⟨rfl, hsz, hP, hK, hD0⟩ := hv
  have hx := B.exec
  have hb := B.bytes
  have hr := B.returns
  have hts := atoms_spec (ws := wsX1_setNumber) B.pre
  have hown : s.vm.findClass RX1 = some m.cls := findClass_of_methodNamed B.named
  have hlocks := B.notSynchronized
  subst hsz
  have hD := hD0.self (sz := s.heap.size)
  generalize hAe : va_A (wPW cL cI q0 qw qr qc qn w tb su mx cf nu) s.heap.size = A at hD ⊢
  have hA : ∀ q : Nat, s.heap.size ≤ q → A q := fun q h => by rw [← hAe]; exact Or.inr h
  have hS : va_S A s.heap s.heap [] := va_S.rf
  have hP : va_P (dC, dI) vwCl [(q0, .inr (1, [.ref qw, .ref qr, .long tb, .int (b2i su), .int (b2i mx)])), (qw, .inl (cL, 8192, .inr (.inl w))), (qr, .inr (0, [.ref qc, .ref qn])), (qc, .inl (cI, 8, .inl cf)), (qn, .inl (cL, 8, .inr (.inl nu)))] s.heap := hP
  have hD : va_D A [(q0, .inr (1, [.ref qw, .ref qr, .long tb, .int (b2i su), .int (b2i mx)])), (qw, .inl (cL, 8192, .inr (.inl w))), (qr, .inr (0, [.ref qc, .ref qn])), (qc, .inl (cI, 8, .inl cf)), (qn, .inl (cL, 8, .inr (.inl nu)))] := hD
  have hl := lv_entry ([.ref q0, .int i, .long v]) (n := 4) (Nat.le_of_ble_eq_true rfl)
  rw [lg_entry_eq]
  generalize (lg_sl ([.ref q0, .int i, .long v]) ++ List.replicate (4 - (lg_sl ([.ref q0, .int i, .long v])).length) Slot.unset).toArray = ls at hl ⊢
  have hl : lv_has ls 4 [(0, .ref q0), (1, .int i), (2, .long v)] := hl
  refine lv_aload_n hx hb dX1_setNumber_0 rfl (lv_at hl 0 rfl) ?_
  refine va_get (D := (dC, dI)) (ci := 1) (v := .ref qr) (C := RX1) (T := TX1) (N := 5) hx hb hts iwX1 hown hK hP 0 rfl rfl 1 (by decide) (hts (.fieldLink RX1 16 RX1 "regions" "LPageWalker$Regions;") (wa 47 (by decide +kernel) rfl)) (fun _ h9 => h9) rfl dX1_setNumber_1 ?_
  refine lv_iload_n hx hb dX1_setNumber_4 rfl (lv_at hl 1 rfl) ?_
  refine lv_lload_n hx hb dX1_setNumber_5 rfl (lv_at hl 2 rfl) ?_
  have hPc := hP.sub (ws' := (wRG cL cI qr qc qn cf nu)) [2, 3, 4] rfl
  have hDc := hD.sub (ws' := (wRG cL cI qr qc qn cf nu)) [2, 3, 4] (by decide) rfl
  have hFc := va_free (wc := (wRG cL cI qr qc qn cf nu)) hD hS hA [2, 3, 4] rfl
  refine va_callv (va_runV (As := [.int i, .long v]) (rest := []) ⟨hx, hb, hml, hown, hts⟩ (mtX0_takeNumber l dC dI cL cI qr qc qn cf nu s.heap.size i v (hi0) (hi8)) (cwV 2 hts (gAll (mc1 (wa 232 (by decide +kernel) rfl) (mc1 (wa 233 (by decide +kernel) rfl) (mc1 (wa 234 (by decide +kernel) rfl) (mc1 (wa 16 (by decide +kernel) rfl) mc0)))) (wa 235 (by decide +kernel) rfl) (by decide +kernel)) rfl rfl rfl (by decide +kernel) ⟨Nat.le_of_ble_eq_true rfl, Nat.le_of_ble_eq_true rfl⟩) (mu_pre (ci := 0) (q0 := 0) hK hPc hDc rfl rfl) rfl rfl hl.1 rfl (lv_room (Nat.le_of_ble_eq_true rfl)) dX1_setNumber_6 ⟨Nat.le_of_ble_eq_true rfl, Nat.le_of_ble_eq_true rfl⟩) hS (fun q _ h => hFc q h) hFc (fun u t H1 locs ht hvm hw hB hz1 hk1 hS => ?_)
  obtain ⟨hP1, hK1, hD1⟩ := hB
  rw [ht] at hP1
  obtain ⟨hP, hD⟩ := va_join (wr := [(q0, .inr (1, [.ref qw, .ref qr, .long tb, .int (b2i su), .int (b2i mx)])), (qw, .inl (cL, 8192, .inr (.inl w)))]) (w1 := (wRG cL cI qr qc qn cf (k_takeNumber cf nu (Int32.toNatClampNeg i) v))) hP hD [2, 3, 4] [0, 1] rfl rfl (by decide) (by decide) hk1 hFc hP1 hD1
  generalize H1 = H at hP hS ⊢
  have hP : va_P (dC, dI) vwCl [(q0, .inr (1, [.ref qw, .ref qr, .long tb, .int (b2i su), .int (b2i mx)])), (qw, .inl (cL, 8192, .inr (.inl w))), (qr, .inr (0, [.ref qc, .ref qn])), (qc, .inl (cI, 8, .inl cf)), (qn, .inl (cL, 8, .inr (.inl (k_takeNumber cf nu (Int32.toNatClampNeg i) v))))] H := hP
  have hD : va_D A [(q0, .inr (1, [.ref qw, .ref qr, .long tb, .int (b2i su), .int (b2i mx)])), (qw, .inl (cL, 8192, .inr (.inl w))), (qr, .inr (0, [.ref qc, .ref qn])), (qc, .inl (cI, 8, .inl cf)), (qn, .inl (cL, 8, .inr (.inl (k_takeNumber cf nu (Int32.toNatClampNeg i) v))))] := hD
  have hP9 : va_P (dC, dI) vwCl (wPW cL cI q0 qw qr qc qn w tb su mx cf (k_takeNumber cf nu (Int32.toNatClampNeg i) v)) H := hP
  have hD9 : va_D A (wPW cL cI q0 qw qr qc qn w tb su mx cf (k_takeNumber cf nu (Int32.toNatClampNeg i) v)) := hD
  exact W.vret hx hb hr (fun t ht hW => ⟨⟨(), rfl, trivial, (by rw [ht]; exact hP9), va_K.moved hW.alike hK, hD9⟩, hS.F ht⟩) hS.2.2 dX1_setNumber_9
set_option maxHeartbeats 4000000 in
set_option maxRecDepth 100000 in
theorem mtX1_mark (l : Launch) (dC : Nat → ClassId) (dI : Nat → Nat → Nat) (cL : ClassId) (cI : ClassId) (q0 : Nat) (qw : Nat) (qr : Nat) (qc : Nat) (qn : Nat) (w : Nat → Int64) (tb : Int64) (su : Bool) (mx : Bool) (cf : Nat → Int32) (nu : Nat → Int64) (hz : Nat) (pl : Int64) (en : Int64) (ac : Int32) (hi : ¬ k_wordIndex pl = -1) : Met l yX1_mark wsX1_mark ({ frames := 3, cells := 0, slots := 0, locals := 81 }) (va_Pc [.ref q0, .long pl, .long en, .int ac] (fun U => U.heap.size = hz ∧ va_P (dC, dI) vwCl (wPW cL cI q0 qw qr qc qn w tb su mx cf nu) U.heap ∧ va_K (dC, dI) vwCl [(cL, .long), (cI, .int)] U ∧ va_D (fun _ => True) (wPW cL cI q0 qw qr qc qn w tb su mx cf nu))) (va_Qi (fun r (_ : Unit) => r = b2i (k_mark w cf nu pl en ac).1) (fun _ t => va_P (dC, dI) vwCl (wPW cL cI q0 qw qr qc qn (k_mark w cf nu pl en ac).2 tb su mx cf nu) t.heap ∧ va_K (dC, dI) vwCl [(cL, .long), (cI, .int)] t ∧ va_D (va_A (wPW cL cI q0 qw qr qc qn w tb su mx cf nu) hz) (wPW cL cI q0 qw qr qc qn (k_mark w cf nu pl en ac).2 tb su mx cf nu)) (va_A (wPW cL cI q0 qw qr qc qn w tb su mx cf nu) hz)) 0 0 (va_A (wPW cL cI q0 qw qr qc qn w tb su mx cf nu) hz) := by
  refine Met.ofW (cc := cX1_mark) (maxL := 8) (ret := (some .boolean)) (by decide) rfl ?_
  intro p e s m args below meth c s₁ B hml hv
  obtain ⟨rfl, hsz, hP, hK, hD0⟩ := hv
  have hx := B.exec
  have hb := B.bytes
  have hr := B.returns
  have hts := atoms_spec (ws := wsX1_mark) B.pre
  have hown : s.vm.findClass RX1 = some m.cls := findClass_of_methodNamed B.named
  have hlocks := B.notSynchronized
  subst hsz
  have hD := hD0.self (sz := s.heap.size)
  generalize hAe : va_A (wPW cL cI q0 qw qr qc qn w tb su mx cf nu) s.heap.size = A at hD ⊢
  have hA : ∀ q : Nat, s.heap.size ≤ q → A q := fun q h => by rw [← hAe]; exact Or.inr h
  have hS : va_S A s.heap s.heap [] := va_S.rf
  have hP : va_P (dC, dI) vwCl [(q0, .inr (1, [.ref qw, .ref qr, .long tb, .int (b2i su), .int (b2i mx)])), (qw, .inl (cL, 8192, .inr (.inl w))), (qr, .inr (0, [.ref qc, .ref qn])), (qc, .inl (cI, 8, .inl cf)), (qn, .inl (cL, 8, .inr (.inl nu)))] s.heap := hP
  have hD : va_D A [(q0, .inr (1, [.ref qw, .ref qr, .long tb, .int (b2i su), .int (b2i mx)])), (qw, .inl (cL, 8192, .inr (.inl w))), (qr, .inr (0, [.ref qc, .ref qn])), (qc, .inl (cI, 8, .inl cf)), (qn, .inl (cL, 8, .inr (.inl nu)))] := hD
  have hl := lv_entry ([.ref q0, .long pl, .long en, .int ac]) (n := 8) (Nat.le_of_ble_eq_true rfl)
  rw [lg_entry_eq]
  generalize (lg_sl ([.ref q0, .long pl, .long en, .int ac]) ++ List.replicate (8 - (lg_sl ([.ref q0, .long pl, .long en, .int ac])).length) Slot.unset).toArray = ls at hl ⊢
  have hl : lv_has ls 8 [(0, .ref q0), (1, .long pl), (3, .long en), (5, .int ac)] := hl
  refine lv_iload hx hb dX1_mark_0 (lv_at hl 3 rfl) ?_
  refine lv_iconst (v := 2) hx hb dX1_mark_2 (by decide) ?_
  refine lv_icmp_ne (tgt := 12) hx hb dX1_mark_3 (by decide) (fun c_1 => ?_) (fun c_1 => ?_)
  · refine lv_ldc2 (v := 64) hx hb hown (hts (.constantLong RX1 176 64) (wa 336 (by decide +kernel) rfl)) dX1_mark_12 ?_
    refine lv_lstore (lv' := [(6, .long 64), (0, .ref q0), (1, .long pl), (3, .long en), (5, .int ac)]) hx hb dX1_mark_15 hl (by decide) rfl (fun ls hl => ?_)
    refine lv_lload_n hx hb dX1_mark_17 rfl (lv_at hl 3 rfl) ?_
    refine lv_lload hx hb dX1_mark_18 (lv_at hl 0 rfl) ?_
    refine lv_land hx hb dX1_mark_20 ?_
    refine lv_lload hx hb dX1_mark_21 (lv_at hl 0 rfl) ?_
    refine W.lcmp hx hb dX1_mark_23 ?_
    refine lv_if_ne (tgt := 29) hx hb dX1_mark_24 (by decide) (fun c_2 => ?_) (fun c_2 => ?_)
    · rw [lg_cmp_eq] at c_2
      refine lv_aload_n hx hb dX1_mark_29 rfl (lv_at hl 1 rfl) ?_
      refine va_get (D := (dC, dI)) (ci := 1) (v := .ref qr) (C := RX1) (T := TX1) (N := 5) hx hb hts iwX1 hown hK hP 0 rfl rfl 1 (by decide) (hts (.fieldLink RX1 16 RX1 "regions" "LPageWalker$Regions;") (wa 47 (by decide +kernel) rfl)) (fun _ h9 => h9) rfl dX1_mark_30 ?_
      refine lv_lload_n hx hb dX1_mark_33 rfl (lv_at hl 2 rfl) ?_
      refine lv_iconst (v := 2) hx hb dX1_mark_34 (by decide) ?_
      refine lv_iconst (v := 1) hx hb dX1_mark_35 (by decide) ?_
      refine lv_bipush (v := 8) hx hb dX1_mark_36 (by decide) ?_
      refine vp_callSi (W.runV (As := [.long pl, .int 2, .int 1, .int 8]) (rest := []) ⟨hx, hb, hml, hown, hts⟩ (mtX0_letThrough l dC dI cL cI qr qc qn cf nu pl 2 1 8 ) (cwV 4 hts (gAll (mc1 (wa 287 (by decide +kernel) rfl) (mc1 (wa 288 (by decide +kernel) rfl) (mc1 (wa 289 (by decide +kernel) rfl) (mc1 (wa 16 (by decide +kernel) rfl) mc0)))) (wa 290 (by decide +kernel) rfl) (by decide +kernel)) rfl rfl rfl (by decide +kernel) ⟨Nat.le_of_ble_eq_true rfl, Nat.le_of_ble_eq_true rfl⟩) (rd_pre (ci := 0) (q0 := 0) hK (hP.sub (ws' := (wRG cL cI qr qc qn cf nu)) [2, 3, 4] rfl) rfl rfl) rfl rfl hl.1 rfl (lv_room (Nat.le_of_ble_eq_true rfl)) dX1_mark_38 ⟨Nat.le_of_ble_eq_true rfl, Nat.le_of_ble_eq_true rfl⟩) (fun r_3 er_3 => ?_)
      have er_3 : r_3 = (b2i (k_let cf nu pl 2 1 8)) := er_3
      subst er_3
      refine lv_if_ne (tgt := 46) hx hb dX1_mark_41 (by decide) (fun c_4 => ?_) (fun c_4 => ?_)
      · rw [b2i_z] at c_4
        rw [Bool.not_eq_false] at c_4
        refine lv_aload_n hx hb dX1_mark_46 rfl (lv_at hl 1 rfl) ?_
        refine lv_lload_n hx hb dX1_mark_47 rfl (lv_at hl 2 rfl) ?_
        refine lv_lload_n hx hb dX1_mark_48 rfl (lv_at hl 3 rfl) ?_
        refine lv_lload hx hb dX1_mark_49 (lv_at hl 0 rfl) ?_
        refine lv_lor hx hb dX1_mark_51 ?_
        have hPc := hP.sub (ws' := (wPW cL cI q0 qw qr qc qn w tb su mx cf nu)) [0, 1, 2, 3, 4] rfl
        have hDc := hD.sub (ws' := (wPW cL cI q0 qw qr qc qn w tb su mx cf nu)) [0, 1, 2, 3, 4] (by decide) rfl
        have hFc := va_free (wc := (wPW cL cI q0 qw qr qc qn w tb su mx cf nu)) hD hS hA [0, 1, 2, 3, 4] rfl
        refine va_callv (va_runV (As := [.long pl, .long (en ||| 64)]) (rest := []) ⟨hx, hb, hml, hown, hts⟩ (mtX1_put l dC dI cL cI q0 qw qr qc qn w tb su mx cf nu s.heap.size pl (en ||| 64) (hi)) (cwV 2 hts (gAll (mc1 (wa 337 (by decide +kernel) rfl) (mc1 (wa 181 (by decide +kernel) rfl) (mc1 (wa 182 (by decide +kernel) rfl) (mc1 (wa 15 (by decide +kernel) rfl) mc0)))) (wa 183 (by decide +kernel) rfl) (by decide +kernel)) rfl rfl rfl (by decide +kernel) ⟨Nat.le_of_ble_eq_true rfl, Nat.le_of_ble_eq_true rfl⟩) (mu_pre (ci := 1) (q0 := 0) hK hPc hDc rfl rfl) rfl rfl hl.1 rfl (lv_room (Nat.le_of_ble_eq_true rfl)) dX1_mark_52 ⟨Nat.le_of_ble_eq_true rfl, Nat.le_of_ble_eq_true rfl⟩) hS (fun q _ h => hFc q h) hFc (fun u t H1 locs ht hvm hw hB hz1 hk1 hS => ?_)
        obtain ⟨hP1, hK1, hD1⟩ := hB
        rw [ht] at hP1
        obtain ⟨hP, hD⟩ := va_join (wr := []) (w1 := (wPW cL cI q0 qw qr qc qn (vp_updL w (Int32.toNatClampNeg (k_wordIndex pl)) (en ||| 64)) tb su mx cf nu)) hP hD [0, 1, 2, 3, 4] [] rfl rfl (by decide) (by decide) hk1 hFc hP1 hD1
        generalize H1 = H at hP hS ⊢
        have hP : va_P (dC, dI) vwCl [(q0, .inr (1, [.ref qw, .ref qr, .long tb, .int (b2i su), .int (b2i mx)])), (qw, .inl (cL, 8192, .inr (.inl (vp_updL w (Int32.toNatClampNeg (k_wordIndex pl)) (en ||| 64))))), (qr, .inr (0, [.ref qc, .ref qn])), (qc, .inl (cI, 8, .inl cf)), (qn, .inl (cL, 8, .inr (.inl nu)))] H := hP
        have hD : va_D A [(q0, .inr (1, [.ref qw, .ref qr, .long tb, .int (b2i su), .int (b2i mx)])), (qw, .inl (cL, 8192, .inr (.inl (vp_updL w (Int32.toNatClampNeg (k_wordIndex pl)) (en ||| 64))))), (qr, .inr (0, [.ref qc, .ref qn])), (qc, .inl (cI, 8, .inl cf)), (qn, .inl (cL, 8, .inr (.inl nu)))] := hD
        refine lv_iconst (v := 1) hx hb dX1_mark_55 (by decide) ?_
        have w9_0 : (k_mark w cf nu pl en ac).2 = (vp_updL w (Int32.toNatClampNeg (k_wordIndex pl)) (en ||| 64)) := (by first | rfl | (simp only [k_mark, k_marks, b2i, c_1, c_2, c_4, b2i, decide_true, decide_false, Bool.not_true, Bool.not_false, Bool.and_true, Bool.and_false, Bool.true_and, Bool.false_and, Bool.or_true, Bool.or_false, Bool.true_or, Bool.false_or, reduceIte, or_true, true_or, or_false, false_or, and_true, true_and, and_false, false_and, not_true_eq_false, not_false_eq_true, Bool.false_eq_true, eq_self]; done) | (simp [k_mark, k_marks, b2i, c_1, c_2, c_4]; done))
        have hP9 : va_P (dC, dI) vwCl (wPW cL cI q0 qw qr qc qn (k_mark w cf nu pl en ac).2 tb su mx cf nu) H := (by rw [w9_0]; exact hP)
        have hD9 : va_D A (wPW cL cI q0 qw qr qc qn (k_mark w cf nu pl en ac).2 tb su mx cf nu) := (by rw [w9_0]; exact hD)
        exact W.zret (v := 1) hx hb hr rfl (fun t ht hW => ⟨⟨1, (), rfl, (by first | rfl | (simp only [k_mark, k_marks, b2i, c_1, c_2, c_4, b2i, decide_true, decide_false, Bool.not_true, Bool.not_false, Bool.and_true, Bool.and_false, Bool.true_and, Bool.false_and, Bool.or_true, Bool.or_false, Bool.true_or, Bool.false_or, reduceIte, or_true, true_or, or_false, false_or, and_true, true_and, and_false, false_and, not_true_eq_false, not_false_eq_true, Bool.false_eq_true, eq_self]; done) | (simp [k_mark, k_marks, b2i, c_1, c_2, c_4]; done)), (by rw [ht]; exact hP9), va_K.moved hW.alike hK, hD9⟩, hS.F ht⟩) hS.2.2 dX1_mark_56
      · rw [b2i_z] at c_4
        refine lv_iconst (v := 0) hx hb dX1_mark_44 (by decide) ?_
        have w9_0 : (k_mark w cf nu pl en ac).2 = w := (by first | rfl | (simp only [k_mark, k_marks, b2i, c_1, c_2, c_4, b2i, decide_true, decide_false, Bool.not_true, Bool.not_false, Bool.and_true, Bool.and_false, Bool.true_and, Bool.false_and, Bool.or_true, Bool.or_false, Bool.true_or, Bool.false_or, reduceIte, or_true, true_or, or_false, false_or, and_true, true_and, and_false, false_and, not_true_eq_false, not_false_eq_true, Bool.false_eq_true, eq_self]; done) | (simp [k_mark, k_marks, b2i, c_1, c_2, c_4]; done))
        have hP9 : va_P (dC, dI) vwCl (wPW cL cI q0 qw qr qc qn (k_mark w cf nu pl en ac).2 tb su mx cf nu) s.heap := (by rw [w9_0]; exact hP)
        have hD9 : va_D A (wPW cL cI q0 qw qr qc qn (k_mark w cf nu pl en ac).2 tb su mx cf nu) := (by rw [w9_0]; exact hD)
        exact W.zret (v := 0) hx hb hr rfl (fun t ht hW => ⟨⟨0, (), rfl, (by first | rfl | (simp only [k_mark, k_marks, b2i, c_1, c_2, c_4, b2i, decide_true, decide_false, Bool.not_true, Bool.not_false, Bool.and_true, Bool.and_false, Bool.true_and, Bool.false_and, Bool.or_true, Bool.or_false, Bool.true_or, Bool.false_or, reduceIte, or_true, true_or, or_false, false_or, and_true, true_and, and_false, false_and, not_true_eq_false, not_false_eq_true, Bool.false_eq_true, eq_self]; done) | (simp [k_mark, k_marks, b2i, c_1, c_2, c_4]; done)), (by rw [ht]; exact hP9), va_K.moved hW.alike hK, hD9⟩, hS.F ht⟩) hS.2.2 dX1_mark_45
    · rw [lg_cmp_eq] at c_2
      refine lv_iconst (v := 1) hx hb dX1_mark_27 (by decide) ?_
      have w9_0 : (k_mark w cf nu pl en ac).2 = w := (by first | rfl | (simp only [k_mark, k_marks, b2i, c_1, c_2, b2i, decide_true, decide_false, Bool.not_true, Bool.not_false, Bool.and_true, Bool.and_false, Bool.true_and, Bool.false_and, Bool.or_true, Bool.or_false, Bool.true_or, Bool.false_or, reduceIte, or_true, true_or, or_false, false_or, and_true, true_and, and_false, false_and, not_true_eq_false, not_false_eq_true, Bool.false_eq_true, eq_self]; done) | (simp [k_mark, k_marks, b2i, c_1, c_2]; done))
      have hP9 : va_P (dC, dI) vwCl (wPW cL cI q0 qw qr qc qn (k_mark w cf nu pl en ac).2 tb su mx cf nu) s.heap := (by rw [w9_0]; exact hP)
      have hD9 : va_D A (wPW cL cI q0 qw qr qc qn (k_mark w cf nu pl en ac).2 tb su mx cf nu) := (by rw [w9_0]; exact hD)
      exact W.zret (v := 1) hx hb hr rfl (fun t ht hW => ⟨⟨1, (), rfl, (by first | rfl | (simp only [k_mark, k_marks, b2i, c_1, c_2, b2i, decide_true, decide_false, Bool.not_true, Bool.not_false, Bool.and_true, Bool.and_false, Bool.true_and, Bool.false_and, Bool.or_true, Bool.or_false, Bool.true_or, Bool.false_or, reduceIte, or_true, true_or, or_false, false_or, and_true, true_and, and_false, false_and, not_true_eq_false, not_false_eq_true, Bool.false_eq_true, eq_self]; done) | (simp [k_mark, k_marks, b2i, c_1, c_2]; done)), (by rw [ht]; exact hP9), va_K.moved hW.alike hK, hD9⟩, hS.F ht⟩) hS.2.2 dX1_mark_28
  · refine lv_ldc2 (v := 192) hx hb hown (hts (.constantLong RX1 174 192) (wa 335 (by decide +kernel) rfl)) dX1_mark_6 ?_
    refine lv_goto (tgt := 15) hx hb dX1_mark_9 (by decide) ?_
    refine lv_lstore (lv' := [(6, .long 192), (0, .ref q0), (1, .long pl), (3, .long en), (5, .int ac)]) hx hb dX1_mark_15 hl (by decide) rfl (fun ls hl => ?_)
    refine lv_lload_n hx hb dX1_mark_17 rfl (lv_at hl 3 rfl) ?_
    refine lv_lload hx hb dX1_mark_18 (lv_at hl 0 rfl) ?_
    refine lv_land hx hb dX1_mark_20 ?_
    refine lv_lload hx hb dX1_mark_21 (lv_at hl 0 rfl) ?_
    refine W.lcmp hx hb dX1_mark_23 ?_
    refine lv_if_ne (tgt := 29) hx hb dX1_mark_24 (by decide) (fun c_6 => ?_) (fun c_6 => ?_)
    · rw [lg_cmp_eq] at c_6
      refine lv_aload_n hx hb dX1_mark_29 rfl (lv_at hl 1 rfl) ?_
      refine va_get (D := (dC, dI)) (ci := 1) (v := .ref qr) (C := RX1) (T := TX1) (N := 5) hx hb hts iwX1 hown hK hP 0 rfl rfl 1 (by decide) (hts (.fieldLink RX1 16 RX1 "regions" "LPageWalker$Regions;") (wa 47 (by decide +kernel) rfl)) (fun _ h9 => h9) rfl dX1_mark_30 ?_
      refine lv_lload_n hx hb dX1_mark_33 rfl (lv_at hl 2 rfl) ?_
      refine lv_iconst (v := 2) hx hb dX1_mark_34 (by decide) ?_
      refine lv_iconst (v := 1) hx hb dX1_mark_35 (by decide) ?_
      refine lv_bipush (v := 8) hx hb dX1_mark_36 (by decide) ?_
      refine vp_callSi (W.runV (As := [.long pl, .int 2, .int 1, .int 8]) (rest := []) ⟨hx, hb, hml, hown, hts⟩ (mtX0_letThrough l dC dI cL cI qr qc qn cf nu pl 2 1 8 ) (cwV 4 hts (gAll (mc1 (wa 287 (by decide +kernel) rfl) (mc1 (wa 288 (by decide +kernel) rfl) (mc1 (wa 289 (by decide +kernel) rfl) (mc1 (wa 16 (by decide +kernel) rfl) mc0)))) (wa 290 (by decide +kernel) rfl) (by decide +kernel)) rfl rfl rfl (by decide +kernel) ⟨Nat.le_of_ble_eq_true rfl, Nat.le_of_ble_eq_true rfl⟩) (rd_pre (ci := 0) (q0 := 0) hK (hP.sub (ws' := (wRG cL cI qr qc qn cf nu)) [2, 3, 4] rfl) rfl rfl) rfl rfl hl.1 rfl (lv_room (Nat.le_of_ble_eq_true rfl)) dX1_mark_38 ⟨Nat.le_of_ble_eq_true rfl, Nat.le_of_ble_eq_true rfl⟩) (fun r_7 er_7 => ?_)
      have er_7 : r_7 = (b2i (k_let cf nu pl 2 1 8)) := er_7
      subst er_7
      refine lv_if_ne (tgt := 46) hx hb dX1_mark_41 (by decide) (fun c_8 => ?_) (fun c_8 => ?_)
      · rw [b2i_z] at c_8
        rw [Bool.not_eq_false] at c_8
        refine lv_aload_n hx hb dX1_mark_46 rfl (lv_at hl 1 rfl) ?_
        refine lv_lload_n hx hb dX1_mark_47 rfl (lv_at hl 2 rfl) ?_
        refine lv_lload_n hx hb dX1_mark_48 rfl (lv_at hl 3 rfl) ?_
        refine lv_lload hx hb dX1_mark_49 (lv_at hl 0 rfl) ?_
        refine lv_lor hx hb dX1_mark_51 ?_
        have hPc := hP.sub (ws' := (wPW cL cI q0 qw qr qc qn w tb su mx cf nu)) [0, 1, 2, 3, 4] rfl
        have hDc := hD.sub (ws' := (wPW cL cI q0 qw qr qc qn w tb su mx cf nu)) [0, 1, 2, 3, 4] (by decide) rfl
        have hFc := va_free (wc := (wPW cL cI q0 qw qr qc qn w tb su mx cf nu)) hD hS hA [0, 1, 2, 3, 4] rfl
        refine va_callv (va_runV (As := [.long pl, .long (en ||| 192)]) (rest := []) ⟨hx, hb, hml, hown, hts⟩ (mtX1_put l dC dI cL cI q0 qw qr qc qn w tb su mx cf nu s.heap.size pl (en ||| 192) (hi)) (cwV 2 hts (gAll (mc1 (wa 337 (by decide +kernel) rfl) (mc1 (wa 181 (by decide +kernel) rfl) (mc1 (wa 182 (by decide +kernel) rfl) (mc1 (wa 15 (by decide +kernel) rfl) mc0)))) (wa 183 (by decide +kernel) rfl) (by decide +kernel)) rfl rfl rfl (by decide +kernel) ⟨Nat.le_of_ble_eq_true rfl, Nat.le_of_ble_eq_true rfl⟩) (mu_pre (ci := 1) (q0 := 0) hK hPc hDc rfl rfl) rfl rfl hl.1 rfl (lv_room (Nat.le_of_ble_eq_true rfl)) dX1_mark_52 ⟨Nat.le_of_ble_eq_true rfl, Nat.le_of_ble_eq_true rfl⟩) hS (fun q _ h => hFc q h) hFc (fun u t H1 locs ht hvm hw hB hz1 hk1 hS => ?_)
        obtain ⟨hP1, hK1, hD1⟩ := hB
        rw [ht] at hP1
        obtain ⟨hP, hD⟩ := va_join (wr := []) (w1 := (wPW cL cI q0 qw qr qc qn (vp_updL w (Int32.toNatClampNeg (k_wordIndex pl)) (en ||| 192)) tb su mx cf nu)) hP hD [0, 1, 2, 3, 4] [] rfl rfl (by decide) (by decide) hk1 hFc hP1 hD1
        generalize H1 = H at hP hS ⊢
        have hP : va_P (dC, dI) vwCl [(q0, .inr (1, [.ref qw, .ref qr, .long tb, .int (b2i su), .int (b2i mx)])), (qw, .inl (cL, 8192, .inr (.inl (vp_updL w (Int32.toNatClampNeg (k_wordIndex pl)) (en ||| 192))))), (qr, .inr (0, [.ref qc, .ref qn])), (qc, .inl (cI, 8, .inl cf)), (qn, .inl (cL, 8, .inr (.inl nu)))] H := hP
        have hD : va_D A [(q0, .inr (1, [.ref qw, .ref qr, .long tb, .int (b2i su), .int (b2i mx)])), (qw, .inl (cL, 8192, .inr (.inl (vp_updL w (Int32.toNatClampNeg (k_wordIndex pl)) (en ||| 192))))), (qr, .inr (0, [.ref qc, .ref qn])), (qc, .inl (cI, 8, .inl cf)), (qn, .inl (cL, 8, .inr (.inl nu)))] := hD
        refine lv_iconst (v := 1) hx hb dX1_mark_55 (by decide) ?_
        have w9_0 : (k_mark w cf nu pl en ac).2 = (vp_updL w (Int32.toNatClampNeg (k_wordIndex pl)) (en ||| 192)) := (by first | rfl | (simp only [k_mark, k_marks, b2i, c_1, c_6, c_8, b2i, decide_true, decide_false, Bool.not_true, Bool.not_false, Bool.and_true, Bool.and_false, Bool.true_and, Bool.false_and, Bool.or_true, Bool.or_false, Bool.true_or, Bool.false_or, reduceIte, or_true, true_or, or_false, false_or, and_true, true_and, and_false, false_and, not_true_eq_false, not_false_eq_true, Bool.false_eq_true, eq_self]; done) | (simp [k_mark, k_marks, b2i, c_1, c_6, c_8]; done))
        have hP9 : va_P (dC, dI) vwCl (wPW cL cI q0 qw qr qc qn (k_mark w cf nu pl en ac).2 tb su mx cf nu) H := (by rw [w9_0]; exact hP)
        have hD9 : va_D A (wPW cL cI q0 qw qr qc qn (k_mark w cf nu pl en ac).2 tb su mx cf nu) := (by rw [w9_0]; exact hD)
        exact W.zret (v := 1) hx hb hr rfl (fun t ht hW => ⟨⟨1, (), rfl, (by first | rfl | (simp only [k_mark, k_marks, b2i, c_1, c_6, c_8, b2i, decide_true, decide_false, Bool.not_true, Bool.not_false, Bool.and_true, Bool.and_false, Bool.true_and, Bool.false_and, Bool.or_true, Bool.or_false, Bool.true_or, Bool.false_or, reduceIte, or_true, true_or, or_false, false_or, and_true, true_and, and_false, false_and, not_true_eq_false, not_false_eq_true, Bool.false_eq_true, eq_self]; done) | (simp [k_mark, k_marks, b2i, c_1, c_6, c_8]; done)), (by rw [ht]; exact hP9), va_K.moved hW.alike hK, hD9⟩, hS.F ht⟩) hS.2.2 dX1_mark_56
      · rw [b2i_z] at c_8
        refine lv_iconst (v := 0) hx hb dX1_mark_44 (by decide) ?_
        have w9_0 : (k_mark w cf nu pl en ac).2 = w := (by first | rfl | (simp only [k_mark, k_marks, b2i, c_1, c_6, c_8, b2i, decide_true, decide_false, Bool.not_true, Bool.not_false, Bool.and_true, Bool.and_false, Bool.true_and, Bool.false_and, Bool.or_true, Bool.or_false, Bool.true_or, Bool.false_or, reduceIte, or_true, true_or, or_false, false_or, and_true, true_and, and_false, false_and, not_true_eq_false, not_false_eq_true, Bool.false_eq_true, eq_self]; done) | (simp [k_mark, k_marks, b2i, c_1, c_6, c_8]; done))
        have hP9 : va_P (dC, dI) vwCl (wPW cL cI q0 qw qr qc qn (k_mark w cf nu pl en ac).2 tb su mx cf nu) s.heap := (by rw [w9_0]; exact hP)
        have hD9 : va_D A (wPW cL cI q0 qw qr qc qn (k_mark w cf nu pl en ac).2 tb su mx cf nu) := (by rw [w9_0]; exact hD)
        exact W.zret (v := 0) hx hb hr rfl (fun t ht hW => ⟨⟨0, (), rfl, (by first | rfl | (simp only [k_mark, k_marks, b2i, c_1, c_6, c_8, b2i, decide_true, decide_false, Bool.not_true, Bool.not_false, Bool.and_true, Bool.and_false, Bool.true_and, Bool.false_and, Bool.or_true, Bool.or_false, Bool.true_or, Bool.false_or, reduceIte, or_true, true_or, or_false, false_or, and_true, true_and, and_false, false_and, not_true_eq_false, not_false_eq_true, Bool.false_eq_true, eq_self]; done) | (simp [k_mark, k_marks, b2i, c_1, c_6, c_8]; done)), (by rw [ht]; exact hP9), va_K.moved hW.alike hK, hD9⟩, hS.F ht⟩) hS.2.2 dX1_mark_45
    · rw [lg_cmp_eq] at c_6
      refine lv_iconst (v := 1) hx hb dX1_mark_27 (by decide) ?_
      have w9_0 : (k_mark w cf nu pl en ac).2 = w := (by first | rfl | (simp only [k_mark, k_marks, b2i, c_1, c_6, b2i, decide_true, decide_false, Bool.not_true, Bool.not_false, Bool.and_true, Bool.and_false, Bool.true_and, Bool.false_and, Bool.or_true, Bool.or_false, Bool.true_or, Bool.false_or, reduceIte, or_true, true_or, or_false, false_or, and_true, true_and, and_false, false_and, not_true_eq_false, not_false_eq_true, Bool.false_eq_true, eq_self]; done) | (simp [k_mark, k_marks, b2i, c_1, c_6]; done))
      have hP9 : va_P (dC, dI) vwCl (wPW cL cI q0 qw qr qc qn (k_mark w cf nu pl en ac).2 tb su mx cf nu) s.heap := (by rw [w9_0]; exact hP)
      have hD9 : va_D A (wPW cL cI q0 qw qr qc qn (k_mark w cf nu pl en ac).2 tb su mx cf nu) := (by rw [w9_0]; exact hD)
      exact W.zret (v := 1) hx hb hr rfl (fun t ht hW => ⟨⟨1, (), rfl, (by first | rfl | (simp only [k_mark, k_marks, b2i, c_1, c_6, b2i, decide_true, decide_false, Bool.not_true, Bool.not_false, Bool.and_true, Bool.and_false, Bool.true_and, Bool.false_and, Bool.or_true, Bool.or_false, Bool.true_or, Bool.false_or, reduceIte, or_true, true_or, or_false, false_or, and_true, true_and, and_false, false_and, not_true_eq_false, not_false_eq_true, Bool.false_eq_true, eq_self]; done) | (simp [k_mark, k_marks, b2i, c_1, c_6]; done)), (by rw [ht]; exact hP9), va_K.moved hW.alike hK, hD9⟩, hS.F ht⟩) hS.2.2 dX1_mark_28
end
section
set_option maxHeartbeats 4000000 in
set_option maxRecDepth 100000 in
theorem mtX1_walk (l : Launch) (dC : Nat → ClassId) (dI : Nat → Nat → Nat) (cL : ClassId) (cI : ClassId) (q0 : Nat) (qw : Nat) (qr : Nat) (qc : Nat) (qn : Nat) (w : Nat → Int64) (tb : Int64) (su : Bool) (mx : Bool) (cf : Nat → Int32) (nu : Nat → Int64) (hz : Nat) (ad : Int64) (ac : Int32) (md : Int32) (dn : Nat) (hdn : dn ≤ 4) : Met l yX1_walk wsX1_walk ({ frames := 4, cells := 0, slots := 0, locals := 108 }) (va_Pc [.ref q0, .long ad, .int ac, .int md, .int (nI dn)] (fun U => U.heap.size = hz ∧ va_P (dC, dI) vwCl (wPW cL cI q0 qw qr qc qn w tb su mx cf nu) U.heap ∧ va_K (dC, dI) vwCl [(cL, .long), (cI, .int)] U ∧ va_D (fun _ => True) (wPW cL cI q0 qw qr qc qn w tb su mx cf nu))) (va_Ql (fun r (_ : Unit) => r = (k_walkF w su mx cf nu ad ac md dn (tb &&& 17592186044415)).1) (fun _ t => va_P (dC, dI) vwCl (wPW cL cI q0 qw qr qc qn (k_walkF w su mx cf nu ad ac md dn (tb &&& 17592186044415)).2 tb su mx cf nu) t.heap ∧ va_K (dC, dI) vwCl [(cL, .long), (cI, .int)] t ∧ va_D (va_A (wPW cL cI q0 qw qr qc qn w tb su mx cf nu) hz) (wPW cL cI q0 qw qr qc qn (k_walkF w su mx cf nu ad ac md dn (tb &&& 17592186044415)).2 tb su mx cf nu)) (va_A (wPW cL cI q0 qw qr qc qn w tb su mx cf nu) hz)) 0 0 (va_A (wPW cL cI q0 qw qr qc qn w tb su mx cf nu) hz) := by
  refine Met.ofW (cc := cX1_walk) (maxL := 13) (ret := (some .long)) (by decide) rfl ?_
  intro p e s m args below meth c s₁ B hml hv
  obtain ⟨rfl, hsz, hP, hK, hD0⟩ := hv
  have hx := B.exec
  have hb := B.bytes
  have hr := B.returns
  have hts := atoms_spec (ws := wsX1_walk) B.pre
  have hown : s.vm.findClass RX1 = some m.cls := findClass_of_methodNamed B.named
  have hlocks := B.notSynchronized
  subst hsz
  have hD := hD0.self (sz := s.heap.size)
  generalize hAe : va_A (wPW cL cI q0 qw qr qc qn w tb su mx cf nu) s.heap.size = A at hD ⊢
  have hA : ∀ q : Nat, s.heap.size ≤ q → A q := fun q h => by rw [← hAe]; exact Or.inr h
  have hS : va_S A s.heap s.heap [] := va_S.rf
  have hP : va_P (dC, dI) vwCl [(q0, .inr (1, [.ref qw, .ref qr, .long tb, .int (b2i su), .int (b2i mx)])), (qw, .inl (cL, 8192, .inr (.inl w))), (qr, .inr (0, [.ref qc, .ref qn])), (qc, .inl (cI, 8, .inl cf)), (qn, .inl (cL, 8, .inr (.inl nu)))] s.heap := hP
  have hD : va_D A [(q0, .inr (1, [.ref qw, .ref qr, .long tb, .int (b2i su), .int (b2i mx)])), (qw, .inl (cL, 8192, .inr (.inl w))), (qr, .inr (0, [.ref qc, .ref qn])), (qc, .inl (cI, 8, .inl cf)), (qn, .inl (cL, 8, .inr (.inl nu)))] := hD
  have hl := lv_entry ([.ref q0, .long ad, .int ac, .int md, .int (nI dn)]) (n := 13) (Nat.le_of_ble_eq_true rfl)
  rw [lg_entry_eq]
  generalize (lg_sl ([.ref q0, .long ad, .int ac, .int md, .int (nI dn)]) ++ List.replicate (13 - (lg_sl ([.ref q0, .long ad, .int ac, .int md, .int (nI dn)])).length) Slot.unset).toArray = ls at hl ⊢
  have hl : lv_has ls 13 [(0, .ref q0), (1, .long ad), (3, .int ac), (4, .int md), (5, .int (nI dn))] := hl
  have loop : ∀ (n : Nat) (pg : Int64) (ls : Array Slot), n ≤ 4 → k_walkF w su mx cf nu ad ac md n pg = k_walkF w su mx cf nu ad ac md dn (tb &&& 17592186044415) → lv_has ls 13 [(0, .ref q0), (1, .long ad), (3, .int ac), (4, .int md), (6, .long pg), (8, .int (nI n - 1))] → W p l e (headSpec wsX1_walk ({ frames := 4, cells := 0, slots := 0, locals := 108 })).room s m (([.ref q0, .long ad, .int ac, .int md, .int (nI dn)] : List Value).toArray) below meth c s.heap [] 0 0 (MQ below (va_Ql (fun r (_ : Unit) => r = (k_walkF w su mx cf nu ad ac md dn (tb &&& 17592186044415)).1) (fun _ t => va_P (dC, dI) vwCl (wPW cL cI q0 qw qr qc qn (k_walkF w su mx cf nu ad ac md dn (tb &&& 17592186044415)).2 tb su mx cf nu) t.heap ∧ va_K (dC, dI) vwCl [(cL, .long), (cI, .int)] t ∧ va_D A (wPW cL cI q0 qw qr qc qn (k_walkF w su mx cf nu ad ac md dn (tb &&& 17592186044415)).2 tb su mx cf nu)) A) (([.ref q0, .long ad, .int ac, .int md, .int (nI dn)] : List Value).toArray) s 0 0 A) (F0 m 16 ls []) := by
    intro n
    induction n with
    | zero =>
      intro pg ls hn4 hq hl
      refine lv_iload hx hb dX1_walk_16 (lv_at hl 5 rfl) ?_
      refine lv_if_lt (tgt := 150) hx hb dX1_walk_18 (by decide) (fun c_1 => ?_) (fun c_1 => ?_)
      · refine lv_iload_n hx hb dX1_walk_150 rfl (lv_at hl 2 rfl) ?_
        refine vp_callSl (W.runS (As := [.int ac]) (rest := []) ⟨hx, hb, hml, hown, hts⟩ (mtX1_pageFault l ac) (va_cwS 1 hts (gAll (mc1 (wa 269 (by decide +kernel) rfl) (mc1 (wa 270 (by decide +kernel) rfl) (mc1 (wa 15 (by decide +kernel) rfl) mc0))) (wa 271 (by decide +kernel) rfl) (by decide +kernel)) rfl rfl rfl (by decide +kernel) ⟨Nat.le_of_ble_eq_true rfl, Nat.le_of_ble_eq_true rfl⟩) preEq rfl rfl hl.1 rfl (lv_room (Nat.le_of_ble_eq_true rfl)) dX1_walk_151 ⟨Nat.le_of_ble_eq_true rfl, Nat.le_of_ble_eq_true rfl⟩) (fun r_2 er_2 => ?_)
        have er_2 : r_2 = (k_pageFault ac) := er_2
        subst er_2
        have w9_0 : (k_walkF w su mx cf nu ad ac md dn (tb &&& 17592186044415)).2 = w := (by first | rfl | (rw [← hq]; simp only [k_walkF, k_last, c_1, b2i, decide_true, decide_false, Bool.not_true, Bool.not_false, Bool.and_true, Bool.and_false, Bool.true_and, Bool.false_and, Bool.or_true, Bool.or_false, Bool.true_or, Bool.false_or, reduceIte, or_true, true_or, or_false, false_or, and_true, true_and, and_false, false_and, not_true_eq_false, not_false_eq_true, Bool.false_eq_true, eq_self]; done) | (rw [← hq]; simp [k_walkF, k_last, c_1]; done))
        have hP9 : va_P (dC, dI) vwCl (wPW cL cI q0 qw qr qc qn (k_walkF w su mx cf nu ad ac md dn (tb &&& 17592186044415)).2 tb su mx cf nu) s.heap := (by rw [w9_0]; exact hP)
        have hD9 : va_D A (wPW cL cI q0 qw qr qc qn (k_walkF w su mx cf nu ad ac md dn (tb &&& 17592186044415)).2 tb su mx cf nu) := (by rw [w9_0]; exact hD)
        exact W.lret (v := (k_pageFault ac)) hx hb hr (fun t ht hW => ⟨⟨(k_pageFault ac), (), rfl, (by first | rfl | (rw [← hq]; simp only [k_walkF, k_last, c_1, b2i, decide_true, decide_false, Bool.not_true, Bool.not_false, Bool.and_true, Bool.and_false, Bool.true_and, Bool.false_and, Bool.or_true, Bool.or_false, Bool.true_or, Bool.false_or, reduceIte, or_true, true_or, or_false, false_or, and_true, true_and, and_false, false_and, not_true_eq_false, not_false_eq_true, Bool.false_eq_true, eq_self]; done) | (rw [← hq]; simp [k_walkF, k_last, c_1]; done)), (by rw [ht]; exact hP9), va_K.moved hW.alike hK, hD9⟩, hS.F ht⟩) hS.2.2 dX1_walk_154
      · exact absurd (by decide) c_1
    | succ n ih =>
      intro pg ls hn4 hq hl
      rw [nI_pred] at hl
      refine lv_iload hx hb dX1_walk_16 (lv_at hl 5 rfl) ?_
      refine lv_if_lt (tgt := 150) hx hb dX1_walk_18 (by decide) (fun c_3 => ?_) (fun c_3 => ?_)
      · exact absurd c_3 (nI_pos (by omega))
      · refine lv_lload hx hb dX1_walk_21 (lv_at hl 4 rfl) ?_
        refine lv_lload_n hx hb dX1_walk_23 rfl (lv_at hl 1 rfl) ?_
        refine lv_iload hx hb dX1_walk_24 (lv_at hl 5 rfl) ?_
        refine vp_callSl (W.runS (As := [.long pg, .long ad, .int (nI n)]) (rest := []) ⟨hx, hb, hml, hown, hts⟩ (mtX1_entryPlace l pg ad (nI n)) (va_cwS 3 hts (gAll (mc1 (wa 280 (by decide +kernel) rfl) (mc1 (wa 281 (by decide +kernel) rfl) (mc1 (wa 15 (by decide +kernel) rfl) mc0))) (wa 282 (by decide +kernel) rfl) (by decide +kernel)) rfl rfl rfl (by decide +kernel) ⟨Nat.le_of_ble_eq_true rfl, Nat.le_of_ble_eq_true rfl⟩) preEq rfl rfl hl.1 rfl (lv_room (Nat.le_of_ble_eq_true rfl)) dX1_walk_26 ⟨Nat.le_of_ble_eq_true rfl, Nat.le_of_ble_eq_true rfl⟩) (fun r_4 er_4 => ?_)
        have er_4 : r_4 = (k_entryPlace pg ad (nI n)) := er_4
        subst er_4
        refine lv_lstore (lv' := [(9, .long (k_entryPlace pg ad (nI n))), (0, .ref q0), (1, .long ad), (3, .int ac), (4, .int md), (6, .long pg), (8, .int (nI n))]) hx hb dX1_walk_29 hl (by decide) rfl (fun ls hl => ?_)
        refine lv_lload hx hb dX1_walk_31 (lv_at hl 0 rfl) ?_
        refine vp_callSi (W.runS (As := [.long (k_entryPlace pg ad (nI n))]) (rest := []) ⟨hx, hb, hml, hown, hts⟩ (mtX1_wordIndex l (k_entryPlace pg ad (nI n))) (va_cwS 1 hts (gAll (mc1 (wa 104 (by decide +kernel) rfl) (mc1 (wa 105 (by decide +kernel) rfl) (mc1 (wa 15 (by decide +kernel) rfl) mc0))) (wa 106 (by decide +kernel) rfl) (by decide +kernel)) rfl rfl rfl (by decide +kernel) ⟨Nat.le_of_ble_eq_true rfl, Nat.le_of_ble_eq_true rfl⟩) preEq rfl rfl hl.1 rfl (lv_room (Nat.le_of_ble_eq_true rfl)) dX1_walk_33 ⟨Nat.le_of_ble_eq_true rfl, Nat.le_of_ble_eq_true rfl⟩) (fun r_5 er_5 => ?_)
        have er_5 : r_5 = (k_wordIndex (k_entryPlace pg ad (nI n))) := er_5
        subst er_5
        refine lv_iconst (v := (-1)) hx hb dX1_walk_36 (by decide) ?_
        refine lv_icmp_eq (tgt := 56) hx hb dX1_walk_37 (by decide) (fun c_6 => ?_) (fun c_6 => ?_)
        · refine lv_iload_n hx hb dX1_walk_56 rfl (lv_at hl 3 rfl) ?_
          refine vp_callSl (W.runS (As := [.int ac]) (rest := []) ⟨hx, hb, hml, hown, hts⟩ (mtX1_accessFault l ac) (va_cwS 1 hts (gAll (mc1 (wa 263 (by decide +kernel) rfl) (mc1 (wa 264 (by decide +kernel) rfl) (mc1 (wa 15 (by decide +kernel) rfl) mc0))) (wa 265 (by decide +kernel) rfl) (by decide +kernel)) rfl rfl rfl (by decide +kernel) ⟨Nat.le_of_ble_eq_true rfl, Nat.le_of_ble_eq_true rfl⟩) preEq rfl rfl hl.1 rfl (lv_room (Nat.le_of_ble_eq_true rfl)) dX1_walk_57 ⟨Nat.le_of_ble_eq_true rfl, Nat.le_of_ble_eq_true rfl⟩) (fun r_7 er_7 => ?_)
          have er_7 : r_7 = (k_accessFault ac) := er_7
          subst er_7
          have w9_0 : (k_walkF w su mx cf nu ad ac md dn (tb &&& 17592186044415)).2 = w := (by first | rfl | (rw [← hq]; simp only [k_walkF, k_last, c_3, c_6, b2i, decide_true, decide_false, Bool.not_true, Bool.not_false, Bool.and_true, Bool.and_false, Bool.true_and, Bool.false_and, Bool.or_true, Bool.or_false, Bool.true_or, Bool.false_or, reduceIte, or_true, true_or, or_false, false_or, and_true, true_and, and_false, false_and, not_true_eq_false, not_false_eq_true, Bool.false_eq_true, eq_self]; done) | (rw [← hq]; simp [k_walkF, k_last, c_3, c_6]; done))
          have hP9 : va_P (dC, dI) vwCl (wPW cL cI q0 qw qr qc qn (k_walkF w su mx cf nu ad ac md dn (tb &&& 17592186044415)).2 tb su mx cf nu) s.heap := (by rw [w9_0]; exact hP)
          have hD9 : va_D A (wPW cL cI q0 qw qr qc qn (k_walkF w su mx cf nu ad ac md dn (tb &&& 17592186044415)).2 tb su mx cf nu) := (by rw [w9_0]; exact hD)
          exact W.lret (v := (k_accessFault ac)) hx hb hr (fun t ht hW => ⟨⟨(k_accessFault ac), (), rfl, (by first | rfl | (rw [← hq]; simp only [k_walkF, k_last, c_3, c_6, b2i, decide_true, decide_false, Bool.not_true, Bool.not_false, Bool.and_true, Bool.and_false, Bool.true_and, Bool.false_and, Bool.or_true, Bool.or_false, Bool.true_or, Bool.false_or, reduceIte, or_true, true_or, or_false, false_or, and_true, true_and, and_false, false_and, not_true_eq_false, not_false_eq_true, Bool.false_eq_true, eq_self]; done) | (rw [← hq]; simp [k_walkF, k_last, c_3, c_6]; done)), (by rw [ht]; exact hP9), va_K.moved hW.alike hK, hD9⟩, hS.F ht⟩) hS.2.2 dX1_walk_60
        · refine lv_aload_n hx hb dX1_walk_40 rfl (lv_at hl 1 rfl) ?_
          refine va_get (D := (dC, dI)) (ci := 1) (v := .ref qr) (C := RX1) (T := TX1) (N := 5) hx hb hts iwX1 hown hK hP 0 rfl rfl 1 (by decide) (hts (.fieldLink RX1 16 RX1 "regions" "LPageWalker$Regions;") (wa 47 (by decide +kernel) rfl)) (fun _ h9 => h9) rfl dX1_walk_41 ?_
          refine lv_lload hx hb dX1_walk_44 (lv_at hl 0 rfl) ?_
          refine lv_iconst (v := 1) hx hb dX1_walk_46 (by decide) ?_
          refine lv_iconst (v := 1) hx hb dX1_walk_47 (by decide) ?_
          refine lv_bipush (v := 8) hx hb dX1_walk_48 (by decide) ?_
          refine vp_callSi (W.runV (As := [.long (k_entryPlace pg ad (nI n)), .int 1, .int 1, .int 8]) (rest := []) ⟨hx, hb, hml, hown, hts⟩ (mtX0_letThrough l dC dI cL cI qr qc qn cf nu (k_entryPlace pg ad (nI n)) 1 1 8 ) (cwV 4 hts (gAll (mc1 (wa 287 (by decide +kernel) rfl) (mc1 (wa 288 (by decide +kernel) rfl) (mc1 (wa 289 (by decide +kernel) rfl) (mc1 (wa 16 (by decide +kernel) rfl) mc0)))) (wa 290 (by decide +kernel) rfl) (by decide +kernel)) rfl rfl rfl (by decide +kernel) ⟨Nat.le_of_ble_eq_true rfl, Nat.le_of_ble_eq_true rfl⟩) (rd_pre (ci := 0) (q0 := 0) hK (hP.sub (ws' := (wRG cL cI qr qc qn cf nu)) [2, 3, 4] rfl) rfl rfl) rfl rfl hl.1 rfl (lv_room (Nat.le_of_ble_eq_true rfl)) dX1_walk_50 ⟨Nat.le_of_ble_eq_true rfl, Nat.le_of_ble_eq_true rfl⟩) (fun r_8 er_8 => ?_)
          have er_8 : r_8 = (b2i (k_let cf nu (k_entryPlace pg ad (nI n)) 1 1 8)) := er_8
          subst er_8
          refine lv_if_ne (tgt := 61) hx hb dX1_walk_53 (by decide) (fun c_9 => ?_) (fun c_9 => ?_)
          · rw [b2i_z] at c_9
            rw [Bool.not_eq_false] at c_9
            refine lv_aload_n hx hb dX1_walk_61 rfl (lv_at hl 1 rfl) ?_
            refine lv_lload hx hb dX1_walk_62 (lv_at hl 0 rfl) ?_
            refine vp_callSl (W.runV (As := [.long (k_entryPlace pg ad (nI n))]) (rest := []) ⟨hx, hb, hml, hown, hts⟩ (mtX1_word l dC dI cL cI q0 qw qr qc qn w tb su mx cf nu (k_entryPlace pg ad (nI n)) (c_6)) (cwV 1 hts (gAll (mc1 (wa 301 (by decide +kernel) rfl) (mc1 (wa 101 (by decide +kernel) rfl) (mc1 (wa 102 (by decide +kernel) rfl) (mc1 (wa 15 (by decide +kernel) rfl) mc0)))) (wa 103 (by decide +kernel) rfl) (by decide +kernel)) rfl rfl rfl (by decide +kernel) ⟨Nat.le_of_ble_eq_true rfl, Nat.le_of_ble_eq_true rfl⟩) (rd_pre (ci := 1) (q0 := 0) hK hP rfl rfl) rfl rfl hl.1 rfl (lv_room (Nat.le_of_ble_eq_true rfl)) dX1_walk_64 ⟨Nat.le_of_ble_eq_true rfl, Nat.le_of_ble_eq_true rfl⟩) (fun r_10 er_10 => ?_)
            have er_10 : r_10 = (k_at w (k_entryPlace pg ad (nI n))) := er_10
            subst er_10
            refine lv_lstore (lv' := [(11, .long (k_at w (k_entryPlace pg ad (nI n)))), (9, .long (k_entryPlace pg ad (nI n))), (0, .ref q0), (1, .long ad), (3, .int ac), (4, .int md), (6, .long pg), (8, .int (nI n))]) hx hb dX1_walk_67 hl (by decide) rfl (fun ls hl => ?_)
            refine lv_lload hx hb dX1_walk_69 (lv_at hl 0 rfl) ?_
            refine vp_callSi (W.runS (As := [.long (k_at w (k_entryPlace pg ad (nI n)))]) (rest := []) ⟨hx, hb, hml, hown, hts⟩ (mtX1_isMalformed l (k_at w (k_entryPlace pg ad (nI n)))) (va_cwS 1 hts (gAll (mc1 (wa 302 (by decide +kernel) rfl) (mc1 (wa 303 (by decide +kernel) rfl) (mc1 (wa 15 (by decide +kernel) rfl) mc0))) (wa 304 (by decide +kernel) rfl) (by decide +kernel)) rfl rfl rfl (by decide +kernel) ⟨Nat.le_of_ble_eq_true rfl, Nat.le_of_ble_eq_true rfl⟩) preEq rfl rfl hl.1 rfl (lv_room (Nat.le_of_ble_eq_true rfl)) dX1_walk_71 ⟨Nat.le_of_ble_eq_true rfl, Nat.le_of_ble_eq_true rfl⟩) (fun r_11 er_11 => ?_)
            have er_11 : r_11 = (b2i (k_isMalformed (k_at w (k_entryPlace pg ad (nI n))))) := er_11
            subst er_11
            refine lv_if_eq (tgt := 82) hx hb dX1_walk_74 (by decide) (fun c_12 => ?_) (fun c_12 => ?_)
            · rw [b2i_z] at c_12
              refine lv_lload hx hb dX1_walk_82 (lv_at hl 0 rfl) ?_
              refine vp_callSi (W.runS (As := [.long (k_at w (k_entryPlace pg ad (nI n)))]) (rest := []) ⟨hx, hb, hml, hown, hts⟩ (mtX1_isLast l (k_at w (k_entryPlace pg ad (nI n)))) (va_cwS 1 hts (gAll (mc1 (wa 310 (by decide +kernel) rfl) (mc1 (wa 311 (by decide +kernel) rfl) (mc1 (wa 15 (by decide +kernel) rfl) mc0))) (wa 312 (by decide +kernel) rfl) (by decide +kernel)) rfl rfl rfl (by decide +kernel) ⟨Nat.le_of_ble_eq_true rfl, Nat.le_of_ble_eq_true rfl⟩) preEq rfl rfl hl.1 rfl (lv_room (Nat.le_of_ble_eq_true rfl)) dX1_walk_84 ⟨Nat.le_of_ble_eq_true rfl, Nat.le_of_ble_eq_true rfl⟩) (fun r_13 er_13 => ?_)
              have er_13 : r_13 = (b2i (k_isLast (k_at w (k_entryPlace pg ad (nI n))))) := er_13
              subst er_13
              refine lv_if_eq (tgt := 137) hx hb dX1_walk_87 (by decide) (fun c_14 => ?_) (fun c_14 => ?_)
              · rw [b2i_z] at c_14
                refine lv_lload hx hb dX1_walk_137 (lv_at hl 0 rfl) ?_
                refine vp_callSl (W.runS (As := [.long (k_at w (k_entryPlace pg ad (nI n)))]) (rest := []) ⟨hx, hb, hml, hown, hts⟩ (mtX1_pageNumber l (k_at w (k_entryPlace pg ad (nI n)))) (va_cwS 1 hts (gAll (mc1 (wa 319 (by decide +kernel) rfl) (mc1 (wa 320 (by decide +kernel) rfl) (mc1 (wa 15 (by decide +kernel) rfl) mc0))) (wa 321 (by decide +kernel) rfl) (by decide +kernel)) rfl rfl rfl (by decide +kernel) ⟨Nat.le_of_ble_eq_true rfl, Nat.le_of_ble_eq_true rfl⟩) preEq rfl rfl hl.1 rfl (lv_room (Nat.le_of_ble_eq_true rfl)) dX1_walk_139 ⟨Nat.le_of_ble_eq_true rfl, Nat.le_of_ble_eq_true rfl⟩) (fun r_15 er_15 => ?_)
                have er_15 : r_15 = (k_pageNumber (k_at w (k_entryPlace pg ad (nI n)))) := er_15
                subst er_15
                refine lv_lstore (lv' := [(6, .long (k_pageNumber (k_at w (k_entryPlace pg ad (nI n))))), (11, .long (k_at w (k_entryPlace pg ad (nI n)))), (9, .long (k_entryPlace pg ad (nI n))), (0, .ref q0), (1, .long ad), (3, .int ac), (4, .int md), (8, .int (nI n))]) hx hb dX1_walk_142 hl (by decide) rfl (fun ls hl => ?_)
                refine lv_iinc (v := ((nI n) + (-1))) (lv' := [(8, .int ((nI n) + (-1))), (6, .long (k_pageNumber (k_at w (k_entryPlace pg ad (nI n))))), (11, .long (k_at w (k_entryPlace pg ad (nI n)))), (9, .long (k_entryPlace pg ad (nI n))), (0, .ref q0), (1, .long ad), (3, .int ac), (4, .int md)]) hx hb dX1_walk_144 hl (k := 7) rfl rfl (by decide) rfl (fun ls hl => ?_)
                refine lv_goto (tgt := 16) hx hb dX1_walk_147 (by decide) ?_
                rw [show nI n + (-1) = nI n - 1 from (Int32.sub_eq_add_neg ..).symm] at hl
                exact ih _ ls (by omega) (by rw [← hq]; simp [k_walkF, c_3, c_6, c_9, c_12, c_14]) (lv_sub hl [4, 5, 6, 7, 1, 0] rfl)
              · rw [b2i_z] at c_14
                rw [Bool.not_eq_false] at c_14
                refine lv_aload_n hx hb dX1_walk_90 rfl (lv_at hl 2 rfl) ?_
                refine lv_lload hx hb dX1_walk_91 (lv_at hl 0 rfl) ?_
                refine lv_iload_n hx hb dX1_walk_93 rfl (lv_at hl 4 rfl) ?_
                refine lv_iload hx hb dX1_walk_94 (lv_at hl 5 rfl) ?_
                refine lv_iload hx hb dX1_walk_96 (lv_at hl 7 rfl) ?_
                refine vp_callSi (W.runV (As := [.long (k_at w (k_entryPlace pg ad (nI n))), .int ac, .int md, .int (nI n)]) (rest := []) ⟨hx, hb, hml, hown, hts⟩ (mtX1_grants l dC dI cL cI q0 qw qr qc qn w tb su mx cf nu (k_at w (k_entryPlace pg ad (nI n))) ac md (nI n) ) (cwV 4 hts (gAll (mc1 (wa 315 (by decide +kernel) rfl) (mc1 (wa 317 (by decide +kernel) rfl) (mc1 (wa 3 (by decide +kernel) rfl) (mc1 (wa 15 (by decide +kernel) rfl) mc0)))) (wa 318 (by decide +kernel) rfl) (by decide +kernel)) rfl rfl rfl (by decide +kernel) ⟨Nat.le_of_ble_eq_true rfl, Nat.le_of_ble_eq_true rfl⟩) (rd_pre (ci := 1) (q0 := 0) hK hP rfl rfl) rfl rfl hl.1 rfl (lv_room (Nat.le_of_ble_eq_true rfl)) dX1_walk_98 ⟨Nat.le_of_ble_eq_true rfl, Nat.le_of_ble_eq_true rfl⟩) (fun r_16 er_16 => ?_)
                have er_16 : r_16 = (b2i (k_grants su mx (k_at w (k_entryPlace pg ad (nI n))) ac md (nI n))) := er_16
                subst er_16
                refine lv_if_ne (tgt := 109) hx hb dX1_walk_101 (by decide) (fun c_17 => ?_) (fun c_17 => ?_)
                · rw [b2i_z] at c_17
                  rw [Bool.not_eq_false] at c_17
                  refine lv_aload_n hx hb dX1_walk_109 rfl (lv_at hl 2 rfl) ?_
                  refine lv_lload hx hb dX1_walk_110 (lv_at hl 1 rfl) ?_
                  refine lv_lload hx hb dX1_walk_112 (lv_at hl 0 rfl) ?_
                  refine lv_iload_n hx hb dX1_walk_114 rfl (lv_at hl 4 rfl) ?_
                  have hPc := hP.sub (ws' := (wPW cL cI q0 qw qr qc qn w tb su mx cf nu)) [0, 1, 2, 3, 4] rfl
                  have hDc := hD.sub (ws' := (wPW cL cI q0 qw qr qc qn w tb su mx cf nu)) [0, 1, 2, 3, 4] (by decide) rfl
                  have hFc := va_free (wc := (wPW cL cI q0 qw qr qc qn w tb su mx cf nu)) hD hS hA [0, 1, 2, 3, 4] rfl
                  refine va_calli (va_runV (As := [.long (k_entryPlace pg ad (nI n)), .long (k_at w (k_entryPlace pg ad (nI n))), .int ac]) (rest := []) ⟨hx, hb, hml, hown, hts⟩ (mtX1_mark l dC dI cL cI q0 qw qr qc qn w tb su mx cf nu s.heap.size (k_entryPlace pg ad (nI n)) (k_at w (k_entryPlace pg ad (nI n))) ac (c_6)) (cwV 3 hts (gAll (mc1 (wa 331 (by decide +kernel) rfl) (mc1 (wa 333 (by decide +kernel) rfl) (mc1 (wa 6 (by decide +kernel) rfl) (mc1 (wa 15 (by decide +kernel) rfl) mc0)))) (wa 334 (by decide +kernel) rfl) (by decide +kernel)) rfl rfl rfl (by decide +kernel) ⟨Nat.le_of_ble_eq_true rfl, Nat.le_of_ble_eq_true rfl⟩) (mu_pre (ci := 1) (q0 := 0) hK hPc hDc rfl rfl) rfl rfl hl.1 rfl (lv_room (Nat.le_of_ble_eq_true rfl)) dX1_walk_115 ⟨Nat.le_of_ble_eq_true rfl, Nat.le_of_ble_eq_true rfl⟩) hS (fun q _ h => hFc q h) hFc (fun r_18 u t H1 locs ht hvm hw hB hz1 hk1 hS => ?_)
                  obtain ⟨hP1, hK1, hD1⟩ := hB
                  rw [ht] at hP1
                  obtain ⟨hP, hD⟩ := va_join (wr := []) (w1 := (wPW cL cI q0 qw qr qc qn (k_mark w cf nu (k_entryPlace pg ad (nI n)) (k_at w (k_entryPlace pg ad (nI n))) ac).2 tb su mx cf nu)) hP hD [0, 1, 2, 3, 4] [] rfl rfl (by decide) (by decide) hk1 hFc hP1 hD1
                  generalize H1 = H at hP hS ⊢
                  have hP : va_P (dC, dI) vwCl [(q0, .inr (1, [.ref qw, .ref qr, .long tb, .int (b2i su), .int (b2i mx)])), (qw, .inl (cL, 8192, .inr (.inl (k_mark w cf nu (k_entryPlace pg ad (nI n)) (k_at w (k_entryPlace pg ad (nI n))) ac).2))), (qr, .inr (0, [.ref qc, .ref qn])), (qc, .inl (cI, 8, .inl cf)), (qn, .inl (cL, 8, .inr (.inl nu)))] H := hP
                  have hD : va_D A [(q0, .inr (1, [.ref qw, .ref qr, .long tb, .int (b2i su), .int (b2i mx)])), (qw, .inl (cL, 8192, .inr (.inl (k_mark w cf nu (k_entryPlace pg ad (nI n)) (k_at w (k_entryPlace pg ad (nI n))) ac).2))), (qr, .inr (0, [.ref qc, .ref qn])), (qc, .inl (cI, 8, .inl cf)), (qn, .inl (cL, 8, .inr (.inl nu)))] := hD
                  have er_18 : r_18 = (b2i (k_mark w cf nu (k_entryPlace pg ad (nI n)) (k_at w (k_entryPlace pg ad (nI n))) ac).1) := hw
                  subst er_18
                  refine lv_if_eq (tgt := 132) hx hb dX1_walk_118 (by decide) (fun c_19 => ?_) (fun c_19 => ?_)
                  · rw [b2i_z] at c_19
                    refine lv_iload_n hx hb dX1_walk_132 rfl (lv_at hl 4 rfl) ?_
                    refine vp_callSl (W.runS (As := [.int ac]) (rest := []) ⟨hx, hb, hml, hown, hts⟩ (mtX1_accessFault l ac) (va_cwS 1 hts (gAll (mc1 (wa 263 (by decide +kernel) rfl) (mc1 (wa 264 (by decide +kernel) rfl) (mc1 (wa 15 (by decide +kernel) rfl) mc0))) (wa 265 (by decide +kernel) rfl) (by decide +kernel)) rfl rfl rfl (by decide +kernel) ⟨Nat.le_of_ble_eq_true rfl, Nat.le_of_ble_eq_true rfl⟩) preEq rfl rfl hl.1 rfl (lv_room (Nat.le_of_ble_eq_true rfl)) dX1_walk_133 ⟨Nat.le_of_ble_eq_true rfl, Nat.le_of_ble_eq_true rfl⟩) (fun r_20 er_20 => ?_)
                    have er_20 : r_20 = (k_accessFault ac) := er_20
                    subst er_20
                    have w9_0 : (k_walkF w su mx cf nu ad ac md dn (tb &&& 17592186044415)).2 = (k_mark w cf nu (k_entryPlace pg ad (nI n)) (k_at w (k_entryPlace pg ad (nI n))) ac).2 := (by first | rfl | (rw [← hq]; simp only [k_walkF, k_last, c_3, c_6, c_9, c_12, c_14, c_17, c_19, b2i, decide_true, decide_false, Bool.not_true, Bool.not_false, Bool.and_true, Bool.and_false, Bool.true_and, Bool.false_and, Bool.or_true, Bool.or_false, Bool.true_or, Bool.false_or, reduceIte, or_true, true_or, or_false, false_or, and_true, true_and, and_false, false_and, not_true_eq_false, not_false_eq_true, Bool.false_eq_true, eq_self]; done) | (rw [← hq]; simp [k_walkF, k_last, c_3, c_6, c_9, c_12, c_14, c_17, c_19]; done))
                    have hP9 : va_P (dC, dI) vwCl (wPW cL cI q0 qw qr qc qn (k_walkF w su mx cf nu ad ac md dn (tb &&& 17592186044415)).2 tb su mx cf nu) H := (by rw [w9_0]; exact hP)
                    have hD9 : va_D A (wPW cL cI q0 qw qr qc qn (k_walkF w su mx cf nu ad ac md dn (tb &&& 17592186044415)).2 tb su mx cf nu) := (by rw [w9_0]; exact hD)
                    exact W.lret (v := (k_accessFault ac)) hx hb hr (fun t ht hW => ⟨⟨(k_accessFault ac), (), rfl, (by first | rfl | (rw [← hq]; simp only [k_walkF, k_last, c_3, c_6, c_9, c_12, c_14, c_17, c_19, b2i, decide_true, decide_false, Bool.not_true, Bool.not_false, Bool.and_true, Bool.and_false, Bool.true_and, Bool.false_and, Bool.or_true, Bool.or_false, Bool.true_or, Bool.false_or, reduceIte, or_true, true_or, or_false, false_or, and_true, true_and, and_false, false_and, not_true_eq_false, not_false_eq_true, Bool.false_eq_true, eq_self]; done) | (rw [← hq]; simp [k_walkF, k_last, c_3, c_6, c_9, c_12, c_14, c_17, c_19]; done)), (by rw [ht]; exact hP9), va_K.moved hW.alike hK, hD9⟩, hS.F ht⟩) hS.2.2 dX1_walk_136
                  · rw [b2i_z] at c_19
                    rw [Bool.not_eq_false] at c_19
                    refine lv_lload hx hb dX1_walk_121 (lv_at hl 0 rfl) ?_
                    refine lv_lload_n hx hb dX1_walk_123 rfl (lv_at hl 3 rfl) ?_
                    refine lv_iload hx hb dX1_walk_124 (lv_at hl 7 rfl) ?_
                    refine vp_callSl (W.runS (As := [.long (k_at w (k_entryPlace pg ad (nI n))), .long ad, .int (nI n)]) (rest := []) ⟨hx, hb, hml, hown, hts⟩ (mtX1_target l (k_at w (k_entryPlace pg ad (nI n))) ad (nI n)) (va_cwS 3 hts (gAll (mc1 (wa 338 (by decide +kernel) rfl) (mc1 (wa 339 (by decide +kernel) rfl) (mc1 (wa 15 (by decide +kernel) rfl) mc0))) (wa 340 (by decide +kernel) rfl) (by decide +kernel)) rfl rfl rfl (by decide +kernel) ⟨Nat.le_of_ble_eq_true rfl, Nat.le_of_ble_eq_true rfl⟩) preEq rfl rfl hl.1 rfl (lv_room (Nat.le_of_ble_eq_true rfl)) dX1_walk_126 ⟨Nat.le_of_ble_eq_true rfl, Nat.le_of_ble_eq_true rfl⟩) (fun r_21 er_21 => ?_)
                    have er_21 : r_21 = (k_target (k_at w (k_entryPlace pg ad (nI n))) ad (nI n)) := er_21
                    subst er_21
                    refine lv_goto (tgt := 136) hx hb dX1_walk_129 (by decide) ?_
                    have w9_0 : (k_walkF w su mx cf nu ad ac md dn (tb &&& 17592186044415)).2 = (k_mark w cf nu (k_entryPlace pg ad (nI n)) (k_at w (k_entryPlace pg ad (nI n))) ac).2 := (by first | rfl | (rw [← hq]; simp only [k_walkF, k_last, c_3, c_6, c_9, c_12, c_14, c_17, c_19, b2i, decide_true, decide_false, Bool.not_true, Bool.not_false, Bool.and_true, Bool.and_false, Bool.true_and, Bool.false_and, Bool.or_true, Bool.or_false, Bool.true_or, Bool.false_or, reduceIte, or_true, true_or, or_false, false_or, and_true, true_and, and_false, false_and, not_true_eq_false, not_false_eq_true, Bool.false_eq_true, eq_self]; done) | (rw [← hq]; simp [k_walkF, k_last, c_3, c_6, c_9, c_12, c_14, c_17, c_19]; done))
                    have hP9 : va_P (dC, dI) vwCl (wPW cL cI q0 qw qr qc qn (k_walkF w su mx cf nu ad ac md dn (tb &&& 17592186044415)).2 tb su mx cf nu) H := (by rw [w9_0]; exact hP)
                    have hD9 : va_D A (wPW cL cI q0 qw qr qc qn (k_walkF w su mx cf nu ad ac md dn (tb &&& 17592186044415)).2 tb su mx cf nu) := (by rw [w9_0]; exact hD)
                    exact W.lret (v := (k_target (k_at w (k_entryPlace pg ad (nI n))) ad (nI n))) hx hb hr (fun t ht hW => ⟨⟨(k_target (k_at w (k_entryPlace pg ad (nI n))) ad (nI n)), (), rfl, (by first | rfl | (rw [← hq]; simp only [k_walkF, k_last, c_3, c_6, c_9, c_12, c_14, c_17, c_19, b2i, decide_true, decide_false, Bool.not_true, Bool.not_false, Bool.and_true, Bool.and_false, Bool.true_and, Bool.false_and, Bool.or_true, Bool.or_false, Bool.true_or, Bool.false_or, reduceIte, or_true, true_or, or_false, false_or, and_true, true_and, and_false, false_and, not_true_eq_false, not_false_eq_true, Bool.false_eq_true, eq_self]; done) | (rw [← hq]; simp [k_walkF, k_last, c_3, c_6, c_9, c_12, c_14, c_17, c_19]; done)), (by rw [ht]; exact hP9), va_K.moved hW.alike hK, hD9⟩, hS.F ht⟩) hS.2.2 dX1_walk_136
                · rw [b2i_z] at c_17
                  refine lv_iload_n hx hb dX1_walk_104 rfl (lv_at hl 4 rfl) ?_
                  refine vp_callSl (W.runS (As := [.int ac]) (rest := []) ⟨hx, hb, hml, hown, hts⟩ (mtX1_pageFault l ac) (va_cwS 1 hts (gAll (mc1 (wa 269 (by decide +kernel) rfl) (mc1 (wa 270 (by decide +kernel) rfl) (mc1 (wa 15 (by decide +kernel) rfl) mc0))) (wa 271 (by decide +kernel) rfl) (by decide +kernel)) rfl rfl rfl (by decide +kernel) ⟨Nat.le_of_ble_eq_true rfl, Nat.le_of_ble_eq_true rfl⟩) preEq rfl rfl hl.1 rfl (lv_room (Nat.le_of_ble_eq_true rfl)) dX1_walk_105 ⟨Nat.le_of_ble_eq_true rfl, Nat.le_of_ble_eq_true rfl⟩) (fun r_22 er_22 => ?_)
                  have er_22 : r_22 = (k_pageFault ac) := er_22
                  subst er_22
                  have w9_0 : (k_walkF w su mx cf nu ad ac md dn (tb &&& 17592186044415)).2 = w := (by first | rfl | (rw [← hq]; simp only [k_walkF, k_last, c_3, c_6, c_9, c_12, c_14, c_17, b2i, decide_true, decide_false, Bool.not_true, Bool.not_false, Bool.and_true, Bool.and_false, Bool.true_and, Bool.false_and, Bool.or_true, Bool.or_false, Bool.true_or, Bool.false_or, reduceIte, or_true, true_or, or_false, false_or, and_true, true_and, and_false, false_and, not_true_eq_false, not_false_eq_true, Bool.false_eq_true, eq_self]; done) | (rw [← hq]; simp [k_walkF, k_last, c_3, c_6, c_9, c_12, c_14, c_17]; done))
                  have hP9 : va_P (dC, dI) vwCl (wPW cL cI q0 qw qr qc qn (k_walkF w su mx cf nu ad ac md dn (tb &&& 17592186044415)).2 tb su mx cf nu) s.heap := (by rw [w9_0]; exact hP)
                  have hD9 : va_D A (wPW cL cI q0 qw qr qc qn (k_walkF w su mx cf nu ad ac md dn (tb &&& 17592186044415)).2 tb su mx cf nu) := (by rw [w9_0]; exact hD)
                  exact W.lret (v := (k_pageFault ac)) hx hb hr (fun t ht hW => ⟨⟨(k_pageFault ac), (), rfl, (by first | rfl | (rw [← hq]; simp only [k_walkF, k_last, c_3, c_6, c_9, c_12, c_14, c_17, b2i, decide_true, decide_false, Bool.not_true, Bool.not_false, Bool.and_true, Bool.and_false, Bool.true_and, Bool.false_and, Bool.or_true, Bool.or_false, Bool.true_or, Bool.false_or, reduceIte, or_true, true_or, or_false, false_or, and_true, true_and, and_false, false_and, not_true_eq_false, not_false_eq_true, Bool.false_eq_true, eq_self]; done) | (rw [← hq]; simp [k_walkF, k_last, c_3, c_6, c_9, c_12, c_14, c_17]; done)), (by rw [ht]; exact hP9), va_K.moved hW.alike hK, hD9⟩, hS.F ht⟩) hS.2.2 dX1_walk_108
            · rw [b2i_z] at c_12
              rw [Bool.not_eq_false] at c_12
              refine lv_iload_n hx hb dX1_walk_77 rfl (lv_at hl 4 rfl) ?_
              refine vp_callSl (W.runS (As := [.int ac]) (rest := []) ⟨hx, hb, hml, hown, hts⟩ (mtX1_pageFault l ac) (va_cwS 1 hts (gAll (mc1 (wa 269 (by decide +kernel) rfl) (mc1 (wa 270 (by decide +kernel) rfl) (mc1 (wa 15 (by decide +kernel) rfl) mc0))) (wa 271 (by decide +kernel) rfl) (by decide +kernel)) rfl rfl rfl (by decide +kernel) ⟨Nat.le_of_ble_eq_true rfl, Nat.le_of_ble_eq_true rfl⟩) preEq rfl rfl hl.1 rfl (lv_room (Nat.le_of_ble_eq_true rfl)) dX1_walk_78 ⟨Nat.le_of_ble_eq_true rfl, Nat.le_of_ble_eq_true rfl⟩) (fun r_23 er_23 => ?_)
              have er_23 : r_23 = (k_pageFault ac) := er_23
              subst er_23
              have w9_0 : (k_walkF w su mx cf nu ad ac md dn (tb &&& 17592186044415)).2 = w := (by first | rfl | (rw [← hq]; simp only [k_walkF, k_last, c_3, c_6, c_9, c_12, b2i, decide_true, decide_false, Bool.not_true, Bool.not_false, Bool.and_true, Bool.and_false, Bool.true_and, Bool.false_and, Bool.or_true, Bool.or_false, Bool.true_or, Bool.false_or, reduceIte, or_true, true_or, or_false, false_or, and_true, true_and, and_false, false_and, not_true_eq_false, not_false_eq_true, Bool.false_eq_true, eq_self]; done) | (rw [← hq]; simp [k_walkF, k_last, c_3, c_6, c_9, c_12]; done))
              have hP9 : va_P (dC, dI) vwCl (wPW cL cI q0 qw qr qc qn (k_walkF w su mx cf nu ad ac md dn (tb &&& 17592186044415)).2 tb su mx cf nu) s.heap := (by rw [w9_0]; exact hP)
              have hD9 : va_D A (wPW cL cI q0 qw qr qc qn (k_walkF w su mx cf nu ad ac md dn (tb &&& 17592186044415)).2 tb su mx cf nu) := (by rw [w9_0]; exact hD)
              exact W.lret (v := (k_pageFault ac)) hx hb hr (fun t ht hW => ⟨⟨(k_pageFault ac), (), rfl, (by first | rfl | (rw [← hq]; simp only [k_walkF, k_last, c_3, c_6, c_9, c_12, b2i, decide_true, decide_false, Bool.not_true, Bool.not_false, Bool.and_true, Bool.and_false, Bool.true_and, Bool.false_and, Bool.or_true, Bool.or_false, Bool.true_or, Bool.false_or, reduceIte, or_true, true_or, or_false, false_or, and_true, true_and, and_false, false_and, not_true_eq_false, not_false_eq_true, Bool.false_eq_true, eq_self]; done) | (rw [← hq]; simp [k_walkF, k_last, c_3, c_6, c_9, c_12]; done)), (by rw [ht]; exact hP9), va_K.moved hW.alike hK, hD9⟩, hS.F ht⟩) hS.2.2 dX1_walk_81
          · rw [b2i_z] at c_9
            refine lv_iload_n hx hb dX1_walk_56 rfl (lv_at hl 3 rfl) ?_
            refine vp_callSl (W.runS (As := [.int ac]) (rest := []) ⟨hx, hb, hml, hown, hts⟩ (mtX1_accessFault l ac) (va_cwS 1 hts (gAll (mc1 (wa 263 (by decide +kernel) rfl) (mc1 (wa 264 (by decide +kernel) rfl) (mc1 (wa 15 (by decide +kernel) rfl) mc0))) (wa 265 (by decide +kernel) rfl) (by decide +kernel)) rfl rfl rfl (by decide +kernel) ⟨Nat.le_of_ble_eq_true rfl, Nat.le_of_ble_eq_true rfl⟩) preEq rfl rfl hl.1 rfl (lv_room (Nat.le_of_ble_eq_true rfl)) dX1_walk_57 ⟨Nat.le_of_ble_eq_true rfl, Nat.le_of_ble_eq_true rfl⟩) (fun r_24 er_24 => ?_)
            have er_24 : r_24 = (k_accessFault ac) := er_24
            subst er_24
            have w9_0 : (k_walkF w su mx cf nu ad ac md dn (tb &&& 17592186044415)).2 = w := (by first | rfl | (rw [← hq]; simp only [k_walkF, k_last, c_3, c_6, c_9, b2i, decide_true, decide_false, Bool.not_true, Bool.not_false, Bool.and_true, Bool.and_false, Bool.true_and, Bool.false_and, Bool.or_true, Bool.or_false, Bool.true_or, Bool.false_or, reduceIte, or_true, true_or, or_false, false_or, and_true, true_and, and_false, false_and, not_true_eq_false, not_false_eq_true, Bool.false_eq_true, eq_self]; done) | (rw [← hq]; simp [k_walkF, k_last, c_3, c_6, c_9]; done))
            have hP9 : va_P (dC, dI) vwCl (wPW cL cI q0 qw qr qc qn (k_walkF w su mx cf nu ad ac md dn (tb &&& 17592186044415)).2 tb su mx cf nu) s.heap := (by rw [w9_0]; exact hP)
            have hD9 : va_D A (wPW cL cI q0 qw qr qc qn (k_walkF w su mx cf nu ad ac md dn (tb &&& 17592186044415)).2 tb su mx cf nu) := (by rw [w9_0]; exact hD)
            exact W.lret (v := (k_accessFault ac)) hx hb hr (fun t ht hW => ⟨⟨(k_accessFault ac), (), rfl, (by first | rfl | (rw [← hq]; simp only [k_walkF, k_last, c_3, c_6, c_9, b2i, decide_true, decide_false, Bool.not_true, Bool.not_false, Bool.and_true, Bool.and_false, Bool.true_and, Bool.false_and, Bool.or_true, Bool.or_false, Bool.true_or, Bool.false_or, reduceIte, or_true, true_or, or_false, false_or, and_true, true_and, and_false, false_and, not_true_eq_false, not_false_eq_true, Bool.false_eq_true, eq_self]; done) | (rw [← hq]; simp [k_walkF, k_last, c_3, c_6, c_9]; done)), (by rw [ht]; exact hP9), va_K.moved hW.alike hK, hD9⟩, hS.F ht⟩) hS.2.2 dX1_walk_60
  refine lv_aload_n hx hb dX1_walk_0 rfl (lv_at hl 0 rfl) ?_
  refine va_get (D := (dC, dI)) (ci := 1) (v := .long tb) (C := RX1) (T := TX1) (N := 5) hx hb hts iwX1 hown hK hP 0 rfl rfl 2 (by decide) (hts (.fieldLink RX1 20 RX1 "table" "J") (wa 48 (by decide +kernel) rfl)) (fun _ h9 => h9) rfl dX1_walk_1 ?_
  refine lv_ldc2 (v := 17592186044415) hx hb hown (hts (.constantLong RX1 117 17592186044415) (wa 279 (by decide +kernel) rfl)) dX1_walk_4 ?_
  refine lv_land hx hb dX1_walk_7 ?_
  refine lv_lstore (lv' := [(6, .long (tb &&& 17592186044415)), (0, .ref q0), (1, .long ad), (3, .int ac), (4, .int md), (5, .int (nI dn))]) hx hb dX1_walk_8 hl (by decide) rfl (fun ls hl => ?_)
  refine lv_iload hx hb dX1_walk_10 (lv_at hl 5 rfl) ?_
  refine lv_iconst (v := 1) hx hb dX1_walk_12 (by decide) ?_
  refine lv_isub hx hb dX1_walk_13 ?_
  refine lv_istore (lv' := [(8, .int ((nI dn) - 1)), (6, .long (tb &&& 17592186044415)), (0, .ref q0), (1, .long ad), (3, .int ac), (4, .int md), (5, .int (nI dn))]) hx hb dX1_walk_14 hl (by decide) rfl (fun ls hl => ?_)
  exact loop dn _ ls hdn rfl (lv_sub hl [2, 3, 4, 5, 1, 0] rfl)
set_option maxHeartbeats 4000000 in
set_option maxRecDepth 100000 in
theorem mtX1_translate (l : Launch) (dC : Nat → ClassId) (dI : Nat → Nat → Nat) (cL : ClassId) (cI : ClassId) (q0 : Nat) (qw : Nat) (qr : Nat) (qc : Nat) (qn : Nat) (w : Nat → Int64) (tb : Int64) (su : Bool) (mx : Bool) (cf : Nat → Int32) (nu : Nat → Int64) (hz : Nat) (ad : Int64) (ac : Int32) (md : Int32)  : Met l yX1_translate wsX1_translate ({ frames := 5, cells := 0, slots := 0, locals := 140 }) (va_Pc [.ref q0, .long ad, .int ac, .int md] (fun U => U.heap.size = hz ∧ va_P (dC, dI) vwCl (wPW cL cI q0 qw qr qc qn w tb su mx cf nu) U.heap ∧ va_K (dC, dI) vwCl [(cL, .long), (cI, .int)] U ∧ va_D (fun _ => True) (wPW cL cI q0 qw qr qc qn w tb su mx cf nu))) (va_Ql (fun r (_ : Unit) => r = (k_translate w tb su mx cf nu ad ac md).1) (fun _ t => va_P (dC, dI) vwCl (wPW cL cI q0 qw qr qc qn (k_translate w tb su mx cf nu ad ac md).2 tb su mx cf nu) t.heap ∧ va_K (dC, dI) vwCl [(cL, .long), (cI, .int)] t ∧ va_D (va_A (wPW cL cI q0 qw qr qc qn w tb su mx cf nu) hz) (wPW cL cI q0 qw qr qc qn (k_translate w tb su mx cf nu ad ac md).2 tb su mx cf nu)) (va_A (wPW cL cI q0 qw qr qc qn w tb su mx cf nu) hz)) 0 0 (va_A (wPW cL cI q0 qw qr qc qn w tb su mx cf nu) hz) := by
  refine Met.ofW (cc := cX1_translate) (maxL := 9) (ret := (some .long)) (by decide) rfl ?_
  intro p e s m args below meth c s₁ B hml hv
  obtain ⟨rfl, hsz, hP, hK, hD0⟩ := hv
  have hx := B.exec
  have hb := B.bytes
  have hr := B.returns
  have hts := atoms_spec (ws := wsX1_translate) B.pre
  have hown : s.vm.findClass RX1 = some m.cls := findClass_of_methodNamed B.named
  have hlocks := B.notSynchronized
  subst hsz
  have hD := hD0.self (sz := s.heap.size)
  generalize hAe : va_A (wPW cL cI q0 qw qr qc qn w tb su mx cf nu) s.heap.size = A at hD ⊢
  have hA : ∀ q : Nat, s.heap.size ≤ q → A q := fun q h => by rw [← hAe]; exact Or.inr h
  have hS : va_S A s.heap s.heap [] := va_S.rf
  have hP : va_P (dC, dI) vwCl [(q0, .inr (1, [.ref qw, .ref qr, .long tb, .int (b2i su), .int (b2i mx)])), (qw, .inl (cL, 8192, .inr (.inl w))), (qr, .inr (0, [.ref qc, .ref qn])), (qc, .inl (cI, 8, .inl cf)), (qn, .inl (cL, 8, .inr (.inl nu)))] s.heap := hP
  have hD : va_D A [(q0, .inr (1, [.ref qw, .ref qr, .long tb, .int (b2i su), .int (b2i mx)])), (qw, .inl (cL, 8192, .inr (.inl w))), (qr, .inr (0, [.ref qc, .ref qn])), (qc, .inl (cI, 8, .inl cf)), (qn, .inl (cL, 8, .inr (.inl nu)))] := hD
  have hl := lv_entry ([.ref q0, .long ad, .int ac, .int md]) (n := 9) (Nat.le_of_ble_eq_true rfl)
  rw [lg_entry_eq]
  generalize (lg_sl ([.ref q0, .long ad, .int ac, .int md]) ++ List.replicate (9 - (lg_sl ([.ref q0, .long ad, .int ac, .int md])).length) Slot.unset).toArray = ls at hl ⊢
  have hl : lv_has ls 9 [(0, .ref q0), (1, .long ad), (3, .int ac), (4, .int md)] := hl
  refine lv_aload_n hx hb dX1_translate_0 rfl (lv_at hl 0 rfl) ?_
  refine va_get (D := (dC, dI)) (ci := 1) (v := .long tb) (C := RX1) (T := TX1) (N := 5) hx hb hts iwX1 hown hK hP 0 rfl rfl 2 (by decide) (hts (.fieldLink RX1 20 RX1 "table" "J") (wa 48 (by decide +kernel) rfl)) (fun _ h9 => h9) rfl dX1_translate_1 ?_
  refine vp_callSi (W.runS (As := [.long tb]) (rest := []) ⟨hx, hb, hml, hown, hts⟩ (mtX1_sortOf l tb) (va_cwS 1 hts (gAll (mc1 (wa 192 (by decide +kernel) rfl) (mc1 (wa 193 (by decide +kernel) rfl) (mc1 (wa 15 (by decide +kernel) rfl) mc0))) (wa 194 (by decide +kernel) rfl) (by decide +kernel)) rfl rfl rfl (by decide +kernel) ⟨Nat.le_of_ble_eq_true rfl, Nat.le_of_ble_eq_true rfl⟩) preEq rfl rfl hl.1 rfl (lv_room (Nat.le_of_ble_eq_true rfl)) dX1_translate_4 ⟨Nat.le_of_ble_eq_true rfl, Nat.le_of_ble_eq_true rfl⟩) (fun r_1 er_1 => ?_)
  have er_1 : r_1 = (k_sortOf tb) := er_1
  subst er_1
  refine lv_istore (lv' := [(5, .int (k_sortOf tb)), (0, .ref q0), (1, .long ad), (3, .int ac), (4, .int md)]) hx hb dX1_translate_7 hl (by decide) rfl (fun ls hl => ?_)
  refine lv_iload hx hb dX1_translate_9 (lv_at hl 4 rfl) ?_
  refine lv_iconst (v := 3) hx hb dX1_translate_11 (by decide) ?_
  refine lv_icmp_eq (tgt := 20) hx hb dX1_translate_12 (by decide) (fun c_2 => ?_) (fun c_2 => ?_)
  · refine lv_lload_n hx hb dX1_translate_20 rfl (lv_at hl 2 rfl) ?_
    refine vp_callSi (W.runS (As := [.long ad]) (rest := []) ⟨hx, hb, hml, hown, hts⟩ (mtX1_isPhysical l ad) (va_cwS 1 hts (gAll (mc1 (wa 260 (by decide +kernel) rfl) (mc1 (wa 261 (by decide +kernel) rfl) (mc1 (wa 15 (by decide +kernel) rfl) mc0))) (wa 262 (by decide +kernel) rfl) (by decide +kernel)) rfl rfl rfl (by decide +kernel) ⟨Nat.le_of_ble_eq_true rfl, Nat.le_of_ble_eq_true rfl⟩) preEq rfl rfl hl.1 rfl (lv_room (Nat.le_of_ble_eq_true rfl)) dX1_translate_21 ⟨Nat.le_of_ble_eq_true rfl, Nat.le_of_ble_eq_true rfl⟩) (fun r_3 er_3 => ?_)
    have er_3 : r_3 = (b2i (k_isPhysical ad)) := er_3
    subst er_3
    refine lv_if_eq (tgt := 31) hx hb dX1_translate_24 (by decide) (fun c_4 => ?_) (fun c_4 => ?_)
    · rw [b2i_z] at c_4
      refine lv_iload_n hx hb dX1_translate_31 rfl (lv_at hl 3 rfl) ?_
      refine vp_callSl (W.runS (As := [.int ac]) (rest := []) ⟨hx, hb, hml, hown, hts⟩ (mtX1_accessFault l ac) (va_cwS 1 hts (gAll (mc1 (wa 263 (by decide +kernel) rfl) (mc1 (wa 264 (by decide +kernel) rfl) (mc1 (wa 15 (by decide +kernel) rfl) mc0))) (wa 265 (by decide +kernel) rfl) (by decide +kernel)) rfl rfl rfl (by decide +kernel) ⟨Nat.le_of_ble_eq_true rfl, Nat.le_of_ble_eq_true rfl⟩) preEq rfl rfl hl.1 rfl (lv_room (Nat.le_of_ble_eq_true rfl)) dX1_translate_32 ⟨Nat.le_of_ble_eq_true rfl, Nat.le_of_ble_eq_true rfl⟩) (fun r_5 er_5 => ?_)
      have er_5 : r_5 = (k_accessFault ac) := er_5
      subst er_5
      have w9_0 : (k_translate w tb su mx cf nu ad ac md).2 = w := (by first | rfl | (simp only [k_translate, c_2, c_4, b2i, decide_true, decide_false, Bool.not_true, Bool.not_false, Bool.and_true, Bool.and_false, Bool.true_and, Bool.false_and, Bool.or_true, Bool.or_false, Bool.true_or, Bool.false_or, reduceIte, or_true, true_or, or_false, false_or, and_true, true_and, and_false, false_and, not_true_eq_false, not_false_eq_true, Bool.false_eq_true, eq_self]; done) | (simp [k_translate, c_2, c_4]; done))
      have hP9 : va_P (dC, dI) vwCl (wPW cL cI q0 qw qr qc qn (k_translate w tb su mx cf nu ad ac md).2 tb su mx cf nu) s.heap := (by rw [w9_0]; exact hP)
      have hD9 : va_D A (wPW cL cI q0 qw qr qc qn (k_translate w tb su mx cf nu ad ac md).2 tb su mx cf nu) := (by rw [w9_0]; exact hD)
      exact W.lret (v := (k_accessFault ac)) hx hb hr (fun t ht hW => ⟨⟨(k_accessFault ac), (), rfl, (by first | rfl | (simp only [k_translate, c_2, c_4, b2i, decide_true, decide_false, Bool.not_true, Bool.not_false, Bool.and_true, Bool.and_false, Bool.true_and, Bool.false_and, Bool.or_true, Bool.or_false, Bool.true_or, Bool.false_or, reduceIte, or_true, true_or, or_false, false_or, and_true, true_and, and_false, false_and, not_true_eq_false, not_false_eq_true, Bool.false_eq_true, eq_self]; done) | (simp [k_translate, c_2, c_4]; done)), (by rw [ht]; exact hP9), va_K.moved hW.alike hK, hD9⟩, hS.F ht⟩) hS.2.2 dX1_translate_35
    · rw [b2i_z] at c_4
      rw [Bool.not_eq_false] at c_4
      refine lv_lload_n hx hb dX1_translate_27 rfl (lv_at hl 2 rfl) ?_
      refine lv_goto (tgt := 35) hx hb dX1_translate_28 (by decide) ?_
      have w9_0 : (k_translate w tb su mx cf nu ad ac md).2 = w := (by first | rfl | (simp only [k_translate, c_2, c_4, b2i, decide_true, decide_false, Bool.not_true, Bool.not_false, Bool.and_true, Bool.and_false, Bool.true_and, Bool.false_and, Bool.or_true, Bool.or_false, Bool.true_or, Bool.false_or, reduceIte, or_true, true_or, or_false, false_or, and_true, true_and, and_false, false_and, not_true_eq_false, not_false_eq_true, Bool.false_eq_true, eq_self]; done) | (simp [k_translate, c_2, c_4]; done))
      have hP9 : va_P (dC, dI) vwCl (wPW cL cI q0 qw qr qc qn (k_translate w tb su mx cf nu ad ac md).2 tb su mx cf nu) s.heap := (by rw [w9_0]; exact hP)
      have hD9 : va_D A (wPW cL cI q0 qw qr qc qn (k_translate w tb su mx cf nu ad ac md).2 tb su mx cf nu) := (by rw [w9_0]; exact hD)
      exact W.lret (v := ad) hx hb hr (fun t ht hW => ⟨⟨ad, (), rfl, (by first | rfl | (simp only [k_translate, c_2, c_4, b2i, decide_true, decide_false, Bool.not_true, Bool.not_false, Bool.and_true, Bool.and_false, Bool.true_and, Bool.false_and, Bool.or_true, Bool.or_false, Bool.true_or, Bool.false_or, reduceIte, or_true, true_or, or_false, false_or, and_true, true_and, and_false, false_and, not_true_eq_false, not_false_eq_true, Bool.false_eq_true, eq_self]; done) | (simp [k_translate, c_2, c_4]; done)), (by rw [ht]; exact hP9), va_K.moved hW.alike hK, hD9⟩, hS.F ht⟩) hS.2.2 dX1_translate_35
  · refine lv_iload hx hb dX1_translate_15 (lv_at hl 0 rfl) ?_
    refine lv_if_ne (tgt := 36) hx hb dX1_translate_17 (by decide) (fun c_6 => ?_) (fun c_6 => ?_)
    · refine lv_iload hx hb dX1_translate_36 (lv_at hl 0 rfl) ?_
      refine lv_bipush (v := 8) hx hb dX1_translate_38 (by decide) ?_
      refine lv_icmp_ne (tgt := 47) hx hb dX1_translate_40 (by decide) (fun c_7 => ?_) (fun c_7 => ?_)
      · refine lv_iconst (v := 4) hx hb dX1_translate_47 (by decide) ?_
        refine lv_istore (lv' := [(6, .int 4), (5, .int (k_sortOf tb)), (0, .ref q0), (1, .long ad), (3, .int ac), (4, .int md)]) hx hb dX1_translate_48 hl (by decide) rfl (fun ls hl => ?_)
        refine lv_lload_n hx hb dX1_translate_50 rfl (lv_at hl 3 rfl) ?_
        refine lv_bipush (v := 12) hx hb dX1_translate_51 (by decide) ?_
        refine lv_bipush (v := 9) hx hb dX1_translate_53 (by decide) ?_
        refine lv_iload hx hb dX1_translate_55 (lv_at hl 0 rfl) ?_
        refine lv_imul hx hb dX1_translate_57 ?_
        refine lv_iadd hx hb dX1_translate_58 ?_
        refine lv_iconst (v := 1) hx hb dX1_translate_59 (by decide) ?_
        refine lv_isub hx hb dX1_translate_60 ?_
        refine lv_lshr (v := (k_shr ad ((12 + (9 * 4)) - 1))) hx hb dX1_translate_61 rfl ?_
        refine lv_topl (fun x7 e_x7 => ?_)
        refine lv_lstore (lv' := [(7, .long x7), (6, .int 4), (5, .int (k_sortOf tb)), (0, .ref q0), (1, .long ad), (3, .int ac), (4, .int md)]) hx hb dX1_translate_62 hl (by decide) rfl (fun ls hl => ?_)
        have hd : k_depths tb = 4 := by simp [k_depths, c_2, c_6, c_7]
        have hx7 : k_above ad (nI 4) = x7 := e_x7.symm
        refine lv_lload hx hb dX1_translate_64 (lv_at hl 0 rfl) ?_
        refine lv_lconst (v := 0) hx hb dX1_translate_66 (by decide) ?_
        refine W.lcmp hx hb dX1_translate_67 ?_
        refine lv_if_eq (tgt := 85) hx hb dX1_translate_68 (by decide) (fun c_8 => ?_) (fun c_8 => ?_)
        · rw [lg_cmp_eq] at c_8
          refine lv_aload_n hx hb dX1_translate_85 rfl (lv_at hl 3 rfl) ?_
          refine lv_lload_n hx hb dX1_translate_86 rfl (lv_at hl 4 rfl) ?_
          refine lv_iload_n hx hb dX1_translate_87 rfl (lv_at hl 5 rfl) ?_
          refine lv_iload hx hb dX1_translate_88 (lv_at hl 6 rfl) ?_
          refine lv_iload hx hb dX1_translate_90 (lv_at hl 1 rfl) ?_
          have hPc := hP.sub (ws' := (wPW cL cI q0 qw qr qc qn w tb su mx cf nu)) [0, 1, 2, 3, 4] rfl
          have hDc := hD.sub (ws' := (wPW cL cI q0 qw qr qc qn w tb su mx cf nu)) [0, 1, 2, 3, 4] (by decide) rfl
          have hFc := va_free (wc := (wPW cL cI q0 qw qr qc qn w tb su mx cf nu)) hD hS hA [0, 1, 2, 3, 4] rfl
          refine va_calll (va_runV (As := [.long ad, .int ac, .int md, .int 4]) (rest := []) ⟨hx, hb, hml, hown, hts⟩ (mtX1_walk l dC dI cL cI q0 qw qr qc qn w tb su mx cf nu s.heap.size ad ac md 4 (by decide)) (cwV 4 hts (gAll (mc1 (wa 275 (by decide +kernel) rfl) (mc1 (wa 277 (by decide +kernel) rfl) (mc1 (wa 2 (by decide +kernel) rfl) (mc1 (wa 15 (by decide +kernel) rfl) mc0)))) (wa 278 (by decide +kernel) rfl) (by decide +kernel)) rfl rfl rfl (by decide +kernel) ⟨Nat.le_of_ble_eq_true rfl, Nat.le_of_ble_eq_true rfl⟩) (mu_pre (ci := 1) (q0 := 0) hK hPc hDc rfl rfl) rfl rfl hl.1 rfl (lv_room (Nat.le_of_ble_eq_true rfl)) dX1_translate_92 ⟨Nat.le_of_ble_eq_true rfl, Nat.le_of_ble_eq_true rfl⟩) hS (fun q _ h => hFc q h) hFc (fun r_9 u t H1 locs ht hvm hw hB hz1 hk1 hS => ?_)
          obtain ⟨hP1, hK1, hD1⟩ := hB
          rw [ht] at hP1
          obtain ⟨hP, hD⟩ := va_join (wr := []) (w1 := (wPW cL cI q0 qw qr qc qn (k_walkF w su mx cf nu ad ac md 4 (tb &&& 17592186044415)).2 tb su mx cf nu)) hP hD [0, 1, 2, 3, 4] [] rfl rfl (by decide) (by decide) hk1 hFc hP1 hD1
          generalize H1 = H at hP hS ⊢
          have hP : va_P (dC, dI) vwCl [(q0, .inr (1, [.ref qw, .ref qr, .long tb, .int (b2i su), .int (b2i mx)])), (qw, .inl (cL, 8192, .inr (.inl (k_walkF w su mx cf nu ad ac md 4 (tb &&& 17592186044415)).2))), (qr, .inr (0, [.ref qc, .ref qn])), (qc, .inl (cI, 8, .inl cf)), (qn, .inl (cL, 8, .inr (.inl nu)))] H := hP
          have hD : va_D A [(q0, .inr (1, [.ref qw, .ref qr, .long tb, .int (b2i su), .int (b2i mx)])), (qw, .inl (cL, 8192, .inr (.inl (k_walkF w su mx cf nu ad ac md 4 (tb &&& 17592186044415)).2))), (qr, .inr (0, [.ref qc, .ref qn])), (qc, .inl (cI, 8, .inl cf)), (qn, .inl (cL, 8, .inr (.inl nu)))] := hD
          have er_9 : r_9 = (k_walkF w su mx cf nu ad ac md 4 (tb &&& 17592186044415)).1 := hw
          subst er_9
          have w9_0 : (k_translate w tb su mx cf nu ad ac md).2 = (k_walkF w su mx cf nu ad ac md 4 (tb &&& 17592186044415)).2 := (by first | rfl | (simp only [k_translate, c_2, c_6, c_7, hd, hx7, c_8, b2i, decide_true, decide_false, Bool.not_true, Bool.not_false, Bool.and_true, Bool.and_false, Bool.true_and, Bool.false_and, Bool.or_true, Bool.or_false, Bool.true_or, Bool.false_or, reduceIte, or_true, true_or, or_false, false_or, and_true, true_and, and_false, false_and, not_true_eq_false, not_false_eq_true, Bool.false_eq_true, eq_self]; done) | (simp [k_translate, c_2, c_6, c_7, hd, hx7, c_8]; done))
          have hP9 : va_P (dC, dI) vwCl (wPW cL cI q0 qw qr qc qn (k_translate w tb su mx cf nu ad ac md).2 tb su mx cf nu) H := (by rw [w9_0]; exact hP)
          have hD9 : va_D A (wPW cL cI q0 qw qr qc qn (k_translate w tb su mx cf nu ad ac md).2 tb su mx cf nu) := (by rw [w9_0]; exact hD)
          exact W.lret (v := (k_walkF w su mx cf nu ad ac md 4 (tb &&& 17592186044415)).1) hx hb hr (fun t ht hW => ⟨⟨(k_walkF w su mx cf nu ad ac md 4 (tb &&& 17592186044415)).1, (), rfl, (by first | rfl | (simp only [k_translate, c_2, c_6, c_7, hd, hx7, c_8, b2i, decide_true, decide_false, Bool.not_true, Bool.not_false, Bool.and_true, Bool.and_false, Bool.true_and, Bool.false_and, Bool.or_true, Bool.or_false, Bool.true_or, Bool.false_or, reduceIte, or_true, true_or, or_false, false_or, and_true, true_and, and_false, false_and, not_true_eq_false, not_false_eq_true, Bool.false_eq_true, eq_self]; done) | (simp [k_translate, c_2, c_6, c_7, hd, hx7, c_8]; done)), (by rw [ht]; exact hP9), va_K.moved hW.alike hK, hD9⟩, hS.F ht⟩) hS.2.2 dX1_translate_95
        · rw [lg_cmp_eq] at c_8
          refine lv_lload hx hb dX1_translate_71 (lv_at hl 0 rfl) ?_
          refine lv_ldc2 (v := (-1)) hx hb hown (hts (.constantLong RX1 92 (-1)) (wa 266 (by decide +kernel) rfl)) dX1_translate_73 ?_
          refine W.lcmp hx hb dX1_translate_76 ?_
          refine lv_if_eq (tgt := 85) hx hb dX1_translate_77 (by decide) (fun c_10 => ?_) (fun c_10 => ?_)
          · rw [lg_cmp_eq] at c_10
            refine lv_aload_n hx hb dX1_translate_85 rfl (lv_at hl 3 rfl) ?_
            refine lv_lload_n hx hb dX1_translate_86 rfl (lv_at hl 4 rfl) ?_
            refine lv_iload_n hx hb dX1_translate_87 rfl (lv_at hl 5 rfl) ?_
            refine lv_iload hx hb dX1_translate_88 (lv_at hl 6 rfl) ?_
            refine lv_iload hx hb dX1_translate_90 (lv_at hl 1 rfl) ?_
            have hPc := hP.sub (ws' := (wPW cL cI q0 qw qr qc qn w tb su mx cf nu)) [0, 1, 2, 3, 4] rfl
            have hDc := hD.sub (ws' := (wPW cL cI q0 qw qr qc qn w tb su mx cf nu)) [0, 1, 2, 3, 4] (by decide) rfl
            have hFc := va_free (wc := (wPW cL cI q0 qw qr qc qn w tb su mx cf nu)) hD hS hA [0, 1, 2, 3, 4] rfl
            refine va_calll (va_runV (As := [.long ad, .int ac, .int md, .int 4]) (rest := []) ⟨hx, hb, hml, hown, hts⟩ (mtX1_walk l dC dI cL cI q0 qw qr qc qn w tb su mx cf nu s.heap.size ad ac md 4 (by decide)) (cwV 4 hts (gAll (mc1 (wa 275 (by decide +kernel) rfl) (mc1 (wa 277 (by decide +kernel) rfl) (mc1 (wa 2 (by decide +kernel) rfl) (mc1 (wa 15 (by decide +kernel) rfl) mc0)))) (wa 278 (by decide +kernel) rfl) (by decide +kernel)) rfl rfl rfl (by decide +kernel) ⟨Nat.le_of_ble_eq_true rfl, Nat.le_of_ble_eq_true rfl⟩) (mu_pre (ci := 1) (q0 := 0) hK hPc hDc rfl rfl) rfl rfl hl.1 rfl (lv_room (Nat.le_of_ble_eq_true rfl)) dX1_translate_92 ⟨Nat.le_of_ble_eq_true rfl, Nat.le_of_ble_eq_true rfl⟩) hS (fun q _ h => hFc q h) hFc (fun r_11 u t H1 locs ht hvm hw hB hz1 hk1 hS => ?_)
            obtain ⟨hP1, hK1, hD1⟩ := hB
            rw [ht] at hP1
            obtain ⟨hP, hD⟩ := va_join (wr := []) (w1 := (wPW cL cI q0 qw qr qc qn (k_walkF w su mx cf nu ad ac md 4 (tb &&& 17592186044415)).2 tb su mx cf nu)) hP hD [0, 1, 2, 3, 4] [] rfl rfl (by decide) (by decide) hk1 hFc hP1 hD1
            generalize H1 = H at hP hS ⊢
            have hP : va_P (dC, dI) vwCl [(q0, .inr (1, [.ref qw, .ref qr, .long tb, .int (b2i su), .int (b2i mx)])), (qw, .inl (cL, 8192, .inr (.inl (k_walkF w su mx cf nu ad ac md 4 (tb &&& 17592186044415)).2))), (qr, .inr (0, [.ref qc, .ref qn])), (qc, .inl (cI, 8, .inl cf)), (qn, .inl (cL, 8, .inr (.inl nu)))] H := hP
            have hD : va_D A [(q0, .inr (1, [.ref qw, .ref qr, .long tb, .int (b2i su), .int (b2i mx)])), (qw, .inl (cL, 8192, .inr (.inl (k_walkF w su mx cf nu ad ac md 4 (tb &&& 17592186044415)).2))), (qr, .inr (0, [.ref qc, .ref qn])), (qc, .inl (cI, 8, .inl cf)), (qn, .inl (cL, 8, .inr (.inl nu)))] := hD
            have er_11 : r_11 = (k_walkF w su mx cf nu ad ac md 4 (tb &&& 17592186044415)).1 := hw
            subst er_11
            have w9_0 : (k_translate w tb su mx cf nu ad ac md).2 = (k_walkF w su mx cf nu ad ac md 4 (tb &&& 17592186044415)).2 := (by first | rfl | (simp only [k_translate, c_2, c_6, c_7, hd, hx7, c_8, c_10, b2i, decide_true, decide_false, Bool.not_true, Bool.not_false, Bool.and_true, Bool.and_false, Bool.true_and, Bool.false_and, Bool.or_true, Bool.or_false, Bool.true_or, Bool.false_or, reduceIte, or_true, true_or, or_false, false_or, and_true, true_and, and_false, false_and, not_true_eq_false, not_false_eq_true, Bool.false_eq_true, eq_self]; done) | (simp [k_translate, c_2, c_6, c_7, hd, hx7, c_8, c_10]; done))
            have hP9 : va_P (dC, dI) vwCl (wPW cL cI q0 qw qr qc qn (k_translate w tb su mx cf nu ad ac md).2 tb su mx cf nu) H := (by rw [w9_0]; exact hP)
            have hD9 : va_D A (wPW cL cI q0 qw qr qc qn (k_translate w tb su mx cf nu ad ac md).2 tb su mx cf nu) := (by rw [w9_0]; exact hD)
            exact W.lret (v := (k_walkF w su mx cf nu ad ac md 4 (tb &&& 17592186044415)).1) hx hb hr (fun t ht hW => ⟨⟨(k_walkF w su mx cf nu ad ac md 4 (tb &&& 17592186044415)).1, (), rfl, (by first | rfl | (simp only [k_translate, c_2, c_6, c_7, hd, hx7, c_8, c_10, b2i, decide_true, decide_false, Bool.not_true, Bool.not_false, Bool.and_true, Bool.and_false, Bool.true_and, Bool.false_and, Bool.or_true, Bool.or_false, Bool.true_or, Bool.false_or, reduceIte, or_true, true_or, or_false, false_or, and_true, true_and, and_false, false_and, not_true_eq_false, not_false_eq_true, Bool.false_eq_true, eq_self]; done) | (simp [k_translate, c_2, c_6, c_7, hd, hx7, c_8, c_10]; done)), (by rw [ht]; exact hP9), va_K.moved hW.alike hK, hD9⟩, hS.F ht⟩) hS.2.2 dX1_translate_95
          · rw [lg_cmp_eq] at c_10
            refine lv_iload_n hx hb dX1_translate_80 rfl (lv_at hl 5 rfl) ?_
            refine vp_callSl (W.runS (As := [.int ac]) (rest := []) ⟨hx, hb, hml, hown, hts⟩ (mtX1_pageFault l ac) (va_cwS 1 hts (gAll (mc1 (wa 269 (by decide +kernel) rfl) (mc1 (wa 270 (by decide +kernel) rfl) (mc1 (wa 15 (by decide +kernel) rfl) mc0))) (wa 271 (by decide +kernel) rfl) (by decide +kernel)) rfl rfl rfl (by decide +kernel) ⟨Nat.le_of_ble_eq_true rfl, Nat.le_of_ble_eq_true rfl⟩) preEq rfl rfl hl.1 rfl (lv_room (Nat.le_of_ble_eq_true rfl)) dX1_translate_81 ⟨Nat.le_of_ble_eq_true rfl, Nat.le_of_ble_eq_true rfl⟩) (fun r_12 er_12 => ?_)
            have er_12 : r_12 = (k_pageFault ac) := er_12
            subst er_12
            have w9_0 : (k_translate w tb su mx cf nu ad ac md).2 = w := (by first | rfl | (simp only [k_translate, c_2, c_6, c_7, hd, hx7, c_8, c_10, b2i, decide_true, decide_false, Bool.not_true, Bool.not_false, Bool.and_true, Bool.and_false, Bool.true_and, Bool.false_and, Bool.or_true, Bool.or_false, Bool.true_or, Bool.false_or, reduceIte, or_true, true_or, or_false, false_or, and_true, true_and, and_false, false_and, not_true_eq_false, not_false_eq_true, Bool.false_eq_true, eq_self]; done) | (simp [k_translate, c_2, c_6, c_7, hd, hx7, c_8, c_10]; done))
            have hP9 : va_P (dC, dI) vwCl (wPW cL cI q0 qw qr qc qn (k_translate w tb su mx cf nu ad ac md).2 tb su mx cf nu) s.heap := (by rw [w9_0]; exact hP)
            have hD9 : va_D A (wPW cL cI q0 qw qr qc qn (k_translate w tb su mx cf nu ad ac md).2 tb su mx cf nu) := (by rw [w9_0]; exact hD)
            exact W.lret (v := (k_pageFault ac)) hx hb hr (fun t ht hW => ⟨⟨(k_pageFault ac), (), rfl, (by first | rfl | (simp only [k_translate, c_2, c_6, c_7, hd, hx7, c_8, c_10, b2i, decide_true, decide_false, Bool.not_true, Bool.not_false, Bool.and_true, Bool.and_false, Bool.true_and, Bool.false_and, Bool.or_true, Bool.or_false, Bool.true_or, Bool.false_or, reduceIte, or_true, true_or, or_false, false_or, and_true, true_and, and_false, false_and, not_true_eq_false, not_false_eq_true, Bool.false_eq_true, eq_self]; done) | (simp [k_translate, c_2, c_6, c_7, hd, hx7, c_8, c_10]; done)), (by rw [ht]; exact hP9), va_K.moved hW.alike hK, hD9⟩, hS.F ht⟩) hS.2.2 dX1_translate_84
      · refine lv_iconst (v := 3) hx hb dX1_translate_43 (by decide) ?_
        refine lv_goto (tgt := 48) hx hb dX1_translate_44 (by decide) ?_
        refine lv_istore (lv' := [(6, .int 3), (5, .int (k_sortOf tb)), (0, .ref q0), (1, .long ad), (3, .int ac), (4, .int md)]) hx hb dX1_translate_48 hl (by decide) rfl (fun ls hl => ?_)
        refine lv_lload_n hx hb dX1_translate_50 rfl (lv_at hl 3 rfl) ?_
        refine lv_bipush (v := 12) hx hb dX1_translate_51 (by decide) ?_
        refine lv_bipush (v := 9) hx hb dX1_translate_53 (by decide) ?_
        refine lv_iload hx hb dX1_translate_55 (lv_at hl 0 rfl) ?_
        refine lv_imul hx hb dX1_translate_57 ?_
        refine lv_iadd hx hb dX1_translate_58 ?_
        refine lv_iconst (v := 1) hx hb dX1_translate_59 (by decide) ?_
        refine lv_isub hx hb dX1_translate_60 ?_
        refine lv_lshr (v := (k_shr ad ((12 + (9 * 3)) - 1))) hx hb dX1_translate_61 rfl ?_
        refine lv_topl (fun x7 e_x7 => ?_)
        refine lv_lstore (lv' := [(7, .long x7), (6, .int 3), (5, .int (k_sortOf tb)), (0, .ref q0), (1, .long ad), (3, .int ac), (4, .int md)]) hx hb dX1_translate_62 hl (by decide) rfl (fun ls hl => ?_)
        have hd : k_depths tb = 3 := by simp [k_depths, c_2, c_6, c_7]
        have hx7 : k_above ad (nI 3) = x7 := e_x7.symm
        refine lv_lload hx hb dX1_translate_64 (lv_at hl 0 rfl) ?_
        refine lv_lconst (v := 0) hx hb dX1_translate_66 (by decide) ?_
        refine W.lcmp hx hb dX1_translate_67 ?_
        refine lv_if_eq (tgt := 85) hx hb dX1_translate_68 (by decide) (fun c_13 => ?_) (fun c_13 => ?_)
        · rw [lg_cmp_eq] at c_13
          refine lv_aload_n hx hb dX1_translate_85 rfl (lv_at hl 3 rfl) ?_
          refine lv_lload_n hx hb dX1_translate_86 rfl (lv_at hl 4 rfl) ?_
          refine lv_iload_n hx hb dX1_translate_87 rfl (lv_at hl 5 rfl) ?_
          refine lv_iload hx hb dX1_translate_88 (lv_at hl 6 rfl) ?_
          refine lv_iload hx hb dX1_translate_90 (lv_at hl 1 rfl) ?_
          have hPc := hP.sub (ws' := (wPW cL cI q0 qw qr qc qn w tb su mx cf nu)) [0, 1, 2, 3, 4] rfl
          have hDc := hD.sub (ws' := (wPW cL cI q0 qw qr qc qn w tb su mx cf nu)) [0, 1, 2, 3, 4] (by decide) rfl
          have hFc := va_free (wc := (wPW cL cI q0 qw qr qc qn w tb su mx cf nu)) hD hS hA [0, 1, 2, 3, 4] rfl
          refine va_calll (va_runV (As := [.long ad, .int ac, .int md, .int 3]) (rest := []) ⟨hx, hb, hml, hown, hts⟩ (mtX1_walk l dC dI cL cI q0 qw qr qc qn w tb su mx cf nu s.heap.size ad ac md 3 (by decide)) (cwV 4 hts (gAll (mc1 (wa 275 (by decide +kernel) rfl) (mc1 (wa 277 (by decide +kernel) rfl) (mc1 (wa 2 (by decide +kernel) rfl) (mc1 (wa 15 (by decide +kernel) rfl) mc0)))) (wa 278 (by decide +kernel) rfl) (by decide +kernel)) rfl rfl rfl (by decide +kernel) ⟨Nat.le_of_ble_eq_true rfl, Nat.le_of_ble_eq_true rfl⟩) (mu_pre (ci := 1) (q0 := 0) hK hPc hDc rfl rfl) rfl rfl hl.1 rfl (lv_room (Nat.le_of_ble_eq_true rfl)) dX1_translate_92 ⟨Nat.le_of_ble_eq_true rfl, Nat.le_of_ble_eq_true rfl⟩) hS (fun q _ h => hFc q h) hFc (fun r_14 u t H1 locs ht hvm hw hB hz1 hk1 hS => ?_)
          obtain ⟨hP1, hK1, hD1⟩ := hB
          rw [ht] at hP1
          obtain ⟨hP, hD⟩ := va_join (wr := []) (w1 := (wPW cL cI q0 qw qr qc qn (k_walkF w su mx cf nu ad ac md 3 (tb &&& 17592186044415)).2 tb su mx cf nu)) hP hD [0, 1, 2, 3, 4] [] rfl rfl (by decide) (by decide) hk1 hFc hP1 hD1
          generalize H1 = H at hP hS ⊢
          have hP : va_P (dC, dI) vwCl [(q0, .inr (1, [.ref qw, .ref qr, .long tb, .int (b2i su), .int (b2i mx)])), (qw, .inl (cL, 8192, .inr (.inl (k_walkF w su mx cf nu ad ac md 3 (tb &&& 17592186044415)).2))), (qr, .inr (0, [.ref qc, .ref qn])), (qc, .inl (cI, 8, .inl cf)), (qn, .inl (cL, 8, .inr (.inl nu)))] H := hP
          have hD : va_D A [(q0, .inr (1, [.ref qw, .ref qr, .long tb, .int (b2i su), .int (b2i mx)])), (qw, .inl (cL, 8192, .inr (.inl (k_walkF w su mx cf nu ad ac md 3 (tb &&& 17592186044415)).2))), (qr, .inr (0, [.ref qc, .ref qn])), (qc, .inl (cI, 8, .inl cf)), (qn, .inl (cL, 8, .inr (.inl nu)))] := hD
          have er_14 : r_14 = (k_walkF w su mx cf nu ad ac md 3 (tb &&& 17592186044415)).1 := hw
          subst er_14
          have w9_0 : (k_translate w tb su mx cf nu ad ac md).2 = (k_walkF w su mx cf nu ad ac md 3 (tb &&& 17592186044415)).2 := (by first | rfl | (simp only [k_translate, c_2, c_6, c_7, hd, hx7, c_13, b2i, decide_true, decide_false, Bool.not_true, Bool.not_false, Bool.and_true, Bool.and_false, Bool.true_and, Bool.false_and, Bool.or_true, Bool.or_false, Bool.true_or, Bool.false_or, reduceIte, or_true, true_or, or_false, false_or, and_true, true_and, and_false, false_and, not_true_eq_false, not_false_eq_true, Bool.false_eq_true, eq_self]; done) | (simp [k_translate, c_2, c_6, c_7, hd, hx7, c_13]; done))
          have hP9 : va_P (dC, dI) vwCl (wPW cL cI q0 qw qr qc qn (k_translate w tb su mx cf nu ad ac md).2 tb su mx cf nu) H := (by rw [w9_0]; exact hP)
          have hD9 : va_D A (wPW cL cI q0 qw qr qc qn (k_translate w tb su mx cf nu ad ac md).2 tb su mx cf nu) := (by rw [w9_0]; exact hD)
          exact W.lret (v := (k_walkF w su mx cf nu ad ac md 3 (tb &&& 17592186044415)).1) hx hb hr (fun t ht hW => ⟨⟨(k_walkF w su mx cf nu ad ac md 3 (tb &&& 17592186044415)).1, (), rfl, (by first | rfl | (simp only [k_translate, c_2, c_6, c_7, hd, hx7, c_13, b2i, decide_true, decide_false, Bool.not_true, Bool.not_false, Bool.and_true, Bool.and_false, Bool.true_and, Bool.false_and, Bool.or_true, Bool.or_false, Bool.true_or, Bool.false_or, reduceIte, or_true, true_or, or_false, false_or, and_true, true_and, and_false, false_and, not_true_eq_false, not_false_eq_true, Bool.false_eq_true, eq_self]; done) | (simp [k_translate, c_2, c_6, c_7, hd, hx7, c_13]; done)), (by rw [ht]; exact hP9), va_K.moved hW.alike hK, hD9⟩, hS.F ht⟩) hS.2.2 dX1_translate_95
        · rw [lg_cmp_eq] at c_13
          refine lv_lload hx hb dX1_translate_71 (lv_at hl 0 rfl) ?_
          refine lv_ldc2 (v := (-1)) hx hb hown (hts (.constantLong RX1 92 (-1)) (wa 266 (by decide +kernel) rfl)) dX1_translate_73 ?_
          refine W.lcmp hx hb dX1_translate_76 ?_
          refine lv_if_eq (tgt := 85) hx hb dX1_translate_77 (by decide) (fun c_15 => ?_) (fun c_15 => ?_)
          · rw [lg_cmp_eq] at c_15
            refine lv_aload_n hx hb dX1_translate_85 rfl (lv_at hl 3 rfl) ?_
            refine lv_lload_n hx hb dX1_translate_86 rfl (lv_at hl 4 rfl) ?_
            refine lv_iload_n hx hb dX1_translate_87 rfl (lv_at hl 5 rfl) ?_
            refine lv_iload hx hb dX1_translate_88 (lv_at hl 6 rfl) ?_
            refine lv_iload hx hb dX1_translate_90 (lv_at hl 1 rfl) ?_
            have hPc := hP.sub (ws' := (wPW cL cI q0 qw qr qc qn w tb su mx cf nu)) [0, 1, 2, 3, 4] rfl
            have hDc := hD.sub (ws' := (wPW cL cI q0 qw qr qc qn w tb su mx cf nu)) [0, 1, 2, 3, 4] (by decide) rfl
            have hFc := va_free (wc := (wPW cL cI q0 qw qr qc qn w tb su mx cf nu)) hD hS hA [0, 1, 2, 3, 4] rfl
            refine va_calll (va_runV (As := [.long ad, .int ac, .int md, .int 3]) (rest := []) ⟨hx, hb, hml, hown, hts⟩ (mtX1_walk l dC dI cL cI q0 qw qr qc qn w tb su mx cf nu s.heap.size ad ac md 3 (by decide)) (cwV 4 hts (gAll (mc1 (wa 275 (by decide +kernel) rfl) (mc1 (wa 277 (by decide +kernel) rfl) (mc1 (wa 2 (by decide +kernel) rfl) (mc1 (wa 15 (by decide +kernel) rfl) mc0)))) (wa 278 (by decide +kernel) rfl) (by decide +kernel)) rfl rfl rfl (by decide +kernel) ⟨Nat.le_of_ble_eq_true rfl, Nat.le_of_ble_eq_true rfl⟩) (mu_pre (ci := 1) (q0 := 0) hK hPc hDc rfl rfl) rfl rfl hl.1 rfl (lv_room (Nat.le_of_ble_eq_true rfl)) dX1_translate_92 ⟨Nat.le_of_ble_eq_true rfl, Nat.le_of_ble_eq_true rfl⟩) hS (fun q _ h => hFc q h) hFc (fun r_16 u t H1 locs ht hvm hw hB hz1 hk1 hS => ?_)
            obtain ⟨hP1, hK1, hD1⟩ := hB
            rw [ht] at hP1
            obtain ⟨hP, hD⟩ := va_join (wr := []) (w1 := (wPW cL cI q0 qw qr qc qn (k_walkF w su mx cf nu ad ac md 3 (tb &&& 17592186044415)).2 tb su mx cf nu)) hP hD [0, 1, 2, 3, 4] [] rfl rfl (by decide) (by decide) hk1 hFc hP1 hD1
            generalize H1 = H at hP hS ⊢
            have hP : va_P (dC, dI) vwCl [(q0, .inr (1, [.ref qw, .ref qr, .long tb, .int (b2i su), .int (b2i mx)])), (qw, .inl (cL, 8192, .inr (.inl (k_walkF w su mx cf nu ad ac md 3 (tb &&& 17592186044415)).2))), (qr, .inr (0, [.ref qc, .ref qn])), (qc, .inl (cI, 8, .inl cf)), (qn, .inl (cL, 8, .inr (.inl nu)))] H := hP
            have hD : va_D A [(q0, .inr (1, [.ref qw, .ref qr, .long tb, .int (b2i su), .int (b2i mx)])), (qw, .inl (cL, 8192, .inr (.inl (k_walkF w su mx cf nu ad ac md 3 (tb &&& 17592186044415)).2))), (qr, .inr (0, [.ref qc, .ref qn])), (qc, .inl (cI, 8, .inl cf)), (qn, .inl (cL, 8, .inr (.inl nu)))] := hD
            have er_16 : r_16 = (k_walkF w su mx cf nu ad ac md 3 (tb &&& 17592186044415)).1 := hw
            subst er_16
            have w9_0 : (k_translate w tb su mx cf nu ad ac md).2 = (k_walkF w su mx cf nu ad ac md 3 (tb &&& 17592186044415)).2 := (by first | rfl | (simp only [k_translate, c_2, c_6, c_7, hd, hx7, c_13, c_15, b2i, decide_true, decide_false, Bool.not_true, Bool.not_false, Bool.and_true, Bool.and_false, Bool.true_and, Bool.false_and, Bool.or_true, Bool.or_false, Bool.true_or, Bool.false_or, reduceIte, or_true, true_or, or_false, false_or, and_true, true_and, and_false, false_and, not_true_eq_false, not_false_eq_true, Bool.false_eq_true, eq_self]; done) | (simp [k_translate, c_2, c_6, c_7, hd, hx7, c_13, c_15]; done))
            have hP9 : va_P (dC, dI) vwCl (wPW cL cI q0 qw qr qc qn (k_translate w tb su mx cf nu ad ac md).2 tb su mx cf nu) H := (by rw [w9_0]; exact hP)
            have hD9 : va_D A (wPW cL cI q0 qw qr qc qn (k_translate w tb su mx cf nu ad ac md).2 tb su mx cf nu) := (by rw [w9_0]; exact hD)
            exact W.lret (v := (k_walkF w su mx cf nu ad ac md 3 (tb &&& 17592186044415)).1) hx hb hr (fun t ht hW => ⟨⟨(k_walkF w su mx cf nu ad ac md 3 (tb &&& 17592186044415)).1, (), rfl, (by first | rfl | (simp only [k_translate, c_2, c_6, c_7, hd, hx7, c_13, c_15, b2i, decide_true, decide_false, Bool.not_true, Bool.not_false, Bool.and_true, Bool.and_false, Bool.true_and, Bool.false_and, Bool.or_true, Bool.or_false, Bool.true_or, Bool.false_or, reduceIte, or_true, true_or, or_false, false_or, and_true, true_and, and_false, false_and, not_true_eq_false, not_false_eq_true, Bool.false_eq_true, eq_self]; done) | (simp [k_translate, c_2, c_6, c_7, hd, hx7, c_13, c_15]; done)), (by rw [ht]; exact hP9), va_K.moved hW.alike hK, hD9⟩, hS.F ht⟩) hS.2.2 dX1_translate_95
          · rw [lg_cmp_eq] at c_15
            refine lv_iload_n hx hb dX1_translate_80 rfl (lv_at hl 5 rfl) ?_
            refine vp_callSl (W.runS (As := [.int ac]) (rest := []) ⟨hx, hb, hml, hown, hts⟩ (mtX1_pageFault l ac) (va_cwS 1 hts (gAll (mc1 (wa 269 (by decide +kernel) rfl) (mc1 (wa 270 (by decide +kernel) rfl) (mc1 (wa 15 (by decide +kernel) rfl) mc0))) (wa 271 (by decide +kernel) rfl) (by decide +kernel)) rfl rfl rfl (by decide +kernel) ⟨Nat.le_of_ble_eq_true rfl, Nat.le_of_ble_eq_true rfl⟩) preEq rfl rfl hl.1 rfl (lv_room (Nat.le_of_ble_eq_true rfl)) dX1_translate_81 ⟨Nat.le_of_ble_eq_true rfl, Nat.le_of_ble_eq_true rfl⟩) (fun r_17 er_17 => ?_)
            have er_17 : r_17 = (k_pageFault ac) := er_17
            subst er_17
            have w9_0 : (k_translate w tb su mx cf nu ad ac md).2 = w := (by first | rfl | (simp only [k_translate, c_2, c_6, c_7, hd, hx7, c_13, c_15, b2i, decide_true, decide_false, Bool.not_true, Bool.not_false, Bool.and_true, Bool.and_false, Bool.true_and, Bool.false_and, Bool.or_true, Bool.or_false, Bool.true_or, Bool.false_or, reduceIte, or_true, true_or, or_false, false_or, and_true, true_and, and_false, false_and, not_true_eq_false, not_false_eq_true, Bool.false_eq_true, eq_self]; done) | (simp [k_translate, c_2, c_6, c_7, hd, hx7, c_13, c_15]; done))
            have hP9 : va_P (dC, dI) vwCl (wPW cL cI q0 qw qr qc qn (k_translate w tb su mx cf nu ad ac md).2 tb su mx cf nu) s.heap := (by rw [w9_0]; exact hP)
            have hD9 : va_D A (wPW cL cI q0 qw qr qc qn (k_translate w tb su mx cf nu ad ac md).2 tb su mx cf nu) := (by rw [w9_0]; exact hD)
            exact W.lret (v := (k_pageFault ac)) hx hb hr (fun t ht hW => ⟨⟨(k_pageFault ac), (), rfl, (by first | rfl | (simp only [k_translate, c_2, c_6, c_7, hd, hx7, c_13, c_15, b2i, decide_true, decide_false, Bool.not_true, Bool.not_false, Bool.and_true, Bool.and_false, Bool.true_and, Bool.false_and, Bool.or_true, Bool.or_false, Bool.true_or, Bool.false_or, reduceIte, or_true, true_or, or_false, false_or, and_true, true_and, and_false, false_and, not_true_eq_false, not_false_eq_true, Bool.false_eq_true, eq_self]; done) | (simp [k_translate, c_2, c_6, c_7, hd, hx7, c_13, c_15]; done)), (by rw [ht]; exact hP9), va_K.moved hW.alike hK, hD9⟩, hS.F ht⟩) hS.2.2 dX1_translate_84
    · refine lv_lload_n hx hb dX1_translate_20 rfl (lv_at hl 2 rfl) ?_
      refine vp_callSi (W.runS (As := [.long ad]) (rest := []) ⟨hx, hb, hml, hown, hts⟩ (mtX1_isPhysical l ad) (va_cwS 1 hts (gAll (mc1 (wa 260 (by decide +kernel) rfl) (mc1 (wa 261 (by decide +kernel) rfl) (mc1 (wa 15 (by decide +kernel) rfl) mc0))) (wa 262 (by decide +kernel) rfl) (by decide +kernel)) rfl rfl rfl (by decide +kernel) ⟨Nat.le_of_ble_eq_true rfl, Nat.le_of_ble_eq_true rfl⟩) preEq rfl rfl hl.1 rfl (lv_room (Nat.le_of_ble_eq_true rfl)) dX1_translate_21 ⟨Nat.le_of_ble_eq_true rfl, Nat.le_of_ble_eq_true rfl⟩) (fun r_18 er_18 => ?_)
      have er_18 : r_18 = (b2i (k_isPhysical ad)) := er_18
      subst er_18
      refine lv_if_eq (tgt := 31) hx hb dX1_translate_24 (by decide) (fun c_19 => ?_) (fun c_19 => ?_)
      · rw [b2i_z] at c_19
        refine lv_iload_n hx hb dX1_translate_31 rfl (lv_at hl 3 rfl) ?_
        refine vp_callSl (W.runS (As := [.int ac]) (rest := []) ⟨hx, hb, hml, hown, hts⟩ (mtX1_accessFault l ac) (va_cwS 1 hts (gAll (mc1 (wa 263 (by decide +kernel) rfl) (mc1 (wa 264 (by decide +kernel) rfl) (mc1 (wa 15 (by decide +kernel) rfl) mc0))) (wa 265 (by decide +kernel) rfl) (by decide +kernel)) rfl rfl rfl (by decide +kernel) ⟨Nat.le_of_ble_eq_true rfl, Nat.le_of_ble_eq_true rfl⟩) preEq rfl rfl hl.1 rfl (lv_room (Nat.le_of_ble_eq_true rfl)) dX1_translate_32 ⟨Nat.le_of_ble_eq_true rfl, Nat.le_of_ble_eq_true rfl⟩) (fun r_20 er_20 => ?_)
        have er_20 : r_20 = (k_accessFault ac) := er_20
        subst er_20
        have w9_0 : (k_translate w tb su mx cf nu ad ac md).2 = w := (by first | rfl | (simp only [k_translate, c_2, c_6, c_19, b2i, decide_true, decide_false, Bool.not_true, Bool.not_false, Bool.and_true, Bool.and_false, Bool.true_and, Bool.false_and, Bool.or_true, Bool.or_false, Bool.true_or, Bool.false_or, reduceIte, or_true, true_or, or_false, false_or, and_true, true_and, and_false, false_and, not_true_eq_false, not_false_eq_true, Bool.false_eq_true, eq_self]; done) | (simp [k_translate, c_2, c_6, c_19]; done))
        have hP9 : va_P (dC, dI) vwCl (wPW cL cI q0 qw qr qc qn (k_translate w tb su mx cf nu ad ac md).2 tb su mx cf nu) s.heap := (by rw [w9_0]; exact hP)
        have hD9 : va_D A (wPW cL cI q0 qw qr qc qn (k_translate w tb su mx cf nu ad ac md).2 tb su mx cf nu) := (by rw [w9_0]; exact hD)
        exact W.lret (v := (k_accessFault ac)) hx hb hr (fun t ht hW => ⟨⟨(k_accessFault ac), (), rfl, (by first | rfl | (simp only [k_translate, c_2, c_6, c_19, b2i, decide_true, decide_false, Bool.not_true, Bool.not_false, Bool.and_true, Bool.and_false, Bool.true_and, Bool.false_and, Bool.or_true, Bool.or_false, Bool.true_or, Bool.false_or, reduceIte, or_true, true_or, or_false, false_or, and_true, true_and, and_false, false_and, not_true_eq_false, not_false_eq_true, Bool.false_eq_true, eq_self]; done) | (simp [k_translate, c_2, c_6, c_19]; done)), (by rw [ht]; exact hP9), va_K.moved hW.alike hK, hD9⟩, hS.F ht⟩) hS.2.2 dX1_translate_35
      · rw [b2i_z] at c_19
        rw [Bool.not_eq_false] at c_19
        refine lv_lload_n hx hb dX1_translate_27 rfl (lv_at hl 2 rfl) ?_
        refine lv_goto (tgt := 35) hx hb dX1_translate_28 (by decide) ?_
        have w9_0 : (k_translate w tb su mx cf nu ad ac md).2 = w := (by first | rfl | (simp only [k_translate, c_2, c_6, c_19, b2i, decide_true, decide_false, Bool.not_true, Bool.not_false, Bool.and_true, Bool.and_false, Bool.true_and, Bool.false_and, Bool.or_true, Bool.or_false, Bool.true_or, Bool.false_or, reduceIte, or_true, true_or, or_false, false_or, and_true, true_and, and_false, false_and, not_true_eq_false, not_false_eq_true, Bool.false_eq_true, eq_self]; done) | (simp [k_translate, c_2, c_6, c_19]; done))
        have hP9 : va_P (dC, dI) vwCl (wPW cL cI q0 qw qr qc qn (k_translate w tb su mx cf nu ad ac md).2 tb su mx cf nu) s.heap := (by rw [w9_0]; exact hP)
        have hD9 : va_D A (wPW cL cI q0 qw qr qc qn (k_translate w tb su mx cf nu ad ac md).2 tb su mx cf nu) := (by rw [w9_0]; exact hD)
        exact W.lret (v := ad) hx hb hr (fun t ht hW => ⟨⟨ad, (), rfl, (by first | rfl | (simp only [k_translate, c_2, c_6, c_19, b2i, decide_true, decide_false, Bool.not_true, Bool.not_false, Bool.and_true, Bool.and_false, Bool.true_and, Bool.false_and, Bool.or_true, Bool.or_false, Bool.true_or, Bool.false_or, reduceIte, or_true, true_or, or_false, false_or, and_true, true_and, and_false, false_and, not_true_eq_false, not_false_eq_true, Bool.false_eq_true, eq_self]; done) | (simp [k_translate, c_2, c_6, c_19]; done)), (by rw [ht]; exact hP9), va_K.moved hW.alike hK, hD9⟩, hS.F ht⟩) hS.2.2 dX1_translate_35
set_option maxHeartbeats 4000000 in
set_option maxRecDepth 100000 in
theorem mtX1_find (l : Launch) (dC : Nat → ClassId) (dI : Nat → Nat → Nat) (cL : ClassId) (cI : ClassId) (q0 : Nat) (qw : Nat) (qr : Nat) (qc : Nat) (qn : Nat) (w : Nat → Int64) (tb : Int64) (su : Bool) (mx : Bool) (cf : Nat → Int32) (nu : Nat → Int64) (hz : Nat) (ad : Int64) (ac : Int32) (md : Int32) (sz : Int32) (hi : k_isAccess ad ac md sz = true) : Met l yX1_find wsX1_find ({ frames := 6, cells := 0, slots := 0, locals := 168 }) (va_Pc [.ref q0, .long ad, .int ac, .int md, .int sz] (fun U => U.heap.size = hz ∧ va_P (dC, dI) vwCl (wPW cL cI q0 qw qr qc qn w tb su mx cf nu) U.heap ∧ va_K (dC, dI) vwCl [(cL, .long), (cI, .int)] U ∧ va_D (fun _ => True) (wPW cL cI q0 qw qr qc qn w tb su mx cf nu))) (va_Ql (fun r (_ : Unit) => r = (k_find w tb su mx cf nu ad ac md sz).1) (fun _ t => va_P (dC, dI) vwCl (wPW cL cI q0 qw qr qc qn (k_find w tb su mx cf nu ad ac md sz).2 tb su mx cf nu) t.heap ∧ va_K (dC, dI) vwCl [(cL, .long), (cI, .int)] t ∧ va_D (va_A (wPW cL cI q0 qw qr qc qn w tb su mx cf nu) hz) (wPW cL cI q0 qw qr qc qn (k_find w tb su mx cf nu ad ac md sz).2 tb su mx cf nu)) (va_A (wPW cL cI q0 qw qr qc qn w tb su mx cf nu) hz)) 0 0 (va_A (wPW cL cI q0 qw qr qc qn w tb su mx cf nu) hz) := by
  refine Met.ofW (cc := cX1_find) (maxL := 8) (ret := (some .long)) (by decide) rfl ?_
  intro p e s m args below meth c s₁ B hml hv
  obtain ⟨rfl, hsz, hP, hK, hD0⟩ := hv
  have hx := B.exec
  have hb := B.bytes
  have hr := B.returns
  have hts := atoms_spec (ws := wsX1_find) B.pre
  have hown : s.vm.findClass RX1 = some m.cls := findClass_of_methodNamed B.named
  have hlocks := B.notSynchronized
  subst hsz
  have hD := hD0.self (sz := s.heap.size)
  generalize hAe : va_A (wPW cL cI q0 qw qr qc qn w tb su mx cf nu) s.heap.size = A at hD ⊢
  have hA : ∀ q : Nat, s.heap.size ≤ q → A q := fun q h => by rw [← hAe]; exact Or.inr h
  have hS : va_S A s.heap s.heap [] := va_S.rf
  have hP : va_P (dC, dI) vwCl [(q0, .inr (1, [.ref qw, .ref qr, .long tb, .int (b2i su), .int (b2i mx)])), (qw, .inl (cL, 8192, .inr (.inl w))), (qr, .inr (0, [.ref qc, .ref qn])), (qc, .inl (cI, 8, .inl cf)), (qn, .inl (cL, 8, .inr (.inl nu)))] s.heap := hP
  have hD : va_D A [(q0, .inr (1, [.ref qw, .ref qr, .long tb, .int (b2i su), .int (b2i mx)])), (qw, .inl (cL, 8192, .inr (.inl w))), (qr, .inr (0, [.ref qc, .ref qn])), (qc, .inl (cI, 8, .inl cf)), (qn, .inl (cL, 8, .inr (.inl nu)))] := hD
  have hl := lv_entry ([.ref q0, .long ad, .int ac, .int md, .int sz]) (n := 8) (Nat.le_of_ble_eq_true rfl)
  rw [lg_entry_eq]
  generalize (lg_sl ([.ref q0, .long ad, .int ac, .int md, .int sz]) ++ List.replicate (8 - (lg_sl ([.ref q0, .long ad, .int ac, .int md, .int sz])).length) Slot.unset).toArray = ls at hl ⊢
  have hl : lv_has ls 8 [(0, .ref q0), (1, .long ad), (3, .int ac), (4, .int md), (5, .int sz)] := hl
  refine lv_lload_n hx hb dX1_find_0 rfl (lv_at hl 1 rfl) ?_
  refine lv_iload_n hx hb dX1_find_1 rfl (lv_at hl 2 rfl) ?_
  refine lv_iload hx hb dX1_find_2 (lv_at hl 3 rfl) ?_
  refine lv_iload hx hb dX1_find_4 (lv_at hl 4 rfl) ?_
  refine vp_callSi (W.runS (As := [.long ad, .int ac, .int md, .int sz]) (rest := []) ⟨hx, hb, hml, hown, hts⟩ (mtX1_isAccess l ad ac md sz) (va_cwS 4 hts (gAll (mc1 (wa 250 (by decide +kernel) rfl) (mc1 (wa 251 (by decide +kernel) rfl) (mc1 (wa 15 (by decide +kernel) rfl) mc0))) (wa 252 (by decide +kernel) rfl) (by decide +kernel)) rfl rfl rfl (by decide +kernel) ⟨Nat.le_of_ble_eq_true rfl, Nat.le_of_ble_eq_true rfl⟩) preEq rfl rfl hl.1 rfl (lv_room (Nat.le_of_ble_eq_true rfl)) dX1_find_6 ⟨Nat.le_of_ble_eq_true rfl, Nat.le_of_ble_eq_true rfl⟩) (fun r_1 er_1 => ?_)
  have er_1 : r_1 = (b2i (k_isAccess ad ac md sz)) := er_1
  subst er_1
  refine lv_if_ne (tgt := 22) hx hb dX1_find_9 (by decide) (fun c_2 => ?_) (fun c_2 => ?_)
  · rw [b2i_z] at c_2
    rw [Bool.not_eq_false] at c_2
    refine lv_aload_n hx hb dX1_find_22 rfl (lv_at hl 0 rfl) ?_
    refine lv_lload_n hx hb dX1_find_23 rfl (lv_at hl 1 rfl) ?_
    refine lv_iload_n hx hb dX1_find_24 rfl (lv_at hl 2 rfl) ?_
    refine lv_iload hx hb dX1_find_25 (lv_at hl 3 rfl) ?_
    have hPc := hP.sub (ws' := (wPW cL cI q0 qw qr qc qn w tb su mx cf nu)) [0, 1, 2, 3, 4] rfl
    have hDc := hD.sub (ws' := (wPW cL cI q0 qw qr qc qn w tb su mx cf nu)) [0, 1, 2, 3, 4] (by decide) rfl
    have hFc := va_free (wc := (wPW cL cI q0 qw qr qc qn w tb su mx cf nu)) hD hS hA [0, 1, 2, 3, 4] rfl
    refine va_calll (va_runV (As := [.long ad, .int ac, .int md]) (rest := []) ⟨hx, hb, hml, hown, hts⟩ (mtX1_translate l dC dI cL cI q0 qw qr qc qn w tb su mx cf nu s.heap.size ad ac md ) (cwV 3 hts (gAll (mc1 (wa 256 (by decide +kernel) rfl) (mc1 (wa 258 (by decide +kernel) rfl) (mc1 (wa 1 (by decide +kernel) rfl) (mc1 (wa 15 (by decide +kernel) rfl) mc0)))) (wa 259 (by decide +kernel) rfl) (by decide +kernel)) rfl rfl rfl (by decide +kernel) ⟨Nat.le_of_ble_eq_true rfl, Nat.le_of_ble_eq_true rfl⟩) (mu_pre (ci := 1) (q0 := 0) hK hPc hDc rfl rfl) rfl rfl hl.1 rfl (lv_room (Nat.le_of_ble_eq_true rfl)) dX1_find_27 ⟨Nat.le_of_ble_eq_true rfl, Nat.le_of_ble_eq_true rfl⟩) hS (fun q _ h => hFc q h) hFc (fun r_3 u t H1 locs ht hvm hw hB hz1 hk1 hS => ?_)
    obtain ⟨hP1, hK1, hD1⟩ := hB
    rw [ht] at hP1
    obtain ⟨hP, hD⟩ := va_join (wr := []) (w1 := (wPW cL cI q0 qw qr qc qn (k_translate w tb su mx cf nu ad ac md).2 tb su mx cf nu)) hP hD [0, 1, 2, 3, 4] [] rfl rfl (by decide) (by decide) hk1 hFc hP1 hD1
    generalize H1 = H at hP hS ⊢
    have hP : va_P (dC, dI) vwCl [(q0, .inr (1, [.ref qw, .ref qr, .long tb, .int (b2i su), .int (b2i mx)])), (qw, .inl (cL, 8192, .inr (.inl (k_translate w tb su mx cf nu ad ac md).2))), (qr, .inr (0, [.ref qc, .ref qn])), (qc, .inl (cI, 8, .inl cf)), (qn, .inl (cL, 8, .inr (.inl nu)))] H := hP
    have hD : va_D A [(q0, .inr (1, [.ref qw, .ref qr, .long tb, .int (b2i su), .int (b2i mx)])), (qw, .inl (cL, 8192, .inr (.inl (k_translate w tb su mx cf nu ad ac md).2))), (qr, .inr (0, [.ref qc, .ref qn])), (qc, .inl (cI, 8, .inl cf)), (qn, .inl (cL, 8, .inr (.inl nu)))] := hD
    have er_3 : r_3 = (k_translate w tb su mx cf nu ad ac md).1 := hw
    subst er_3
    refine lv_lstore (lv' := [(6, .long (k_translate w tb su mx cf nu ad ac md).1), (0, .ref q0), (1, .long ad), (3, .int ac), (4, .int md), (5, .int sz)]) hx hb dX1_find_30 hl (by decide) rfl (fun ls hl => ?_)
    refine lv_lload hx hb dX1_find_32 (lv_at hl 0 rfl) ?_
    refine lv_lconst (v := 0) hx hb dX1_find_34 (by decide) ?_
    refine W.lcmp hx hb dX1_find_35 ?_
    refine lv_if_ge (tgt := 42) hx hb dX1_find_36 (by decide) (fun c_4 => ?_) (fun c_4 => ?_)
    · rw [lg_cmp_ge] at c_4
      refine lv_aload_n hx hb dX1_find_42 rfl (lv_at hl 1 rfl) ?_
      refine va_get (D := (dC, dI)) (ci := 1) (v := .ref qr) (C := RX1) (T := TX1) (N := 5) hx hb hts iwX1 hown hK hP 0 rfl rfl 1 (by decide) (hts (.fieldLink RX1 16 RX1 "regions" "LPageWalker$Regions;") (wa 47 (by decide +kernel) rfl)) (fun _ h9 => h9) rfl dX1_find_43 ?_
      refine lv_lload hx hb dX1_find_46 (lv_at hl 0 rfl) ?_
      refine lv_iload_n hx hb dX1_find_48 rfl (lv_at hl 3 rfl) ?_
      refine lv_iload hx hb dX1_find_49 (lv_at hl 4 rfl) ?_
      refine lv_iload hx hb dX1_find_51 (lv_at hl 5 rfl) ?_
      refine vp_callSi (W.runV (As := [.long (k_translate w tb su mx cf nu ad ac md).1, .int ac, .int md, .int sz]) (rest := []) ⟨hx, hb, hml, hown, hts⟩ (mtX0_letThrough l dC dI cL cI qr qc qn cf nu (k_translate w tb su mx cf nu ad ac md).1 ac md sz ) (cwV 4 hts (gAll (mc1 (wa 287 (by decide +kernel) rfl) (mc1 (wa 288 (by decide +kernel) rfl) (mc1 (wa 289 (by decide +kernel) rfl) (mc1 (wa 16 (by decide +kernel) rfl) mc0)))) (wa 290 (by decide +kernel) rfl) (by decide +kernel)) rfl rfl rfl (by decide +kernel) ⟨Nat.le_of_ble_eq_true rfl, Nat.le_of_ble_eq_true rfl⟩) (rd_pre (ci := 0) (q0 := 0) hK (hP.sub (ws' := (wRG cL cI qr qc qn cf nu)) [2, 3, 4] rfl) rfl rfl) rfl rfl hl.1 rfl (lv_room (Nat.le_of_ble_eq_true rfl)) dX1_find_53 ⟨Nat.le_of_ble_eq_true rfl, Nat.le_of_ble_eq_true rfl⟩) (fun r_5 er_5 => ?_)
      have er_5 : r_5 = (b2i (k_let cf nu (k_translate w tb su mx cf nu ad ac md).1 ac md sz)) := er_5
      subst er_5
      refine lv_if_eq (tgt := 64) hx hb dX1_find_56 (by decide) (fun c_6 => ?_) (fun c_6 => ?_)
      · rw [b2i_z] at c_6
        refine lv_iload_n hx hb dX1_find_64 rfl (lv_at hl 3 rfl) ?_
        refine vp_callSl (W.runS (As := [.int ac]) (rest := []) ⟨hx, hb, hml, hown, hts⟩ (mtX1_accessFault l ac) (va_cwS 1 hts (gAll (mc1 (wa 263 (by decide +kernel) rfl) (mc1 (wa 264 (by decide +kernel) rfl) (mc1 (wa 15 (by decide +kernel) rfl) mc0))) (wa 265 (by decide +kernel) rfl) (by decide +kernel)) rfl rfl rfl (by decide +kernel) ⟨Nat.le_of_ble_eq_true rfl, Nat.le_of_ble_eq_true rfl⟩) preEq rfl rfl hl.1 rfl (lv_room (Nat.le_of_ble_eq_true rfl)) dX1_find_65 ⟨Nat.le_of_ble_eq_true rfl, Nat.le_of_ble_eq_true rfl⟩) (fun r_7 er_7 => ?_)
        have er_7 : r_7 = (k_accessFault ac) := er_7
        subst er_7
        have w9_0 : (k_find w tb su mx cf nu ad ac md sz).2 = (k_translate w tb su mx cf nu ad ac md).2 := (by first | rfl | (simp only [k_find, c_2, c_4, c_6, b2i, decide_true, decide_false, Bool.not_true, Bool.not_false, Bool.and_true, Bool.and_false, Bool.true_and, Bool.false_and, Bool.or_true, Bool.or_false, Bool.true_or, Bool.false_or, reduceIte, or_true, true_or, or_false, false_or, and_true, true_and, and_false, false_and, not_true_eq_false, not_false_eq_true, Bool.false_eq_true, eq_self]; done) | (simp [k_find, c_2, c_4, c_6]; done))
        have hP9 : va_P (dC, dI) vwCl (wPW cL cI q0 qw qr qc qn (k_find w tb su mx cf nu ad ac md sz).2 tb su mx cf nu) H := (by rw [w9_0]; exact hP)
        have hD9 : va_D A (wPW cL cI q0 qw qr qc qn (k_find w tb su mx cf nu ad ac md sz).2 tb su mx cf nu) := (by rw [w9_0]; exact hD)
        exact W.lret (v := (k_accessFault ac)) hx hb hr (fun t ht hW => ⟨⟨(k_accessFault ac), (), rfl, (by first | rfl | (simp only [k_find, c_2, c_4, c_6, b2i, decide_true, decide_false, Bool.not_true, Bool.not_false, Bool.and_true, Bool.and_false, Bool.true_and, Bool.false_and, Bool.or_true, Bool.or_false, Bool.true_or, Bool.false_or, reduceIte, or_true, true_or, or_false, false_or, and_true, true_and, and_false, false_and, not_true_eq_false, not_false_eq_true, Bool.false_eq_true, eq_self]; done) | (simp [k_find, c_2, c_4, c_6]; done)), (by rw [ht]; exact hP9), va_K.moved hW.alike hK, hD9⟩, hS.F ht⟩) hS.2.2 dX1_find_68
      · rw [b2i_z] at c_6
        rw [Bool.not_eq_false] at c_6
        refine lv_lload hx hb dX1_find_59 (lv_at hl 0 rfl) ?_
        refine lv_goto (tgt := 68) hx hb dX1_find_61 (by decide) ?_
        have w9_0 : (k_find w tb su mx cf nu ad ac md sz).2 = (k_translate w tb su mx cf nu ad ac md).2 := (by first | rfl | (simp only [k_find, c_2, c_4, c_6, b2i, decide_true, decide_false, Bool.not_true, Bool.not_false, Bool.and_true, Bool.and_false, Bool.true_and, Bool.false_and, Bool.or_true, Bool.or_false, Bool.true_or, Bool.false_or, reduceIte, or_true, true_or, or_false, false_or, and_true, true_and, and_false, false_and, not_true_eq_false, not_false_eq_true, Bool.false_eq_true, eq_self]; done) | (simp [k_find, c_2, c_4, c_6]; done))
        have hP9 : va_P (dC, dI) vwCl (wPW cL cI q0 qw qr qc qn (k_find w tb su mx cf nu ad ac md sz).2 tb su mx cf nu) H := (by rw [w9_0]; exact hP)
        have hD9 : va_D A (wPW cL cI q0 qw qr qc qn (k_find w tb su mx cf nu ad ac md sz).2 tb su mx cf nu) := (by rw [w9_0]; exact hD)
        exact W.lret (v := (k_translate w tb su mx cf nu ad ac md).1) hx hb hr (fun t ht hW => ⟨⟨(k_translate w tb su mx cf nu ad ac md).1, (), rfl, (by first | rfl | (simp only [k_find, c_2, c_4, c_6, b2i, decide_true, decide_false, Bool.not_true, Bool.not_false, Bool.and_true, Bool.and_false, Bool.true_and, Bool.false_and, Bool.or_true, Bool.or_false, Bool.true_or, Bool.false_or, reduceIte, or_true, true_or, or_false, false_or, and_true, true_and, and_false, false_and, not_true_eq_false, not_false_eq_true, Bool.false_eq_true, eq_self]; done) | (simp [k_find, c_2, c_4, c_6]; done)), (by rw [ht]; exact hP9), va_K.moved hW.alike hK, hD9⟩, hS.F ht⟩) hS.2.2 dX1_find_68
    · rw [lg_cmp_ge] at c_4
      refine lv_lload hx hb dX1_find_39 (lv_at hl 0 rfl) ?_
      have w9_0 : (k_find w tb su mx cf nu ad ac md sz).2 = (k_translate w tb su mx cf nu ad ac md).2 := (by first | rfl | (simp only [k_find, c_2, c_4, b2i, decide_true, decide_false, Bool.not_true, Bool.not_false, Bool.and_true, Bool.and_false, Bool.true_and, Bool.false_and, Bool.or_true, Bool.or_false, Bool.true_or, Bool.false_or, reduceIte, or_true, true_or, or_false, false_or, and_true, true_and, and_false, false_and, not_true_eq_false, not_false_eq_true, Bool.false_eq_true, eq_self]; done) | (simp [k_find, c_2, c_4]; done))
      have hP9 : va_P (dC, dI) vwCl (wPW cL cI q0 qw qr qc qn (k_find w tb su mx cf nu ad ac md sz).2 tb su mx cf nu) H := (by rw [w9_0]; exact hP)
      have hD9 : va_D A (wPW cL cI q0 qw qr qc qn (k_find w tb su mx cf nu ad ac md sz).2 tb su mx cf nu) := (by rw [w9_0]; exact hD)
      exact W.lret (v := (k_translate w tb su mx cf nu ad ac md).1) hx hb hr (fun t ht hW => ⟨⟨(k_translate w tb su mx cf nu ad ac md).1, (), rfl, (by first | rfl | (simp only [k_find, c_2, c_4, b2i, decide_true, decide_false, Bool.not_true, Bool.not_false, Bool.and_true, Bool.and_false, Bool.true_and, Bool.false_and, Bool.or_true, Bool.or_false, Bool.true_or, Bool.false_or, reduceIte, or_true, true_or, or_false, false_or, and_true, true_and, and_false, false_and, not_true_eq_false, not_false_eq_true, Bool.false_eq_true, eq_self]; done) | (simp [k_find, c_2, c_4]; done)), (by rw [ht]; exact hP9), va_K.moved hW.alike hK, hD9⟩, hS.F ht⟩) hS.2.2 dX1_find_41
  · rw [b2i_z] at c_2
    first | exact absurd (c_2.symm.trans hi) (by decide)
end
