theorem okC_0 : okC (fun _ => 0) := fun i _ => ⟨0, by omega, rfl⟩
theorem okN_0 : okN (fun _ => 0) := fun i _ => ⟨0, by omega, rfl⟩
theorem len_ok {L j : Nat} (hL : L ≤ 3072) (h6 : 6 * j ≤ L) (c : ¬ Int32.ofNat L - 6 < nI (6 * j)) : 6 * j + 6 ≤ L := by
  have h : ¬ nI L - nI 6 < nI (6 * j) := c
  rw [Int32.lt_iff_toInt_lt, pk_sub_toInt (by omega) (by omega), nI_toInt (by omega)] at h
  omega
set_option maxHeartbeats 800000 in
set_option maxRecDepth 100000 in
theorem law_loop {p : Program} {l : Launch} {e : Env} {s : State} {m : MethodId} {below : List Frame} {meth : Method} {c : Code} {b L : Nat} {xs : Nat → Int32} {A : Nat → Prop} (hl0 : l.stackTraces = false) (hL : L ≤ 3072) (C0 : lw_At p s m meth c b L xs) (hA : ∀ q, s.heap.size ≤ q → A q) (hA2 : ∀ q, A q → s.heap.size ≤ q) {sa37 : Nat} (hX37 : xR RX1 37 "no word of memory is there" sa37 xE1 A s) {sa47 : Nat} (hX47 : xR RX1 47 "the sort is none of 0, 8, 9" sa47 xE2 A s) {sa29 : Nat} (hX29 : xR RX0 29 "no such region" sa29 xE1 A s) {sa70 : Nat} (hX70 : xR RX1 70 "no such access" sa70 xE2 A s) {sa86 : Nat} (hX86 : xR RX1 86 "no such access, or no physical address" sa86 xE2 A s) {dC : Nat → ClassId} {dI : Nat → Nat → Nat} {cL : ClassId} {cI : ClassId} {q0 : Nat} {qw : Nat} {qr : Nat} {qc : Nat} {qn : Nat} {qo : Nat} {g0 : Nat} {gm : Nat} {gc : Nat} {gn : Nat} (hK : va_K (dC, dI) vwCl [(cL, .long), (cI, .int)] s) : ∀ (n j : Nat), 6 * j ≤ L → L + 1 ≤ 6 * j + n → ∀ (w : Nat → Int64) (tb : Int64) (su : Bool) (mx : Bool) (cf : Nat → Int32) (nu : Nat → Int64) (cd : Int32) (fr : Int64) (tt : Int64) (ov : Nat → Int64) (H : Heap) (locs : List Loc) (ls : Array Slot), okC cf → okN nu → va_P (dC, dI) vwCl (wLW cL cI q0 qw qr qc qn qo g0 gm gc gn w tb su mx cf nu cd fr tt ov) H → va_D A (wLW cL cI q0 qw qr qc qn qo g0 gm gc gn w tb su mx cf nu cd fr tt ov) → va_S A s.heap H locs → lv_has ls 8 [(0, .ref b), (1, .ref q0), (2, .ref g0), (3, .ref qo), (4, .int (nI (6 * j)))] → W p l e room_1 s m #[Value.ref b] below meth c H locs (10 + j) (16433 + 6 * j) (lw_Z below #[Value.ref b] s) (F0 m 23 ls []) := by
  obtain ⟨hx, hb, hr, hml, hown, hts, hX, hbl, hlocks, hgv⟩ := id C0
  have hbA : ¬ A b := fun h => absurd (hA2 b h) (Nat.not_le.mpr hbl)
  intro n
  induction n with
  | zero =>
    intro j h1 h2
    exact absurd h2 (by omega)
  | succ n ih =>
    intro j hj6 hjn w tb su mx cf nu cd fr tt ov H locs ls hc hn hP hD hS hl
    refine lv_iload hx hb dL_law_23 (lv_at hl 4 rfl) ?_
    refine lv_aload_n hx hb dL_law_25 rfl (lv_at hl 0 rfl) ?_
    refine va_slen hx hb hX hbl hbA hS dL_law_26 ?_
    refine lv_bipush (v := 6) hx hb dL_law_27 (by decide) ?_
    refine lv_isub hx hb dL_law_29 ?_
    refine lv_icmp_gt (tgt := 927) hx hb dL_law_30 (by decide) (fun c_1 => ?_) (fun c_1 => ?_)
    · refine lv_iconst (v := 1) hx hb dL_law_927 (by decide) ?_
      refine va_forget (fun q hq => hA2 _ (hS.2.2 q hq)) ?_
      refine W.widen (k := 1041) (n := 24667) (by omega) (by omega) ?_
      exact lw_ret hx hb hr hlocks dL_law_928
    · have hj : 6 * j + 6 ≤ L := len_ok hL hj6 c_1
      refine lv_aload_n hx hb dL_law_33 rfl (lv_at hl 0 rfl) ?_
      refine lv_iload hx hb dL_law_34 (lv_at hl 4 rfl) ?_
      refine va_sld hx hb hX hbl hbA hS (vp_in_nI (show 6 * j < L by omega) (by omega)) dL_law_36 ?_
      refine lv_bipush (v := 15) hx hb dL_law_37 (by decide) ?_
      refine lv_iand hx hb dL_law_39 ?_
      obtain ⟨v, hv, ev⟩ := pk_andE (xs (nI (6 * j)).toNatClampNeg) (m := 15) 4 (by decide)
      rw [ev]
      have kk : (∀ (w : Nat → Int64) (tb : Int64) (su : Bool) (mx : Bool) (cf : Nat → Int32) (nu : Nat → Int64) (cd : Int32) (fr : Int64) (tt : Int64) (ov : Nat → Int64) (H : Heap) (locs : List Loc) (ls : Array Slot), okC cf → okN nu → va_P (dC, dI) vwCl (wLW cL cI q0 qw qr qc qn qo g0 gm gc gn w tb su mx cf nu cd fr tt ov) H → va_D A (wLW cL cI q0 qw qr qc qn qo g0 gm gc gn w tb su mx cf nu cd fr tt ov) → va_S A s.heap H locs → lv_has ls 8 [(0, .ref b), (1, .ref q0), (2, .ref g0), (3, .ref qo), (4, .int (nI (6 * j)))] → W p l e room_1 s m #[Value.ref b] below meth c H locs (10 + (j + 1)) (16433 + 6 * (j + 1)) (lw_Z below #[Value.ref b] s) (F0 m 921 ls [])) := by
        intro w tb su mx cf nu cd fr tt ov H locs ls hc hn hP hD hS hl
        refine lv_iinc (v := nI (6 * (j + 1))) (lv' := [(4, .int (nI (6 * (j + 1)))), (0, .ref b), (1, .ref q0), (2, .ref g0), (3, .ref qo)]) hx hb dL_law_921 hl (k := 4) rfl (sc_ix j 6 6 rfl) (by decide) rfl (fun ls hl => ?_)
        refine lv_goto (tgt := 23) hx hb dL_law_924 (by decide) ?_
        exact ih (j + 1) (by omega) (by omega) w tb su mx cf nu cd fr tt ov H locs ls hc hn hP hD hS (lv_sub hl [1, 2, 3, 4, 0] rfl)
      rcases (show v = 0 ∨ v = 1 ∨ v = 2 ∨ v = 3 ∨ v = 4 ∨ v = 5 ∨ v = 6 ∨ v = 7 ∨ v = 8 ∨ v = 9 ∨ v = 10 ∨ v = 11 ∨ 12 ≤ v by omega) with rfl | rfl | rfl | rfl | rfl | rfl | rfl | rfl | rfl | rfl | rfl | rfl | hv2
      · exact lv_tableIn (off := 64) (tgt := 104) hx hb dL_law_40 (by decide) (by decide) (by decide) (by decide) (law_c0 hl0 hL C0 hA hA2 hX37 hX47 hX29 hX70 hX86 dC dI cL cI q0 qw qr qc qn qo g0 gm gc gn w tb su mx cf nu cd fr tt ov j hj hK kk H locs ls hc hn hP hD hS hl)
      · exact lv_tableIn (off := 151) (tgt := 191) hx hb dL_law_40 (by decide) (by decide) (by decide) (by decide) (law_c1 hl0 hL C0 hA hA2 hX37 hX47 hX29 hX70 hX86 dC dI cL cI q0 qw qr qc qn qo g0 gm gc gn w tb su mx cf nu cd fr tt ov j hj hK kk H locs ls hc hn hP hD hS hl)
      · exact lv_tableIn (off := 263) (tgt := 303) hx hb dL_law_40 (by decide) (by decide) (by decide) (by decide) (law_c2 hl0 hL C0 hA hA2 hX37 hX47 hX29 hX70 hX86 dC dI cL cI q0 qw qr qc qn qo g0 gm gc gn w tb su mx cf nu cd fr tt ov j hj hK kk H locs ls hc hn hP hD hS hl)
      · exact lv_tableIn (off := 277) (tgt := 317) hx hb dL_law_40 (by decide) (by decide) (by decide) (by decide) (law_c3 hl0 hL C0 hA hA2 hX37 hX47 hX29 hX70 hX86 dC dI cL cI q0 qw qr qc qn qo g0 gm gc gn w tb su mx cf nu cd fr tt ov j hj hK kk H locs ls hc hn hP hD hS hl)
      · exact lv_tableIn (off := 345) (tgt := 385) hx hb dL_law_40 (by decide) (by decide) (by decide) (by decide) (law_c4 hl0 hL C0 hA hA2 hX37 hX47 hX29 hX70 hX86 dC dI cL cI q0 qw qr qc qn qo g0 gm gc gn w tb su mx cf nu cd fr tt ov j hj hK kk H locs ls hc hn hP hD hS hl)
      · exact lv_tableIn (off := 412) (tgt := 452) hx hb dL_law_40 (by decide) (by decide) (by decide) (by decide) (law_c5 hl0 hL C0 hA hA2 hX37 hX47 hX29 hX70 hX86 dC dI cL cI q0 qw qr qc qn qo g0 gm gc gn w tb su mx cf nu cd fr tt ov j hj hK kk H locs ls hc hn hP hD hS hl)
      · exact lv_tableIn (off := 426) (tgt := 466) hx hb dL_law_40 (by decide) (by decide) (by decide) (by decide) (law_c6 hl0 hL C0 hA hA2 hX37 hX47 hX29 hX70 hX86 dC dI cL cI q0 qw qr qc qn qo g0 gm gc gn w tb su mx cf nu cd fr tt ov j hj hK kk H locs ls hc hn hP hD hS hl)
      · exact lv_tableIn (off := 481) (tgt := 521) hx hb dL_law_40 (by decide) (by decide) (by decide) (by decide) (law_c7 hl0 hL C0 hA hA2 hX37 hX47 hX29 hX70 hX86 dC dI cL cI q0 qw qr qc qn qo g0 gm gc gn w tb su mx cf nu cd fr tt ov j hj hK kk H locs ls hc hn hP hD hS hl)
      · exact lv_tableIn (off := 536) (tgt := 576) hx hb dL_law_40 (by decide) (by decide) (by decide) (by decide) (law_c8 hl0 hL C0 hA hA2 hX37 hX47 hX29 hX70 hX86 dC dI cL cI q0 qw qr qc qn qo g0 gm gc gn w tb su mx cf nu cd fr tt ov j hj hK kk H locs ls hc hn hP hD hS hl)
      · exact lv_tableIn (off := 616) (tgt := 656) hx hb dL_law_40 (by decide) (by decide) (by decide) (by decide) (law_c9 hl0 hL C0 hA hA2 hX37 hX47 hX29 hX70 hX86 dC dI cL cI q0 qw qr qc qn qo g0 gm gc gn w tb su mx cf nu cd fr tt ov j hj hK kk H locs ls hc hn hP hD hS hl)
      · exact lv_tableIn (off := 739) (tgt := 779) hx hb dL_law_40 (by decide) (by decide) (by decide) (by decide) (law_c10 hl0 hL C0 hA hA2 hX37 hX47 hX29 hX70 hX86 dC dI cL cI q0 qw qr qc qn qo g0 gm gc gn w tb su mx cf nu cd fr tt ov j hj hK kk H locs ls hc hn hP hD hS hl)
      · exact lv_tableIn (off := 870) (tgt := 910) hx hb dL_law_40 (by decide) (by decide) (by decide) (by decide) (law_c11 hl0 hL C0 hA hA2 hX37 hX47 hX29 hX70 hX86 dC dI cL cI q0 qw qr qc qn qo g0 gm gc gn w tb su mx cf nu cd fr tt ov j hj hK kk H locs ls hc hn hP hD hS hl)
      · refine lv_tableOut (tgt := 921) hx hb dL_law_40 (Or.inr (by rw [nI_toInt (by omega)]; omega)) (by decide) ?_
        refine W.widen (k := 10 + (j + 1)) (n := 16433 + 6 * (j + 1)) (by omega) (by omega) ?_
        exact kk w tb su mx cf nu cd fr tt ov H locs ls hc hn hP hD hS hl
set_option maxHeartbeats 800000 in
set_option maxRecDepth 100000 in
theorem whole_start {p : Program} {e : Env} {s : State} {m : MethodId} {below : List Frame} {meth : Method} {c : Code} (l : Launch) (hl0 : l.stackTraces = false) {b L : Nat} {xs : Nat → Int32} (hL : L ≤ 3072) (C0 : lw_At p s m meth c b L xs) : W p l e room_1 s m #[Value.ref b] below meth c s.heap [] 0 0 (lw_Z below #[Value.ref b] s) (entryFrame m ([Value.ref b] : List Value).toArray 8) := by
  obtain ⟨hx, hb, hr, hml, hown, hts, hX, hbl, hlocks, hgv⟩ := id C0
  have hgf := flat_of_before _ hgv
  obtain ⟨A, hAe⟩ : ∃ A : Nat → Prop, A = fun q => s.heap.size ≤ q := ⟨_, rfl⟩
  have hA : ∀ q : Nat, s.heap.size ≤ q → A q := fun q h => by rw [hAe]; exact h
  have hA2 : ∀ q : Nat, A q → s.heap.size ≤ q := fun q h => by rw [hAe] at h; exact h
  have hnA : ∀ a : Nat, a < s.heap.size → ¬ A a := fun a h h2 => absurd (hA2 a h2) (Nat.not_le.mpr h)
  obtain ⟨c0, iS0, hKn0⟩ := u_known (C := RX0) (T := TX0) (N := 2) (n := 2) hts inX0 (hts (.instantiable RX0 2) (List.mem_of_getElem? (i := 32) (by decide +kernel)))
  obtain ⟨c1, iS1, hKn1⟩ := u_known (C := RX1) (T := TX1) (N := 5) (n := 5) hts inX1 (hts (.instantiable RX1 5) (List.mem_of_getElem? (i := 24) (by decide +kernel)))
  obtain ⟨c2, iS2, hKn2⟩ := u_known (C := RX2) (T := TX2) (N := 9) (n := 9) hts inX2 (hts (.instantiable RX2 9) (List.mem_of_getElem? (i := 350) (by decide +kernel)))
  obtain ⟨dC, dI, hKc⟩ : ∃ (dC : Nat → ClassId) (dI : Nat → Nat → Nat), ∀ (k : Nat) (q : vw_C), vwCl[k]? = some q → u_Kn s q.1 q.2.1 q.2.2 (dC k) (dI k) := by
    refine ⟨fun k => if k = 0 then c0 else if k = 1 then c1 else c2, fun k => if k = 0 then iS0 else if k = 1 then iS1 else iS2, ?_⟩
    intro k q hq
    match k, hq with
    | 0, hq => cases hq; exact hKn0
    | 1, hq => cases hq; exact hKn1
    | 2, hq => cases hq; exact hKn2
    | k + 3, hq => simp [vwCl] at hq
  have hS : va_S A s.heap s.heap [] := va_S.rf
  have hK : va_K (dC, dI) vwCl [] s := ⟨hKc, fun k q h => by simp at h⟩
  have hP : va_P (dC, dI) vwCl [] s.heap := fun k q h => by simp at h
  have hD : va_D A [] := ⟨fun i j p q h => by simp at h, fun k q h => by simp at h⟩
  have hU : vx_Zq Bundle.tN "UNASSIGNED_STACK" Bundle.steD A s s.heap := vx_Zqof (hts (.laysStatic Bundle.tN "UNASSIGNED_STACK" Bundle.steD) (List.mem_of_getElem? (i := 137) (by decide +kernel))) (hts (.initialized Bundle.tN) (List.mem_of_getElem? (i := 18) (by decide +kernel))) (hgf (.isRef (.static Bundle.tN "UNASSIGNED_STACK" Bundle.steD)) (by decide +kernel)) hnA
  have hN : vx_Zq Bundle.tN "SUPPRESSED_SENTINEL" Bundle.listD A s s.heap := vx_Zqof (hts (.laysStatic Bundle.tN "SUPPRESSED_SENTINEL" Bundle.listD) (List.mem_of_getElem? (i := 139) (by decide +kernel))) (hts (.initialized Bundle.tN) (List.mem_of_getElem? (i := 18) (by decide +kernel))) (hgf (.isRef (.static Bundle.tN "SUPPRESSED_SENTINEL" Bundle.listD)) (by decide +kernel)) hnA
  have hBxE1 : xB xE1 s := ⟨va_Nw.of rfl (hts (.declares (Bundle.initS "java/lang/RuntimeException")) (List.mem_of_getElem? (i := 114) (by decide +kernel))), va_Nw.of rfl (hts (.declares (Bundle.initS "java/lang/Exception")) (List.mem_of_getElem? (i := 116) (by decide +kernel))), va_Nw.of rfl (hts (.declares (Bundle.initS "java/lang/Throwable")) (List.mem_of_getElem? (i := 118) (by decide +kernel))), va_Nw.of rfl (hts (.castable xE1 xE1) (List.mem_of_getElem? (i := 112) (by decide +kernel)))⟩
  have hBxE2 : xB xE2 s := ⟨va_Nw.of rfl (hts (.declares (Bundle.initS "java/lang/RuntimeException")) (List.mem_of_getElem? (i := 114) (by decide +kernel))), va_Nw.of rfl (hts (.declares (Bundle.initS "java/lang/Exception")) (List.mem_of_getElem? (i := 116) (by decide +kernel))), va_Nw.of rfl (hts (.declares (Bundle.initS "java/lang/Throwable")) (List.mem_of_getElem? (i := 118) (by decide +kernel))), va_Nw.of rfl (hts (.castable xE2 xE2) (List.mem_of_getElem? (i := 197) (by decide +kernel)))⟩
  obtain ⟨sa37, -, -, -, hs37, -⟩ := Cond.exactly_spec (hgf (.exactly (.string RX1 37) "java/lang/String") (by decide +kernel))
  have hX37 : xR RX1 37 "no word of memory is there" sa37 xE1 A s := ⟨vk_R.of (hts (.stringRef RX1 37 "no word of memory is there") (List.mem_of_getElem? (i := 150) (by decide +kernel))) hs37, hBxE1, hU, hN⟩
  obtain ⟨sa47, -, -, -, hs47, -⟩ := Cond.exactly_spec (hgf (.exactly (.string RX1 47) "java/lang/String") (by decide +kernel))
  have hX47 : xR RX1 47 "the sort is none of 0, 8, 9" sa47 xE2 A s := ⟨vk_R.of (hts (.stringRef RX1 47 "the sort is none of 0, 8, 9") (List.mem_of_getElem? (i := 204) (by decide +kernel))) hs47, hBxE2, hU, hN⟩
  obtain ⟨sa29, -, -, -, hs29, -⟩ := Cond.exactly_spec (hgf (.exactly (.string RX0 29) "java/lang/String") (by decide +kernel))
  have hX29 : xR RX0 29 "no such region" sa29 xE1 A s := ⟨vk_R.of (hts (.stringRef RX0 29 "no such region") (List.mem_of_getElem? (i := 223) (by decide +kernel))) hs29, hBxE1, hU, hN⟩
  obtain ⟨sa70, -, -, -, hs70, -⟩ := Cond.exactly_spec (hgf (.exactly (.string RX1 70) "java/lang/String") (by decide +kernel))
  have hX70 : xR RX1 70 "no such access" sa70 xE2 A s := ⟨vk_R.of (hts (.stringRef RX1 70 "no such access") (List.mem_of_getElem? (i := 255) (by decide +kernel))) hs70, hBxE2, hU, hN⟩
  obtain ⟨sa86, -, -, -, hs86, -⟩ := Cond.exactly_spec (hgf (.exactly (.string RX1 86) "java/lang/String") (by decide +kernel))
  have hX86 : xR RX1 86 "no such access, or no physical address" sa86 xE2 A s := ⟨vk_R.of (hts (.stringRef RX1 86 "no such access, or no physical address") (List.mem_of_getElem? (i := 348) (by decide +kernel))) hs86, hBxE2, hU, hN⟩
  have hNest : va_Nw (.methodLinkNest RX1 15 yX0_init RX1) s := va_Nw.of rfl (hts (.methodLinkNest RX1 15 yX0_init RX1) (List.mem_of_getElem? (i := 33) (by decide +kernel)))
  have hl := lv_entry ([.ref b]) (n := 8) (Nat.le_of_ble_eq_true rfl)
  rw [lg_entry_eq]
  generalize (lg_sl ([.ref b]) ++ List.replicate (8 - (lg_sl ([.ref b])).length) Slot.unset).toArray = ls at hl ⊢
  have hl : lv_has ls 8 [(0, .ref b)] := hl
  refine va_new (ci := 1) (fs := [.null, .null, .long 0, .int 0, .int 0]) (C := RX1) (T := TX1) (N := 5) hx hb hts inX1 tyX1 tyX1_ok hown (hts (.classLink RL 8 RX1) (List.mem_of_getElem? (i := 23) (by decide +kernel))) (hts (.instantiable RX1 5) (List.mem_of_getElem? (i := 24) (by decide +kernel))) (hts (.initialized RX1) (List.mem_of_getElem? (i := 15) (by decide +kernel))) hK hP hD hS hA rfl (fun j hj => by rcases (show j = 0 ∨ j = 1 ∨ j = 2 ∨ j = 3 ∨ j = 4 by omega) with rfl | rfl | rfl | rfl | rfl <;> rfl) (Nat.le_of_ble_eq_true rfl) (Nat.le_of_ble_eq_true rfl) dL_law_0 (fun q0 H hP hD hS => ?_)
  have hP : va_P (dC, dI) vwCl [(q0, .inr (1, [.null, .null, .long 0, .int 0, .int 0]))] H := hP
  have hD : va_D A [(q0, .inr (1, [.null, .null, .long 0, .int 0, .int 0]))] := hD
  refine lv_dup hx hb dL_law_3 rfl ?_
  have hPc := hP.sub (ws' := [(q0, .inr (1, [.null, .null, .long 0, .int 0, .int 0]))]) [0] rfl
  have hDc := hD.sub (ws' := [(q0, .inr (1, [.null, .null, .long 0, .int 0, .int 0]))]) [0] (by decide) rfl
  have hKc := hK.sub (tys' := []) [] rfl
  have hFc := va_free (wc := [(q0, .inr (1, [.null, .null, .long 0, .int 0, .int 0]))]) hD hS hA [0] rfl
  refine va_callv (va_runI (As := []) (rest := [.ref q0]) ⟨hx, hb, hml, hown, hts⟩ (mtX1_init l dC dI q0 H.size) (cwI 0 hts (gTbl mc0 (List.mem_of_getElem? (i := 27) (by decide +kernel)) (by decide +kernel)) rfl rfl rfl (hts (.initialized RX1) (List.mem_of_getElem? (i := 15) (by decide +kernel))) (hts (.methodLink RL 41 yX1_init) (List.mem_of_getElem? (i := 25) (by decide +kernel))) (hts (.instanceMethod yX1_init) (List.mem_of_getElem? (i := 26) (by decide +kernel))) rfl (by decide +kernel) ⟨Nat.le_of_ble_eq_true rfl, Nat.le_of_ble_eq_true rfl⟩) ⟨fun a U g mk z => ⟨z.1, z.2.1, z.2.2.1, va_K.moved (u := U) (U := U.calling g mk a) (Vm.Alike.refl U.vm) z.2.2.2.1, z.2.2.2.2.1, va_Nw.same rfl rfl z.2.2.2.2.2⟩, fun U hU hW => ⟨rfl, by rw [hU], by rw [hU]; exact hPc, va_K.moved hW.alike hKc, hDc.weaken (fun _ _ _ _ => trivial), va_Nw.warmM hW hNest⟩⟩ rfl rfl hl.1 rfl (lv_room (Nat.le_of_ble_eq_true rfl)) dL_law_4 ⟨Nat.le_of_ble_eq_true rfl, Nat.le_of_ble_eq_true rfl⟩) hS (fun q _ h => hFc q h) hFc (fun u t H1 locs ht hvm hpo hB hz1 hk1 hS => ?_)
  obtain ⟨⟨cL, cI⟩, qw, qr, qc, qn⟩ := u
  obtain ⟨hP1, hK1, hD1⟩ := hB
  rw [ht] at hP1
  have hK1 := va_K.moved hvm.symm hK1
  obtain ⟨hP, hD⟩ := va_join (wr := []) (w1 := [(q0, .inr (1, [.ref qw, .ref qr, .long 0, .int (b2i false), .int (b2i false)])), (qw, .inl (cL, 8192, .inr (.inl (fun _ => 0)))), (qr, .inr (0, [.ref qc, .ref qn])), (qc, .inl (cI, 8, .inl (fun _ => 0))), (qn, .inl (cL, 8, .inr (.inl (fun _ => 0))))]) hP hD [0] [] rfl rfl (by decide) (by decide) hk1 hFc hP1 hD1
  generalize H1 = H at hP hS ⊢
  have hP : va_P (dC, dI) vwCl [(q0, .inr (1, [.ref qw, .ref qr, .long 0, .int (b2i false), .int (b2i false)])), (qw, .inl (cL, 8192, .inr (.inl (fun _ => 0)))), (qr, .inr (0, [.ref qc, .ref qn])), (qc, .inl (cI, 8, .inl (fun _ => 0))), (qn, .inl (cL, 8, .inr (.inl (fun _ => 0))))] H := hP
  have hD : va_D A [(q0, .inr (1, [.ref qw, .ref qr, .long 0, .int (b2i false), .int (b2i false)])), (qw, .inl (cL, 8192, .inr (.inl (fun _ => 0)))), (qr, .inr (0, [.ref qc, .ref qn])), (qc, .inl (cI, 8, .inl (fun _ => 0))), (qn, .inl (cL, 8, .inr (.inl (fun _ => 0))))] := hD
  have hK := hK1
  refine lv_astore_n (lv' := [(1, .ref q0), (0, .ref b)]) hx hb dL_law_7 rfl hl (by decide) rfl (fun ls hl => ?_)
  refine va_new (ci := 2) (fs := [.int 0, .null, .long 0, .int 0, .int 0, .null, .null, .long 0, .long 0]) (C := RX2) (T := TX2) (N := 9) hx hb hts inX2 tyX2 tyX2_ok hown (hts (.classLink RL 42 RX2) (List.mem_of_getElem? (i := 349) (by decide +kernel))) (hts (.instantiable RX2 9) (List.mem_of_getElem? (i := 350) (by decide +kernel))) (hts (.initialized RX2) (List.mem_of_getElem? (i := 17) (by decide +kernel))) hK hP hD hS hA rfl (fun j hj => by rcases (show j = 0 ∨ j = 1 ∨ j = 2 ∨ j = 3 ∨ j = 4 ∨ j = 5 ∨ j = 6 ∨ j = 7 ∨ j = 8 by omega) with rfl | rfl | rfl | rfl | rfl | rfl | rfl | rfl | rfl <;> rfl) (Nat.le_of_ble_eq_true rfl) (Nat.le_of_ble_eq_true rfl) dL_law_8 (fun g0 H hP hD hS => ?_)
  have hP : va_P (dC, dI) vwCl [(q0, .inr (1, [.ref qw, .ref qr, .long 0, .int (b2i false), .int (b2i false)])), (qw, .inl (cL, 8192, .inr (.inl (fun _ => 0)))), (qr, .inr (0, [.ref qc, .ref qn])), (qc, .inl (cI, 8, .inl (fun _ => 0))), (qn, .inl (cL, 8, .inr (.inl (fun _ => 0)))), (g0, .inr (2, [.int 0, .null, .long 0, .int 0, .int 0, .null, .null, .long 0, .long 0]))] H := hP
  have hD : va_D A [(q0, .inr (1, [.ref qw, .ref qr, .long 0, .int (b2i false), .int (b2i false)])), (qw, .inl (cL, 8192, .inr (.inl (fun _ => 0)))), (qr, .inr (0, [.ref qc, .ref qn])), (qc, .inl (cI, 8, .inl (fun _ => 0))), (qn, .inl (cL, 8, .inr (.inl (fun _ => 0)))), (g0, .inr (2, [.int 0, .null, .long 0, .int 0, .int 0, .null, .null, .long 0, .long 0]))] := hD
  refine lv_dup hx hb dL_law_11 rfl ?_
  have hPc := hP.sub (ws' := [(g0, .inr (2, [.int 0, .null, .long 0, .int 0, .int 0, .null, .null, .long 0, .long 0]))]) [5] rfl
  have hDc := hD.sub (ws' := [(g0, .inr (2, [.int 0, .null, .long 0, .int 0, .int 0, .null, .null, .long 0, .long 0]))]) [5] (by decide) rfl
  have hKc := hK.sub (tys' := []) [] rfl
  have hFc := va_free (wc := [(g0, .inr (2, [.int 0, .null, .long 0, .int 0, .int 0, .null, .null, .long 0, .long 0]))]) hD hS hA [5] rfl
  refine va_callv (va_runI (As := []) (rest := [.ref g0]) ⟨hx, hb, hml, hown, hts⟩ (mtX2_init l dC dI g0 H.size) (cwI 0 hts (gTbl mc0 (List.mem_of_getElem? (i := 353) (by decide +kernel)) (by decide +kernel)) rfl rfl rfl (hts (.initialized RX2) (List.mem_of_getElem? (i := 17) (by decide +kernel))) (hts (.methodLink RL 44 yX2_init) (List.mem_of_getElem? (i := 351) (by decide +kernel))) (hts (.instanceMethod yX2_init) (List.mem_of_getElem? (i := 352) (by decide +kernel))) rfl (by decide +kernel) ⟨Nat.le_of_ble_eq_true rfl, Nat.le_of_ble_eq_true rfl⟩) ⟨fun a U g mk z => ⟨z.1, z.2.1, z.2.2.1, va_K.moved (u := U) (U := U.calling g mk a) (Vm.Alike.refl U.vm) z.2.2.2.1, z.2.2.2.2⟩, fun U hU hW => ⟨rfl, by rw [hU], by rw [hU]; exact hPc, va_K.moved hW.alike hKc, hDc.weaken (fun _ _ _ _ => trivial)⟩⟩ rfl rfl hl.1 rfl (lv_room (Nat.le_of_ble_eq_true rfl)) dL_law_12 ⟨Nat.le_of_ble_eq_true rfl, Nat.le_of_ble_eq_true rfl⟩) hS (fun q _ h => hFc q h) hFc (fun u t H1 locs ht hvm hpo hB hz1 hk1 hS => ?_)
  obtain ⟨⟨cL2, cI2⟩, gm, gc, gn⟩ := u
  obtain ⟨hP1, hK1, hD1⟩ := hB
  rw [ht] at hP1
  have hK1 := va_K.moved hvm.symm hK1
  have ec : cL2 = cL := ra_long hK1 hK 0 0 rfl rfl
  have ei : cI2 = cI := ra_int hK1 hK 1 1 rfl rfl
  rw [ec, ei] at hP1 hK1 hD1
  obtain ⟨hP, hD⟩ := va_join (wr := [(q0, .inr (1, [.ref qw, .ref qr, .long 0, .int (b2i false), .int (b2i false)])), (qw, .inl (cL, 8192, .inr (.inl (fun _ => 0)))), (qr, .inr (0, [.ref qc, .ref qn])), (qc, .inl (cI, 8, .inl (fun _ => 0))), (qn, .inl (cL, 8, .inr (.inl (fun _ => 0))))]) (w1 := [(g0, .inr (2, [.int 0, .ref gm, .long 0, .int (b2i false), .int (b2i false), .ref gc, .ref gn, .long 0, .long 0])), (gm, .inl (cL, 8192, .inr (.inl (fun _ => 0)))), (gc, .inl (cI, 8, .inl (fun _ => 0))), (gn, .inl (cL, 8, .inr (.inl (fun _ => 0))))]) hP hD [5] [0, 1, 2, 3, 4] rfl rfl (by decide) (by decide) hk1 hFc hP1 hD1
  generalize H1 = H at hP hS ⊢
  have hP : va_P (dC, dI) vwCl [(q0, .inr (1, [.ref qw, .ref qr, .long 0, .int (b2i false), .int (b2i false)])), (qw, .inl (cL, 8192, .inr (.inl (fun _ => 0)))), (qr, .inr (0, [.ref qc, .ref qn])), (qc, .inl (cI, 8, .inl (fun _ => 0))), (qn, .inl (cL, 8, .inr (.inl (fun _ => 0)))), (g0, .inr (2, [.int 0, .ref gm, .long 0, .int (b2i false), .int (b2i false), .ref gc, .ref gn, .long 0, .long 0])), (gm, .inl (cL, 8192, .inr (.inl (fun _ => 0)))), (gc, .inl (cI, 8, .inl (fun _ => 0))), (gn, .inl (cL, 8, .inr (.inl (fun _ => 0))))] H := hP
  have hD : va_D A [(q0, .inr (1, [.ref qw, .ref qr, .long 0, .int (b2i false), .int (b2i false)])), (qw, .inl (cL, 8192, .inr (.inl (fun _ => 0)))), (qr, .inr (0, [.ref qc, .ref qn])), (qc, .inl (cI, 8, .inl (fun _ => 0))), (qn, .inl (cL, 8, .inr (.inl (fun _ => 0)))), (g0, .inr (2, [.int 0, .ref gm, .long 0, .int (b2i false), .int (b2i false), .ref gc, .ref gn, .long 0, .long 0])), (gm, .inl (cL, 8192, .inr (.inl (fun _ => 0)))), (gc, .inl (cI, 8, .inl (fun _ => 0))), (gn, .inl (cL, 8, .inr (.inl (fun _ => 0))))] := hD
  have hK := hK1
  refine lv_astore_n (lv' := [(2, .ref g0), (1, .ref q0), (0, .ref b)]) hx hb dL_law_15 rfl hl (by decide) rfl (fun ls hl => ?_)
  refine lv_iconst (v := 1) hx hb dL_law_16 (by decide) ?_
  refine va_newa (atype := .long) (a0 := (1, .inr (.inl (fun _ => 0)))) (N' := 1) hx hb (hts (.arrayClass .long) (List.mem_of_getElem? (i := 44) (by decide +kernel))) rfl hK hP hD hS hA na_l (by decide) (by decide +kernel) (Nat.le_of_ble_eq_true rfl) (Nat.le_of_ble_eq_true rfl) (Nat.le_of_ble_eq_true rfl) dL_law_17 (fun qo cO H hK hP hD hS => ?_)
  have hK : va_K (dC, dI) vwCl [(cL, .long), (cI, .int), (cO, .long)] s := hK
  have hP : va_P (dC, dI) vwCl [(q0, .inr (1, [.ref qw, .ref qr, .long 0, .int (b2i false), .int (b2i false)])), (qw, .inl (cL, 8192, .inr (.inl (fun _ => 0)))), (qr, .inr (0, [.ref qc, .ref qn])), (qc, .inl (cI, 8, .inl (fun _ => 0))), (qn, .inl (cL, 8, .inr (.inl (fun _ => 0)))), (g0, .inr (2, [.int 0, .ref gm, .long 0, .int (b2i false), .int (b2i false), .ref gc, .ref gn, .long 0, .long 0])), (gm, .inl (cL, 8192, .inr (.inl (fun _ => 0)))), (gc, .inl (cI, 8, .inl (fun _ => 0))), (gn, .inl (cL, 8, .inr (.inl (fun _ => 0)))), (qo, .inl (cO, 1, .inr (.inl (fun _ => 0))))] H := hP
  have hD : va_D A [(q0, .inr (1, [.ref qw, .ref qr, .long 0, .int (b2i false), .int (b2i false)])), (qw, .inl (cL, 8192, .inr (.inl (fun _ => 0)))), (qr, .inr (0, [.ref qc, .ref qn])), (qc, .inl (cI, 8, .inl (fun _ => 0))), (qn, .inl (cL, 8, .inr (.inl (fun _ => 0)))), (g0, .inr (2, [.int 0, .ref gm, .long 0, .int (b2i false), .int (b2i false), .ref gc, .ref gn, .long 0, .long 0])), (gm, .inl (cL, 8192, .inr (.inl (fun _ => 0)))), (gc, .inl (cI, 8, .inl (fun _ => 0))), (gn, .inl (cL, 8, .inr (.inl (fun _ => 0)))), (qo, .inl (cO, 1, .inr (.inl (fun _ => 0))))] := hD
  refine lv_astore_n (lv' := [(3, .ref qo), (2, .ref g0), (1, .ref q0), (0, .ref b)]) hx hb dL_law_19 rfl hl (by decide) rfl (fun ls hl => ?_)
  refine lv_iconst (v := 0) hx hb dL_law_20 (by decide) ?_
  refine lv_istore (lv' := [(4, .int 0), (3, .ref qo), (2, .ref g0), (1, .ref q0), (0, .ref b)]) hx hb dL_law_21 hl (by decide) rfl (fun ls hl => ?_)
  have eo : cO = cL := ra_long hK hK 2 0 rfl rfl
  subst eo
  refine W.widen (k := 10 + 0) (n := 16433 + 6 * 0) (Nat.le_of_ble_eq_true rfl) (Nat.le_of_ble_eq_true rfl) ?_
  exact law_loop hl0 hL C0 hA hA2 hX37 hX47 hX29 hX70 hX86 (hK.sub (tys' := [(cO, .long), (cI, .int)]) [0, 1] rfl) (L + 1) 0 (by omega) (by omega) (fun _ => 0) 0 false false (fun _ => 0) (fun _ => 0) 0 0 0 (fun _ => 0) _ _ ls okC_0 okN_0 (hP.sub (ws' := (wLW cO cI q0 qw qr qc qn qo g0 gm gc gn (fun _ => 0) 0 false false (fun _ => 0) (fun _ => 0) 0 0 0 (fun _ => 0))) [9, 0, 1, 2, 3, 4, 5, 6, 7, 8] rfl) (hD.sub (ws' := (wLW cO cI q0 qw qr qc qn qo g0 gm gc gn (fun _ => 0) 0 false false (fun _ => 0) (fun _ => 0) 0 0 0 (fun _ => 0))) [9, 0, 1, 2, 3, 4, 5, 6, 7, 8] (by decide) rfl) hS (lv_sub hl [4, 3, 2, 1, 0] rfl)
