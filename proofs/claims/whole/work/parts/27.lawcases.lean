set_option maxHeartbeats 800000 in
set_option maxRecDepth 100000 in
theorem law_c0 {p : Program} {l : Launch} {e : Env} {s : State} {m : MethodId} {below : List Frame} {meth : Method} {c : Code} {b L : Nat} {xs : Nat → Int32} {A : Nat → Prop} (hl0 : l.stackTraces = false) (hL : L ≤ 3072) (C0 : lw_At p s m meth c b L xs) (hA : ∀ q, s.heap.size ≤ q → A q) (hA2 : ∀ q, A q → s.heap.size ≤ q) {sa37 : Nat} (hX37 : xR RX1 37 "no word of memory is there" sa37 xE1 A s) {sa47 : Nat} (hX47 : xR RX1 47 "the sort is none of 0, 8, 9" sa47 xE2 A s) {sa29 : Nat} (hX29 : xR RX0 29 "no such region" sa29 xE1 A s) {sa70 : Nat} (hX70 : xR RX1 70 "no such access" sa70 xE2 A s) {sa86 : Nat} (hX86 : xR RX1 86 "no such access, or no physical address" sa86 xE2 A s) (dC : Nat → ClassId) (dI : Nat → Nat → Nat) (cL : ClassId) (cI : ClassId) (q0 : Nat) (qw : Nat) (qr : Nat) (qc : Nat) (qn : Nat) (qo : Nat) (g0 : Nat) (gm : Nat) (gc : Nat) (gn : Nat) (w : Nat → Int64) (tb : Int64) (su : Bool) (mx : Bool) (cf : Nat → Int32) (nu : Nat → Int64) (cd : Int32) (fr : Int64) (tt : Int64) (ov : Nat → Int64) (j : Nat) (hj : 6 * j + 6 ≤ L) (hK : va_K (dC, dI) vwCl [(cL, .long), (cI, .int)] s) (kk : (∀ (w : Nat → Int64) (tb : Int64) (su : Bool) (mx : Bool) (cf : Nat → Int32) (nu : Nat → Int64) (cd : Int32) (fr : Int64) (tt : Int64) (ov : Nat → Int64) (H : Heap) (locs : List Loc) (ls : Array Slot), okC cf → okN nu → va_P (dC, dI) vwCl (wLW cL cI q0 qw qr qc qn qo g0 gm gc gn w tb su mx cf nu cd fr tt ov) H → va_D A (wLW cL cI q0 qw qr qc qn qo g0 gm gc gn w tb su mx cf nu cd fr tt ov) → va_S A s.heap H locs → lv_has ls 8 [(0, .ref b), (1, .ref q0), (2, .ref g0), (3, .ref qo), (4, .int (nI (6 * j)))] → W p l e room_1 s m #[Value.ref b] below meth c H locs (10 + (j + 1)) (16433 + 6 * (j + 1)) (lw_Z below #[Value.ref b] s) (F0 m 921 ls []))) (H : Heap) (locs : List Loc) (ls : Array Slot) (hc : okC cf) (hn : okN nu) (hP : va_P (dC, dI) vwCl (wLW cL cI q0 qw qr qc qn qo g0 gm gc gn w tb su mx cf nu cd fr tt ov) H) (hD : va_D A (wLW cL cI q0 qw qr qc qn qo g0 gm gc gn w tb su mx cf nu cd fr tt ov)) (hS : va_S A s.heap H locs) (hl : lv_has ls 8 [(0, .ref b), (1, .ref q0), (2, .ref g0), (3, .ref qo), (4, .int (nI (6 * j)))]) : W p l e room_1 s m #[Value.ref b] below meth c H locs (10 + j) (16433 + 6 * j) (lw_Z below #[Value.ref b] s) (F0 m 104 ls []) := by
  obtain ⟨hx, hb, hr, hml, hown, hts, hX, hbl, hlocks, hgv⟩ := id C0
  have hbA : ¬ A b := fun h => absurd (hA2 b h) (Nat.not_le.mpr hbl)
  have hP : va_P (dC, dI) vwCl [(qo, .inl (cL, 1, .inr (.inl ov))), (q0, .inr (1, [.ref qw, .ref qr, .long tb, .int (b2i su), .int (b2i mx)])), (qw, .inl (cL, 8192, .inr (.inl w))), (qr, .inr (0, [.ref qc, .ref qn])), (qc, .inl (cI, 8, .inl cf)), (qn, .inl (cL, 8, .inr (.inl nu))), (g0, .inr (2, [.int cd, .ref gm, .long tb, .int (b2i su), .int (b2i mx), .ref gc, .ref gn, .long fr, .long tt])), (gm, .inl (cL, 8192, .inr (.inl w))), (gc, .inl (cI, 8, .inl cf)), (gn, .inl (cL, 8, .inr (.inl nu)))] H := hP
  have hD : va_D A [(qo, .inl (cL, 1, .inr (.inl ov))), (q0, .inr (1, [.ref qw, .ref qr, .long tb, .int (b2i su), .int (b2i mx)])), (qw, .inl (cL, 8192, .inr (.inl w))), (qr, .inr (0, [.ref qc, .ref qn])), (qc, .inl (cI, 8, .inl cf)), (qn, .inl (cL, 8, .inr (.inl nu))), (g0, .inr (2, [.int cd, .ref gm, .long tb, .int (b2i su), .int (b2i mx), .ref gc, .ref gn, .long fr, .long tt])), (gm, .inl (cL, 8192, .inr (.inl w))), (gc, .inl (cI, 8, .inl cf)), (gn, .inl (cL, 8, .inr (.inl nu)))] := hD
  by_cases hi : k_wordIndex (mkL (xs (6 * j + 1)) (xs (6 * j + 2))) = -1
  · refine lv_aload_n hx hb dL_law_104 rfl (lv_at hl 1 rfl) ?_
    refine lv_aload_n hx hb dL_law_105 rfl (lv_at hl 0 rfl) ?_
    refine lv_iload hx hb dL_law_106 (lv_at hl 4 rfl) ?_
    refine lv_iconst (v := 1) hx hb dL_law_108 (by decide) ?_
    refine lv_iadd hx hb dL_law_109 ?_
    rw [sc_ix j 1 1 rfl]
    refine va_sld hx hb hX hbl hbA hS (vp_in_nI (show 6 * j + 1 < L by omega) (by omega)) dL_law_110 ?_
    rw [nI_clamp (show 6 * j + 1 < 2 ^ 31 by omega)]
    refine lv_i2l (v := Int32.toInt64 (xs (6 * j + 1))) hx hb dL_law_111 rfl ?_
    refine lv_bipush (v := 32) hx hb dL_law_112 (by decide) ?_
    refine lv_lshl (v := (k_shl (Int32.toInt64 (xs (6 * j + 1))) 32)) hx hb dL_law_114 rfl ?_
    refine lv_aload_n hx hb dL_law_115 rfl (lv_at hl 0 rfl) ?_
    refine lv_iload hx hb dL_law_116 (lv_at hl 4 rfl) ?_
    refine lv_iconst (v := 2) hx hb dL_law_118 (by decide) ?_
    refine lv_iadd hx hb dL_law_119 ?_
    rw [sc_ix j 2 2 rfl]
    refine va_sld hx hb hX hbl hbA hS (vp_in_nI (show 6 * j + 2 < L by omega) (by omega)) dL_law_120 ?_
    rw [nI_clamp (show 6 * j + 2 < 2 ^ 31 by omega)]
    refine lv_i2l (v := Int32.toInt64 (xs (6 * j + 2))) hx hb dL_law_121 rfl ?_
    refine lv_ldc2 (v := 4294967295) hx hb hown (hts (.constantLong RL 45 4294967295) (List.mem_of_getElem? (i := 514) (by decide +kernel))) dL_law_122 ?_
    refine lv_land hx hb dL_law_125 ?_
    refine lv_lor hx hb dL_law_126 ?_
    refine lv_aload_n hx hb dL_law_127 rfl (lv_at hl 3 rfl) ?_
    have hPc := hP.sub (ws' := (wHO cL cI q0 qw qr qc qn w tb su mx cf nu qo ov)) [0, 1, 2, 3, 4, 5] rfl
    have hDc := hD.sub (ws' := (wHO cL cI q0 qw qr qc qn w tb su mx cf nu qo ov)) [0, 1, 2, 3, 4, 5] (by decide) rfl
    have hFc := va_free (wc := (wHO cL cI q0 qw qr qc qn w tb su mx cf nu qo ov)) hD hS hA [0, 1, 2, 3, 4, 5] rfl
    refine va_calli (vx_runSW (As := [.ref q0, .long (mkL (xs (6 * j + 1)) (xs (6 * j + 2))), .ref qo]) (rest := []) ⟨hx, hb, hml, hown, hts⟩ (mtL_word_no l hl0 dC dI cL cI q0 qw qr qc qn w tb su mx cf nu qo ov H.size sa37 (mkL (xs (6 * j + 1)) (xs (6 * j + 2))) hi) (vx_cwSW 3 hts (gTbl (mc1 (List.mem_of_getElem? (i := 96) (by decide +kernel)) (mc1 (List.mem_of_getElem? (i := 97) (by decide +kernel)) (mc1 (List.mem_of_getElem? (i := 14) (by decide +kernel)) mc0))) (List.mem_of_getElem? (i := 98) (by decide +kernel)) (by decide +kernel)) rfl rfl rfl (by decide +kernel) ⟨Nat.le_of_ble_eq_true rfl, Nat.le_of_ble_eq_true rfl⟩) (hl_preX hK hPc hDc hX37 hS (fun q h => hFc q h)) rfl rfl hl.1 rfl (lv_room (Nat.le_of_ble_eq_true rfl)) dL_law_128 ⟨(show 10 + j + 1 ≤ 1041 by omega), (show 16433 + 6 * j + 6 ≤ 24667 by omega)⟩) hS (fun q _ h => hFc q h) hFc (fun r_1 u t H1 locs ht hvm hpo hB hz1 hk1 hS => ?_)
    obtain ⟨hP1, hK1, hD1⟩ := hB
    rw [ht] at hP1
    obtain ⟨hP, hD⟩ := va_join (wr := [(g0, .inr (2, [.int cd, .ref gm, .long tb, .int (b2i su), .int (b2i mx), .ref gc, .ref gn, .long fr, .long tt])), (gm, .inl (cL, 8192, .inr (.inl w))), (gc, .inl (cI, 8, .inl cf)), (gn, .inl (cL, 8, .inr (.inl nu)))]) (w1 := (wHO cL cI q0 qw qr qc qn w tb su mx cf nu qo ov)) hP hD [0, 1, 2, 3, 4, 5] [6, 7, 8, 9] rfl rfl (by decide) (by decide) hk1 hFc hP1 hD1
    generalize H1 = H at hP hS ⊢
    have hP : va_P (dC, dI) vwCl [(g0, .inr (2, [.int cd, .ref gm, .long tb, .int (b2i su), .int (b2i mx), .ref gc, .ref gn, .long fr, .long tt])), (gm, .inl (cL, 8192, .inr (.inl w))), (gc, .inl (cI, 8, .inl cf)), (gn, .inl (cL, 8, .inr (.inl nu))), (qo, .inl (cL, 1, .inr (.inl ov))), (q0, .inr (1, [.ref qw, .ref qr, .long tb, .int (b2i su), .int (b2i mx)])), (qw, .inl (cL, 8192, .inr (.inl w))), (qr, .inr (0, [.ref qc, .ref qn])), (qc, .inl (cI, 8, .inl cf)), (qn, .inl (cL, 8, .inr (.inl nu)))] H := hP
    have hD : va_D A [(g0, .inr (2, [.int cd, .ref gm, .long tb, .int (b2i su), .int (b2i mx), .ref gc, .ref gn, .long fr, .long tt])), (gm, .inl (cL, 8192, .inr (.inl w))), (gc, .inl (cI, 8, .inl cf)), (gn, .inl (cL, 8, .inr (.inl nu))), (qo, .inl (cL, 1, .inr (.inl ov))), (q0, .inr (1, [.ref qw, .ref qr, .long tb, .int (b2i su), .int (b2i mx)])), (qw, .inl (cL, 8192, .inr (.inl w))), (qr, .inr (0, [.ref qc, .ref qn])), (qc, .inl (cI, 8, .inl cf)), (qn, .inl (cL, 8, .inr (.inl nu)))] := hD
    have er_1 : r_1 = 1 := hpo
    subst er_1
    refine lv_istore (lv' := [(5, .int 1), (0, .ref b), (1, .ref q0), (2, .ref g0), (3, .ref qo), (4, .int (nI (6 * j)))]) hx hb dL_law_131 hl (by decide) rfl (fun ls hl => ?_)
    refine lv_aload_n hx hb dL_law_133 rfl (lv_at hl 3 rfl) ?_
    refine lv_aload_n hx hb dL_law_134 rfl (lv_at hl 1 rfl) ?_
    refine lv_iload hx hb dL_law_135 (lv_at hl 5 rfl) ?_
    refine lv_iconst (v := 1) hx hb dL_law_137 (by decide) ?_
    refine lv_iadd hx hb dL_law_138 ?_
    rw [sc_ix j 1 1 rfl]
    refine va_sld hx hb hX hbl hbA hS (vp_in_nI (show 6 * j + 1 < L by omega) (by omega)) dL_law_139 ?_
    rw [nI_clamp (show 6 * j + 1 < 2 ^ 31 by omega)]
    refine lv_i2l (v := Int32.toInt64 (xs (6 * j + 1))) hx hb dL_law_140 rfl ?_
    refine lv_bipush (v := 32) hx hb dL_law_141 (by decide) ?_
    refine lv_lshl (v := (k_shl (Int32.toInt64 (xs (6 * j + 1))) 32)) hx hb dL_law_143 rfl ?_
    refine lv_aload_n hx hb dL_law_144 rfl (lv_at hl 1 rfl) ?_
    refine lv_iload hx hb dL_law_145 (lv_at hl 5 rfl) ?_
    refine lv_iconst (v := 2) hx hb dL_law_147 (by decide) ?_
    refine lv_iadd hx hb dL_law_148 ?_
    rw [sc_ix j 2 2 rfl]
    refine va_sld hx hb hX hbl hbA hS (vp_in_nI (show 6 * j + 2 < L by omega) (by omega)) dL_law_149 ?_
    rw [nI_clamp (show 6 * j + 2 < 2 ^ 31 by omega)]
    refine lv_i2l (v := Int32.toInt64 (xs (6 * j + 2))) hx hb dL_law_150 rfl ?_
    refine lv_ldc2 (v := 4294967295) hx hb hown (hts (.constantLong RL 45 4294967295) (List.mem_of_getElem? (i := 514) (by decide +kernel))) dL_law_151 ?_
    refine lv_land hx hb dL_law_154 ?_
    refine lv_lor hx hb dL_law_155 ?_
    have hPc := hP.sub (ws' := (wMD cL cI g0 gm gc gn cd w tb su mx cf nu fr tt)) [0, 1, 2, 3] rfl
    have hDc := hD.sub (ws' := (wMD cL cI g0 gm gc gn cd w tb su mx cf nu fr tt)) [0, 1, 2, 3] (by decide) rfl
    have hFc := va_free (wc := (wMD cL cI g0 gm gc gn cd w tb su mx cf nu fr tt)) hD hS hA [0, 1, 2, 3] rfl
    refine va_calll (va_runV (As := [.long (mkL (xs (6 * j + 1)) (xs (6 * j + 2)))]) (rest := []) ⟨hx, hb, hml, hown, hts⟩ (mtX2_word_no l dC dI cL cI g0 gm gc gn cd w tb su mx cf nu fr tt H.size (mkL (xs (6 * j + 1)) (xs (6 * j + 2))) (hi)) (cwV 1 hts (gTbl (mc1 (List.mem_of_getElem? (i := 387) (by decide +kernel)) (mc1 (List.mem_of_getElem? (i := 388) (by decide +kernel)) (mc1 (List.mem_of_getElem? (i := 389) (by decide +kernel)) (mc1 (List.mem_of_getElem? (i := 17) (by decide +kernel)) mc0)))) (List.mem_of_getElem? (i := 390) (by decide +kernel)) (by decide +kernel)) rfl rfl rfl (by decide +kernel) ⟨Nat.le_of_ble_eq_true rfl, Nat.le_of_ble_eq_true rfl⟩) (mu_pre (ci := 2) (q0 := 0) hK hPc hDc rfl rfl) rfl rfl hl.1 rfl (lv_room (Nat.le_of_ble_eq_true rfl)) dL_law_156 ⟨(show 10 + j + 1 + 0 ≤ 1041 by omega), (show 16433 + 6 * j + 6 + 0 ≤ 24667 by omega)⟩) hS (fun q _ h => hFc q h) hFc (fun r_2 u t H1 locs ht hvm hpo hB hz1 hk1 hS => ?_)
    obtain ⟨hP1, hK1, hD1⟩ := hB
    rw [ht] at hP1
    obtain ⟨hP, hD⟩ := va_join (wr := [(qo, .inl (cL, 1, .inr (.inl ov))), (q0, .inr (1, [.ref qw, .ref qr, .long tb, .int (b2i su), .int (b2i mx)])), (qw, .inl (cL, 8192, .inr (.inl w))), (qr, .inr (0, [.ref qc, .ref qn])), (qc, .inl (cI, 8, .inl cf)), (qn, .inl (cL, 8, .inr (.inl nu)))]) (w1 := (wMD cL cI g0 gm gc gn (1) w tb su mx cf nu fr tt)) hP hD [0, 1, 2, 3] [4, 5, 6, 7, 8, 9] rfl rfl (by decide) (by decide) hk1 hFc hP1 hD1
    generalize H1 = H at hP hS ⊢
    have hP : va_P (dC, dI) vwCl [(qo, .inl (cL, 1, .inr (.inl ov))), (q0, .inr (1, [.ref qw, .ref qr, .long tb, .int (b2i su), .int (b2i mx)])), (qw, .inl (cL, 8192, .inr (.inl w))), (qr, .inr (0, [.ref qc, .ref qn])), (qc, .inl (cI, 8, .inl cf)), (qn, .inl (cL, 8, .inr (.inl nu))), (g0, .inr (2, [.int (1), .ref gm, .long tb, .int (b2i su), .int (b2i mx), .ref gc, .ref gn, .long fr, .long tt])), (gm, .inl (cL, 8192, .inr (.inl w))), (gc, .inl (cI, 8, .inl cf)), (gn, .inl (cL, 8, .inr (.inl nu)))] H := hP
    have hD : va_D A [(qo, .inl (cL, 1, .inr (.inl ov))), (q0, .inr (1, [.ref qw, .ref qr, .long tb, .int (b2i su), .int (b2i mx)])), (qw, .inl (cL, 8192, .inr (.inl w))), (qr, .inr (0, [.ref qc, .ref qn])), (qc, .inl (cI, 8, .inl cf)), (qn, .inl (cL, 8, .inr (.inl nu))), (g0, .inr (2, [.int (1), .ref gm, .long tb, .int (b2i su), .int (b2i mx), .ref gc, .ref gn, .long fr, .long tt])), (gm, .inl (cL, 8192, .inr (.inl w))), (gc, .inl (cI, 8, .inl cf)), (gn, .inl (cL, 8, .inr (.inl nu)))] := hD
    have er_2 : r_2 = (0) := hpo
    subst er_2
    refine lv_lstore (lv' := [(6, .long (0)), (5, .int 1), (0, .ref b), (1, .ref q0), (2, .ref g0), (3, .ref qo), (4, .int (nI (6 * j)))]) hx hb dL_law_159 hl (by decide) rfl (fun ls hl => ?_)
    refine lv_aload_n hx hb dL_law_161 rfl (lv_at hl 4 rfl) ?_
    refine vp_callSi (W.runV (As := []) (rest := []) ⟨hx, hb, hml, hown, hts⟩ (mtX2_thrown l dC dI cL cI g0 gm gc gn (1) w tb su mx cf nu fr tt  ) (cwV 0 hts (gTbl (mc1 (List.mem_of_getElem? (i := 383) (by decide +kernel)) (mc1 (List.mem_of_getElem? (i := 384) (by decide +kernel)) (mc1 (List.mem_of_getElem? (i := 385) (by decide +kernel)) (mc1 (List.mem_of_getElem? (i := 17) (by decide +kernel)) mc0)))) (List.mem_of_getElem? (i := 386) (by decide +kernel)) (by decide +kernel)) rfl rfl rfl (by decide +kernel) ⟨Nat.le_of_ble_eq_true rfl, Nat.le_of_ble_eq_true rfl⟩) (rd_pre (ci := 2) (q0 := 0) hK (hP.sub (ws' := (wMD cL cI g0 gm gc gn (1) w tb su mx cf nu fr tt)) [6, 7, 8, 9] rfl) rfl rfl) rfl rfl hl.1 rfl (lv_room (Nat.le_of_ble_eq_true rfl)) dL_law_162 ⟨(show 10 + j + 1 + 0 ≤ 1041 by omega), (show 16433 + 6 * j + 6 + 0 ≤ 24667 by omega)⟩) (fun r_3 er_3 => ?_)
    have er_3 : r_3 = (1) := er_3
    subst er_3
    refine lv_iload hx hb dL_law_165 (lv_at hl 1 rfl) ?_
    refine lv_icmp_eq (tgt := 172) hx hb dL_law_167 (by decide) (fun c_4 => ?_) (fun c_4 => ?_)
    · refine lv_iload hx hb dL_law_172 (lv_at hl 1 rfl) ?_
      refine lv_if_ne (tgt := 188) hx hb dL_law_174 (by decide) (fun c_5 => ?_) (fun c_5 => ?_)
      · refine lv_goto (tgt := 921) hx hb dL_law_188 (by decide) ?_
        refine W.widen (k := 10 + (j + 1)) (n := 16433 + 6 * (j + 1)) (by omega) (by omega) ?_
        exact kk w tb su mx cf nu (1) fr tt ov _ _ ls (hc) (hn) (hP.sub (ws' := (wLW cL cI q0 qw qr qc qn qo g0 gm gc gn w tb su mx cf nu (1) fr tt ov)) [0, 1, 2, 3, 4, 5, 6, 7, 8, 9] rfl) (hD.sub (ws' := (wLW cL cI q0 qw qr qc qn qo g0 gm gc gn w tb su mx cf nu (1) fr tt ov)) [0, 1, 2, 3, 4, 5, 6, 7, 8, 9] (by decide) rfl) hS (lv_sub hl [2, 3, 4, 5, 6] rfl)
      · first | exact absurd c_5 (by decide) | exact absurd (by decide) c_5
    · first | exact absurd c_4 (by decide) | exact absurd (by decide) c_4
  · refine lv_aload_n hx hb dL_law_104 rfl (lv_at hl 1 rfl) ?_
    refine lv_aload_n hx hb dL_law_105 rfl (lv_at hl 0 rfl) ?_
    refine lv_iload hx hb dL_law_106 (lv_at hl 4 rfl) ?_
    refine lv_iconst (v := 1) hx hb dL_law_108 (by decide) ?_
    refine lv_iadd hx hb dL_law_109 ?_
    rw [sc_ix j 1 1 rfl]
    refine va_sld hx hb hX hbl hbA hS (vp_in_nI (show 6 * j + 1 < L by omega) (by omega)) dL_law_110 ?_
    rw [nI_clamp (show 6 * j + 1 < 2 ^ 31 by omega)]
    refine lv_i2l (v := Int32.toInt64 (xs (6 * j + 1))) hx hb dL_law_111 rfl ?_
    refine lv_bipush (v := 32) hx hb dL_law_112 (by decide) ?_
    refine lv_lshl (v := (k_shl (Int32.toInt64 (xs (6 * j + 1))) 32)) hx hb dL_law_114 rfl ?_
    refine lv_aload_n hx hb dL_law_115 rfl (lv_at hl 0 rfl) ?_
    refine lv_iload hx hb dL_law_116 (lv_at hl 4 rfl) ?_
    refine lv_iconst (v := 2) hx hb dL_law_118 (by decide) ?_
    refine lv_iadd hx hb dL_law_119 ?_
    rw [sc_ix j 2 2 rfl]
    refine va_sld hx hb hX hbl hbA hS (vp_in_nI (show 6 * j + 2 < L by omega) (by omega)) dL_law_120 ?_
    rw [nI_clamp (show 6 * j + 2 < 2 ^ 31 by omega)]
    refine lv_i2l (v := Int32.toInt64 (xs (6 * j + 2))) hx hb dL_law_121 rfl ?_
    refine lv_ldc2 (v := 4294967295) hx hb hown (hts (.constantLong RL 45 4294967295) (List.mem_of_getElem? (i := 514) (by decide +kernel))) dL_law_122 ?_
    refine lv_land hx hb dL_law_125 ?_
    refine lv_lor hx hb dL_law_126 ?_
    refine lv_aload_n hx hb dL_law_127 rfl (lv_at hl 3 rfl) ?_
    have hPc := hP.sub (ws' := (wHO cL cI q0 qw qr qc qn w tb su mx cf nu qo ov)) [0, 1, 2, 3, 4, 5] rfl
    have hDc := hD.sub (ws' := (wHO cL cI q0 qw qr qc qn w tb su mx cf nu qo ov)) [0, 1, 2, 3, 4, 5] (by decide) rfl
    have hFc := va_free (wc := (wHO cL cI q0 qw qr qc qn w tb su mx cf nu qo ov)) hD hS hA [0, 1, 2, 3, 4, 5] rfl
    refine va_calli (vx_runSW (As := [.ref q0, .long (mkL (xs (6 * j + 1)) (xs (6 * j + 2))), .ref qo]) (rest := []) ⟨hx, hb, hml, hown, hts⟩ (mtL_word l dC dI cL cI q0 qw qr qc qn w tb su mx cf nu qo ov H.size (mkL (xs (6 * j + 1)) (xs (6 * j + 2))) hi) (vx_cwSW 3 hts (gTbl (mc1 (List.mem_of_getElem? (i := 96) (by decide +kernel)) (mc1 (List.mem_of_getElem? (i := 97) (by decide +kernel)) (mc1 (List.mem_of_getElem? (i := 14) (by decide +kernel)) mc0))) (List.mem_of_getElem? (i := 98) (by decide +kernel)) (by decide +kernel)) rfl rfl rfl (by decide +kernel) ⟨Nat.le_of_ble_eq_true rfl, Nat.le_of_ble_eq_true rfl⟩) (hl_pre hK hPc hDc) rfl rfl hl.1 rfl (lv_room (Nat.le_of_ble_eq_true rfl)) dL_law_128 ⟨(show 10 + j + 0 ≤ 1041 by omega), (show 16433 + 6 * j + 0 ≤ 24667 by omega)⟩) hS (fun q _ h => hFc q h) hFc (fun r_6 u t H1 locs ht hvm hpo hB hz1 hk1 hS => ?_)
    obtain ⟨hP1, hK1, hD1⟩ := hB
    rw [ht] at hP1
    obtain ⟨hP, hD⟩ := va_join (wr := [(g0, .inr (2, [.int cd, .ref gm, .long tb, .int (b2i su), .int (b2i mx), .ref gc, .ref gn, .long fr, .long tt])), (gm, .inl (cL, 8192, .inr (.inl w))), (gc, .inl (cI, 8, .inl cf)), (gn, .inl (cL, 8, .inr (.inl nu)))]) (w1 := (wHO cL cI q0 qw qr qc qn w tb su mx cf nu qo (vp_updL ov 0 (k_at w (mkL (xs (6 * j + 1)) (xs (6 * j + 2))))))) hP hD [0, 1, 2, 3, 4, 5] [6, 7, 8, 9] rfl rfl (by decide) (by decide) hk1 hFc hP1 hD1
    generalize H1 = H at hP hS ⊢
    have hP : va_P (dC, dI) vwCl [(g0, .inr (2, [.int cd, .ref gm, .long tb, .int (b2i su), .int (b2i mx), .ref gc, .ref gn, .long fr, .long tt])), (gm, .inl (cL, 8192, .inr (.inl w))), (gc, .inl (cI, 8, .inl cf)), (gn, .inl (cL, 8, .inr (.inl nu))), (qo, .inl (cL, 1, .inr (.inl (vp_updL ov 0 (k_at w (mkL (xs (6 * j + 1)) (xs (6 * j + 2)))))))), (q0, .inr (1, [.ref qw, .ref qr, .long tb, .int (b2i su), .int (b2i mx)])), (qw, .inl (cL, 8192, .inr (.inl w))), (qr, .inr (0, [.ref qc, .ref qn])), (qc, .inl (cI, 8, .inl cf)), (qn, .inl (cL, 8, .inr (.inl nu)))] H := hP
    have hD : va_D A [(g0, .inr (2, [.int cd, .ref gm, .long tb, .int (b2i su), .int (b2i mx), .ref gc, .ref gn, .long fr, .long tt])), (gm, .inl (cL, 8192, .inr (.inl w))), (gc, .inl (cI, 8, .inl cf)), (gn, .inl (cL, 8, .inr (.inl nu))), (qo, .inl (cL, 1, .inr (.inl (vp_updL ov 0 (k_at w (mkL (xs (6 * j + 1)) (xs (6 * j + 2)))))))), (q0, .inr (1, [.ref qw, .ref qr, .long tb, .int (b2i su), .int (b2i mx)])), (qw, .inl (cL, 8192, .inr (.inl w))), (qr, .inr (0, [.ref qc, .ref qn])), (qc, .inl (cI, 8, .inl cf)), (qn, .inl (cL, 8, .inr (.inl nu)))] := hD
    have er_6 : r_6 = 0 := hpo
    subst er_6
    refine lv_istore (lv' := [(5, .int 0), (0, .ref b), (1, .ref q0), (2, .ref g0), (3, .ref qo), (4, .int (nI (6 * j)))]) hx hb dL_law_131 hl (by decide) rfl (fun ls hl => ?_)
    refine lv_aload_n hx hb dL_law_133 rfl (lv_at hl 3 rfl) ?_
    refine lv_aload_n hx hb dL_law_134 rfl (lv_at hl 1 rfl) ?_
    refine lv_iload hx hb dL_law_135 (lv_at hl 5 rfl) ?_
    refine lv_iconst (v := 1) hx hb dL_law_137 (by decide) ?_
    refine lv_iadd hx hb dL_law_138 ?_
    rw [sc_ix j 1 1 rfl]
    refine va_sld hx hb hX hbl hbA hS (vp_in_nI (show 6 * j + 1 < L by omega) (by omega)) dL_law_139 ?_
    rw [nI_clamp (show 6 * j + 1 < 2 ^ 31 by omega)]
    refine lv_i2l (v := Int32.toInt64 (xs (6 * j + 1))) hx hb dL_law_140 rfl ?_
    refine lv_bipush (v := 32) hx hb dL_law_141 (by decide) ?_
    refine lv_lshl (v := (k_shl (Int32.toInt64 (xs (6 * j + 1))) 32)) hx hb dL_law_143 rfl ?_
    refine lv_aload_n hx hb dL_law_144 rfl (lv_at hl 1 rfl) ?_
    refine lv_iload hx hb dL_law_145 (lv_at hl 5 rfl) ?_
    refine lv_iconst (v := 2) hx hb dL_law_147 (by decide) ?_
    refine lv_iadd hx hb dL_law_148 ?_
    rw [sc_ix j 2 2 rfl]
    refine va_sld hx hb hX hbl hbA hS (vp_in_nI (show 6 * j + 2 < L by omega) (by omega)) dL_law_149 ?_
    rw [nI_clamp (show 6 * j + 2 < 2 ^ 31 by omega)]
    refine lv_i2l (v := Int32.toInt64 (xs (6 * j + 2))) hx hb dL_law_150 rfl ?_
    refine lv_ldc2 (v := 4294967295) hx hb hown (hts (.constantLong RL 45 4294967295) (List.mem_of_getElem? (i := 514) (by decide +kernel))) dL_law_151 ?_
    refine lv_land hx hb dL_law_154 ?_
    refine lv_lor hx hb dL_law_155 ?_
    have hPc := hP.sub (ws' := (wMD cL cI g0 gm gc gn cd w tb su mx cf nu fr tt)) [0, 1, 2, 3] rfl
    have hDc := hD.sub (ws' := (wMD cL cI g0 gm gc gn cd w tb su mx cf nu fr tt)) [0, 1, 2, 3] (by decide) rfl
    have hFc := va_free (wc := (wMD cL cI g0 gm gc gn cd w tb su mx cf nu fr tt)) hD hS hA [0, 1, 2, 3] rfl
    refine va_calll (va_runV (As := [.long (mkL (xs (6 * j + 1)) (xs (6 * j + 2)))]) (rest := []) ⟨hx, hb, hml, hown, hts⟩ (mtX2_word l dC dI cL cI g0 gm gc gn cd w tb su mx cf nu fr tt H.size (mkL (xs (6 * j + 1)) (xs (6 * j + 2))) (hi)) (cwV 1 hts (gTbl (mc1 (List.mem_of_getElem? (i := 387) (by decide +kernel)) (mc1 (List.mem_of_getElem? (i := 388) (by decide +kernel)) (mc1 (List.mem_of_getElem? (i := 389) (by decide +kernel)) (mc1 (List.mem_of_getElem? (i := 17) (by decide +kernel)) mc0)))) (List.mem_of_getElem? (i := 390) (by decide +kernel)) (by decide +kernel)) rfl rfl rfl (by decide +kernel) ⟨Nat.le_of_ble_eq_true rfl, Nat.le_of_ble_eq_true rfl⟩) (mu_pre (ci := 2) (q0 := 0) hK hPc hDc rfl rfl) rfl rfl hl.1 rfl (lv_room (Nat.le_of_ble_eq_true rfl)) dL_law_156 ⟨(show 10 + j + 0 + 0 ≤ 1041 by omega), (show 16433 + 6 * j + 0 + 0 ≤ 24667 by omega)⟩) hS (fun q _ h => hFc q h) hFc (fun r_7 u t H1 locs ht hvm hpo hB hz1 hk1 hS => ?_)
    obtain ⟨hP1, hK1, hD1⟩ := hB
    rw [ht] at hP1
    obtain ⟨hP, hD⟩ := va_join (wr := [(qo, .inl (cL, 1, .inr (.inl (vp_updL ov 0 (k_at w (mkL (xs (6 * j + 1)) (xs (6 * j + 2)))))))), (q0, .inr (1, [.ref qw, .ref qr, .long tb, .int (b2i su), .int (b2i mx)])), (qw, .inl (cL, 8192, .inr (.inl w))), (qr, .inr (0, [.ref qc, .ref qn])), (qc, .inl (cI, 8, .inl cf)), (qn, .inl (cL, 8, .inr (.inl nu)))]) (w1 := (wMD cL cI g0 gm gc gn (0) w tb su mx cf nu fr tt)) hP hD [0, 1, 2, 3] [4, 5, 6, 7, 8, 9] rfl rfl (by decide) (by decide) hk1 hFc hP1 hD1
    generalize H1 = H at hP hS ⊢
    have hP : va_P (dC, dI) vwCl [(qo, .inl (cL, 1, .inr (.inl (vp_updL ov 0 (k_at w (mkL (xs (6 * j + 1)) (xs (6 * j + 2)))))))), (q0, .inr (1, [.ref qw, .ref qr, .long tb, .int (b2i su), .int (b2i mx)])), (qw, .inl (cL, 8192, .inr (.inl w))), (qr, .inr (0, [.ref qc, .ref qn])), (qc, .inl (cI, 8, .inl cf)), (qn, .inl (cL, 8, .inr (.inl nu))), (g0, .inr (2, [.int (0), .ref gm, .long tb, .int (b2i su), .int (b2i mx), .ref gc, .ref gn, .long fr, .long tt])), (gm, .inl (cL, 8192, .inr (.inl w))), (gc, .inl (cI, 8, .inl cf)), (gn, .inl (cL, 8, .inr (.inl nu)))] H := hP
    have hD : va_D A [(qo, .inl (cL, 1, .inr (.inl (vp_updL ov 0 (k_at w (mkL (xs (6 * j + 1)) (xs (6 * j + 2)))))))), (q0, .inr (1, [.ref qw, .ref qr, .long tb, .int (b2i su), .int (b2i mx)])), (qw, .inl (cL, 8192, .inr (.inl w))), (qr, .inr (0, [.ref qc, .ref qn])), (qc, .inl (cI, 8, .inl cf)), (qn, .inl (cL, 8, .inr (.inl nu))), (g0, .inr (2, [.int (0), .ref gm, .long tb, .int (b2i su), .int (b2i mx), .ref gc, .ref gn, .long fr, .long tt])), (gm, .inl (cL, 8192, .inr (.inl w))), (gc, .inl (cI, 8, .inl cf)), (gn, .inl (cL, 8, .inr (.inl nu)))] := hD
    have er_7 : r_7 = (k_at w (mkL (xs (6 * j + 1)) (xs (6 * j + 2)))) := hpo
    subst er_7
    refine lv_lstore (lv' := [(6, .long (k_at w (mkL (xs (6 * j + 1)) (xs (6 * j + 2))))), (5, .int 0), (0, .ref b), (1, .ref q0), (2, .ref g0), (3, .ref qo), (4, .int (nI (6 * j)))]) hx hb dL_law_159 hl (by decide) rfl (fun ls hl => ?_)
    refine lv_aload_n hx hb dL_law_161 rfl (lv_at hl 4 rfl) ?_
    refine vp_callSi (W.runV (As := []) (rest := []) ⟨hx, hb, hml, hown, hts⟩ (mtX2_thrown l dC dI cL cI g0 gm gc gn (0) w tb su mx cf nu fr tt  ) (cwV 0 hts (gTbl (mc1 (List.mem_of_getElem? (i := 383) (by decide +kernel)) (mc1 (List.mem_of_getElem? (i := 384) (by decide +kernel)) (mc1 (List.mem_of_getElem? (i := 385) (by decide +kernel)) (mc1 (List.mem_of_getElem? (i := 17) (by decide +kernel)) mc0)))) (List.mem_of_getElem? (i := 386) (by decide +kernel)) (by decide +kernel)) rfl rfl rfl (by decide +kernel) ⟨Nat.le_of_ble_eq_true rfl, Nat.le_of_ble_eq_true rfl⟩) (rd_pre (ci := 2) (q0 := 0) hK (hP.sub (ws' := (wMD cL cI g0 gm gc gn (0) w tb su mx cf nu fr tt)) [6, 7, 8, 9] rfl) rfl rfl) rfl rfl hl.1 rfl (lv_room (Nat.le_of_ble_eq_true rfl)) dL_law_162 ⟨(show 10 + j + 0 + 0 ≤ 1041 by omega), (show 16433 + 6 * j + 0 + 0 ≤ 24667 by omega)⟩) (fun r_8 er_8 => ?_)
    have er_8 : r_8 = (0) := er_8
    subst er_8
    refine lv_iload hx hb dL_law_165 (lv_at hl 1 rfl) ?_
    refine lv_icmp_eq (tgt := 172) hx hb dL_law_167 (by decide) (fun c_9 => ?_) (fun c_9 => ?_)
    · refine lv_iload hx hb dL_law_172 (lv_at hl 1 rfl) ?_
      refine lv_if_ne (tgt := 188) hx hb dL_law_174 (by decide) (fun c_10 => ?_) (fun c_10 => ?_)
      · first | exact absurd c_10 (by decide) | exact absurd (by decide) c_10
      · refine lv_aload_n hx hb dL_law_177 rfl (lv_at hl 5 rfl) ?_
        refine lv_iconst (v := 0) hx hb dL_law_178 (by decide) ?_
        refine va_lald hx hb hK hP 0 0 rfl rfl (pk_in 0 1 (by decide)) dL_law_179 ?_
        rw [sb_cl0]
        refine lv_lload hx hb dL_law_180 (lv_at hl 0 rfl) ?_
        refine W.lcmp hx hb dL_law_182 ?_
        refine lv_if_eq (tgt := 188) hx hb dL_law_183 (by decide) (fun c_11 => ?_) (fun c_11 => ?_)
        · rw [lg_cmp_eq] at c_11
          refine lv_goto (tgt := 921) hx hb dL_law_188 (by decide) ?_
          refine W.widen (k := 10 + (j + 1)) (n := 16433 + 6 * (j + 1)) (by omega) (by omega) ?_
          exact kk w tb su mx cf nu (0) fr tt (vp_updL ov 0 (k_at w (mkL (xs (6 * j + 1)) (xs (6 * j + 2))))) _ _ ls (hc) (hn) (hP.sub (ws' := (wLW cL cI q0 qw qr qc qn qo g0 gm gc gn w tb su mx cf nu (0) fr tt (vp_updL ov 0 (k_at w (mkL (xs (6 * j + 1)) (xs (6 * j + 2))))))) [0, 1, 2, 3, 4, 5, 6, 7, 8, 9] rfl) (hD.sub (ws' := (wLW cL cI q0 qw qr qc qn qo g0 gm gc gn w tb su mx cf nu (0) fr tt (vp_updL ov 0 (k_at w (mkL (xs (6 * j + 1)) (xs (6 * j + 2))))))) [0, 1, 2, 3, 4, 5, 6, 7, 8, 9] (by decide) rfl) hS (lv_sub hl [2, 3, 4, 5, 6] rfl)
        · rw [lg_cmp_eq] at c_11
          exact absurd pk_uLs c_11
    · first | exact absurd c_9 (by decide) | exact absurd (by decide) c_9
set_option maxHeartbeats 800000 in
set_option maxRecDepth 100000 in
theorem law_c1 {p : Program} {l : Launch} {e : Env} {s : State} {m : MethodId} {below : List Frame} {meth : Method} {c : Code} {b L : Nat} {xs : Nat → Int32} {A : Nat → Prop} (hl0 : l.stackTraces = false) (hL : L ≤ 3072) (C0 : lw_At p s m meth c b L xs) (hA : ∀ q, s.heap.size ≤ q → A q) (hA2 : ∀ q, A q → s.heap.size ≤ q) {sa37 : Nat} (hX37 : xR RX1 37 "no word of memory is there" sa37 xE1 A s) {sa47 : Nat} (hX47 : xR RX1 47 "the sort is none of 0, 8, 9" sa47 xE2 A s) {sa29 : Nat} (hX29 : xR RX0 29 "no such region" sa29 xE1 A s) {sa70 : Nat} (hX70 : xR RX1 70 "no such access" sa70 xE2 A s) {sa86 : Nat} (hX86 : xR RX1 86 "no such access, or no physical address" sa86 xE2 A s) (dC : Nat → ClassId) (dI : Nat → Nat → Nat) (cL : ClassId) (cI : ClassId) (q0 : Nat) (qw : Nat) (qr : Nat) (qc : Nat) (qn : Nat) (qo : Nat) (g0 : Nat) (gm : Nat) (gc : Nat) (gn : Nat) (w : Nat → Int64) (tb : Int64) (su : Bool) (mx : Bool) (cf : Nat → Int32) (nu : Nat → Int64) (cd : Int32) (fr : Int64) (tt : Int64) (ov : Nat → Int64) (j : Nat) (hj : 6 * j + 6 ≤ L) (hK : va_K (dC, dI) vwCl [(cL, .long), (cI, .int)] s) (kk : (∀ (w : Nat → Int64) (tb : Int64) (su : Bool) (mx : Bool) (cf : Nat → Int32) (nu : Nat → Int64) (cd : Int32) (fr : Int64) (tt : Int64) (ov : Nat → Int64) (H : Heap) (locs : List Loc) (ls : Array Slot), okC cf → okN nu → va_P (dC, dI) vwCl (wLW cL cI q0 qw qr qc qn qo g0 gm gc gn w tb su mx cf nu cd fr tt ov) H → va_D A (wLW cL cI q0 qw qr qc qn qo g0 gm gc gn w tb su mx cf nu cd fr tt ov) → va_S A s.heap H locs → lv_has ls 8 [(0, .ref b), (1, .ref q0), (2, .ref g0), (3, .ref qo), (4, .int (nI (6 * j)))] → W p l e room_1 s m #[Value.ref b] below meth c H locs (10 + (j + 1)) (16433 + 6 * (j + 1)) (lw_Z below #[Value.ref b] s) (F0 m 921 ls []))) (H : Heap) (locs : List Loc) (ls : Array Slot) (hc : okC cf) (hn : okN nu) (hP : va_P (dC, dI) vwCl (wLW cL cI q0 qw qr qc qn qo g0 gm gc gn w tb su mx cf nu cd fr tt ov) H) (hD : va_D A (wLW cL cI q0 qw qr qc qn qo g0 gm gc gn w tb su mx cf nu cd fr tt ov)) (hS : va_S A s.heap H locs) (hl : lv_has ls 8 [(0, .ref b), (1, .ref q0), (2, .ref g0), (3, .ref qo), (4, .int (nI (6 * j)))]) : W p l e room_1 s m #[Value.ref b] below meth c H locs (10 + j) (16433 + 6 * j) (lw_Z below #[Value.ref b] s) (F0 m 191 ls []) := by
  obtain ⟨hx, hb, hr, hml, hown, hts, hX, hbl, hlocks, hgv⟩ := id C0
  have hbA : ¬ A b := fun h => absurd (hA2 b h) (Nat.not_le.mpr hbl)
  have hP : va_P (dC, dI) vwCl [(qo, .inl (cL, 1, .inr (.inl ov))), (q0, .inr (1, [.ref qw, .ref qr, .long tb, .int (b2i su), .int (b2i mx)])), (qw, .inl (cL, 8192, .inr (.inl w))), (qr, .inr (0, [.ref qc, .ref qn])), (qc, .inl (cI, 8, .inl cf)), (qn, .inl (cL, 8, .inr (.inl nu))), (g0, .inr (2, [.int cd, .ref gm, .long tb, .int (b2i su), .int (b2i mx), .ref gc, .ref gn, .long fr, .long tt])), (gm, .inl (cL, 8192, .inr (.inl w))), (gc, .inl (cI, 8, .inl cf)), (gn, .inl (cL, 8, .inr (.inl nu)))] H := hP
  have hD : va_D A [(qo, .inl (cL, 1, .inr (.inl ov))), (q0, .inr (1, [.ref qw, .ref qr, .long tb, .int (b2i su), .int (b2i mx)])), (qw, .inl (cL, 8192, .inr (.inl w))), (qr, .inr (0, [.ref qc, .ref qn])), (qc, .inl (cI, 8, .inl cf)), (qn, .inl (cL, 8, .inr (.inl nu))), (g0, .inr (2, [.int cd, .ref gm, .long tb, .int (b2i su), .int (b2i mx), .ref gc, .ref gn, .long fr, .long tt])), (gm, .inl (cL, 8192, .inr (.inl w))), (gc, .inl (cI, 8, .inl cf)), (gn, .inl (cL, 8, .inr (.inl nu)))] := hD
  by_cases hi : k_wordIndex (mkL (xs (6 * j + 1)) (xs (6 * j + 2))) = -1
  · refine lv_aload_n hx hb dL_law_191 rfl (lv_at hl 1 rfl) ?_
    refine lv_aload_n hx hb dL_law_192 rfl (lv_at hl 0 rfl) ?_
    refine lv_iload hx hb dL_law_193 (lv_at hl 4 rfl) ?_
    refine lv_iconst (v := 1) hx hb dL_law_195 (by decide) ?_
    refine lv_iadd hx hb dL_law_196 ?_
    rw [sc_ix j 1 1 rfl]
    refine va_sld hx hb hX hbl hbA hS (vp_in_nI (show 6 * j + 1 < L by omega) (by omega)) dL_law_197 ?_
    rw [nI_clamp (show 6 * j + 1 < 2 ^ 31 by omega)]
    refine lv_i2l (v := Int32.toInt64 (xs (6 * j + 1))) hx hb dL_law_198 rfl ?_
    refine lv_bipush (v := 32) hx hb dL_law_199 (by decide) ?_
    refine lv_lshl (v := (k_shl (Int32.toInt64 (xs (6 * j + 1))) 32)) hx hb dL_law_201 rfl ?_
    refine lv_aload_n hx hb dL_law_202 rfl (lv_at hl 0 rfl) ?_
    refine lv_iload hx hb dL_law_203 (lv_at hl 4 rfl) ?_
    refine lv_iconst (v := 2) hx hb dL_law_205 (by decide) ?_
    refine lv_iadd hx hb dL_law_206 ?_
    rw [sc_ix j 2 2 rfl]
    refine va_sld hx hb hX hbl hbA hS (vp_in_nI (show 6 * j + 2 < L by omega) (by omega)) dL_law_207 ?_
    rw [nI_clamp (show 6 * j + 2 < 2 ^ 31 by omega)]
    refine lv_i2l (v := Int32.toInt64 (xs (6 * j + 2))) hx hb dL_law_208 rfl ?_
    refine lv_ldc2 (v := 4294967295) hx hb hown (hts (.constantLong RL 45 4294967295) (List.mem_of_getElem? (i := 514) (by decide +kernel))) dL_law_209 ?_
    refine lv_land hx hb dL_law_212 ?_
    refine lv_lor hx hb dL_law_213 ?_
    refine lv_aload_n hx hb dL_law_214 rfl (lv_at hl 0 rfl) ?_
    refine lv_iload hx hb dL_law_215 (lv_at hl 4 rfl) ?_
    refine lv_iconst (v := 3) hx hb dL_law_217 (by decide) ?_
    refine lv_iadd hx hb dL_law_218 ?_
    rw [sc_ix j 3 3 rfl]
    refine va_sld hx hb hX hbl hbA hS (vp_in_nI (show 6 * j + 3 < L by omega) (by omega)) dL_law_219 ?_
    rw [nI_clamp (show 6 * j + 3 < 2 ^ 31 by omega)]
    refine lv_i2l (v := Int32.toInt64 (xs (6 * j + 3))) hx hb dL_law_220 rfl ?_
    refine lv_bipush (v := 32) hx hb dL_law_221 (by decide) ?_
    refine lv_lshl (v := (k_shl (Int32.toInt64 (xs (6 * j + 3))) 32)) hx hb dL_law_223 rfl ?_
    refine lv_aload_n hx hb dL_law_224 rfl (lv_at hl 0 rfl) ?_
    refine lv_iload hx hb dL_law_225 (lv_at hl 4 rfl) ?_
    refine lv_iconst (v := 4) hx hb dL_law_227 (by decide) ?_
    refine lv_iadd hx hb dL_law_228 ?_
    rw [sc_ix j 4 4 rfl]
    refine va_sld hx hb hX hbl hbA hS (vp_in_nI (show 6 * j + 4 < L by omega) (by omega)) dL_law_229 ?_
    rw [nI_clamp (show 6 * j + 4 < 2 ^ 31 by omega)]
    refine lv_i2l (v := Int32.toInt64 (xs (6 * j + 4))) hx hb dL_law_230 rfl ?_
    refine lv_ldc2 (v := 4294967295) hx hb hown (hts (.constantLong RL 45 4294967295) (List.mem_of_getElem? (i := 514) (by decide +kernel))) dL_law_231 ?_
    refine lv_land hx hb dL_law_234 ?_
    refine lv_lor hx hb dL_law_235 ?_
    have hPc := hP.sub (ws' := (wPW cL cI q0 qw qr qc qn w tb su mx cf nu)) [1, 2, 3, 4, 5] rfl
    have hDc := hD.sub (ws' := (wPW cL cI q0 qw qr qc qn w tb su mx cf nu)) [1, 2, 3, 4, 5] (by decide) rfl
    have hFc := va_free (wc := (wPW cL cI q0 qw qr qc qn w tb su mx cf nu)) hD hS hA [1, 2, 3, 4, 5] rfl
    refine va_calli (vx_runSW (As := [.ref q0, .long (mkL (xs (6 * j + 1)) (xs (6 * j + 2))), .long (mkL (xs (6 * j + 3)) (xs (6 * j + 4)))]) (rest := []) ⟨hx, hb, hml, hown, hts⟩ (mtL_put_no l hl0 dC dI cL cI q0 qw qr qc qn w tb su mx cf nu H.size sa37 (mkL (xs (6 * j + 1)) (xs (6 * j + 2))) (mkL (xs (6 * j + 3)) (xs (6 * j + 4))) hi) (vx_cwSW 3 hts (gTbl (mc1 (List.mem_of_getElem? (i := 177) (by decide +kernel)) (mc1 (List.mem_of_getElem? (i := 178) (by decide +kernel)) (mc1 (List.mem_of_getElem? (i := 14) (by decide +kernel)) mc0))) (List.mem_of_getElem? (i := 179) (by decide +kernel)) (by decide +kernel)) rfl rfl rfl (by decide +kernel) ⟨Nat.le_of_ble_eq_true rfl, Nat.le_of_ble_eq_true rfl⟩) (hl_preX hK hPc hDc hX37 hS (fun q h => hFc q h)) rfl rfl hl.1 rfl (lv_room (Nat.le_of_ble_eq_true rfl)) dL_law_236 ⟨(show 10 + j + 1 ≤ 1041 by omega), (show 16433 + 6 * j + 6 ≤ 24667 by omega)⟩) hS (fun q _ h => hFc q h) hFc (fun r_1 u t H1 locs ht hvm hpo hB hz1 hk1 hS => ?_)
    obtain ⟨hP1, hK1, hD1⟩ := hB
    rw [ht] at hP1
    obtain ⟨hP, hD⟩ := va_join (wr := [(qo, .inl (cL, 1, .inr (.inl ov))), (g0, .inr (2, [.int cd, .ref gm, .long tb, .int (b2i su), .int (b2i mx), .ref gc, .ref gn, .long fr, .long tt])), (gm, .inl (cL, 8192, .inr (.inl w))), (gc, .inl (cI, 8, .inl cf)), (gn, .inl (cL, 8, .inr (.inl nu)))]) (w1 := (wPW cL cI q0 qw qr qc qn w tb su mx cf nu)) hP hD [1, 2, 3, 4, 5] [0, 6, 7, 8, 9] rfl rfl (by decide) (by decide) hk1 hFc hP1 hD1
    generalize H1 = H at hP hS ⊢
    have hP : va_P (dC, dI) vwCl [(qo, .inl (cL, 1, .inr (.inl ov))), (g0, .inr (2, [.int cd, .ref gm, .long tb, .int (b2i su), .int (b2i mx), .ref gc, .ref gn, .long fr, .long tt])), (gm, .inl (cL, 8192, .inr (.inl w))), (gc, .inl (cI, 8, .inl cf)), (gn, .inl (cL, 8, .inr (.inl nu))), (q0, .inr (1, [.ref qw, .ref qr, .long tb, .int (b2i su), .int (b2i mx)])), (qw, .inl (cL, 8192, .inr (.inl w))), (qr, .inr (0, [.ref qc, .ref qn])), (qc, .inl (cI, 8, .inl cf)), (qn, .inl (cL, 8, .inr (.inl nu)))] H := hP
    have hD : va_D A [(qo, .inl (cL, 1, .inr (.inl ov))), (g0, .inr (2, [.int cd, .ref gm, .long tb, .int (b2i su), .int (b2i mx), .ref gc, .ref gn, .long fr, .long tt])), (gm, .inl (cL, 8192, .inr (.inl w))), (gc, .inl (cI, 8, .inl cf)), (gn, .inl (cL, 8, .inr (.inl nu))), (q0, .inr (1, [.ref qw, .ref qr, .long tb, .int (b2i su), .int (b2i mx)])), (qw, .inl (cL, 8192, .inr (.inl w))), (qr, .inr (0, [.ref qc, .ref qn])), (qc, .inl (cI, 8, .inl cf)), (qn, .inl (cL, 8, .inr (.inl nu)))] := hD
    have er_1 : r_1 = 1 := hpo
    subst er_1
    refine lv_istore (lv' := [(5, .int 1), (0, .ref b), (1, .ref q0), (2, .ref g0), (3, .ref qo), (4, .int (nI (6 * j)))]) hx hb dL_law_239 hl (by decide) rfl (fun ls hl => ?_)
    refine lv_aload_n hx hb dL_law_241 rfl (lv_at hl 3 rfl) ?_
    refine lv_aload_n hx hb dL_law_242 rfl (lv_at hl 1 rfl) ?_
    refine lv_iload hx hb dL_law_243 (lv_at hl 5 rfl) ?_
    refine lv_iconst (v := 1) hx hb dL_law_245 (by decide) ?_
    refine lv_iadd hx hb dL_law_246 ?_
    rw [sc_ix j 1 1 rfl]
    refine va_sld hx hb hX hbl hbA hS (vp_in_nI (show 6 * j + 1 < L by omega) (by omega)) dL_law_247 ?_
    rw [nI_clamp (show 6 * j + 1 < 2 ^ 31 by omega)]
    refine lv_i2l (v := Int32.toInt64 (xs (6 * j + 1))) hx hb dL_law_248 rfl ?_
    refine lv_bipush (v := 32) hx hb dL_law_249 (by decide) ?_
    refine lv_lshl (v := (k_shl (Int32.toInt64 (xs (6 * j + 1))) 32)) hx hb dL_law_251 rfl ?_
    refine lv_aload_n hx hb dL_law_252 rfl (lv_at hl 1 rfl) ?_
    refine lv_iload hx hb dL_law_253 (lv_at hl 5 rfl) ?_
    refine lv_iconst (v := 2) hx hb dL_law_255 (by decide) ?_
    refine lv_iadd hx hb dL_law_256 ?_
    rw [sc_ix j 2 2 rfl]
    refine va_sld hx hb hX hbl hbA hS (vp_in_nI (show 6 * j + 2 < L by omega) (by omega)) dL_law_257 ?_
    rw [nI_clamp (show 6 * j + 2 < 2 ^ 31 by omega)]
    refine lv_i2l (v := Int32.toInt64 (xs (6 * j + 2))) hx hb dL_law_258 rfl ?_
    refine lv_ldc2 (v := 4294967295) hx hb hown (hts (.constantLong RL 45 4294967295) (List.mem_of_getElem? (i := 514) (by decide +kernel))) dL_law_259 ?_
    refine lv_land hx hb dL_law_262 ?_
    refine lv_lor hx hb dL_law_263 ?_
    refine lv_aload_n hx hb dL_law_264 rfl (lv_at hl 1 rfl) ?_
    refine lv_iload hx hb dL_law_265 (lv_at hl 5 rfl) ?_
    refine lv_iconst (v := 3) hx hb dL_law_267 (by decide) ?_
    refine lv_iadd hx hb dL_law_268 ?_
    rw [sc_ix j 3 3 rfl]
    refine va_sld hx hb hX hbl hbA hS (vp_in_nI (show 6 * j + 3 < L by omega) (by omega)) dL_law_269 ?_
    rw [nI_clamp (show 6 * j + 3 < 2 ^ 31 by omega)]
    refine lv_i2l (v := Int32.toInt64 (xs (6 * j + 3))) hx hb dL_law_270 rfl ?_
    refine lv_bipush (v := 32) hx hb dL_law_271 (by decide) ?_
    refine lv_lshl (v := (k_shl (Int32.toInt64 (xs (6 * j + 3))) 32)) hx hb dL_law_273 rfl ?_
    refine lv_aload_n hx hb dL_law_274 rfl (lv_at hl 1 rfl) ?_
    refine lv_iload hx hb dL_law_275 (lv_at hl 5 rfl) ?_
    refine lv_iconst (v := 4) hx hb dL_law_277 (by decide) ?_
    refine lv_iadd hx hb dL_law_278 ?_
    rw [sc_ix j 4 4 rfl]
    refine va_sld hx hb hX hbl hbA hS (vp_in_nI (show 6 * j + 4 < L by omega) (by omega)) dL_law_279 ?_
    rw [nI_clamp (show 6 * j + 4 < 2 ^ 31 by omega)]
    refine lv_i2l (v := Int32.toInt64 (xs (6 * j + 4))) hx hb dL_law_280 rfl ?_
    refine lv_ldc2 (v := 4294967295) hx hb hown (hts (.constantLong RL 45 4294967295) (List.mem_of_getElem? (i := 514) (by decide +kernel))) dL_law_281 ?_
    refine lv_land hx hb dL_law_284 ?_
    refine lv_lor hx hb dL_law_285 ?_
    have hPc := hP.sub (ws' := (wMD cL cI g0 gm gc gn cd w tb su mx cf nu fr tt)) [1, 2, 3, 4] rfl
    have hDc := hD.sub (ws' := (wMD cL cI g0 gm gc gn cd w tb su mx cf nu fr tt)) [1, 2, 3, 4] (by decide) rfl
    have hFc := va_free (wc := (wMD cL cI g0 gm gc gn cd w tb su mx cf nu fr tt)) hD hS hA [1, 2, 3, 4] rfl
    refine va_callv (va_runV (As := [.long (mkL (xs (6 * j + 1)) (xs (6 * j + 2))), .long (mkL (xs (6 * j + 3)) (xs (6 * j + 4)))]) (rest := []) ⟨hx, hb, hml, hown, hts⟩ (mtX2_put_no l dC dI cL cI g0 gm gc gn cd w tb su mx cf nu fr tt H.size (mkL (xs (6 * j + 1)) (xs (6 * j + 2))) (mkL (xs (6 * j + 3)) (xs (6 * j + 4))) (hi)) (cwV 2 hts (gTbl (mc1 (List.mem_of_getElem? (i := 400) (by decide +kernel)) (mc1 (List.mem_of_getElem? (i := 401) (by decide +kernel)) (mc1 (List.mem_of_getElem? (i := 402) (by decide +kernel)) (mc1 (List.mem_of_getElem? (i := 17) (by decide +kernel)) mc0)))) (List.mem_of_getElem? (i := 403) (by decide +kernel)) (by decide +kernel)) rfl rfl rfl (by decide +kernel) ⟨Nat.le_of_ble_eq_true rfl, Nat.le_of_ble_eq_true rfl⟩) (mu_pre (ci := 2) (q0 := 0) hK hPc hDc rfl rfl) rfl rfl hl.1 rfl (lv_room (Nat.le_of_ble_eq_true rfl)) dL_law_286 ⟨(show 10 + j + 1 + 0 ≤ 1041 by omega), (show 16433 + 6 * j + 6 + 0 ≤ 24667 by omega)⟩) hS (fun q _ h => hFc q h) hFc (fun u t H1 locs ht hvm hpo hB hz1 hk1 hS => ?_)
    obtain ⟨hP1, hK1, hD1⟩ := hB
    rw [ht] at hP1
    obtain ⟨hP, hD⟩ := va_join (wr := [(qo, .inl (cL, 1, .inr (.inl ov))), (q0, .inr (1, [.ref qw, .ref qr, .long tb, .int (b2i su), .int (b2i mx)])), (qw, .inl (cL, 8192, .inr (.inl w))), (qr, .inr (0, [.ref qc, .ref qn])), (qc, .inl (cI, 8, .inl cf)), (qn, .inl (cL, 8, .inr (.inl nu)))]) (w1 := (wMD cL cI g0 gm gc gn (1) w tb su mx cf nu fr tt)) hP hD [1, 2, 3, 4] [0, 5, 6, 7, 8, 9] rfl rfl (by decide) (by decide) hk1 hFc hP1 hD1
    generalize H1 = H at hP hS ⊢
    have hP : va_P (dC, dI) vwCl [(qo, .inl (cL, 1, .inr (.inl ov))), (q0, .inr (1, [.ref qw, .ref qr, .long tb, .int (b2i su), .int (b2i mx)])), (qw, .inl (cL, 8192, .inr (.inl w))), (qr, .inr (0, [.ref qc, .ref qn])), (qc, .inl (cI, 8, .inl cf)), (qn, .inl (cL, 8, .inr (.inl nu))), (g0, .inr (2, [.int (1), .ref gm, .long tb, .int (b2i su), .int (b2i mx), .ref gc, .ref gn, .long fr, .long tt])), (gm, .inl (cL, 8192, .inr (.inl w))), (gc, .inl (cI, 8, .inl cf)), (gn, .inl (cL, 8, .inr (.inl nu)))] H := hP
    have hD : va_D A [(qo, .inl (cL, 1, .inr (.inl ov))), (q0, .inr (1, [.ref qw, .ref qr, .long tb, .int (b2i su), .int (b2i mx)])), (qw, .inl (cL, 8192, .inr (.inl w))), (qr, .inr (0, [.ref qc, .ref qn])), (qc, .inl (cI, 8, .inl cf)), (qn, .inl (cL, 8, .inr (.inl nu))), (g0, .inr (2, [.int (1), .ref gm, .long tb, .int (b2i su), .int (b2i mx), .ref gc, .ref gn, .long fr, .long tt])), (gm, .inl (cL, 8192, .inr (.inl w))), (gc, .inl (cI, 8, .inl cf)), (gn, .inl (cL, 8, .inr (.inl nu)))] := hD
    refine lv_aload_n hx hb dL_law_289 rfl (lv_at hl 3 rfl) ?_
    refine vp_callSi (W.runV (As := []) (rest := []) ⟨hx, hb, hml, hown, hts⟩ (mtX2_thrown l dC dI cL cI g0 gm gc gn (1) w tb su mx cf nu fr tt  ) (cwV 0 hts (gTbl (mc1 (List.mem_of_getElem? (i := 383) (by decide +kernel)) (mc1 (List.mem_of_getElem? (i := 384) (by decide +kernel)) (mc1 (List.mem_of_getElem? (i := 385) (by decide +kernel)) (mc1 (List.mem_of_getElem? (i := 17) (by decide +kernel)) mc0)))) (List.mem_of_getElem? (i := 386) (by decide +kernel)) (by decide +kernel)) rfl rfl rfl (by decide +kernel) ⟨Nat.le_of_ble_eq_true rfl, Nat.le_of_ble_eq_true rfl⟩) (rd_pre (ci := 2) (q0 := 0) hK (hP.sub (ws' := (wMD cL cI g0 gm gc gn (1) w tb su mx cf nu fr tt)) [6, 7, 8, 9] rfl) rfl rfl) rfl rfl hl.1 rfl (lv_room (Nat.le_of_ble_eq_true rfl)) dL_law_290 ⟨(show 10 + j + 1 + 0 ≤ 1041 by omega), (show 16433 + 6 * j + 6 + 0 ≤ 24667 by omega)⟩) (fun r_3 er_3 => ?_)
    have er_3 : r_3 = (1) := er_3
    subst er_3
    refine lv_iload hx hb dL_law_293 (lv_at hl 0 rfl) ?_
    refine lv_icmp_eq (tgt := 300) hx hb dL_law_295 (by decide) (fun c_4 => ?_) (fun c_4 => ?_)
    · refine lv_goto (tgt := 921) hx hb dL_law_300 (by decide) ?_
      refine W.widen (k := 10 + (j + 1)) (n := 16433 + 6 * (j + 1)) (by omega) (by omega) ?_
      exact kk w tb su mx cf nu (1) fr tt ov _ _ ls (hc) (hn) (hP.sub (ws' := (wLW cL cI q0 qw qr qc qn qo g0 gm gc gn w tb su mx cf nu (1) fr tt ov)) [0, 1, 2, 3, 4, 5, 6, 7, 8, 9] rfl) (hD.sub (ws' := (wLW cL cI q0 qw qr qc qn qo g0 gm gc gn w tb su mx cf nu (1) fr tt ov)) [0, 1, 2, 3, 4, 5, 6, 7, 8, 9] (by decide) rfl) hS (lv_sub hl [1, 2, 3, 4, 5] rfl)
    · first | exact absurd c_4 (by decide) | exact absurd (by decide) c_4
  · refine lv_aload_n hx hb dL_law_191 rfl (lv_at hl 1 rfl) ?_
    refine lv_aload_n hx hb dL_law_192 rfl (lv_at hl 0 rfl) ?_
    refine lv_iload hx hb dL_law_193 (lv_at hl 4 rfl) ?_
    refine lv_iconst (v := 1) hx hb dL_law_195 (by decide) ?_
    refine lv_iadd hx hb dL_law_196 ?_
    rw [sc_ix j 1 1 rfl]
    refine va_sld hx hb hX hbl hbA hS (vp_in_nI (show 6 * j + 1 < L by omega) (by omega)) dL_law_197 ?_
    rw [nI_clamp (show 6 * j + 1 < 2 ^ 31 by omega)]
    refine lv_i2l (v := Int32.toInt64 (xs (6 * j + 1))) hx hb dL_law_198 rfl ?_
    refine lv_bipush (v := 32) hx hb dL_law_199 (by decide) ?_
    refine lv_lshl (v := (k_shl (Int32.toInt64 (xs (6 * j + 1))) 32)) hx hb dL_law_201 rfl ?_
    refine lv_aload_n hx hb dL_law_202 rfl (lv_at hl 0 rfl) ?_
    refine lv_iload hx hb dL_law_203 (lv_at hl 4 rfl) ?_
    refine lv_iconst (v := 2) hx hb dL_law_205 (by decide) ?_
    refine lv_iadd hx hb dL_law_206 ?_
    rw [sc_ix j 2 2 rfl]
    refine va_sld hx hb hX hbl hbA hS (vp_in_nI (show 6 * j + 2 < L by omega) (by omega)) dL_law_207 ?_
    rw [nI_clamp (show 6 * j + 2 < 2 ^ 31 by omega)]
    refine lv_i2l (v := Int32.toInt64 (xs (6 * j + 2))) hx hb dL_law_208 rfl ?_
    refine lv_ldc2 (v := 4294967295) hx hb hown (hts (.constantLong RL 45 4294967295) (List.mem_of_getElem? (i := 514) (by decide +kernel))) dL_law_209 ?_
    refine lv_land hx hb dL_law_212 ?_
    refine lv_lor hx hb dL_law_213 ?_
    refine lv_aload_n hx hb dL_law_214 rfl (lv_at hl 0 rfl) ?_
    refine lv_iload hx hb dL_law_215 (lv_at hl 4 rfl) ?_
    refine lv_iconst (v := 3) hx hb dL_law_217 (by decide) ?_
    refine lv_iadd hx hb dL_law_218 ?_
    rw [sc_ix j 3 3 rfl]
    refine va_sld hx hb hX hbl hbA hS (vp_in_nI (show 6 * j + 3 < L by omega) (by omega)) dL_law_219 ?_
    rw [nI_clamp (show 6 * j + 3 < 2 ^ 31 by omega)]
    refine lv_i2l (v := Int32.toInt64 (xs (6 * j + 3))) hx hb dL_law_220 rfl ?_
    refine lv_bipush (v := 32) hx hb dL_law_221 (by decide) ?_
    refine lv_lshl (v := (k_shl (Int32.toInt64 (xs (6 * j + 3))) 32)) hx hb dL_law_223 rfl ?_
    refine lv_aload_n hx hb dL_law_224 rfl (lv_at hl 0 rfl) ?_
    refine lv_iload hx hb dL_law_225 (lv_at hl 4 rfl) ?_
    refine lv_iconst (v := 4) hx hb dL_law_227 (by decide) ?_
    refine lv_iadd hx hb dL_law_228 ?_
    rw [sc_ix j 4 4 rfl]
    refine va_sld hx hb hX hbl hbA hS (vp_in_nI (show 6 * j + 4 < L by omega) (by omega)) dL_law_229 ?_
    rw [nI_clamp (show 6 * j + 4 < 2 ^ 31 by omega)]
    refine lv_i2l (v := Int32.toInt64 (xs (6 * j + 4))) hx hb dL_law_230 rfl ?_
    refine lv_ldc2 (v := 4294967295) hx hb hown (hts (.constantLong RL 45 4294967295) (List.mem_of_getElem? (i := 514) (by decide +kernel))) dL_law_231 ?_
    refine lv_land hx hb dL_law_234 ?_
    refine lv_lor hx hb dL_law_235 ?_
    have hPc := hP.sub (ws' := (wPW cL cI q0 qw qr qc qn w tb su mx cf nu)) [1, 2, 3, 4, 5] rfl
    have hDc := hD.sub (ws' := (wPW cL cI q0 qw qr qc qn w tb su mx cf nu)) [1, 2, 3, 4, 5] (by decide) rfl
    have hFc := va_free (wc := (wPW cL cI q0 qw qr qc qn w tb su mx cf nu)) hD hS hA [1, 2, 3, 4, 5] rfl
    refine va_calli (vx_runSW (As := [.ref q0, .long (mkL (xs (6 * j + 1)) (xs (6 * j + 2))), .long (mkL (xs (6 * j + 3)) (xs (6 * j + 4)))]) (rest := []) ⟨hx, hb, hml, hown, hts⟩ (mtL_put l dC dI cL cI q0 qw qr qc qn w tb su mx cf nu H.size (mkL (xs (6 * j + 1)) (xs (6 * j + 2))) (mkL (xs (6 * j + 3)) (xs (6 * j + 4))) hi) (vx_cwSW 3 hts (gTbl (mc1 (List.mem_of_getElem? (i := 177) (by decide +kernel)) (mc1 (List.mem_of_getElem? (i := 178) (by decide +kernel)) (mc1 (List.mem_of_getElem? (i := 14) (by decide +kernel)) mc0))) (List.mem_of_getElem? (i := 179) (by decide +kernel)) (by decide +kernel)) rfl rfl rfl (by decide +kernel) ⟨Nat.le_of_ble_eq_true rfl, Nat.le_of_ble_eq_true rfl⟩) (hl_pre hK hPc hDc) rfl rfl hl.1 rfl (lv_room (Nat.le_of_ble_eq_true rfl)) dL_law_236 ⟨(show 10 + j + 0 ≤ 1041 by omega), (show 16433 + 6 * j + 0 ≤ 24667 by omega)⟩) hS (fun q _ h => hFc q h) hFc (fun r_5 u t H1 locs ht hvm hpo hB hz1 hk1 hS => ?_)
    obtain ⟨hP1, hK1, hD1⟩ := hB
    rw [ht] at hP1
    obtain ⟨hP, hD⟩ := va_join (wr := [(qo, .inl (cL, 1, .inr (.inl ov))), (g0, .inr (2, [.int cd, .ref gm, .long tb, .int (b2i su), .int (b2i mx), .ref gc, .ref gn, .long fr, .long tt])), (gm, .inl (cL, 8192, .inr (.inl w))), (gc, .inl (cI, 8, .inl cf)), (gn, .inl (cL, 8, .inr (.inl nu)))]) (w1 := (wPW cL cI q0 qw qr qc qn (vp_updL w (Int32.toNatClampNeg (k_wordIndex (mkL (xs (6 * j + 1)) (xs (6 * j + 2))))) (mkL (xs (6 * j + 3)) (xs (6 * j + 4)))) tb su mx cf nu)) hP hD [1, 2, 3, 4, 5] [0, 6, 7, 8, 9] rfl rfl (by decide) (by decide) hk1 hFc hP1 hD1
    generalize H1 = H at hP hS ⊢
    have hP : va_P (dC, dI) vwCl [(qo, .inl (cL, 1, .inr (.inl ov))), (g0, .inr (2, [.int cd, .ref gm, .long tb, .int (b2i su), .int (b2i mx), .ref gc, .ref gn, .long fr, .long tt])), (gm, .inl (cL, 8192, .inr (.inl w))), (gc, .inl (cI, 8, .inl cf)), (gn, .inl (cL, 8, .inr (.inl nu))), (q0, .inr (1, [.ref qw, .ref qr, .long tb, .int (b2i su), .int (b2i mx)])), (qw, .inl (cL, 8192, .inr (.inl (vp_updL w (Int32.toNatClampNeg (k_wordIndex (mkL (xs (6 * j + 1)) (xs (6 * j + 2))))) (mkL (xs (6 * j + 3)) (xs (6 * j + 4))))))), (qr, .inr (0, [.ref qc, .ref qn])), (qc, .inl (cI, 8, .inl cf)), (qn, .inl (cL, 8, .inr (.inl nu)))] H := hP
    have hD : va_D A [(qo, .inl (cL, 1, .inr (.inl ov))), (g0, .inr (2, [.int cd, .ref gm, .long tb, .int (b2i su), .int (b2i mx), .ref gc, .ref gn, .long fr, .long tt])), (gm, .inl (cL, 8192, .inr (.inl w))), (gc, .inl (cI, 8, .inl cf)), (gn, .inl (cL, 8, .inr (.inl nu))), (q0, .inr (1, [.ref qw, .ref qr, .long tb, .int (b2i su), .int (b2i mx)])), (qw, .inl (cL, 8192, .inr (.inl (vp_updL w (Int32.toNatClampNeg (k_wordIndex (mkL (xs (6 * j + 1)) (xs (6 * j + 2))))) (mkL (xs (6 * j + 3)) (xs (6 * j + 4))))))), (qr, .inr (0, [.ref qc, .ref qn])), (qc, .inl (cI, 8, .inl cf)), (qn, .inl (cL, 8, .inr (.inl nu)))] := hD
    have er_5 : r_5 = 0 := hpo
    subst er_5
    refine lv_istore (lv' := [(5, .int 0), (0, .ref b), (1, .ref q0), (2, .ref g0), (3, .ref qo), (4, .int (nI (6 * j)))]) hx hb dL_law_239 hl (by decide) rfl (fun ls hl => ?_)
    refine lv_aload_n hx hb dL_law_241 rfl (lv_at hl 3 rfl) ?_
    refine lv_aload_n hx hb dL_law_242 rfl (lv_at hl 1 rfl) ?_
    refine lv_iload hx hb dL_law_243 (lv_at hl 5 rfl) ?_
    refine lv_iconst (v := 1) hx hb dL_law_245 (by decide) ?_
    refine lv_iadd hx hb dL_law_246 ?_
    rw [sc_ix j 1 1 rfl]
    refine va_sld hx hb hX hbl hbA hS (vp_in_nI (show 6 * j + 1 < L by omega) (by omega)) dL_law_247 ?_
    rw [nI_clamp (show 6 * j + 1 < 2 ^ 31 by omega)]
    refine lv_i2l (v := Int32.toInt64 (xs (6 * j + 1))) hx hb dL_law_248 rfl ?_
    refine lv_bipush (v := 32) hx hb dL_law_249 (by decide) ?_
    refine lv_lshl (v := (k_shl (Int32.toInt64 (xs (6 * j + 1))) 32)) hx hb dL_law_251 rfl ?_
    refine lv_aload_n hx hb dL_law_252 rfl (lv_at hl 1 rfl) ?_
    refine lv_iload hx hb dL_law_253 (lv_at hl 5 rfl) ?_
    refine lv_iconst (v := 2) hx hb dL_law_255 (by decide) ?_
    refine lv_iadd hx hb dL_law_256 ?_
    rw [sc_ix j 2 2 rfl]
    refine va_sld hx hb hX hbl hbA hS (vp_in_nI (show 6 * j + 2 < L by omega) (by omega)) dL_law_257 ?_
    rw [nI_clamp (show 6 * j + 2 < 2 ^ 31 by omega)]
    refine lv_i2l (v := Int32.toInt64 (xs (6 * j + 2))) hx hb dL_law_258 rfl ?_
    refine lv_ldc2 (v := 4294967295) hx hb hown (hts (.constantLong RL 45 4294967295) (List.mem_of_getElem? (i := 514) (by decide +kernel))) dL_law_259 ?_
    refine lv_land hx hb dL_law_262 ?_
    refine lv_lor hx hb dL_law_263 ?_
    refine lv_aload_n hx hb dL_law_264 rfl (lv_at hl 1 rfl) ?_
    refine lv_iload hx hb dL_law_265 (lv_at hl 5 rfl) ?_
    refine lv_iconst (v := 3) hx hb dL_law_267 (by decide) ?_
    refine lv_iadd hx hb dL_law_268 ?_
    rw [sc_ix j 3 3 rfl]
    refine va_sld hx hb hX hbl hbA hS (vp_in_nI (show 6 * j + 3 < L by omega) (by omega)) dL_law_269 ?_
    rw [nI_clamp (show 6 * j + 3 < 2 ^ 31 by omega)]
    refine lv_i2l (v := Int32.toInt64 (xs (6 * j + 3))) hx hb dL_law_270 rfl ?_
    refine lv_bipush (v := 32) hx hb dL_law_271 (by decide) ?_
    refine lv_lshl (v := (k_shl (Int32.toInt64 (xs (6 * j + 3))) 32)) hx hb dL_law_273 rfl ?_
    refine lv_aload_n hx hb dL_law_274 rfl (lv_at hl 1 rfl) ?_
    refine lv_iload hx hb dL_law_275 (lv_at hl 5 rfl) ?_
    refine lv_iconst (v := 4) hx hb dL_law_277 (by decide) ?_
    refine lv_iadd hx hb dL_law_278 ?_
    rw [sc_ix j 4 4 rfl]
    refine va_sld hx hb hX hbl hbA hS (vp_in_nI (show 6 * j + 4 < L by omega) (by omega)) dL_law_279 ?_
    rw [nI_clamp (show 6 * j + 4 < 2 ^ 31 by omega)]
    refine lv_i2l (v := Int32.toInt64 (xs (6 * j + 4))) hx hb dL_law_280 rfl ?_
    refine lv_ldc2 (v := 4294967295) hx hb hown (hts (.constantLong RL 45 4294967295) (List.mem_of_getElem? (i := 514) (by decide +kernel))) dL_law_281 ?_
    refine lv_land hx hb dL_law_284 ?_
    refine lv_lor hx hb dL_law_285 ?_
    have hPc := hP.sub (ws' := (wMD cL cI g0 gm gc gn cd w tb su mx cf nu fr tt)) [1, 2, 3, 4] rfl
    have hDc := hD.sub (ws' := (wMD cL cI g0 gm gc gn cd w tb su mx cf nu fr tt)) [1, 2, 3, 4] (by decide) rfl
    have hFc := va_free (wc := (wMD cL cI g0 gm gc gn cd w tb su mx cf nu fr tt)) hD hS hA [1, 2, 3, 4] rfl
    refine va_callv (va_runV (As := [.long (mkL (xs (6 * j + 1)) (xs (6 * j + 2))), .long (mkL (xs (6 * j + 3)) (xs (6 * j + 4)))]) (rest := []) ⟨hx, hb, hml, hown, hts⟩ (mtX2_put l dC dI cL cI g0 gm gc gn cd w tb su mx cf nu fr tt H.size (mkL (xs (6 * j + 1)) (xs (6 * j + 2))) (mkL (xs (6 * j + 3)) (xs (6 * j + 4))) (hi)) (cwV 2 hts (gTbl (mc1 (List.mem_of_getElem? (i := 400) (by decide +kernel)) (mc1 (List.mem_of_getElem? (i := 401) (by decide +kernel)) (mc1 (List.mem_of_getElem? (i := 402) (by decide +kernel)) (mc1 (List.mem_of_getElem? (i := 17) (by decide +kernel)) mc0)))) (List.mem_of_getElem? (i := 403) (by decide +kernel)) (by decide +kernel)) rfl rfl rfl (by decide +kernel) ⟨Nat.le_of_ble_eq_true rfl, Nat.le_of_ble_eq_true rfl⟩) (mu_pre (ci := 2) (q0 := 0) hK hPc hDc rfl rfl) rfl rfl hl.1 rfl (lv_room (Nat.le_of_ble_eq_true rfl)) dL_law_286 ⟨(show 10 + j + 0 + 0 ≤ 1041 by omega), (show 16433 + 6 * j + 0 + 0 ≤ 24667 by omega)⟩) hS (fun q _ h => hFc q h) hFc (fun u t H1 locs ht hvm hpo hB hz1 hk1 hS => ?_)
    obtain ⟨hP1, hK1, hD1⟩ := hB
    rw [ht] at hP1
    obtain ⟨hP, hD⟩ := va_join (wr := [(qo, .inl (cL, 1, .inr (.inl ov))), (q0, .inr (1, [.ref qw, .ref qr, .long tb, .int (b2i su), .int (b2i mx)])), (qw, .inl (cL, 8192, .inr (.inl (vp_updL w (Int32.toNatClampNeg (k_wordIndex (mkL (xs (6 * j + 1)) (xs (6 * j + 2))))) (mkL (xs (6 * j + 3)) (xs (6 * j + 4))))))), (qr, .inr (0, [.ref qc, .ref qn])), (qc, .inl (cI, 8, .inl cf)), (qn, .inl (cL, 8, .inr (.inl nu)))]) (w1 := (wMD cL cI g0 gm gc gn (0) (vp_updL w (Int32.toNatClampNeg (k_wordIndex (mkL (xs (6 * j + 1)) (xs (6 * j + 2))))) (mkL (xs (6 * j + 3)) (xs (6 * j + 4)))) tb su mx cf nu fr tt)) hP hD [1, 2, 3, 4] [0, 5, 6, 7, 8, 9] rfl rfl (by decide) (by decide) hk1 hFc hP1 hD1
    generalize H1 = H at hP hS ⊢
    have hP : va_P (dC, dI) vwCl [(qo, .inl (cL, 1, .inr (.inl ov))), (q0, .inr (1, [.ref qw, .ref qr, .long tb, .int (b2i su), .int (b2i mx)])), (qw, .inl (cL, 8192, .inr (.inl (vp_updL w (Int32.toNatClampNeg (k_wordIndex (mkL (xs (6 * j + 1)) (xs (6 * j + 2))))) (mkL (xs (6 * j + 3)) (xs (6 * j + 4))))))), (qr, .inr (0, [.ref qc, .ref qn])), (qc, .inl (cI, 8, .inl cf)), (qn, .inl (cL, 8, .inr (.inl nu))), (g0, .inr (2, [.int (0), .ref gm, .long tb, .int (b2i su), .int (b2i mx), .ref gc, .ref gn, .long fr, .long tt])), (gm, .inl (cL, 8192, .inr (.inl (vp_updL w (Int32.toNatClampNeg (k_wordIndex (mkL (xs (6 * j + 1)) (xs (6 * j + 2))))) (mkL (xs (6 * j + 3)) (xs (6 * j + 4))))))), (gc, .inl (cI, 8, .inl cf)), (gn, .inl (cL, 8, .inr (.inl nu)))] H := hP
    have hD : va_D A [(qo, .inl (cL, 1, .inr (.inl ov))), (q0, .inr (1, [.ref qw, .ref qr, .long tb, .int (b2i su), .int (b2i mx)])), (qw, .inl (cL, 8192, .inr (.inl (vp_updL w (Int32.toNatClampNeg (k_wordIndex (mkL (xs (6 * j + 1)) (xs (6 * j + 2))))) (mkL (xs (6 * j + 3)) (xs (6 * j + 4))))))), (qr, .inr (0, [.ref qc, .ref qn])), (qc, .inl (cI, 8, .inl cf)), (qn, .inl (cL, 8, .inr (.inl nu))), (g0, .inr (2, [.int (0), .ref gm, .long tb, .int (b2i su), .int (b2i mx), .ref gc, .ref gn, .long fr, .long tt])), (gm, .inl (cL, 8192, .inr (.inl (vp_updL w (Int32.toNatClampNeg (k_wordIndex (mkL (xs (6 * j + 1)) (xs (6 * j + 2))))) (mkL (xs (6 * j + 3)) (xs (6 * j + 4))))))), (gc, .inl (cI, 8, .inl cf)), (gn, .inl (cL, 8, .inr (.inl nu)))] := hD
    refine lv_aload_n hx hb dL_law_289 rfl (lv_at hl 3 rfl) ?_
    refine vp_callSi (W.runV (As := []) (rest := []) ⟨hx, hb, hml, hown, hts⟩ (mtX2_thrown l dC dI cL cI g0 gm gc gn (0) (vp_updL w (Int32.toNatClampNeg (k_wordIndex (mkL (xs (6 * j + 1)) (xs (6 * j + 2))))) (mkL (xs (6 * j + 3)) (xs (6 * j + 4)))) tb su mx cf nu fr tt  ) (cwV 0 hts (gTbl (mc1 (List.mem_of_getElem? (i := 383) (by decide +kernel)) (mc1 (List.mem_of_getElem? (i := 384) (by decide +kernel)) (mc1 (List.mem_of_getElem? (i := 385) (by decide +kernel)) (mc1 (List.mem_of_getElem? (i := 17) (by decide +kernel)) mc0)))) (List.mem_of_getElem? (i := 386) (by decide +kernel)) (by decide +kernel)) rfl rfl rfl (by decide +kernel) ⟨Nat.le_of_ble_eq_true rfl, Nat.le_of_ble_eq_true rfl⟩) (rd_pre (ci := 2) (q0 := 0) hK (hP.sub (ws' := (wMD cL cI g0 gm gc gn (0) (vp_updL w (Int32.toNatClampNeg (k_wordIndex (mkL (xs (6 * j + 1)) (xs (6 * j + 2))))) (mkL (xs (6 * j + 3)) (xs (6 * j + 4)))) tb su mx cf nu fr tt)) [6, 7, 8, 9] rfl) rfl rfl) rfl rfl hl.1 rfl (lv_room (Nat.le_of_ble_eq_true rfl)) dL_law_290 ⟨(show 10 + j + 0 + 0 ≤ 1041 by omega), (show 16433 + 6 * j + 0 + 0 ≤ 24667 by omega)⟩) (fun r_7 er_7 => ?_)
    have er_7 : r_7 = (0) := er_7
    subst er_7
    refine lv_iload hx hb dL_law_293 (lv_at hl 0 rfl) ?_
    refine lv_icmp_eq (tgt := 300) hx hb dL_law_295 (by decide) (fun c_8 => ?_) (fun c_8 => ?_)
    · refine lv_goto (tgt := 921) hx hb dL_law_300 (by decide) ?_
      refine W.widen (k := 10 + (j + 1)) (n := 16433 + 6 * (j + 1)) (by omega) (by omega) ?_
      exact kk (vp_updL w (Int32.toNatClampNeg (k_wordIndex (mkL (xs (6 * j + 1)) (xs (6 * j + 2))))) (mkL (xs (6 * j + 3)) (xs (6 * j + 4)))) tb su mx cf nu (0) fr tt ov _ _ ls (hc) (hn) (hP.sub (ws' := (wLW cL cI q0 qw qr qc qn qo g0 gm gc gn (vp_updL w (Int32.toNatClampNeg (k_wordIndex (mkL (xs (6 * j + 1)) (xs (6 * j + 2))))) (mkL (xs (6 * j + 3)) (xs (6 * j + 4)))) tb su mx cf nu (0) fr tt ov)) [0, 1, 2, 3, 4, 5, 6, 7, 8, 9] rfl) (hD.sub (ws' := (wLW cL cI q0 qw qr qc qn qo g0 gm gc gn (vp_updL w (Int32.toNatClampNeg (k_wordIndex (mkL (xs (6 * j + 1)) (xs (6 * j + 2))))) (mkL (xs (6 * j + 3)) (xs (6 * j + 4)))) tb su mx cf nu (0) fr tt ov)) [0, 1, 2, 3, 4, 5, 6, 7, 8, 9] (by decide) rfl) hS (lv_sub hl [1, 2, 3, 4, 5] rfl)
    · first | exact absurd c_8 (by decide) | exact absurd (by decide) c_8
set_option maxHeartbeats 800000 in
set_option maxRecDepth 100000 in
theorem law_c2 {p : Program} {l : Launch} {e : Env} {s : State} {m : MethodId} {below : List Frame} {meth : Method} {c : Code} {b L : Nat} {xs : Nat → Int32} {A : Nat → Prop} (hl0 : l.stackTraces = false) (hL : L ≤ 3072) (C0 : lw_At p s m meth c b L xs) (hA : ∀ q, s.heap.size ≤ q → A q) (hA2 : ∀ q, A q → s.heap.size ≤ q) {sa37 : Nat} (hX37 : xR RX1 37 "no word of memory is there" sa37 xE1 A s) {sa47 : Nat} (hX47 : xR RX1 47 "the sort is none of 0, 8, 9" sa47 xE2 A s) {sa29 : Nat} (hX29 : xR RX0 29 "no such region" sa29 xE1 A s) {sa70 : Nat} (hX70 : xR RX1 70 "no such access" sa70 xE2 A s) {sa86 : Nat} (hX86 : xR RX1 86 "no such access, or no physical address" sa86 xE2 A s) (dC : Nat → ClassId) (dI : Nat → Nat → Nat) (cL : ClassId) (cI : ClassId) (q0 : Nat) (qw : Nat) (qr : Nat) (qc : Nat) (qn : Nat) (qo : Nat) (g0 : Nat) (gm : Nat) (gc : Nat) (gn : Nat) (w : Nat → Int64) (tb : Int64) (su : Bool) (mx : Bool) (cf : Nat → Int32) (nu : Nat → Int64) (cd : Int32) (fr : Int64) (tt : Int64) (ov : Nat → Int64) (j : Nat) (hj : 6 * j + 6 ≤ L) (hK : va_K (dC, dI) vwCl [(cL, .long), (cI, .int)] s) (kk : (∀ (w : Nat → Int64) (tb : Int64) (su : Bool) (mx : Bool) (cf : Nat → Int32) (nu : Nat → Int64) (cd : Int32) (fr : Int64) (tt : Int64) (ov : Nat → Int64) (H : Heap) (locs : List Loc) (ls : Array Slot), okC cf → okN nu → va_P (dC, dI) vwCl (wLW cL cI q0 qw qr qc qn qo g0 gm gc gn w tb su mx cf nu cd fr tt ov) H → va_D A (wLW cL cI q0 qw qr qc qn qo g0 gm gc gn w tb su mx cf nu cd fr tt ov) → va_S A s.heap H locs → lv_has ls 8 [(0, .ref b), (1, .ref q0), (2, .ref g0), (3, .ref qo), (4, .int (nI (6 * j)))] → W p l e room_1 s m #[Value.ref b] below meth c H locs (10 + (j + 1)) (16433 + 6 * (j + 1)) (lw_Z below #[Value.ref b] s) (F0 m 921 ls []))) (H : Heap) (locs : List Loc) (ls : Array Slot) (hc : okC cf) (hn : okN nu) (hP : va_P (dC, dI) vwCl (wLW cL cI q0 qw qr qc qn qo g0 gm gc gn w tb su mx cf nu cd fr tt ov) H) (hD : va_D A (wLW cL cI q0 qw qr qc qn qo g0 gm gc gn w tb su mx cf nu cd fr tt ov)) (hS : va_S A s.heap H locs) (hl : lv_has ls 8 [(0, .ref b), (1, .ref q0), (2, .ref g0), (3, .ref qo), (4, .int (nI (6 * j)))]) : W p l e room_1 s m #[Value.ref b] below meth c H locs (10 + j) (16433 + 6 * j) (lw_Z below #[Value.ref b] s) (F0 m 303 ls []) := by
  obtain ⟨hx, hb, hr, hml, hown, hts, hX, hbl, hlocks, hgv⟩ := id C0
  have hbA : ¬ A b := fun h => absurd (hA2 b h) (Nat.not_le.mpr hbl)
  have hP : va_P (dC, dI) vwCl [(qo, .inl (cL, 1, .inr (.inl ov))), (q0, .inr (1, [.ref qw, .ref qr, .long tb, .int (b2i su), .int (b2i mx)])), (qw, .inl (cL, 8192, .inr (.inl w))), (qr, .inr (0, [.ref qc, .ref qn])), (qc, .inl (cI, 8, .inl cf)), (qn, .inl (cL, 8, .inr (.inl nu))), (g0, .inr (2, [.int cd, .ref gm, .long tb, .int (b2i su), .int (b2i mx), .ref gc, .ref gn, .long fr, .long tt])), (gm, .inl (cL, 8192, .inr (.inl w))), (gc, .inl (cI, 8, .inl cf)), (gn, .inl (cL, 8, .inr (.inl nu)))] H := hP
  have hD : va_D A [(qo, .inl (cL, 1, .inr (.inl ov))), (q0, .inr (1, [.ref qw, .ref qr, .long tb, .int (b2i su), .int (b2i mx)])), (qw, .inl (cL, 8192, .inr (.inl w))), (qr, .inr (0, [.ref qc, .ref qn])), (qc, .inl (cI, 8, .inl cf)), (qn, .inl (cL, 8, .inr (.inl nu))), (g0, .inr (2, [.int cd, .ref gm, .long tb, .int (b2i su), .int (b2i mx), .ref gc, .ref gn, .long fr, .long tt])), (gm, .inl (cL, 8192, .inr (.inl w))), (gc, .inl (cI, 8, .inl cf)), (gn, .inl (cL, 8, .inr (.inl nu)))] := hD
  refine lv_aload_n hx hb dL_law_303 rfl (lv_at hl 1 rfl) ?_
  refine vp_callSl (W.runV (As := []) (rest := []) ⟨hx, hb, hml, hown, hts⟩ (mtX1_table l dC dI cL cI q0 qw qr qc qn w tb su mx cf nu  ) (cwV 0 hts (gTbl (mc1 (List.mem_of_getElem? (i := 62) (by decide +kernel)) (mc1 (List.mem_of_getElem? (i := 63) (by decide +kernel)) (mc1 (List.mem_of_getElem? (i := 64) (by decide +kernel)) (mc1 (List.mem_of_getElem? (i := 15) (by decide +kernel)) mc0)))) (List.mem_of_getElem? (i := 65) (by decide +kernel)) (by decide +kernel)) rfl rfl rfl (by decide +kernel) ⟨Nat.le_of_ble_eq_true rfl, Nat.le_of_ble_eq_true rfl⟩) (rd_pre (ci := 1) (q0 := 0) hK (hP.sub (ws' := (wPW cL cI q0 qw qr qc qn w tb su mx cf nu)) [1, 2, 3, 4, 5] rfl) rfl rfl) rfl rfl hl.1 rfl (lv_room (Nat.le_of_ble_eq_true rfl)) dL_law_304 ⟨(show 10 + j + 0 ≤ 1041 by omega), (show 16433 + 6 * j + 0 ≤ 24667 by omega)⟩) (fun r_1 er_1 => ?_)
  have er_1 : r_1 = (tb) := er_1
  rw [er_1]
  refine lv_aload_n hx hb dL_law_307 rfl (lv_at hl 2 rfl) ?_
  have hPc := hP.sub (ws' := (wMD cL cI g0 gm gc gn cd w tb su mx cf nu fr tt)) [6, 7, 8, 9] rfl
  have hDc := hD.sub (ws' := (wMD cL cI g0 gm gc gn cd w tb su mx cf nu fr tt)) [6, 7, 8, 9] (by decide) rfl
  have hFc := va_free (wc := (wMD cL cI g0 gm gc gn cd w tb su mx cf nu fr tt)) hD hS hA [6, 7, 8, 9] rfl
  refine va_calll (va_runV (As := []) (rest := [.long (tb)]) ⟨hx, hb, hml, hown, hts⟩ (mtX2_table l dC dI cL cI g0 gm gc gn cd w tb su mx cf nu fr tt H.size  ) (cwV 0 hts (gTbl (mc1 (List.mem_of_getElem? (i := 404) (by decide +kernel)) (mc1 (List.mem_of_getElem? (i := 405) (by decide +kernel)) (mc1 (List.mem_of_getElem? (i := 406) (by decide +kernel)) (mc1 (List.mem_of_getElem? (i := 17) (by decide +kernel)) mc0)))) (List.mem_of_getElem? (i := 407) (by decide +kernel)) (by decide +kernel)) rfl rfl rfl (by decide +kernel) ⟨Nat.le_of_ble_eq_true rfl, Nat.le_of_ble_eq_true rfl⟩) (mu_pre (ci := 2) (q0 := 0) hK hPc hDc rfl rfl) rfl rfl hl.1 rfl (lv_room (Nat.le_of_ble_eq_true rfl)) dL_law_308 ⟨(show 10 + j + 0 ≤ 1041 by omega), (show 16433 + 6 * j + 0 ≤ 24667 by omega)⟩) hS (fun q _ h => hFc q h) hFc (fun r_2 u t H1 locs ht hvm hpo hB hz1 hk1 hS => ?_)
  obtain ⟨hP1, hK1, hD1⟩ := hB
  rw [ht] at hP1
  obtain ⟨hP, hD⟩ := va_join (wr := [(qo, .inl (cL, 1, .inr (.inl ov))), (q0, .inr (1, [.ref qw, .ref qr, .long tb, .int (b2i su), .int (b2i mx)])), (qw, .inl (cL, 8192, .inr (.inl w))), (qr, .inr (0, [.ref qc, .ref qn])), (qc, .inl (cI, 8, .inl cf)), (qn, .inl (cL, 8, .inr (.inl nu)))]) (w1 := (wMD cL cI g0 gm gc gn (0) w tb su mx cf nu fr tt)) hP hD [6, 7, 8, 9] [0, 1, 2, 3, 4, 5] rfl rfl (by decide) (by decide) hk1 hFc hP1 hD1
  generalize H1 = H at hP hS ⊢
  have hP : va_P (dC, dI) vwCl [(qo, .inl (cL, 1, .inr (.inl ov))), (q0, .inr (1, [.ref qw, .ref qr, .long tb, .int (b2i su), .int (b2i mx)])), (qw, .inl (cL, 8192, .inr (.inl w))), (qr, .inr (0, [.ref qc, .ref qn])), (qc, .inl (cI, 8, .inl cf)), (qn, .inl (cL, 8, .inr (.inl nu))), (g0, .inr (2, [.int (0), .ref gm, .long tb, .int (b2i su), .int (b2i mx), .ref gc, .ref gn, .long fr, .long tt])), (gm, .inl (cL, 8192, .inr (.inl w))), (gc, .inl (cI, 8, .inl cf)), (gn, .inl (cL, 8, .inr (.inl nu)))] H := hP
  have hD : va_D A [(qo, .inl (cL, 1, .inr (.inl ov))), (q0, .inr (1, [.ref qw, .ref qr, .long tb, .int (b2i su), .int (b2i mx)])), (qw, .inl (cL, 8192, .inr (.inl w))), (qr, .inr (0, [.ref qc, .ref qn])), (qc, .inl (cI, 8, .inl cf)), (qn, .inl (cL, 8, .inr (.inl nu))), (g0, .inr (2, [.int (0), .ref gm, .long tb, .int (b2i su), .int (b2i mx), .ref gc, .ref gn, .long fr, .long tt])), (gm, .inl (cL, 8192, .inr (.inl w))), (gc, .inl (cI, 8, .inl cf)), (gn, .inl (cL, 8, .inr (.inl nu)))] := hD
  have er_2 : r_2 = (tb) := hpo
  rw [er_2]
  refine W.lcmp hx hb dL_law_311 ?_
  refine lv_if_eq (tgt := 921) hx hb dL_law_312 (by decide) (fun c_3 => ?_) (fun c_3 => ?_)
  · rw [lg_cmp_eq] at c_3
    refine W.widen (k := 10 + (j + 1)) (n := 16433 + 6 * (j + 1)) (by omega) (by omega) ?_
    exact kk w tb su mx cf nu (0) fr tt ov _ _ ls (hc) (hn) (hP.sub (ws' := (wLW cL cI q0 qw qr qc qn qo g0 gm gc gn w tb su mx cf nu (0) fr tt ov)) [0, 1, 2, 3, 4, 5, 6, 7, 8, 9] rfl) (hD.sub (ws' := (wLW cL cI q0 qw qr qc qn qo g0 gm gc gn w tb su mx cf nu (0) fr tt ov)) [0, 1, 2, 3, 4, 5, 6, 7, 8, 9] (by decide) rfl) hS (lv_sub hl [0, 1, 2, 3, 4] rfl)
  · rw [lg_cmp_eq] at c_3
    exact absurd rfl c_3
set_option maxHeartbeats 800000 in
set_option maxRecDepth 100000 in
theorem law_c3 {p : Program} {l : Launch} {e : Env} {s : State} {m : MethodId} {below : List Frame} {meth : Method} {c : Code} {b L : Nat} {xs : Nat → Int32} {A : Nat → Prop} (hl0 : l.stackTraces = false) (hL : L ≤ 3072) (C0 : lw_At p s m meth c b L xs) (hA : ∀ q, s.heap.size ≤ q → A q) (hA2 : ∀ q, A q → s.heap.size ≤ q) {sa37 : Nat} (hX37 : xR RX1 37 "no word of memory is there" sa37 xE1 A s) {sa47 : Nat} (hX47 : xR RX1 47 "the sort is none of 0, 8, 9" sa47 xE2 A s) {sa29 : Nat} (hX29 : xR RX0 29 "no such region" sa29 xE1 A s) {sa70 : Nat} (hX70 : xR RX1 70 "no such access" sa70 xE2 A s) {sa86 : Nat} (hX86 : xR RX1 86 "no such access, or no physical address" sa86 xE2 A s) (dC : Nat → ClassId) (dI : Nat → Nat → Nat) (cL : ClassId) (cI : ClassId) (q0 : Nat) (qw : Nat) (qr : Nat) (qc : Nat) (qn : Nat) (qo : Nat) (g0 : Nat) (gm : Nat) (gc : Nat) (gn : Nat) (w : Nat → Int64) (tb : Int64) (su : Bool) (mx : Bool) (cf : Nat → Int32) (nu : Nat → Int64) (cd : Int32) (fr : Int64) (tt : Int64) (ov : Nat → Int64) (j : Nat) (hj : 6 * j + 6 ≤ L) (hK : va_K (dC, dI) vwCl [(cL, .long), (cI, .int)] s) (kk : (∀ (w : Nat → Int64) (tb : Int64) (su : Bool) (mx : Bool) (cf : Nat → Int32) (nu : Nat → Int64) (cd : Int32) (fr : Int64) (tt : Int64) (ov : Nat → Int64) (H : Heap) (locs : List Loc) (ls : Array Slot), okC cf → okN nu → va_P (dC, dI) vwCl (wLW cL cI q0 qw qr qc qn qo g0 gm gc gn w tb su mx cf nu cd fr tt ov) H → va_D A (wLW cL cI q0 qw qr qc qn qo g0 gm gc gn w tb su mx cf nu cd fr tt ov) → va_S A s.heap H locs → lv_has ls 8 [(0, .ref b), (1, .ref q0), (2, .ref g0), (3, .ref qo), (4, .int (nI (6 * j)))] → W p l e room_1 s m #[Value.ref b] below meth c H locs (10 + (j + 1)) (16433 + 6 * (j + 1)) (lw_Z below #[Value.ref b] s) (F0 m 921 ls []))) (H : Heap) (locs : List Loc) (ls : Array Slot) (hc : okC cf) (hn : okN nu) (hP : va_P (dC, dI) vwCl (wLW cL cI q0 qw qr qc qn qo g0 gm gc gn w tb su mx cf nu cd fr tt ov) H) (hD : va_D A (wLW cL cI q0 qw qr qc qn qo g0 gm gc gn w tb su mx cf nu cd fr tt ov)) (hS : va_S A s.heap H locs) (hl : lv_has ls 8 [(0, .ref b), (1, .ref q0), (2, .ref g0), (3, .ref qo), (4, .int (nI (6 * j)))]) : W p l e room_1 s m #[Value.ref b] below meth c H locs (10 + j) (16433 + 6 * j) (lw_Z below #[Value.ref b] s) (F0 m 317 ls []) := by
  obtain ⟨hx, hb, hr, hml, hown, hts, hX, hbl, hlocks, hgv⟩ := id C0
  have hbA : ¬ A b := fun h => absurd (hA2 b h) (Nat.not_le.mpr hbl)
  have hP : va_P (dC, dI) vwCl [(qo, .inl (cL, 1, .inr (.inl ov))), (q0, .inr (1, [.ref qw, .ref qr, .long tb, .int (b2i su), .int (b2i mx)])), (qw, .inl (cL, 8192, .inr (.inl w))), (qr, .inr (0, [.ref qc, .ref qn])), (qc, .inl (cI, 8, .inl cf)), (qn, .inl (cL, 8, .inr (.inl nu))), (g0, .inr (2, [.int cd, .ref gm, .long tb, .int (b2i su), .int (b2i mx), .ref gc, .ref gn, .long fr, .long tt])), (gm, .inl (cL, 8192, .inr (.inl w))), (gc, .inl (cI, 8, .inl cf)), (gn, .inl (cL, 8, .inr (.inl nu)))] H := hP
  have hD : va_D A [(qo, .inl (cL, 1, .inr (.inl ov))), (q0, .inr (1, [.ref qw, .ref qr, .long tb, .int (b2i su), .int (b2i mx)])), (qw, .inl (cL, 8192, .inr (.inl w))), (qr, .inr (0, [.ref qc, .ref qn])), (qc, .inl (cI, 8, .inl cf)), (qn, .inl (cL, 8, .inr (.inl nu))), (g0, .inr (2, [.int cd, .ref gm, .long tb, .int (b2i su), .int (b2i mx), .ref gc, .ref gn, .long fr, .long tt])), (gm, .inl (cL, 8192, .inr (.inl w))), (gc, .inl (cI, 8, .inl cf)), (gn, .inl (cL, 8, .inr (.inl nu)))] := hD
  by_cases hi : k_sortOf (mkL (xs (6 * j + 1)) (xs (6 * j + 2))) = 0 ∨ k_sortOf (mkL (xs (6 * j + 1)) (xs (6 * j + 2))) = 8 ∨ k_sortOf (mkL (xs (6 * j + 1)) (xs (6 * j + 2))) = 9
  · refine lv_aload_n hx hb dL_law_317 rfl (lv_at hl 1 rfl) ?_
    refine lv_aload_n hx hb dL_law_318 rfl (lv_at hl 0 rfl) ?_
    refine lv_iload hx hb dL_law_319 (lv_at hl 4 rfl) ?_
    refine lv_iconst (v := 1) hx hb dL_law_321 (by decide) ?_
    refine lv_iadd hx hb dL_law_322 ?_
    rw [sc_ix j 1 1 rfl]
    refine va_sld hx hb hX hbl hbA hS (vp_in_nI (show 6 * j + 1 < L by omega) (by omega)) dL_law_323 ?_
    rw [nI_clamp (show 6 * j + 1 < 2 ^ 31 by omega)]
    refine lv_i2l (v := Int32.toInt64 (xs (6 * j + 1))) hx hb dL_law_324 rfl ?_
    refine lv_bipush (v := 32) hx hb dL_law_325 (by decide) ?_
    refine lv_lshl (v := (k_shl (Int32.toInt64 (xs (6 * j + 1))) 32)) hx hb dL_law_327 rfl ?_
    refine lv_aload_n hx hb dL_law_328 rfl (lv_at hl 0 rfl) ?_
    refine lv_iload hx hb dL_law_329 (lv_at hl 4 rfl) ?_
    refine lv_iconst (v := 2) hx hb dL_law_331 (by decide) ?_
    refine lv_iadd hx hb dL_law_332 ?_
    rw [sc_ix j 2 2 rfl]
    refine va_sld hx hb hX hbl hbA hS (vp_in_nI (show 6 * j + 2 < L by omega) (by omega)) dL_law_333 ?_
    rw [nI_clamp (show 6 * j + 2 < 2 ^ 31 by omega)]
    refine lv_i2l (v := Int32.toInt64 (xs (6 * j + 2))) hx hb dL_law_334 rfl ?_
    refine lv_ldc2 (v := 4294967295) hx hb hown (hts (.constantLong RL 45 4294967295) (List.mem_of_getElem? (i := 514) (by decide +kernel))) dL_law_335 ?_
    refine lv_land hx hb dL_law_338 ?_
    refine lv_lor hx hb dL_law_339 ?_
    have hPc := hP.sub (ws' := (wPW cL cI q0 qw qr qc qn w tb su mx cf nu)) [1, 2, 3, 4, 5] rfl
    have hDc := hD.sub (ws' := (wPW cL cI q0 qw qr qc qn w tb su mx cf nu)) [1, 2, 3, 4, 5] (by decide) rfl
    have hFc := va_free (wc := (wPW cL cI q0 qw qr qc qn w tb su mx cf nu)) hD hS hA [1, 2, 3, 4, 5] rfl
    refine va_calli (vx_runSW (As := [.ref q0, .long (mkL (xs (6 * j + 1)) (xs (6 * j + 2)))]) (rest := []) ⟨hx, hb, hml, hown, hts⟩ (mtL_setTable l dC dI cL cI q0 qw qr qc qn w tb su mx cf nu H.size (mkL (xs (6 * j + 1)) (xs (6 * j + 2))) hi) (vx_cwSW 2 hts (gTbl (mc1 (List.mem_of_getElem? (i := 184) (by decide +kernel)) (mc1 (List.mem_of_getElem? (i := 185) (by decide +kernel)) (mc1 (List.mem_of_getElem? (i := 14) (by decide +kernel)) mc0))) (List.mem_of_getElem? (i := 186) (by decide +kernel)) (by decide +kernel)) rfl rfl rfl (by decide +kernel) ⟨Nat.le_of_ble_eq_true rfl, Nat.le_of_ble_eq_true rfl⟩) (hl_pre hK hPc hDc) rfl rfl hl.1 rfl (lv_room (Nat.le_of_ble_eq_true rfl)) dL_law_340 ⟨(show 10 + j + 0 ≤ 1041 by omega), (show 16433 + 6 * j + 0 ≤ 24667 by omega)⟩) hS (fun q _ h => hFc q h) hFc (fun r_1 u t H1 locs ht hvm hpo hB hz1 hk1 hS => ?_)
    obtain ⟨hP1, hK1, hD1⟩ := hB
    rw [ht] at hP1
    obtain ⟨hP, hD⟩ := va_join (wr := [(qo, .inl (cL, 1, .inr (.inl ov))), (g0, .inr (2, [.int cd, .ref gm, .long tb, .int (b2i su), .int (b2i mx), .ref gc, .ref gn, .long fr, .long tt])), (gm, .inl (cL, 8192, .inr (.inl w))), (gc, .inl (cI, 8, .inl cf)), (gn, .inl (cL, 8, .inr (.inl nu)))]) (w1 := (wPW cL cI q0 qw qr qc qn w (mkL (xs (6 * j + 1)) (xs (6 * j + 2))) su mx cf nu)) hP hD [1, 2, 3, 4, 5] [0, 6, 7, 8, 9] rfl rfl (by decide) (by decide) hk1 hFc hP1 hD1
    generalize H1 = H at hP hS ⊢
    have hP : va_P (dC, dI) vwCl [(qo, .inl (cL, 1, .inr (.inl ov))), (g0, .inr (2, [.int cd, .ref gm, .long tb, .int (b2i su), .int (b2i mx), .ref gc, .ref gn, .long fr, .long tt])), (gm, .inl (cL, 8192, .inr (.inl w))), (gc, .inl (cI, 8, .inl cf)), (gn, .inl (cL, 8, .inr (.inl nu))), (q0, .inr (1, [.ref qw, .ref qr, .long (mkL (xs (6 * j + 1)) (xs (6 * j + 2))), .int (b2i su), .int (b2i mx)])), (qw, .inl (cL, 8192, .inr (.inl w))), (qr, .inr (0, [.ref qc, .ref qn])), (qc, .inl (cI, 8, .inl cf)), (qn, .inl (cL, 8, .inr (.inl nu)))] H := hP
    have hD : va_D A [(qo, .inl (cL, 1, .inr (.inl ov))), (g0, .inr (2, [.int cd, .ref gm, .long tb, .int (b2i su), .int (b2i mx), .ref gc, .ref gn, .long fr, .long tt])), (gm, .inl (cL, 8192, .inr (.inl w))), (gc, .inl (cI, 8, .inl cf)), (gn, .inl (cL, 8, .inr (.inl nu))), (q0, .inr (1, [.ref qw, .ref qr, .long (mkL (xs (6 * j + 1)) (xs (6 * j + 2))), .int (b2i su), .int (b2i mx)])), (qw, .inl (cL, 8192, .inr (.inl w))), (qr, .inr (0, [.ref qc, .ref qn])), (qc, .inl (cI, 8, .inl cf)), (qn, .inl (cL, 8, .inr (.inl nu)))] := hD
    have er_1 : r_1 = 0 := hpo
    subst er_1
    refine lv_istore (lv' := [(5, .int 0), (0, .ref b), (1, .ref q0), (2, .ref g0), (3, .ref qo), (4, .int (nI (6 * j)))]) hx hb dL_law_343 hl (by decide) rfl (fun ls hl => ?_)
    refine lv_aload_n hx hb dL_law_345 rfl (lv_at hl 3 rfl) ?_
    refine lv_aload_n hx hb dL_law_346 rfl (lv_at hl 1 rfl) ?_
    refine lv_iload hx hb dL_law_347 (lv_at hl 5 rfl) ?_
    refine lv_iconst (v := 1) hx hb dL_law_349 (by decide) ?_
    refine lv_iadd hx hb dL_law_350 ?_
    rw [sc_ix j 1 1 rfl]
    refine va_sld hx hb hX hbl hbA hS (vp_in_nI (show 6 * j + 1 < L by omega) (by omega)) dL_law_351 ?_
    rw [nI_clamp (show 6 * j + 1 < 2 ^ 31 by omega)]
    refine lv_i2l (v := Int32.toInt64 (xs (6 * j + 1))) hx hb dL_law_352 rfl ?_
    refine lv_bipush (v := 32) hx hb dL_law_353 (by decide) ?_
    refine lv_lshl (v := (k_shl (Int32.toInt64 (xs (6 * j + 1))) 32)) hx hb dL_law_355 rfl ?_
    refine lv_aload_n hx hb dL_law_356 rfl (lv_at hl 1 rfl) ?_
    refine lv_iload hx hb dL_law_357 (lv_at hl 5 rfl) ?_
    refine lv_iconst (v := 2) hx hb dL_law_359 (by decide) ?_
    refine lv_iadd hx hb dL_law_360 ?_
    rw [sc_ix j 2 2 rfl]
    refine va_sld hx hb hX hbl hbA hS (vp_in_nI (show 6 * j + 2 < L by omega) (by omega)) dL_law_361 ?_
    rw [nI_clamp (show 6 * j + 2 < 2 ^ 31 by omega)]
    refine lv_i2l (v := Int32.toInt64 (xs (6 * j + 2))) hx hb dL_law_362 rfl ?_
    refine lv_ldc2 (v := 4294967295) hx hb hown (hts (.constantLong RL 45 4294967295) (List.mem_of_getElem? (i := 514) (by decide +kernel))) dL_law_363 ?_
    refine lv_land hx hb dL_law_366 ?_
    refine lv_lor hx hb dL_law_367 ?_
    have hPc := hP.sub (ws' := (wMD cL cI g0 gm gc gn cd w tb su mx cf nu fr tt)) [1, 2, 3, 4] rfl
    have hDc := hD.sub (ws' := (wMD cL cI g0 gm gc gn cd w tb su mx cf nu fr tt)) [1, 2, 3, 4] (by decide) rfl
    have hFc := va_free (wc := (wMD cL cI g0 gm gc gn cd w tb su mx cf nu fr tt)) hD hS hA [1, 2, 3, 4] rfl
    refine va_callv (va_runV (As := [.long (mkL (xs (6 * j + 1)) (xs (6 * j + 2)))]) (rest := []) ⟨hx, hb, hml, hown, hts⟩ (mtX2_setTable l dC dI cL cI g0 gm gc gn cd w tb su mx cf nu fr tt H.size (mkL (xs (6 * j + 1)) (xs (6 * j + 2))) (sortM.mpr hi)) (cwV 1 hts (gTbl (mc1 (List.mem_of_getElem? (i := 408) (by decide +kernel)) (mc1 (List.mem_of_getElem? (i := 409) (by decide +kernel)) (mc1 (List.mem_of_getElem? (i := 410) (by decide +kernel)) (mc1 (List.mem_of_getElem? (i := 17) (by decide +kernel)) mc0)))) (List.mem_of_getElem? (i := 411) (by decide +kernel)) (by decide +kernel)) rfl rfl rfl (by decide +kernel) ⟨Nat.le_of_ble_eq_true rfl, Nat.le_of_ble_eq_true rfl⟩) (mu_pre (ci := 2) (q0 := 0) hK hPc hDc rfl rfl) rfl rfl hl.1 rfl (lv_room (Nat.le_of_ble_eq_true rfl)) dL_law_368 ⟨(show 10 + j + 0 + 0 ≤ 1041 by omega), (show 16433 + 6 * j + 0 + 0 ≤ 24667 by omega)⟩) hS (fun q _ h => hFc q h) hFc (fun u t H1 locs ht hvm hpo hB hz1 hk1 hS => ?_)
    obtain ⟨hP1, hK1, hD1⟩ := hB
    rw [ht] at hP1
    obtain ⟨hP, hD⟩ := va_join (wr := [(qo, .inl (cL, 1, .inr (.inl ov))), (q0, .inr (1, [.ref qw, .ref qr, .long (mkL (xs (6 * j + 1)) (xs (6 * j + 2))), .int (b2i su), .int (b2i mx)])), (qw, .inl (cL, 8192, .inr (.inl w))), (qr, .inr (0, [.ref qc, .ref qn])), (qc, .inl (cI, 8, .inl cf)), (qn, .inl (cL, 8, .inr (.inl nu)))]) (w1 := (wMD cL cI g0 gm gc gn (0) w (mkL (xs (6 * j + 1)) (xs (6 * j + 2))) su mx cf nu fr tt)) hP hD [1, 2, 3, 4] [0, 5, 6, 7, 8, 9] rfl rfl (by decide) (by decide) hk1 hFc hP1 hD1
    generalize H1 = H at hP hS ⊢
    have hP : va_P (dC, dI) vwCl [(qo, .inl (cL, 1, .inr (.inl ov))), (q0, .inr (1, [.ref qw, .ref qr, .long (mkL (xs (6 * j + 1)) (xs (6 * j + 2))), .int (b2i su), .int (b2i mx)])), (qw, .inl (cL, 8192, .inr (.inl w))), (qr, .inr (0, [.ref qc, .ref qn])), (qc, .inl (cI, 8, .inl cf)), (qn, .inl (cL, 8, .inr (.inl nu))), (g0, .inr (2, [.int (0), .ref gm, .long (mkL (xs (6 * j + 1)) (xs (6 * j + 2))), .int (b2i su), .int (b2i mx), .ref gc, .ref gn, .long fr, .long tt])), (gm, .inl (cL, 8192, .inr (.inl w))), (gc, .inl (cI, 8, .inl cf)), (gn, .inl (cL, 8, .inr (.inl nu)))] H := hP
    have hD : va_D A [(qo, .inl (cL, 1, .inr (.inl ov))), (q0, .inr (1, [.ref qw, .ref qr, .long (mkL (xs (6 * j + 1)) (xs (6 * j + 2))), .int (b2i su), .int (b2i mx)])), (qw, .inl (cL, 8192, .inr (.inl w))), (qr, .inr (0, [.ref qc, .ref qn])), (qc, .inl (cI, 8, .inl cf)), (qn, .inl (cL, 8, .inr (.inl nu))), (g0, .inr (2, [.int (0), .ref gm, .long (mkL (xs (6 * j + 1)) (xs (6 * j + 2))), .int (b2i su), .int (b2i mx), .ref gc, .ref gn, .long fr, .long tt])), (gm, .inl (cL, 8192, .inr (.inl w))), (gc, .inl (cI, 8, .inl cf)), (gn, .inl (cL, 8, .inr (.inl nu)))] := hD
    refine lv_aload_n hx hb dL_law_371 rfl (lv_at hl 3 rfl) ?_
    refine vp_callSi (W.runV (As := []) (rest := []) ⟨hx, hb, hml, hown, hts⟩ (mtX2_thrown l dC dI cL cI g0 gm gc gn (0) w (mkL (xs (6 * j + 1)) (xs (6 * j + 2))) su mx cf nu fr tt  ) (cwV 0 hts (gTbl (mc1 (List.mem_of_getElem? (i := 383) (by decide +kernel)) (mc1 (List.mem_of_getElem? (i := 384) (by decide +kernel)) (mc1 (List.mem_of_getElem? (i := 385) (by decide +kernel)) (mc1 (List.mem_of_getElem? (i := 17) (by decide +kernel)) mc0)))) (List.mem_of_getElem? (i := 386) (by decide +kernel)) (by decide +kernel)) rfl rfl rfl (by decide +kernel) ⟨Nat.le_of_ble_eq_true rfl, Nat.le_of_ble_eq_true rfl⟩) (rd_pre (ci := 2) (q0 := 0) hK (hP.sub (ws' := (wMD cL cI g0 gm gc gn (0) w (mkL (xs (6 * j + 1)) (xs (6 * j + 2))) su mx cf nu fr tt)) [6, 7, 8, 9] rfl) rfl rfl) rfl rfl hl.1 rfl (lv_room (Nat.le_of_ble_eq_true rfl)) dL_law_372 ⟨(show 10 + j + 0 + 0 ≤ 1041 by omega), (show 16433 + 6 * j + 0 + 0 ≤ 24667 by omega)⟩) (fun r_3 er_3 => ?_)
    have er_3 : r_3 = (0) := er_3
    subst er_3
    refine lv_iload hx hb dL_law_375 (lv_at hl 0 rfl) ?_
    refine lv_icmp_eq (tgt := 382) hx hb dL_law_377 (by decide) (fun c_4 => ?_) (fun c_4 => ?_)
    · refine lv_goto (tgt := 921) hx hb dL_law_382 (by decide) ?_
      refine W.widen (k := 10 + (j + 1)) (n := 16433 + 6 * (j + 1)) (by omega) (by omega) ?_
      exact kk w (mkL (xs (6 * j + 1)) (xs (6 * j + 2))) su mx cf nu (0) fr tt ov _ _ ls (hc) (hn) (hP.sub (ws' := (wLW cL cI q0 qw qr qc qn qo g0 gm gc gn w (mkL (xs (6 * j + 1)) (xs (6 * j + 2))) su mx cf nu (0) fr tt ov)) [0, 1, 2, 3, 4, 5, 6, 7, 8, 9] rfl) (hD.sub (ws' := (wLW cL cI q0 qw qr qc qn qo g0 gm gc gn w (mkL (xs (6 * j + 1)) (xs (6 * j + 2))) su mx cf nu (0) fr tt ov)) [0, 1, 2, 3, 4, 5, 6, 7, 8, 9] (by decide) rfl) hS (lv_sub hl [1, 2, 3, 4, 5] rfl)
    · first | exact absurd c_4 (by decide) | exact absurd (by decide) c_4
  · refine lv_aload_n hx hb dL_law_317 rfl (lv_at hl 1 rfl) ?_
    refine lv_aload_n hx hb dL_law_318 rfl (lv_at hl 0 rfl) ?_
    refine lv_iload hx hb dL_law_319 (lv_at hl 4 rfl) ?_
    refine lv_iconst (v := 1) hx hb dL_law_321 (by decide) ?_
    refine lv_iadd hx hb dL_law_322 ?_
    rw [sc_ix j 1 1 rfl]
    refine va_sld hx hb hX hbl hbA hS (vp_in_nI (show 6 * j + 1 < L by omega) (by omega)) dL_law_323 ?_
    rw [nI_clamp (show 6 * j + 1 < 2 ^ 31 by omega)]
    refine lv_i2l (v := Int32.toInt64 (xs (6 * j + 1))) hx hb dL_law_324 rfl ?_
    refine lv_bipush (v := 32) hx hb dL_law_325 (by decide) ?_
    refine lv_lshl (v := (k_shl (Int32.toInt64 (xs (6 * j + 1))) 32)) hx hb dL_law_327 rfl ?_
    refine lv_aload_n hx hb dL_law_328 rfl (lv_at hl 0 rfl) ?_
    refine lv_iload hx hb dL_law_329 (lv_at hl 4 rfl) ?_
    refine lv_iconst (v := 2) hx hb dL_law_331 (by decide) ?_
    refine lv_iadd hx hb dL_law_332 ?_
    rw [sc_ix j 2 2 rfl]
    refine va_sld hx hb hX hbl hbA hS (vp_in_nI (show 6 * j + 2 < L by omega) (by omega)) dL_law_333 ?_
    rw [nI_clamp (show 6 * j + 2 < 2 ^ 31 by omega)]
    refine lv_i2l (v := Int32.toInt64 (xs (6 * j + 2))) hx hb dL_law_334 rfl ?_
    refine lv_ldc2 (v := 4294967295) hx hb hown (hts (.constantLong RL 45 4294967295) (List.mem_of_getElem? (i := 514) (by decide +kernel))) dL_law_335 ?_
    refine lv_land hx hb dL_law_338 ?_
    refine lv_lor hx hb dL_law_339 ?_
    have hPc := hP.sub (ws' := (wPW cL cI q0 qw qr qc qn w tb su mx cf nu)) [1, 2, 3, 4, 5] rfl
    have hDc := hD.sub (ws' := (wPW cL cI q0 qw qr qc qn w tb su mx cf nu)) [1, 2, 3, 4, 5] (by decide) rfl
    have hFc := va_free (wc := (wPW cL cI q0 qw qr qc qn w tb su mx cf nu)) hD hS hA [1, 2, 3, 4, 5] rfl
    refine va_calli (vx_runSW (As := [.ref q0, .long (mkL (xs (6 * j + 1)) (xs (6 * j + 2)))]) (rest := []) ⟨hx, hb, hml, hown, hts⟩ (mtL_setTable_no l hl0 dC dI cL cI q0 qw qr qc qn w tb su mx cf nu H.size sa47 (mkL (xs (6 * j + 1)) (xs (6 * j + 2))) hi) (vx_cwSW 2 hts (gTbl (mc1 (List.mem_of_getElem? (i := 184) (by decide +kernel)) (mc1 (List.mem_of_getElem? (i := 185) (by decide +kernel)) (mc1 (List.mem_of_getElem? (i := 14) (by decide +kernel)) mc0))) (List.mem_of_getElem? (i := 186) (by decide +kernel)) (by decide +kernel)) rfl rfl rfl (by decide +kernel) ⟨Nat.le_of_ble_eq_true rfl, Nat.le_of_ble_eq_true rfl⟩) (hl_preX hK hPc hDc hX47 hS (fun q h => hFc q h)) rfl rfl hl.1 rfl (lv_room (Nat.le_of_ble_eq_true rfl)) dL_law_340 ⟨(show 10 + j + 1 ≤ 1041 by omega), (show 16433 + 6 * j + 6 ≤ 24667 by omega)⟩) hS (fun q _ h => hFc q h) hFc (fun r_5 u t H1 locs ht hvm hpo hB hz1 hk1 hS => ?_)
    obtain ⟨hP1, hK1, hD1⟩ := hB
    rw [ht] at hP1
    obtain ⟨hP, hD⟩ := va_join (wr := [(qo, .inl (cL, 1, .inr (.inl ov))), (g0, .inr (2, [.int cd, .ref gm, .long tb, .int (b2i su), .int (b2i mx), .ref gc, .ref gn, .long fr, .long tt])), (gm, .inl (cL, 8192, .inr (.inl w))), (gc, .inl (cI, 8, .inl cf)), (gn, .inl (cL, 8, .inr (.inl nu)))]) (w1 := (wPW cL cI q0 qw qr qc qn w tb su mx cf nu)) hP hD [1, 2, 3, 4, 5] [0, 6, 7, 8, 9] rfl rfl (by decide) (by decide) hk1 hFc hP1 hD1
    generalize H1 = H at hP hS ⊢
    have hP : va_P (dC, dI) vwCl [(qo, .inl (cL, 1, .inr (.inl ov))), (g0, .inr (2, [.int cd, .ref gm, .long tb, .int (b2i su), .int (b2i mx), .ref gc, .ref gn, .long fr, .long tt])), (gm, .inl (cL, 8192, .inr (.inl w))), (gc, .inl (cI, 8, .inl cf)), (gn, .inl (cL, 8, .inr (.inl nu))), (q0, .inr (1, [.ref qw, .ref qr, .long tb, .int (b2i su), .int (b2i mx)])), (qw, .inl (cL, 8192, .inr (.inl w))), (qr, .inr (0, [.ref qc, .ref qn])), (qc, .inl (cI, 8, .inl cf)), (qn, .inl (cL, 8, .inr (.inl nu)))] H := hP
    have hD : va_D A [(qo, .inl (cL, 1, .inr (.inl ov))), (g0, .inr (2, [.int cd, .ref gm, .long tb, .int (b2i su), .int (b2i mx), .ref gc, .ref gn, .long fr, .long tt])), (gm, .inl (cL, 8192, .inr (.inl w))), (gc, .inl (cI, 8, .inl cf)), (gn, .inl (cL, 8, .inr (.inl nu))), (q0, .inr (1, [.ref qw, .ref qr, .long tb, .int (b2i su), .int (b2i mx)])), (qw, .inl (cL, 8192, .inr (.inl w))), (qr, .inr (0, [.ref qc, .ref qn])), (qc, .inl (cI, 8, .inl cf)), (qn, .inl (cL, 8, .inr (.inl nu)))] := hD
    have er_5 : r_5 = 1 := hpo
    subst er_5
    refine lv_istore (lv' := [(5, .int 1), (0, .ref b), (1, .ref q0), (2, .ref g0), (3, .ref qo), (4, .int (nI (6 * j)))]) hx hb dL_law_343 hl (by decide) rfl (fun ls hl => ?_)
    refine lv_aload_n hx hb dL_law_345 rfl (lv_at hl 3 rfl) ?_
    refine lv_aload_n hx hb dL_law_346 rfl (lv_at hl 1 rfl) ?_
    refine lv_iload hx hb dL_law_347 (lv_at hl 5 rfl) ?_
    refine lv_iconst (v := 1) hx hb dL_law_349 (by decide) ?_
    refine lv_iadd hx hb dL_law_350 ?_
    rw [sc_ix j 1 1 rfl]
    refine va_sld hx hb hX hbl hbA hS (vp_in_nI (show 6 * j + 1 < L by omega) (by omega)) dL_law_351 ?_
    rw [nI_clamp (show 6 * j + 1 < 2 ^ 31 by omega)]
    refine lv_i2l (v := Int32.toInt64 (xs (6 * j + 1))) hx hb dL_law_352 rfl ?_
    refine lv_bipush (v := 32) hx hb dL_law_353 (by decide) ?_
    refine lv_lshl (v := (k_shl (Int32.toInt64 (xs (6 * j + 1))) 32)) hx hb dL_law_355 rfl ?_
    refine lv_aload_n hx hb dL_law_356 rfl (lv_at hl 1 rfl) ?_
    refine lv_iload hx hb dL_law_357 (lv_at hl 5 rfl) ?_
    refine lv_iconst (v := 2) hx hb dL_law_359 (by decide) ?_
    refine lv_iadd hx hb dL_law_360 ?_
    rw [sc_ix j 2 2 rfl]
    refine va_sld hx hb hX hbl hbA hS (vp_in_nI (show 6 * j + 2 < L by omega) (by omega)) dL_law_361 ?_
    rw [nI_clamp (show 6 * j + 2 < 2 ^ 31 by omega)]
    refine lv_i2l (v := Int32.toInt64 (xs (6 * j + 2))) hx hb dL_law_362 rfl ?_
    refine lv_ldc2 (v := 4294967295) hx hb hown (hts (.constantLong RL 45 4294967295) (List.mem_of_getElem? (i := 514) (by decide +kernel))) dL_law_363 ?_
    refine lv_land hx hb dL_law_366 ?_
    refine lv_lor hx hb dL_law_367 ?_
    have hPc := hP.sub (ws' := (wMD cL cI g0 gm gc gn cd w tb su mx cf nu fr tt)) [1, 2, 3, 4] rfl
    have hDc := hD.sub (ws' := (wMD cL cI g0 gm gc gn cd w tb su mx cf nu fr tt)) [1, 2, 3, 4] (by decide) rfl
    have hFc := va_free (wc := (wMD cL cI g0 gm gc gn cd w tb su mx cf nu fr tt)) hD hS hA [1, 2, 3, 4] rfl
    refine va_callv (va_runV (As := [.long (mkL (xs (6 * j + 1)) (xs (6 * j + 2)))]) (rest := []) ⟨hx, hb, hml, hown, hts⟩ (mtX2_setTable_no l dC dI cL cI g0 gm gc gn cd w tb su mx cf nu fr tt H.size (mkL (xs (6 * j + 1)) (xs (6 * j + 2))) (fun h => hi (sortM.mp h))) (cwV 1 hts (gTbl (mc1 (List.mem_of_getElem? (i := 408) (by decide +kernel)) (mc1 (List.mem_of_getElem? (i := 409) (by decide +kernel)) (mc1 (List.mem_of_getElem? (i := 410) (by decide +kernel)) (mc1 (List.mem_of_getElem? (i := 17) (by decide +kernel)) mc0)))) (List.mem_of_getElem? (i := 411) (by decide +kernel)) (by decide +kernel)) rfl rfl rfl (by decide +kernel) ⟨Nat.le_of_ble_eq_true rfl, Nat.le_of_ble_eq_true rfl⟩) (mu_pre (ci := 2) (q0 := 0) hK hPc hDc rfl rfl) rfl rfl hl.1 rfl (lv_room (Nat.le_of_ble_eq_true rfl)) dL_law_368 ⟨(show 10 + j + 1 + 0 ≤ 1041 by omega), (show 16433 + 6 * j + 6 + 0 ≤ 24667 by omega)⟩) hS (fun q _ h => hFc q h) hFc (fun u t H1 locs ht hvm hpo hB hz1 hk1 hS => ?_)
    obtain ⟨hP1, hK1, hD1⟩ := hB
    rw [ht] at hP1
    obtain ⟨hP, hD⟩ := va_join (wr := [(qo, .inl (cL, 1, .inr (.inl ov))), (q0, .inr (1, [.ref qw, .ref qr, .long tb, .int (b2i su), .int (b2i mx)])), (qw, .inl (cL, 8192, .inr (.inl w))), (qr, .inr (0, [.ref qc, .ref qn])), (qc, .inl (cI, 8, .inl cf)), (qn, .inl (cL, 8, .inr (.inl nu)))]) (w1 := (wMD cL cI g0 gm gc gn (1) w tb su mx cf nu fr tt)) hP hD [1, 2, 3, 4] [0, 5, 6, 7, 8, 9] rfl rfl (by decide) (by decide) hk1 hFc hP1 hD1
    generalize H1 = H at hP hS ⊢
    have hP : va_P (dC, dI) vwCl [(qo, .inl (cL, 1, .inr (.inl ov))), (q0, .inr (1, [.ref qw, .ref qr, .long tb, .int (b2i su), .int (b2i mx)])), (qw, .inl (cL, 8192, .inr (.inl w))), (qr, .inr (0, [.ref qc, .ref qn])), (qc, .inl (cI, 8, .inl cf)), (qn, .inl (cL, 8, .inr (.inl nu))), (g0, .inr (2, [.int (1), .ref gm, .long tb, .int (b2i su), .int (b2i mx), .ref gc, .ref gn, .long fr, .long tt])), (gm, .inl (cL, 8192, .inr (.inl w))), (gc, .inl (cI, 8, .inl cf)), (gn, .inl (cL, 8, .inr (.inl nu)))] H := hP
    have hD : va_D A [(qo, .inl (cL, 1, .inr (.inl ov))), (q0, .inr (1, [.ref qw, .ref qr, .long tb, .int (b2i su), .int (b2i mx)])), (qw, .inl (cL, 8192, .inr (.inl w))), (qr, .inr (0, [.ref qc, .ref qn])), (qc, .inl (cI, 8, .inl cf)), (qn, .inl (cL, 8, .inr (.inl nu))), (g0, .inr (2, [.int (1), .ref gm, .long tb, .int (b2i su), .int (b2i mx), .ref gc, .ref gn, .long fr, .long tt])), (gm, .inl (cL, 8192, .inr (.inl w))), (gc, .inl (cI, 8, .inl cf)), (gn, .inl (cL, 8, .inr (.inl nu)))] := hD
    refine lv_aload_n hx hb dL_law_371 rfl (lv_at hl 3 rfl) ?_
    refine vp_callSi (W.runV (As := []) (rest := []) ⟨hx, hb, hml, hown, hts⟩ (mtX2_thrown l dC dI cL cI g0 gm gc gn (1) w tb su mx cf nu fr tt  ) (cwV 0 hts (gTbl (mc1 (List.mem_of_getElem? (i := 383) (by decide +kernel)) (mc1 (List.mem_of_getElem? (i := 384) (by decide +kernel)) (mc1 (List.mem_of_getElem? (i := 385) (by decide +kernel)) (mc1 (List.mem_of_getElem? (i := 17) (by decide +kernel)) mc0)))) (List.mem_of_getElem? (i := 386) (by decide +kernel)) (by decide +kernel)) rfl rfl rfl (by decide +kernel) ⟨Nat.le_of_ble_eq_true rfl, Nat.le_of_ble_eq_true rfl⟩) (rd_pre (ci := 2) (q0 := 0) hK (hP.sub (ws' := (wMD cL cI g0 gm gc gn (1) w tb su mx cf nu fr tt)) [6, 7, 8, 9] rfl) rfl rfl) rfl rfl hl.1 rfl (lv_room (Nat.le_of_ble_eq_true rfl)) dL_law_372 ⟨(show 10 + j + 1 + 0 ≤ 1041 by omega), (show 16433 + 6 * j + 6 + 0 ≤ 24667 by omega)⟩) (fun r_7 er_7 => ?_)
    have er_7 : r_7 = (1) := er_7
    subst er_7
    refine lv_iload hx hb dL_law_375 (lv_at hl 0 rfl) ?_
    refine lv_icmp_eq (tgt := 382) hx hb dL_law_377 (by decide) (fun c_8 => ?_) (fun c_8 => ?_)
    · refine lv_goto (tgt := 921) hx hb dL_law_382 (by decide) ?_
      refine W.widen (k := 10 + (j + 1)) (n := 16433 + 6 * (j + 1)) (by omega) (by omega) ?_
      exact kk w tb su mx cf nu (1) fr tt ov _ _ ls (hc) (hn) (hP.sub (ws' := (wLW cL cI q0 qw qr qc qn qo g0 gm gc gn w tb su mx cf nu (1) fr tt ov)) [0, 1, 2, 3, 4, 5, 6, 7, 8, 9] rfl) (hD.sub (ws' := (wLW cL cI q0 qw qr qc qn qo g0 gm gc gn w tb su mx cf nu (1) fr tt ov)) [0, 1, 2, 3, 4, 5, 6, 7, 8, 9] (by decide) rfl) hS (lv_sub hl [1, 2, 3, 4, 5] rfl)
    · first | exact absurd c_8 (by decide) | exact absurd (by decide) c_8
set_option maxHeartbeats 800000 in
set_option maxRecDepth 100000 in
theorem law_c4 {p : Program} {l : Launch} {e : Env} {s : State} {m : MethodId} {below : List Frame} {meth : Method} {c : Code} {b L : Nat} {xs : Nat → Int32} {A : Nat → Prop} (hl0 : l.stackTraces = false) (hL : L ≤ 3072) (C0 : lw_At p s m meth c b L xs) (hA : ∀ q, s.heap.size ≤ q → A q) (hA2 : ∀ q, A q → s.heap.size ≤ q) {sa37 : Nat} (hX37 : xR RX1 37 "no word of memory is there" sa37 xE1 A s) {sa47 : Nat} (hX47 : xR RX1 47 "the sort is none of 0, 8, 9" sa47 xE2 A s) {sa29 : Nat} (hX29 : xR RX0 29 "no such region" sa29 xE1 A s) {sa70 : Nat} (hX70 : xR RX1 70 "no such access" sa70 xE2 A s) {sa86 : Nat} (hX86 : xR RX1 86 "no such access, or no physical address" sa86 xE2 A s) (dC : Nat → ClassId) (dI : Nat → Nat → Nat) (cL : ClassId) (cI : ClassId) (q0 : Nat) (qw : Nat) (qr : Nat) (qc : Nat) (qn : Nat) (qo : Nat) (g0 : Nat) (gm : Nat) (gc : Nat) (gn : Nat) (w : Nat → Int64) (tb : Int64) (su : Bool) (mx : Bool) (cf : Nat → Int32) (nu : Nat → Int64) (cd : Int32) (fr : Int64) (tt : Int64) (ov : Nat → Int64) (j : Nat) (hj : 6 * j + 6 ≤ L) (hK : va_K (dC, dI) vwCl [(cL, .long), (cI, .int)] s) (kk : (∀ (w : Nat → Int64) (tb : Int64) (su : Bool) (mx : Bool) (cf : Nat → Int32) (nu : Nat → Int64) (cd : Int32) (fr : Int64) (tt : Int64) (ov : Nat → Int64) (H : Heap) (locs : List Loc) (ls : Array Slot), okC cf → okN nu → va_P (dC, dI) vwCl (wLW cL cI q0 qw qr qc qn qo g0 gm gc gn w tb su mx cf nu cd fr tt ov) H → va_D A (wLW cL cI q0 qw qr qc qn qo g0 gm gc gn w tb su mx cf nu cd fr tt ov) → va_S A s.heap H locs → lv_has ls 8 [(0, .ref b), (1, .ref q0), (2, .ref g0), (3, .ref qo), (4, .int (nI (6 * j)))] → W p l e room_1 s m #[Value.ref b] below meth c H locs (10 + (j + 1)) (16433 + 6 * (j + 1)) (lw_Z below #[Value.ref b] s) (F0 m 921 ls []))) (H : Heap) (locs : List Loc) (ls : Array Slot) (hc : okC cf) (hn : okN nu) (hP : va_P (dC, dI) vwCl (wLW cL cI q0 qw qr qc qn qo g0 gm gc gn w tb su mx cf nu cd fr tt ov) H) (hD : va_D A (wLW cL cI q0 qw qr qc qn qo g0 gm gc gn w tb su mx cf nu cd fr tt ov)) (hS : va_S A s.heap H locs) (hl : lv_has ls 8 [(0, .ref b), (1, .ref q0), (2, .ref g0), (3, .ref qo), (4, .int (nI (6 * j)))]) : W p l e room_1 s m #[Value.ref b] below meth c H locs (10 + j) (16433 + 6 * j) (lw_Z below #[Value.ref b] s) (F0 m 385 ls []) := by
  obtain ⟨hx, hb, hr, hml, hown, hts, hX, hbl, hlocks, hgv⟩ := id C0
  have hbA : ¬ A b := fun h => absurd (hA2 b h) (Nat.not_le.mpr hbl)
  have hP : va_P (dC, dI) vwCl [(qo, .inl (cL, 1, .inr (.inl ov))), (q0, .inr (1, [.ref qw, .ref qr, .long tb, .int (b2i su), .int (b2i mx)])), (qw, .inl (cL, 8192, .inr (.inl w))), (qr, .inr (0, [.ref qc, .ref qn])), (qc, .inl (cI, 8, .inl cf)), (qn, .inl (cL, 8, .inr (.inl nu))), (g0, .inr (2, [.int cd, .ref gm, .long tb, .int (b2i su), .int (b2i mx), .ref gc, .ref gn, .long fr, .long tt])), (gm, .inl (cL, 8192, .inr (.inl w))), (gc, .inl (cI, 8, .inl cf)), (gn, .inl (cL, 8, .inr (.inl nu)))] H := hP
  have hD : va_D A [(qo, .inl (cL, 1, .inr (.inl ov))), (q0, .inr (1, [.ref qw, .ref qr, .long tb, .int (b2i su), .int (b2i mx)])), (qw, .inl (cL, 8192, .inr (.inl w))), (qr, .inr (0, [.ref qc, .ref qn])), (qc, .inl (cI, 8, .inl cf)), (qn, .inl (cL, 8, .inr (.inl nu))), (g0, .inr (2, [.int cd, .ref gm, .long tb, .int (b2i su), .int (b2i mx), .ref gc, .ref gn, .long fr, .long tt])), (gm, .inl (cL, 8192, .inr (.inl w))), (gc, .inl (cI, 8, .inl cf)), (gn, .inl (cL, 8, .inr (.inl nu)))] := hD
  refine lv_aload_n hx hb dL_law_385 rfl (lv_at hl 1 rfl) ?_
  refine lv_aload_n hx hb dL_law_386 rfl (lv_at hl 0 rfl) ?_
  refine lv_iload hx hb dL_law_387 (lv_at hl 4 rfl) ?_
  refine lv_iconst (v := 1) hx hb dL_law_389 (by decide) ?_
  refine lv_iadd hx hb dL_law_390 ?_
  rw [sc_ix j 1 1 rfl]
  refine va_sld hx hb hX hbl hbA hS (vp_in_nI (show 6 * j + 1 < L by omega) (by omega)) dL_law_391 ?_
  rw [nI_clamp (show 6 * j + 1 < 2 ^ 31 by omega)]
  refine lv_if_eq (tgt := 399) hx hb dL_law_392 (by decide) (fun c_1 => ?_) (fun c_1 => ?_)
  · refine lv_iconst (v := 0) hx hb dL_law_399 (by decide) ?_
    refine lv_aload_n hx hb dL_law_400 rfl (lv_at hl 0 rfl) ?_
    refine lv_iload hx hb dL_law_401 (lv_at hl 4 rfl) ?_
    refine lv_iconst (v := 2) hx hb dL_law_403 (by decide) ?_
    refine lv_iadd hx hb dL_law_404 ?_
    rw [sc_ix j 2 2 rfl]
    refine va_sld hx hb hX hbl hbA hS (vp_in_nI (show 6 * j + 2 < L by omega) (by omega)) dL_law_405 ?_
    rw [nI_clamp (show 6 * j + 2 < 2 ^ 31 by omega)]
    refine lv_if_eq (tgt := 413) hx hb dL_law_406 (by decide) (fun c_2 => ?_) (fun c_2 => ?_)
    · refine lv_iconst (v := 0) hx hb dL_law_413 (by decide) ?_
      have hPc := hP.sub (ws' := (wPW cL cI q0 qw qr qc qn w tb su mx cf nu)) [1, 2, 3, 4, 5] rfl
      have hDc := hD.sub (ws' := (wPW cL cI q0 qw qr qc qn w tb su mx cf nu)) [1, 2, 3, 4, 5] (by decide) rfl
      have hFc := va_free (wc := (wPW cL cI q0 qw qr qc qn w tb su mx cf nu)) hD hS hA [1, 2, 3, 4, 5] rfl
      refine va_callv (va_runV (As := [.int 0, .int 0]) (rest := []) ⟨hx, hb, hml, hown, hts⟩ (mtX1_rights l dC dI cL cI q0 qw qr qc qn w tb su mx cf nu H.size false false ) (cwV 2 hts (gTbl (mc1 (List.mem_of_getElem? (i := 66) (by decide +kernel)) (mc1 (List.mem_of_getElem? (i := 67) (by decide +kernel)) (mc1 (List.mem_of_getElem? (i := 68) (by decide +kernel)) (mc1 (List.mem_of_getElem? (i := 15) (by decide +kernel)) mc0)))) (List.mem_of_getElem? (i := 69) (by decide +kernel)) (by decide +kernel)) rfl rfl rfl (by decide +kernel) ⟨Nat.le_of_ble_eq_true rfl, Nat.le_of_ble_eq_true rfl⟩) (mu_pre (ci := 1) (q0 := 0) hK hPc hDc rfl rfl) rfl rfl hl.1 rfl (lv_room (Nat.le_of_ble_eq_true rfl)) dL_law_414 ⟨(show 10 + j + 0 ≤ 1041 by omega), (show 16433 + 6 * j + 0 ≤ 24667 by omega)⟩) hS (fun q _ h => hFc q h) hFc (fun u t H1 locs ht hvm hpo hB hz1 hk1 hS => ?_)
      obtain ⟨hP1, hK1, hD1⟩ := hB
      rw [ht] at hP1
      obtain ⟨hP, hD⟩ := va_join (wr := [(qo, .inl (cL, 1, .inr (.inl ov))), (g0, .inr (2, [.int cd, .ref gm, .long tb, .int (b2i su), .int (b2i mx), .ref gc, .ref gn, .long fr, .long tt])), (gm, .inl (cL, 8192, .inr (.inl w))), (gc, .inl (cI, 8, .inl cf)), (gn, .inl (cL, 8, .inr (.inl nu)))]) (w1 := (wPW cL cI q0 qw qr qc qn w tb (false) (false) cf nu)) hP hD [1, 2, 3, 4, 5] [0, 6, 7, 8, 9] rfl rfl (by decide) (by decide) hk1 hFc hP1 hD1
      generalize H1 = H at hP hS ⊢
      have hP : va_P (dC, dI) vwCl [(qo, .inl (cL, 1, .inr (.inl ov))), (g0, .inr (2, [.int cd, .ref gm, .long tb, .int (b2i su), .int (b2i mx), .ref gc, .ref gn, .long fr, .long tt])), (gm, .inl (cL, 8192, .inr (.inl w))), (gc, .inl (cI, 8, .inl cf)), (gn, .inl (cL, 8, .inr (.inl nu))), (q0, .inr (1, [.ref qw, .ref qr, .long tb, .int (b2i (false)), .int (b2i (false))])), (qw, .inl (cL, 8192, .inr (.inl w))), (qr, .inr (0, [.ref qc, .ref qn])), (qc, .inl (cI, 8, .inl cf)), (qn, .inl (cL, 8, .inr (.inl nu)))] H := hP
      have hD : va_D A [(qo, .inl (cL, 1, .inr (.inl ov))), (g0, .inr (2, [.int cd, .ref gm, .long tb, .int (b2i su), .int (b2i mx), .ref gc, .ref gn, .long fr, .long tt])), (gm, .inl (cL, 8192, .inr (.inl w))), (gc, .inl (cI, 8, .inl cf)), (gn, .inl (cL, 8, .inr (.inl nu))), (q0, .inr (1, [.ref qw, .ref qr, .long tb, .int (b2i (false)), .int (b2i (false))])), (qw, .inl (cL, 8192, .inr (.inl w))), (qr, .inr (0, [.ref qc, .ref qn])), (qc, .inl (cI, 8, .inl cf)), (qn, .inl (cL, 8, .inr (.inl nu)))] := hD
      refine lv_aload_n hx hb dL_law_417 rfl (lv_at hl 2 rfl) ?_
      refine lv_aload_n hx hb dL_law_418 rfl (lv_at hl 0 rfl) ?_
      refine lv_iload hx hb dL_law_419 (lv_at hl 4 rfl) ?_
      refine lv_iconst (v := 1) hx hb dL_law_421 (by decide) ?_
      refine lv_iadd hx hb dL_law_422 ?_
      rw [sc_ix j 1 1 rfl]
      refine va_sld hx hb hX hbl hbA hS (vp_in_nI (show 6 * j + 1 < L by omega) (by omega)) dL_law_423 ?_
      rw [nI_clamp (show 6 * j + 1 < 2 ^ 31 by omega)]
      refine lv_if_eq (tgt := 431) hx hb dL_law_424 (by decide) (fun c_4 => ?_) (fun c_4 => ?_)
      · refine lv_iconst (v := 0) hx hb dL_law_431 (by decide) ?_
        refine lv_aload_n hx hb dL_law_432 rfl (lv_at hl 0 rfl) ?_
        refine lv_iload hx hb dL_law_433 (lv_at hl 4 rfl) ?_
        refine lv_iconst (v := 2) hx hb dL_law_435 (by decide) ?_
        refine lv_iadd hx hb dL_law_436 ?_
        rw [sc_ix j 2 2 rfl]
        refine va_sld hx hb hX hbl hbA hS (vp_in_nI (show 6 * j + 2 < L by omega) (by omega)) dL_law_437 ?_
        rw [nI_clamp (show 6 * j + 2 < 2 ^ 31 by omega)]
        refine lv_if_eq (tgt := 445) hx hb dL_law_438 (by decide) (fun c_5 => ?_) (fun c_5 => ?_)
        · refine lv_iconst (v := 0) hx hb dL_law_445 (by decide) ?_
          have hPc := hP.sub (ws' := (wMD cL cI g0 gm gc gn cd w tb su mx cf nu fr tt)) [1, 2, 3, 4] rfl
          have hDc := hD.sub (ws' := (wMD cL cI g0 gm gc gn cd w tb su mx cf nu fr tt)) [1, 2, 3, 4] (by decide) rfl
          have hFc := va_free (wc := (wMD cL cI g0 gm gc gn cd w tb su mx cf nu fr tt)) hD hS hA [1, 2, 3, 4] rfl
          refine va_callv (va_runV (As := [.int 0, .int 0]) (rest := []) ⟨hx, hb, hml, hown, hts⟩ (mtX2_rights l dC dI cL cI g0 gm gc gn cd w tb su mx cf nu fr tt H.size false false ) (cwV 2 hts (gTbl (mc1 (List.mem_of_getElem? (i := 416) (by decide +kernel)) (mc1 (List.mem_of_getElem? (i := 417) (by decide +kernel)) (mc1 (List.mem_of_getElem? (i := 418) (by decide +kernel)) (mc1 (List.mem_of_getElem? (i := 17) (by decide +kernel)) mc0)))) (List.mem_of_getElem? (i := 419) (by decide +kernel)) (by decide +kernel)) rfl rfl rfl (by decide +kernel) ⟨Nat.le_of_ble_eq_true rfl, Nat.le_of_ble_eq_true rfl⟩) (mu_pre (ci := 2) (q0 := 0) hK hPc hDc rfl rfl) rfl rfl hl.1 rfl (lv_room (Nat.le_of_ble_eq_true rfl)) dL_law_446 ⟨(show 10 + j + 0 ≤ 1041 by omega), (show 16433 + 6 * j + 0 ≤ 24667 by omega)⟩) hS (fun q _ h => hFc q h) hFc (fun u t H1 locs ht hvm hpo hB hz1 hk1 hS => ?_)
          obtain ⟨hP1, hK1, hD1⟩ := hB
          rw [ht] at hP1
          obtain ⟨hP, hD⟩ := va_join (wr := [(qo, .inl (cL, 1, .inr (.inl ov))), (q0, .inr (1, [.ref qw, .ref qr, .long tb, .int (b2i (false)), .int (b2i (false))])), (qw, .inl (cL, 8192, .inr (.inl w))), (qr, .inr (0, [.ref qc, .ref qn])), (qc, .inl (cI, 8, .inl cf)), (qn, .inl (cL, 8, .inr (.inl nu)))]) (w1 := (wMD cL cI g0 gm gc gn (0) w tb (false) (false) cf nu fr tt)) hP hD [1, 2, 3, 4] [0, 5, 6, 7, 8, 9] rfl rfl (by decide) (by decide) hk1 hFc hP1 hD1
          generalize H1 = H at hP hS ⊢
          have hP : va_P (dC, dI) vwCl [(qo, .inl (cL, 1, .inr (.inl ov))), (q0, .inr (1, [.ref qw, .ref qr, .long tb, .int (b2i (false)), .int (b2i (false))])), (qw, .inl (cL, 8192, .inr (.inl w))), (qr, .inr (0, [.ref qc, .ref qn])), (qc, .inl (cI, 8, .inl cf)), (qn, .inl (cL, 8, .inr (.inl nu))), (g0, .inr (2, [.int (0), .ref gm, .long tb, .int (b2i (false)), .int (b2i (false)), .ref gc, .ref gn, .long fr, .long tt])), (gm, .inl (cL, 8192, .inr (.inl w))), (gc, .inl (cI, 8, .inl cf)), (gn, .inl (cL, 8, .inr (.inl nu)))] H := hP
          have hD : va_D A [(qo, .inl (cL, 1, .inr (.inl ov))), (q0, .inr (1, [.ref qw, .ref qr, .long tb, .int (b2i (false)), .int (b2i (false))])), (qw, .inl (cL, 8192, .inr (.inl w))), (qr, .inr (0, [.ref qc, .ref qn])), (qc, .inl (cI, 8, .inl cf)), (qn, .inl (cL, 8, .inr (.inl nu))), (g0, .inr (2, [.int (0), .ref gm, .long tb, .int (b2i (false)), .int (b2i (false)), .ref gc, .ref gn, .long fr, .long tt])), (gm, .inl (cL, 8192, .inr (.inl w))), (gc, .inl (cI, 8, .inl cf)), (gn, .inl (cL, 8, .inr (.inl nu)))] := hD
          refine lv_goto (tgt := 921) hx hb dL_law_449 (by decide) ?_
          refine W.widen (k := 10 + (j + 1)) (n := 16433 + 6 * (j + 1)) (by omega) (by omega) ?_
          exact kk w tb (false) (false) cf nu (0) fr tt ov _ _ ls (hc) (hn) (hP.sub (ws' := (wLW cL cI q0 qw qr qc qn qo g0 gm gc gn w tb (false) (false) cf nu (0) fr tt ov)) [0, 1, 2, 3, 4, 5, 6, 7, 8, 9] rfl) (hD.sub (ws' := (wLW cL cI q0 qw qr qc qn qo g0 gm gc gn w tb (false) (false) cf nu (0) fr tt ov)) [0, 1, 2, 3, 4, 5, 6, 7, 8, 9] (by decide) rfl) hS (lv_sub hl [0, 1, 2, 3, 4] rfl)
        · exact absurd c_2 c_5
      · exact absurd c_1 c_4
    · refine lv_iconst (v := 1) hx hb dL_law_409 (by decide) ?_
      refine lv_goto (tgt := 414) hx hb dL_law_410 (by decide) ?_
      have hPc := hP.sub (ws' := (wPW cL cI q0 qw qr qc qn w tb su mx cf nu)) [1, 2, 3, 4, 5] rfl
      have hDc := hD.sub (ws' := (wPW cL cI q0 qw qr qc qn w tb su mx cf nu)) [1, 2, 3, 4, 5] (by decide) rfl
      have hFc := va_free (wc := (wPW cL cI q0 qw qr qc qn w tb su mx cf nu)) hD hS hA [1, 2, 3, 4, 5] rfl
      refine va_callv (va_runV (As := [.int 0, .int 1]) (rest := []) ⟨hx, hb, hml, hown, hts⟩ (mtX1_rights l dC dI cL cI q0 qw qr qc qn w tb su mx cf nu H.size false true ) (cwV 2 hts (gTbl (mc1 (List.mem_of_getElem? (i := 66) (by decide +kernel)) (mc1 (List.mem_of_getElem? (i := 67) (by decide +kernel)) (mc1 (List.mem_of_getElem? (i := 68) (by decide +kernel)) (mc1 (List.mem_of_getElem? (i := 15) (by decide +kernel)) mc0)))) (List.mem_of_getElem? (i := 69) (by decide +kernel)) (by decide +kernel)) rfl rfl rfl (by decide +kernel) ⟨Nat.le_of_ble_eq_true rfl, Nat.le_of_ble_eq_true rfl⟩) (mu_pre (ci := 1) (q0 := 0) hK hPc hDc rfl rfl) rfl rfl hl.1 rfl (lv_room (Nat.le_of_ble_eq_true rfl)) dL_law_414 ⟨(show 10 + j + 0 ≤ 1041 by omega), (show 16433 + 6 * j + 0 ≤ 24667 by omega)⟩) hS (fun q _ h => hFc q h) hFc (fun u t H1 locs ht hvm hpo hB hz1 hk1 hS => ?_)
      obtain ⟨hP1, hK1, hD1⟩ := hB
      rw [ht] at hP1
      obtain ⟨hP, hD⟩ := va_join (wr := [(qo, .inl (cL, 1, .inr (.inl ov))), (g0, .inr (2, [.int cd, .ref gm, .long tb, .int (b2i su), .int (b2i mx), .ref gc, .ref gn, .long fr, .long tt])), (gm, .inl (cL, 8192, .inr (.inl w))), (gc, .inl (cI, 8, .inl cf)), (gn, .inl (cL, 8, .inr (.inl nu)))]) (w1 := (wPW cL cI q0 qw qr qc qn w tb (false) (true) cf nu)) hP hD [1, 2, 3, 4, 5] [0, 6, 7, 8, 9] rfl rfl (by decide) (by decide) hk1 hFc hP1 hD1
      generalize H1 = H at hP hS ⊢
      have hP : va_P (dC, dI) vwCl [(qo, .inl (cL, 1, .inr (.inl ov))), (g0, .inr (2, [.int cd, .ref gm, .long tb, .int (b2i su), .int (b2i mx), .ref gc, .ref gn, .long fr, .long tt])), (gm, .inl (cL, 8192, .inr (.inl w))), (gc, .inl (cI, 8, .inl cf)), (gn, .inl (cL, 8, .inr (.inl nu))), (q0, .inr (1, [.ref qw, .ref qr, .long tb, .int (b2i (false)), .int (b2i (true))])), (qw, .inl (cL, 8192, .inr (.inl w))), (qr, .inr (0, [.ref qc, .ref qn])), (qc, .inl (cI, 8, .inl cf)), (qn, .inl (cL, 8, .inr (.inl nu)))] H := hP
      have hD : va_D A [(qo, .inl (cL, 1, .inr (.inl ov))), (g0, .inr (2, [.int cd, .ref gm, .long tb, .int (b2i su), .int (b2i mx), .ref gc, .ref gn, .long fr, .long tt])), (gm, .inl (cL, 8192, .inr (.inl w))), (gc, .inl (cI, 8, .inl cf)), (gn, .inl (cL, 8, .inr (.inl nu))), (q0, .inr (1, [.ref qw, .ref qr, .long tb, .int (b2i (false)), .int (b2i (true))])), (qw, .inl (cL, 8192, .inr (.inl w))), (qr, .inr (0, [.ref qc, .ref qn])), (qc, .inl (cI, 8, .inl cf)), (qn, .inl (cL, 8, .inr (.inl nu)))] := hD
      refine lv_aload_n hx hb dL_law_417 rfl (lv_at hl 2 rfl) ?_
      refine lv_aload_n hx hb dL_law_418 rfl (lv_at hl 0 rfl) ?_
      refine lv_iload hx hb dL_law_419 (lv_at hl 4 rfl) ?_
      refine lv_iconst (v := 1) hx hb dL_law_421 (by decide) ?_
      refine lv_iadd hx hb dL_law_422 ?_
      rw [sc_ix j 1 1 rfl]
      refine va_sld hx hb hX hbl hbA hS (vp_in_nI (show 6 * j + 1 < L by omega) (by omega)) dL_law_423 ?_
      rw [nI_clamp (show 6 * j + 1 < 2 ^ 31 by omega)]
      refine lv_if_eq (tgt := 431) hx hb dL_law_424 (by decide) (fun c_8 => ?_) (fun c_8 => ?_)
      · refine lv_iconst (v := 0) hx hb dL_law_431 (by decide) ?_
        refine lv_aload_n hx hb dL_law_432 rfl (lv_at hl 0 rfl) ?_
        refine lv_iload hx hb dL_law_433 (lv_at hl 4 rfl) ?_
        refine lv_iconst (v := 2) hx hb dL_law_435 (by decide) ?_
        refine lv_iadd hx hb dL_law_436 ?_
        rw [sc_ix j 2 2 rfl]
        refine va_sld hx hb hX hbl hbA hS (vp_in_nI (show 6 * j + 2 < L by omega) (by omega)) dL_law_437 ?_
        rw [nI_clamp (show 6 * j + 2 < 2 ^ 31 by omega)]
        refine lv_if_eq (tgt := 445) hx hb dL_law_438 (by decide) (fun c_9 => ?_) (fun c_9 => ?_)
        · exact absurd c_9 c_2
        · refine lv_iconst (v := 1) hx hb dL_law_441 (by decide) ?_
          refine lv_goto (tgt := 446) hx hb dL_law_442 (by decide) ?_
          have hPc := hP.sub (ws' := (wMD cL cI g0 gm gc gn cd w tb su mx cf nu fr tt)) [1, 2, 3, 4] rfl
          have hDc := hD.sub (ws' := (wMD cL cI g0 gm gc gn cd w tb su mx cf nu fr tt)) [1, 2, 3, 4] (by decide) rfl
          have hFc := va_free (wc := (wMD cL cI g0 gm gc gn cd w tb su mx cf nu fr tt)) hD hS hA [1, 2, 3, 4] rfl
          refine va_callv (va_runV (As := [.int 0, .int 1]) (rest := []) ⟨hx, hb, hml, hown, hts⟩ (mtX2_rights l dC dI cL cI g0 gm gc gn cd w tb su mx cf nu fr tt H.size false true ) (cwV 2 hts (gTbl (mc1 (List.mem_of_getElem? (i := 416) (by decide +kernel)) (mc1 (List.mem_of_getElem? (i := 417) (by decide +kernel)) (mc1 (List.mem_of_getElem? (i := 418) (by decide +kernel)) (mc1 (List.mem_of_getElem? (i := 17) (by decide +kernel)) mc0)))) (List.mem_of_getElem? (i := 419) (by decide +kernel)) (by decide +kernel)) rfl rfl rfl (by decide +kernel) ⟨Nat.le_of_ble_eq_true rfl, Nat.le_of_ble_eq_true rfl⟩) (mu_pre (ci := 2) (q0 := 0) hK hPc hDc rfl rfl) rfl rfl hl.1 rfl (lv_room (Nat.le_of_ble_eq_true rfl)) dL_law_446 ⟨(show 10 + j + 0 ≤ 1041 by omega), (show 16433 + 6 * j + 0 ≤ 24667 by omega)⟩) hS (fun q _ h => hFc q h) hFc (fun u t H1 locs ht hvm hpo hB hz1 hk1 hS => ?_)
          obtain ⟨hP1, hK1, hD1⟩ := hB
          rw [ht] at hP1
          obtain ⟨hP, hD⟩ := va_join (wr := [(qo, .inl (cL, 1, .inr (.inl ov))), (q0, .inr (1, [.ref qw, .ref qr, .long tb, .int (b2i (false)), .int (b2i (true))])), (qw, .inl (cL, 8192, .inr (.inl w))), (qr, .inr (0, [.ref qc, .ref qn])), (qc, .inl (cI, 8, .inl cf)), (qn, .inl (cL, 8, .inr (.inl nu)))]) (w1 := (wMD cL cI g0 gm gc gn (0) w tb (false) (true) cf nu fr tt)) hP hD [1, 2, 3, 4] [0, 5, 6, 7, 8, 9] rfl rfl (by decide) (by decide) hk1 hFc hP1 hD1
          generalize H1 = H at hP hS ⊢
          have hP : va_P (dC, dI) vwCl [(qo, .inl (cL, 1, .inr (.inl ov))), (q0, .inr (1, [.ref qw, .ref qr, .long tb, .int (b2i (false)), .int (b2i (true))])), (qw, .inl (cL, 8192, .inr (.inl w))), (qr, .inr (0, [.ref qc, .ref qn])), (qc, .inl (cI, 8, .inl cf)), (qn, .inl (cL, 8, .inr (.inl nu))), (g0, .inr (2, [.int (0), .ref gm, .long tb, .int (b2i (false)), .int (b2i (true)), .ref gc, .ref gn, .long fr, .long tt])), (gm, .inl (cL, 8192, .inr (.inl w))), (gc, .inl (cI, 8, .inl cf)), (gn, .inl (cL, 8, .inr (.inl nu)))] H := hP
          have hD : va_D A [(qo, .inl (cL, 1, .inr (.inl ov))), (q0, .inr (1, [.ref qw, .ref qr, .long tb, .int (b2i (false)), .int (b2i (true))])), (qw, .inl (cL, 8192, .inr (.inl w))), (qr, .inr (0, [.ref qc, .ref qn])), (qc, .inl (cI, 8, .inl cf)), (qn, .inl (cL, 8, .inr (.inl nu))), (g0, .inr (2, [.int (0), .ref gm, .long tb, .int (b2i (false)), .int (b2i (true)), .ref gc, .ref gn, .long fr, .long tt])), (gm, .inl (cL, 8192, .inr (.inl w))), (gc, .inl (cI, 8, .inl cf)), (gn, .inl (cL, 8, .inr (.inl nu)))] := hD
          refine lv_goto (tgt := 921) hx hb dL_law_449 (by decide) ?_
          refine W.widen (k := 10 + (j + 1)) (n := 16433 + 6 * (j + 1)) (by omega) (by omega) ?_
          exact kk w tb (false) (true) cf nu (0) fr tt ov _ _ ls (hc) (hn) (hP.sub (ws' := (wLW cL cI q0 qw qr qc qn qo g0 gm gc gn w tb (false) (true) cf nu (0) fr tt ov)) [0, 1, 2, 3, 4, 5, 6, 7, 8, 9] rfl) (hD.sub (ws' := (wLW cL cI q0 qw qr qc qn qo g0 gm gc gn w tb (false) (true) cf nu (0) fr tt ov)) [0, 1, 2, 3, 4, 5, 6, 7, 8, 9] (by decide) rfl) hS (lv_sub hl [0, 1, 2, 3, 4] rfl)
      · exact absurd c_1 c_8
  · refine lv_iconst (v := 1) hx hb dL_law_395 (by decide) ?_
    refine lv_goto (tgt := 400) hx hb dL_law_396 (by decide) ?_
    refine lv_aload_n hx hb dL_law_400 rfl (lv_at hl 0 rfl) ?_
    refine lv_iload hx hb dL_law_401 (lv_at hl 4 rfl) ?_
    refine lv_iconst (v := 2) hx hb dL_law_403 (by decide) ?_
    refine lv_iadd hx hb dL_law_404 ?_
    rw [sc_ix j 2 2 rfl]
    refine va_sld hx hb hX hbl hbA hS (vp_in_nI (show 6 * j + 2 < L by omega) (by omega)) dL_law_405 ?_
    rw [nI_clamp (show 6 * j + 2 < 2 ^ 31 by omega)]
    refine lv_if_eq (tgt := 413) hx hb dL_law_406 (by decide) (fun c_11 => ?_) (fun c_11 => ?_)
    · refine lv_iconst (v := 0) hx hb dL_law_413 (by decide) ?_
      have hPc := hP.sub (ws' := (wPW cL cI q0 qw qr qc qn w tb su mx cf nu)) [1, 2, 3, 4, 5] rfl
      have hDc := hD.sub (ws' := (wPW cL cI q0 qw qr qc qn w tb su mx cf nu)) [1, 2, 3, 4, 5] (by decide) rfl
      have hFc := va_free (wc := (wPW cL cI q0 qw qr qc qn w tb su mx cf nu)) hD hS hA [1, 2, 3, 4, 5] rfl
      refine va_callv (va_runV (As := [.int 1, .int 0]) (rest := []) ⟨hx, hb, hml, hown, hts⟩ (mtX1_rights l dC dI cL cI q0 qw qr qc qn w tb su mx cf nu H.size true false ) (cwV 2 hts (gTbl (mc1 (List.mem_of_getElem? (i := 66) (by decide +kernel)) (mc1 (List.mem_of_getElem? (i := 67) (by decide +kernel)) (mc1 (List.mem_of_getElem? (i := 68) (by decide +kernel)) (mc1 (List.mem_of_getElem? (i := 15) (by decide +kernel)) mc0)))) (List.mem_of_getElem? (i := 69) (by decide +kernel)) (by decide +kernel)) rfl rfl rfl (by decide +kernel) ⟨Nat.le_of_ble_eq_true rfl, Nat.le_of_ble_eq_true rfl⟩) (mu_pre (ci := 1) (q0 := 0) hK hPc hDc rfl rfl) rfl rfl hl.1 rfl (lv_room (Nat.le_of_ble_eq_true rfl)) dL_law_414 ⟨(show 10 + j + 0 ≤ 1041 by omega), (show 16433 + 6 * j + 0 ≤ 24667 by omega)⟩) hS (fun q _ h => hFc q h) hFc (fun u t H1 locs ht hvm hpo hB hz1 hk1 hS => ?_)
      obtain ⟨hP1, hK1, hD1⟩ := hB
      rw [ht] at hP1
      obtain ⟨hP, hD⟩ := va_join (wr := [(qo, .inl (cL, 1, .inr (.inl ov))), (g0, .inr (2, [.int cd, .ref gm, .long tb, .int (b2i su), .int (b2i mx), .ref gc, .ref gn, .long fr, .long tt])), (gm, .inl (cL, 8192, .inr (.inl w))), (gc, .inl (cI, 8, .inl cf)), (gn, .inl (cL, 8, .inr (.inl nu)))]) (w1 := (wPW cL cI q0 qw qr qc qn w tb (true) (false) cf nu)) hP hD [1, 2, 3, 4, 5] [0, 6, 7, 8, 9] rfl rfl (by decide) (by decide) hk1 hFc hP1 hD1
      generalize H1 = H at hP hS ⊢
      have hP : va_P (dC, dI) vwCl [(qo, .inl (cL, 1, .inr (.inl ov))), (g0, .inr (2, [.int cd, .ref gm, .long tb, .int (b2i su), .int (b2i mx), .ref gc, .ref gn, .long fr, .long tt])), (gm, .inl (cL, 8192, .inr (.inl w))), (gc, .inl (cI, 8, .inl cf)), (gn, .inl (cL, 8, .inr (.inl nu))), (q0, .inr (1, [.ref qw, .ref qr, .long tb, .int (b2i (true)), .int (b2i (false))])), (qw, .inl (cL, 8192, .inr (.inl w))), (qr, .inr (0, [.ref qc, .ref qn])), (qc, .inl (cI, 8, .inl cf)), (qn, .inl (cL, 8, .inr (.inl nu)))] H := hP
      have hD : va_D A [(qo, .inl (cL, 1, .inr (.inl ov))), (g0, .inr (2, [.int cd, .ref gm, .long tb, .int (b2i su), .int (b2i mx), .ref gc, .ref gn, .long fr, .long tt])), (gm, .inl (cL, 8192, .inr (.inl w))), (gc, .inl (cI, 8, .inl cf)), (gn, .inl (cL, 8, .inr (.inl nu))), (q0, .inr (1, [.ref qw, .ref qr, .long tb, .int (b2i (true)), .int (b2i (false))])), (qw, .inl (cL, 8192, .inr (.inl w))), (qr, .inr (0, [.ref qc, .ref qn])), (qc, .inl (cI, 8, .inl cf)), (qn, .inl (cL, 8, .inr (.inl nu)))] := hD
      refine lv_aload_n hx hb dL_law_417 rfl (lv_at hl 2 rfl) ?_
      refine lv_aload_n hx hb dL_law_418 rfl (lv_at hl 0 rfl) ?_
      refine lv_iload hx hb dL_law_419 (lv_at hl 4 rfl) ?_
      refine lv_iconst (v := 1) hx hb dL_law_421 (by decide) ?_
      refine lv_iadd hx hb dL_law_422 ?_
      rw [sc_ix j 1 1 rfl]
      refine va_sld hx hb hX hbl hbA hS (vp_in_nI (show 6 * j + 1 < L by omega) (by omega)) dL_law_423 ?_
      rw [nI_clamp (show 6 * j + 1 < 2 ^ 31 by omega)]
      refine lv_if_eq (tgt := 431) hx hb dL_law_424 (by decide) (fun c_13 => ?_) (fun c_13 => ?_)
      · exact absurd c_13 c_1
      · refine lv_iconst (v := 1) hx hb dL_law_427 (by decide) ?_
        refine lv_goto (tgt := 432) hx hb dL_law_428 (by decide) ?_
        refine lv_aload_n hx hb dL_law_432 rfl (lv_at hl 0 rfl) ?_
        refine lv_iload hx hb dL_law_433 (lv_at hl 4 rfl) ?_
        refine lv_iconst (v := 2) hx hb dL_law_435 (by decide) ?_
        refine lv_iadd hx hb dL_law_436 ?_
        rw [sc_ix j 2 2 rfl]
        refine va_sld hx hb hX hbl hbA hS (vp_in_nI (show 6 * j + 2 < L by omega) (by omega)) dL_law_437 ?_
        rw [nI_clamp (show 6 * j + 2 < 2 ^ 31 by omega)]
        refine lv_if_eq (tgt := 445) hx hb dL_law_438 (by decide) (fun c_14 => ?_) (fun c_14 => ?_)
        · refine lv_iconst (v := 0) hx hb dL_law_445 (by decide) ?_
          have hPc := hP.sub (ws' := (wMD cL cI g0 gm gc gn cd w tb su mx cf nu fr tt)) [1, 2, 3, 4] rfl
          have hDc := hD.sub (ws' := (wMD cL cI g0 gm gc gn cd w tb su mx cf nu fr tt)) [1, 2, 3, 4] (by decide) rfl
          have hFc := va_free (wc := (wMD cL cI g0 gm gc gn cd w tb su mx cf nu fr tt)) hD hS hA [1, 2, 3, 4] rfl
          refine va_callv (va_runV (As := [.int 1, .int 0]) (rest := []) ⟨hx, hb, hml, hown, hts⟩ (mtX2_rights l dC dI cL cI g0 gm gc gn cd w tb su mx cf nu fr tt H.size true false ) (cwV 2 hts (gTbl (mc1 (List.mem_of_getElem? (i := 416) (by decide +kernel)) (mc1 (List.mem_of_getElem? (i := 417) (by decide +kernel)) (mc1 (List.mem_of_getElem? (i := 418) (by decide +kernel)) (mc1 (List.mem_of_getElem? (i := 17) (by decide +kernel)) mc0)))) (List.mem_of_getElem? (i := 419) (by decide +kernel)) (by decide +kernel)) rfl rfl rfl (by decide +kernel) ⟨Nat.le_of_ble_eq_true rfl, Nat.le_of_ble_eq_true rfl⟩) (mu_pre (ci := 2) (q0 := 0) hK hPc hDc rfl rfl) rfl rfl hl.1 rfl (lv_room (Nat.le_of_ble_eq_true rfl)) dL_law_446 ⟨(show 10 + j + 0 ≤ 1041 by omega), (show 16433 + 6 * j + 0 ≤ 24667 by omega)⟩) hS (fun q _ h => hFc q h) hFc (fun u t H1 locs ht hvm hpo hB hz1 hk1 hS => ?_)
          obtain ⟨hP1, hK1, hD1⟩ := hB
          rw [ht] at hP1
          obtain ⟨hP, hD⟩ := va_join (wr := [(qo, .inl (cL, 1, .inr (.inl ov))), (q0, .inr (1, [.ref qw, .ref qr, .long tb, .int (b2i (true)), .int (b2i (false))])), (qw, .inl (cL, 8192, .inr (.inl w))), (qr, .inr (0, [.ref qc, .ref qn])), (qc, .inl (cI, 8, .inl cf)), (qn, .inl (cL, 8, .inr (.inl nu)))]) (w1 := (wMD cL cI g0 gm gc gn (0) w tb (true) (false) cf nu fr tt)) hP hD [1, 2, 3, 4] [0, 5, 6, 7, 8, 9] rfl rfl (by decide) (by decide) hk1 hFc hP1 hD1
          generalize H1 = H at hP hS ⊢
          have hP : va_P (dC, dI) vwCl [(qo, .inl (cL, 1, .inr (.inl ov))), (q0, .inr (1, [.ref qw, .ref qr, .long tb, .int (b2i (true)), .int (b2i (false))])), (qw, .inl (cL, 8192, .inr (.inl w))), (qr, .inr (0, [.ref qc, .ref qn])), (qc, .inl (cI, 8, .inl cf)), (qn, .inl (cL, 8, .inr (.inl nu))), (g0, .inr (2, [.int (0), .ref gm, .long tb, .int (b2i (true)), .int (b2i (false)), .ref gc, .ref gn, .long fr, .long tt])), (gm, .inl (cL, 8192, .inr (.inl w))), (gc, .inl (cI, 8, .inl cf)), (gn, .inl (cL, 8, .inr (.inl nu)))] H := hP
          have hD : va_D A [(qo, .inl (cL, 1, .inr (.inl ov))), (q0, .inr (1, [.ref qw, .ref qr, .long tb, .int (b2i (true)), .int (b2i (false))])), (qw, .inl (cL, 8192, .inr (.inl w))), (qr, .inr (0, [.ref qc, .ref qn])), (qc, .inl (cI, 8, .inl cf)), (qn, .inl (cL, 8, .inr (.inl nu))), (g0, .inr (2, [.int (0), .ref gm, .long tb, .int (b2i (true)), .int (b2i (false)), .ref gc, .ref gn, .long fr, .long tt])), (gm, .inl (cL, 8192, .inr (.inl w))), (gc, .inl (cI, 8, .inl cf)), (gn, .inl (cL, 8, .inr (.inl nu)))] := hD
          refine lv_goto (tgt := 921) hx hb dL_law_449 (by decide) ?_
          refine W.widen (k := 10 + (j + 1)) (n := 16433 + 6 * (j + 1)) (by omega) (by omega) ?_
          exact kk w tb (true) (false) cf nu (0) fr tt ov _ _ ls (hc) (hn) (hP.sub (ws' := (wLW cL cI q0 qw qr qc qn qo g0 gm gc gn w tb (true) (false) cf nu (0) fr tt ov)) [0, 1, 2, 3, 4, 5, 6, 7, 8, 9] rfl) (hD.sub (ws' := (wLW cL cI q0 qw qr qc qn qo g0 gm gc gn w tb (true) (false) cf nu (0) fr tt ov)) [0, 1, 2, 3, 4, 5, 6, 7, 8, 9] (by decide) rfl) hS (lv_sub hl [0, 1, 2, 3, 4] rfl)
        · exact absurd c_11 c_14
    · refine lv_iconst (v := 1) hx hb dL_law_409 (by decide) ?_
      refine lv_goto (tgt := 414) hx hb dL_law_410 (by decide) ?_
      have hPc := hP.sub (ws' := (wPW cL cI q0 qw qr qc qn w tb su mx cf nu)) [1, 2, 3, 4, 5] rfl
      have hDc := hD.sub (ws' := (wPW cL cI q0 qw qr qc qn w tb su mx cf nu)) [1, 2, 3, 4, 5] (by decide) rfl
      have hFc := va_free (wc := (wPW cL cI q0 qw qr qc qn w tb su mx cf nu)) hD hS hA [1, 2, 3, 4, 5] rfl
      refine va_callv (va_runV (As := [.int 1, .int 1]) (rest := []) ⟨hx, hb, hml, hown, hts⟩ (mtX1_rights l dC dI cL cI q0 qw qr qc qn w tb su mx cf nu H.size true true ) (cwV 2 hts (gTbl (mc1 (List.mem_of_getElem? (i := 66) (by decide +kernel)) (mc1 (List.mem_of_getElem? (i := 67) (by decide +kernel)) (mc1 (List.mem_of_getElem? (i := 68) (by decide +kernel)) (mc1 (List.mem_of_getElem? (i := 15) (by decide +kernel)) mc0)))) (List.mem_of_getElem? (i := 69) (by decide +kernel)) (by decide +kernel)) rfl rfl rfl (by decide +kernel) ⟨Nat.le_of_ble_eq_true rfl, Nat.le_of_ble_eq_true rfl⟩) (mu_pre (ci := 1) (q0 := 0) hK hPc hDc rfl rfl) rfl rfl hl.1 rfl (lv_room (Nat.le_of_ble_eq_true rfl)) dL_law_414 ⟨(show 10 + j + 0 ≤ 1041 by omega), (show 16433 + 6 * j + 0 ≤ 24667 by omega)⟩) hS (fun q _ h => hFc q h) hFc (fun u t H1 locs ht hvm hpo hB hz1 hk1 hS => ?_)
      obtain ⟨hP1, hK1, hD1⟩ := hB
      rw [ht] at hP1
      obtain ⟨hP, hD⟩ := va_join (wr := [(qo, .inl (cL, 1, .inr (.inl ov))), (g0, .inr (2, [.int cd, .ref gm, .long tb, .int (b2i su), .int (b2i mx), .ref gc, .ref gn, .long fr, .long tt])), (gm, .inl (cL, 8192, .inr (.inl w))), (gc, .inl (cI, 8, .inl cf)), (gn, .inl (cL, 8, .inr (.inl nu)))]) (w1 := (wPW cL cI q0 qw qr qc qn w tb (true) (true) cf nu)) hP hD [1, 2, 3, 4, 5] [0, 6, 7, 8, 9] rfl rfl (by decide) (by decide) hk1 hFc hP1 hD1
      generalize H1 = H at hP hS ⊢
      have hP : va_P (dC, dI) vwCl [(qo, .inl (cL, 1, .inr (.inl ov))), (g0, .inr (2, [.int cd, .ref gm, .long tb, .int (b2i su), .int (b2i mx), .ref gc, .ref gn, .long fr, .long tt])), (gm, .inl (cL, 8192, .inr (.inl w))), (gc, .inl (cI, 8, .inl cf)), (gn, .inl (cL, 8, .inr (.inl nu))), (q0, .inr (1, [.ref qw, .ref qr, .long tb, .int (b2i (true)), .int (b2i (true))])), (qw, .inl (cL, 8192, .inr (.inl w))), (qr, .inr (0, [.ref qc, .ref qn])), (qc, .inl (cI, 8, .inl cf)), (qn, .inl (cL, 8, .inr (.inl nu)))] H := hP
      have hD : va_D A [(qo, .inl (cL, 1, .inr (.inl ov))), (g0, .inr (2, [.int cd, .ref gm, .long tb, .int (b2i su), .int (b2i mx), .ref gc, .ref gn, .long fr, .long tt])), (gm, .inl (cL, 8192, .inr (.inl w))), (gc, .inl (cI, 8, .inl cf)), (gn, .inl (cL, 8, .inr (.inl nu))), (q0, .inr (1, [.ref qw, .ref qr, .long tb, .int (b2i (true)), .int (b2i (true))])), (qw, .inl (cL, 8192, .inr (.inl w))), (qr, .inr (0, [.ref qc, .ref qn])), (qc, .inl (cI, 8, .inl cf)), (qn, .inl (cL, 8, .inr (.inl nu)))] := hD
      refine lv_aload_n hx hb dL_law_417 rfl (lv_at hl 2 rfl) ?_
      refine lv_aload_n hx hb dL_law_418 rfl (lv_at hl 0 rfl) ?_
      refine lv_iload hx hb dL_law_419 (lv_at hl 4 rfl) ?_
      refine lv_iconst (v := 1) hx hb dL_law_421 (by decide) ?_
      refine lv_iadd hx hb dL_law_422 ?_
      rw [sc_ix j 1 1 rfl]
      refine va_sld hx hb hX hbl hbA hS (vp_in_nI (show 6 * j + 1 < L by omega) (by omega)) dL_law_423 ?_
      rw [nI_clamp (show 6 * j + 1 < 2 ^ 31 by omega)]
      refine lv_if_eq (tgt := 431) hx hb dL_law_424 (by decide) (fun c_17 => ?_) (fun c_17 => ?_)
      · exact absurd c_17 c_1
      · refine lv_iconst (v := 1) hx hb dL_law_427 (by decide) ?_
        refine lv_goto (tgt := 432) hx hb dL_law_428 (by decide) ?_
        refine lv_aload_n hx hb dL_law_432 rfl (lv_at hl 0 rfl) ?_
        refine lv_iload hx hb dL_law_433 (lv_at hl 4 rfl) ?_
        refine lv_iconst (v := 2) hx hb dL_law_435 (by decide) ?_
        refine lv_iadd hx hb dL_law_436 ?_
        rw [sc_ix j 2 2 rfl]
        refine va_sld hx hb hX hbl hbA hS (vp_in_nI (show 6 * j + 2 < L by omega) (by omega)) dL_law_437 ?_
        rw [nI_clamp (show 6 * j + 2 < 2 ^ 31 by omega)]
        refine lv_if_eq (tgt := 445) hx hb dL_law_438 (by decide) (fun c_18 => ?_) (fun c_18 => ?_)
        · exact absurd c_18 c_11
        · refine lv_iconst (v := 1) hx hb dL_law_441 (by decide) ?_
          refine lv_goto (tgt := 446) hx hb dL_law_442 (by decide) ?_
          have hPc := hP.sub (ws' := (wMD cL cI g0 gm gc gn cd w tb su mx cf nu fr tt)) [1, 2, 3, 4] rfl
          have hDc := hD.sub (ws' := (wMD cL cI g0 gm gc gn cd w tb su mx cf nu fr tt)) [1, 2, 3, 4] (by decide) rfl
          have hFc := va_free (wc := (wMD cL cI g0 gm gc gn cd w tb su mx cf nu fr tt)) hD hS hA [1, 2, 3, 4] rfl
          refine va_callv (va_runV (As := [.int 1, .int 1]) (rest := []) ⟨hx, hb, hml, hown, hts⟩ (mtX2_rights l dC dI cL cI g0 gm gc gn cd w tb su mx cf nu fr tt H.size true true ) (cwV 2 hts (gTbl (mc1 (List.mem_of_getElem? (i := 416) (by decide +kernel)) (mc1 (List.mem_of_getElem? (i := 417) (by decide +kernel)) (mc1 (List.mem_of_getElem? (i := 418) (by decide +kernel)) (mc1 (List.mem_of_getElem? (i := 17) (by decide +kernel)) mc0)))) (List.mem_of_getElem? (i := 419) (by decide +kernel)) (by decide +kernel)) rfl rfl rfl (by decide +kernel) ⟨Nat.le_of_ble_eq_true rfl, Nat.le_of_ble_eq_true rfl⟩) (mu_pre (ci := 2) (q0 := 0) hK hPc hDc rfl rfl) rfl rfl hl.1 rfl (lv_room (Nat.le_of_ble_eq_true rfl)) dL_law_446 ⟨(show 10 + j + 0 ≤ 1041 by omega), (show 16433 + 6 * j + 0 ≤ 24667 by omega)⟩) hS (fun q _ h => hFc q h) hFc (fun u t H1 locs ht hvm hpo hB hz1 hk1 hS => ?_)
          obtain ⟨hP1, hK1, hD1⟩ := hB
          rw [ht] at hP1
          obtain ⟨hP, hD⟩ := va_join (wr := [(qo, .inl (cL, 1, .inr (.inl ov))), (q0, .inr (1, [.ref qw, .ref qr, .long tb, .int (b2i (true)), .int (b2i (true))])), (qw, .inl (cL, 8192, .inr (.inl w))), (qr, .inr (0, [.ref qc, .ref qn])), (qc, .inl (cI, 8, .inl cf)), (qn, .inl (cL, 8, .inr (.inl nu)))]) (w1 := (wMD cL cI g0 gm gc gn (0) w tb (true) (true) cf nu fr tt)) hP hD [1, 2, 3, 4] [0, 5, 6, 7, 8, 9] rfl rfl (by decide) (by decide) hk1 hFc hP1 hD1
          generalize H1 = H at hP hS ⊢
          have hP : va_P (dC, dI) vwCl [(qo, .inl (cL, 1, .inr (.inl ov))), (q0, .inr (1, [.ref qw, .ref qr, .long tb, .int (b2i (true)), .int (b2i (true))])), (qw, .inl (cL, 8192, .inr (.inl w))), (qr, .inr (0, [.ref qc, .ref qn])), (qc, .inl (cI, 8, .inl cf)), (qn, .inl (cL, 8, .inr (.inl nu))), (g0, .inr (2, [.int (0), .ref gm, .long tb, .int (b2i (true)), .int (b2i (true)), .ref gc, .ref gn, .long fr, .long tt])), (gm, .inl (cL, 8192, .inr (.inl w))), (gc, .inl (cI, 8, .inl cf)), (gn, .inl (cL, 8, .inr (.inl nu)))] H := hP
          have hD : va_D A [(qo, .inl (cL, 1, .inr (.inl ov))), (q0, .inr (1, [.ref qw, .ref qr, .long tb, .int (b2i (true)), .int (b2i (true))])), (qw, .inl (cL, 8192, .inr (.inl w))), (qr, .inr (0, [.ref qc, .ref qn])), (qc, .inl (cI, 8, .inl cf)), (qn, .inl (cL, 8, .inr (.inl nu))), (g0, .inr (2, [.int (0), .ref gm, .long tb, .int (b2i (true)), .int (b2i (true)), .ref gc, .ref gn, .long fr, .long tt])), (gm, .inl (cL, 8192, .inr (.inl w))), (gc, .inl (cI, 8, .inl cf)), (gn, .inl (cL, 8, .inr (.inl nu)))] := hD
          refine lv_goto (tgt := 921) hx hb dL_law_449 (by decide) ?_
          refine W.widen (k := 10 + (j + 1)) (n := 16433 + 6 * (j + 1)) (by omega) (by omega) ?_
          exact kk w tb (true) (true) cf nu (0) fr tt ov _ _ ls (hc) (hn) (hP.sub (ws' := (wLW cL cI q0 qw qr qc qn qo g0 gm gc gn w tb (true) (true) cf nu (0) fr tt ov)) [0, 1, 2, 3, 4, 5, 6, 7, 8, 9] rfl) (hD.sub (ws' := (wLW cL cI q0 qw qr qc qn qo g0 gm gc gn w tb (true) (true) cf nu (0) fr tt ov)) [0, 1, 2, 3, 4, 5, 6, 7, 8, 9] (by decide) rfl) hS (lv_sub hl [0, 1, 2, 3, 4] rfl)
set_option maxHeartbeats 800000 in
set_option maxRecDepth 100000 in
theorem law_c5 {p : Program} {l : Launch} {e : Env} {s : State} {m : MethodId} {below : List Frame} {meth : Method} {c : Code} {b L : Nat} {xs : Nat → Int32} {A : Nat → Prop} (hl0 : l.stackTraces = false) (hL : L ≤ 3072) (C0 : lw_At p s m meth c b L xs) (hA : ∀ q, s.heap.size ≤ q → A q) (hA2 : ∀ q, A q → s.heap.size ≤ q) {sa37 : Nat} (hX37 : xR RX1 37 "no word of memory is there" sa37 xE1 A s) {sa47 : Nat} (hX47 : xR RX1 47 "the sort is none of 0, 8, 9" sa47 xE2 A s) {sa29 : Nat} (hX29 : xR RX0 29 "no such region" sa29 xE1 A s) {sa70 : Nat} (hX70 : xR RX1 70 "no such access" sa70 xE2 A s) {sa86 : Nat} (hX86 : xR RX1 86 "no such access, or no physical address" sa86 xE2 A s) (dC : Nat → ClassId) (dI : Nat → Nat → Nat) (cL : ClassId) (cI : ClassId) (q0 : Nat) (qw : Nat) (qr : Nat) (qc : Nat) (qn : Nat) (qo : Nat) (g0 : Nat) (gm : Nat) (gc : Nat) (gn : Nat) (w : Nat → Int64) (tb : Int64) (su : Bool) (mx : Bool) (cf : Nat → Int32) (nu : Nat → Int64) (cd : Int32) (fr : Int64) (tt : Int64) (ov : Nat → Int64) (j : Nat) (hj : 6 * j + 6 ≤ L) (hK : va_K (dC, dI) vwCl [(cL, .long), (cI, .int)] s) (kk : (∀ (w : Nat → Int64) (tb : Int64) (su : Bool) (mx : Bool) (cf : Nat → Int32) (nu : Nat → Int64) (cd : Int32) (fr : Int64) (tt : Int64) (ov : Nat → Int64) (H : Heap) (locs : List Loc) (ls : Array Slot), okC cf → okN nu → va_P (dC, dI) vwCl (wLW cL cI q0 qw qr qc qn qo g0 gm gc gn w tb su mx cf nu cd fr tt ov) H → va_D A (wLW cL cI q0 qw qr qc qn qo g0 gm gc gn w tb su mx cf nu cd fr tt ov) → va_S A s.heap H locs → lv_has ls 8 [(0, .ref b), (1, .ref q0), (2, .ref g0), (3, .ref qo), (4, .int (nI (6 * j)))] → W p l e room_1 s m #[Value.ref b] below meth c H locs (10 + (j + 1)) (16433 + 6 * (j + 1)) (lw_Z below #[Value.ref b] s) (F0 m 921 ls []))) (H : Heap) (locs : List Loc) (ls : Array Slot) (hc : okC cf) (hn : okN nu) (hP : va_P (dC, dI) vwCl (wLW cL cI q0 qw qr qc qn qo g0 gm gc gn w tb su mx cf nu cd fr tt ov) H) (hD : va_D A (wLW cL cI q0 qw qr qc qn qo g0 gm gc gn w tb su mx cf nu cd fr tt ov)) (hS : va_S A s.heap H locs) (hl : lv_has ls 8 [(0, .ref b), (1, .ref q0), (2, .ref g0), (3, .ref qo), (4, .int (nI (6 * j)))]) : W p l e room_1 s m #[Value.ref b] below meth c H locs (10 + j) (16433 + 6 * j) (lw_Z below #[Value.ref b] s) (F0 m 452 ls []) := by
  obtain ⟨hx, hb, hr, hml, hown, hts, hX, hbl, hlocks, hgv⟩ := id C0
  have hbA : ¬ A b := fun h => absurd (hA2 b h) (Nat.not_le.mpr hbl)
  have hP : va_P (dC, dI) vwCl [(qo, .inl (cL, 1, .inr (.inl ov))), (q0, .inr (1, [.ref qw, .ref qr, .long tb, .int (b2i su), .int (b2i mx)])), (qw, .inl (cL, 8192, .inr (.inl w))), (qr, .inr (0, [.ref qc, .ref qn])), (qc, .inl (cI, 8, .inl cf)), (qn, .inl (cL, 8, .inr (.inl nu))), (g0, .inr (2, [.int cd, .ref gm, .long tb, .int (b2i su), .int (b2i mx), .ref gc, .ref gn, .long fr, .long tt])), (gm, .inl (cL, 8192, .inr (.inl w))), (gc, .inl (cI, 8, .inl cf)), (gn, .inl (cL, 8, .inr (.inl nu)))] H := hP
  have hD : va_D A [(qo, .inl (cL, 1, .inr (.inl ov))), (q0, .inr (1, [.ref qw, .ref qr, .long tb, .int (b2i su), .int (b2i mx)])), (qw, .inl (cL, 8192, .inr (.inl w))), (qr, .inr (0, [.ref qc, .ref qn])), (qc, .inl (cI, 8, .inl cf)), (qn, .inl (cL, 8, .inr (.inl nu))), (g0, .inr (2, [.int cd, .ref gm, .long tb, .int (b2i su), .int (b2i mx), .ref gc, .ref gn, .long fr, .long tt])), (gm, .inl (cL, 8192, .inr (.inl w))), (gc, .inl (cI, 8, .inl cf)), (gn, .inl (cL, 8, .inr (.inl nu)))] := hD
  refine lv_aload_n hx hb dL_law_452 rfl (lv_at hl 1 rfl) ?_
  refine vp_callSl (W.runV (As := []) (rest := []) ⟨hx, hb, hml, hown, hts⟩ (mtX1_configs l dC dI cL cI q0 qw qr qc qn w tb su mx cf nu  ) (cwV 0 hts (gTbl (mc1 (List.mem_of_getElem? (i := 70) (by decide +kernel)) (mc1 (List.mem_of_getElem? (i := 71) (by decide +kernel)) (mc1 (List.mem_of_getElem? (i := 72) (by decide +kernel)) (mc1 (List.mem_of_getElem? (i := 15) (by decide +kernel)) mc0)))) (List.mem_of_getElem? (i := 73) (by decide +kernel)) (by decide +kernel)) rfl rfl rfl (by decide +kernel) ⟨Nat.le_of_ble_eq_true rfl, Nat.le_of_ble_eq_true rfl⟩) (rd_pre (ci := 1) (q0 := 0) hK (hP.sub (ws' := (wPW cL cI q0 qw qr qc qn w tb su mx cf nu)) [1, 2, 3, 4, 5] rfl) rfl rfl) rfl rfl hl.1 rfl (lv_room (Nat.le_of_ble_eq_true rfl)) dL_law_453 ⟨(show 10 + j + 0 ≤ 1041 by omega), (show 16433 + 6 * j + 0 ≤ 24667 by omega)⟩) (fun r_1 er_1 => ?_)
  have er_1 : r_1 = (k_packF cf 8) := er_1
  subst er_1
  refine lv_aload_n hx hb dL_law_456 rfl (lv_at hl 2 rfl) ?_
  have hPc := hP.sub (ws' := (wMD cL cI g0 gm gc gn cd w tb su mx cf nu fr tt)) [6, 7, 8, 9] rfl
  have hDc := hD.sub (ws' := (wMD cL cI g0 gm gc gn cd w tb su mx cf nu fr tt)) [6, 7, 8, 9] (by decide) rfl
  have hFc := va_free (wc := (wMD cL cI g0 gm gc gn cd w tb su mx cf nu fr tt)) hD hS hA [6, 7, 8, 9] rfl
  refine va_calll (va_runV (As := []) (rest := [.long (k_packF cf 8)]) ⟨hx, hb, hml, hown, hts⟩ (mtX2_configs l dC dI cL cI g0 gm gc gn cd w tb su mx cf nu fr tt H.size  ) (cwV 0 hts (gTbl (mc1 (List.mem_of_getElem? (i := 420) (by decide +kernel)) (mc1 (List.mem_of_getElem? (i := 421) (by decide +kernel)) (mc1 (List.mem_of_getElem? (i := 422) (by decide +kernel)) (mc1 (List.mem_of_getElem? (i := 17) (by decide +kernel)) mc0)))) (List.mem_of_getElem? (i := 423) (by decide +kernel)) (by decide +kernel)) rfl rfl rfl (by decide +kernel) ⟨Nat.le_of_ble_eq_true rfl, Nat.le_of_ble_eq_true rfl⟩) (mu_pre (ci := 2) (q0 := 0) hK hPc hDc rfl rfl) rfl rfl hl.1 rfl (lv_room (Nat.le_of_ble_eq_true rfl)) dL_law_457 ⟨(show 10 + j + 0 ≤ 1041 by omega), (show 16433 + 6 * j + 0 ≤ 24667 by omega)⟩) hS (fun q _ h => hFc q h) hFc (fun r_2 u t H1 locs ht hvm hpo hB hz1 hk1 hS => ?_)
  obtain ⟨hP1, hK1, hD1⟩ := hB
  rw [ht] at hP1
  obtain ⟨hP, hD⟩ := va_join (wr := [(qo, .inl (cL, 1, .inr (.inl ov))), (q0, .inr (1, [.ref qw, .ref qr, .long tb, .int (b2i su), .int (b2i mx)])), (qw, .inl (cL, 8192, .inr (.inl w))), (qr, .inr (0, [.ref qc, .ref qn])), (qc, .inl (cI, 8, .inl cf)), (qn, .inl (cL, 8, .inr (.inl nu)))]) (w1 := (wMD cL cI g0 gm gc gn (0) w tb su mx cf nu fr tt)) hP hD [6, 7, 8, 9] [0, 1, 2, 3, 4, 5] rfl rfl (by decide) (by decide) hk1 hFc hP1 hD1
  generalize H1 = H at hP hS ⊢
  have hP : va_P (dC, dI) vwCl [(qo, .inl (cL, 1, .inr (.inl ov))), (q0, .inr (1, [.ref qw, .ref qr, .long tb, .int (b2i su), .int (b2i mx)])), (qw, .inl (cL, 8192, .inr (.inl w))), (qr, .inr (0, [.ref qc, .ref qn])), (qc, .inl (cI, 8, .inl cf)), (qn, .inl (cL, 8, .inr (.inl nu))), (g0, .inr (2, [.int (0), .ref gm, .long tb, .int (b2i su), .int (b2i mx), .ref gc, .ref gn, .long fr, .long tt])), (gm, .inl (cL, 8192, .inr (.inl w))), (gc, .inl (cI, 8, .inl cf)), (gn, .inl (cL, 8, .inr (.inl nu)))] H := hP
  have hD : va_D A [(qo, .inl (cL, 1, .inr (.inl ov))), (q0, .inr (1, [.ref qw, .ref qr, .long tb, .int (b2i su), .int (b2i mx)])), (qw, .inl (cL, 8192, .inr (.inl w))), (qr, .inr (0, [.ref qc, .ref qn])), (qc, .inl (cI, 8, .inl cf)), (qn, .inl (cL, 8, .inr (.inl nu))), (g0, .inr (2, [.int (0), .ref gm, .long tb, .int (b2i su), .int (b2i mx), .ref gc, .ref gn, .long fr, .long tt])), (gm, .inl (cL, 8192, .inr (.inl w))), (gc, .inl (cI, 8, .inl cf)), (gn, .inl (cL, 8, .inr (.inl nu)))] := hD
  have er_2 : r_2 = (m_packF cf 8) := hpo
  subst er_2
  refine W.lcmp hx hb dL_law_460 ?_
  refine lv_if_eq (tgt := 921) hx hb dL_law_461 (by decide) (fun c_3 => ?_) (fun c_3 => ?_)
  · rw [lg_cmp_eq] at c_3
    refine W.widen (k := 10 + (j + 1)) (n := 16433 + 6 * (j + 1)) (by omega) (by omega) ?_
    exact kk w tb su mx cf nu (0) fr tt ov _ _ ls (hc) (hn) (hP.sub (ws' := (wLW cL cI q0 qw qr qc qn qo g0 gm gc gn w tb su mx cf nu (0) fr tt ov)) [0, 1, 2, 3, 4, 5, 6, 7, 8, 9] rfl) (hD.sub (ws' := (wLW cL cI q0 qw qr qc qn qo g0 gm gc gn w tb su mx cf nu (0) fr tt ov)) [0, 1, 2, 3, 4, 5, 6, 7, 8, 9] (by decide) rfl) hS (lv_sub hl [0, 1, 2, 3, 4] rfl)
  · rw [lg_cmp_eq] at c_3
    exact absurd (pack_eq hc) c_3
set_option maxHeartbeats 800000 in
set_option maxRecDepth 100000 in
theorem law_c6 {p : Program} {l : Launch} {e : Env} {s : State} {m : MethodId} {below : List Frame} {meth : Method} {c : Code} {b L : Nat} {xs : Nat → Int32} {A : Nat → Prop} (hl0 : l.stackTraces = false) (hL : L ≤ 3072) (C0 : lw_At p s m meth c b L xs) (hA : ∀ q, s.heap.size ≤ q → A q) (hA2 : ∀ q, A q → s.heap.size ≤ q) {sa37 : Nat} (hX37 : xR RX1 37 "no word of memory is there" sa37 xE1 A s) {sa47 : Nat} (hX47 : xR RX1 47 "the sort is none of 0, 8, 9" sa47 xE2 A s) {sa29 : Nat} (hX29 : xR RX0 29 "no such region" sa29 xE1 A s) {sa70 : Nat} (hX70 : xR RX1 70 "no such access" sa70 xE2 A s) {sa86 : Nat} (hX86 : xR RX1 86 "no such access, or no physical address" sa86 xE2 A s) (dC : Nat → ClassId) (dI : Nat → Nat → Nat) (cL : ClassId) (cI : ClassId) (q0 : Nat) (qw : Nat) (qr : Nat) (qc : Nat) (qn : Nat) (qo : Nat) (g0 : Nat) (gm : Nat) (gc : Nat) (gn : Nat) (w : Nat → Int64) (tb : Int64) (su : Bool) (mx : Bool) (cf : Nat → Int32) (nu : Nat → Int64) (cd : Int32) (fr : Int64) (tt : Int64) (ov : Nat → Int64) (j : Nat) (hj : 6 * j + 6 ≤ L) (hK : va_K (dC, dI) vwCl [(cL, .long), (cI, .int)] s) (kk : (∀ (w : Nat → Int64) (tb : Int64) (su : Bool) (mx : Bool) (cf : Nat → Int32) (nu : Nat → Int64) (cd : Int32) (fr : Int64) (tt : Int64) (ov : Nat → Int64) (H : Heap) (locs : List Loc) (ls : Array Slot), okC cf → okN nu → va_P (dC, dI) vwCl (wLW cL cI q0 qw qr qc qn qo g0 gm gc gn w tb su mx cf nu cd fr tt ov) H → va_D A (wLW cL cI q0 qw qr qc qn qo g0 gm gc gn w tb su mx cf nu cd fr tt ov) → va_S A s.heap H locs → lv_has ls 8 [(0, .ref b), (1, .ref q0), (2, .ref g0), (3, .ref qo), (4, .int (nI (6 * j)))] → W p l e room_1 s m #[Value.ref b] below meth c H locs (10 + (j + 1)) (16433 + 6 * (j + 1)) (lw_Z below #[Value.ref b] s) (F0 m 921 ls []))) (H : Heap) (locs : List Loc) (ls : Array Slot) (hc : okC cf) (hn : okN nu) (hP : va_P (dC, dI) vwCl (wLW cL cI q0 qw qr qc qn qo g0 gm gc gn w tb su mx cf nu cd fr tt ov) H) (hD : va_D A (wLW cL cI q0 qw qr qc qn qo g0 gm gc gn w tb su mx cf nu cd fr tt ov)) (hS : va_S A s.heap H locs) (hl : lv_has ls 8 [(0, .ref b), (1, .ref q0), (2, .ref g0), (3, .ref qo), (4, .int (nI (6 * j)))]) : W p l e room_1 s m #[Value.ref b] below meth c H locs (10 + j) (16433 + 6 * j) (lw_Z below #[Value.ref b] s) (F0 m 466 ls []) := by
  obtain ⟨hx, hb, hr, hml, hown, hts, hX, hbl, hlocks, hgv⟩ := id C0
  have hbA : ¬ A b := fun h => absurd (hA2 b h) (Nat.not_le.mpr hbl)
  have hP : va_P (dC, dI) vwCl [(qo, .inl (cL, 1, .inr (.inl ov))), (q0, .inr (1, [.ref qw, .ref qr, .long tb, .int (b2i su), .int (b2i mx)])), (qw, .inl (cL, 8192, .inr (.inl w))), (qr, .inr (0, [.ref qc, .ref qn])), (qc, .inl (cI, 8, .inl cf)), (qn, .inl (cL, 8, .inr (.inl nu))), (g0, .inr (2, [.int cd, .ref gm, .long tb, .int (b2i su), .int (b2i mx), .ref gc, .ref gn, .long fr, .long tt])), (gm, .inl (cL, 8192, .inr (.inl w))), (gc, .inl (cI, 8, .inl cf)), (gn, .inl (cL, 8, .inr (.inl nu)))] H := hP
  have hD : va_D A [(qo, .inl (cL, 1, .inr (.inl ov))), (q0, .inr (1, [.ref qw, .ref qr, .long tb, .int (b2i su), .int (b2i mx)])), (qw, .inl (cL, 8192, .inr (.inl w))), (qr, .inr (0, [.ref qc, .ref qn])), (qc, .inl (cI, 8, .inl cf)), (qn, .inl (cL, 8, .inr (.inl nu))), (g0, .inr (2, [.int cd, .ref gm, .long tb, .int (b2i su), .int (b2i mx), .ref gc, .ref gn, .long fr, .long tt])), (gm, .inl (cL, 8192, .inr (.inl w))), (gc, .inl (cI, 8, .inl cf)), (gn, .inl (cL, 8, .inr (.inl nu)))] := hD
  refine lv_aload_n hx hb dL_law_466 rfl (lv_at hl 1 rfl) ?_
  refine lv_aload_n hx hb dL_law_467 rfl (lv_at hl 0 rfl) ?_
  refine lv_iload hx hb dL_law_468 (lv_at hl 4 rfl) ?_
  refine lv_iconst (v := 1) hx hb dL_law_470 (by decide) ?_
  refine lv_iadd hx hb dL_law_471 ?_
  rw [sc_ix j 1 1 rfl]
  refine va_sld hx hb hX hbl hbA hS (vp_in_nI (show 6 * j + 1 < L by omega) (by omega)) dL_law_472 ?_
  rw [nI_clamp (show 6 * j + 1 < 2 ^ 31 by omega)]
  refine lv_i2l (v := Int32.toInt64 (xs (6 * j + 1))) hx hb dL_law_473 rfl ?_
  refine lv_bipush (v := 32) hx hb dL_law_474 (by decide) ?_
  refine lv_lshl (v := (k_shl (Int32.toInt64 (xs (6 * j + 1))) 32)) hx hb dL_law_476 rfl ?_
  refine lv_aload_n hx hb dL_law_477 rfl (lv_at hl 0 rfl) ?_
  refine lv_iload hx hb dL_law_478 (lv_at hl 4 rfl) ?_
  refine lv_iconst (v := 2) hx hb dL_law_480 (by decide) ?_
  refine lv_iadd hx hb dL_law_481 ?_
  rw [sc_ix j 2 2 rfl]
  refine va_sld hx hb hX hbl hbA hS (vp_in_nI (show 6 * j + 2 < L by omega) (by omega)) dL_law_482 ?_
  rw [nI_clamp (show 6 * j + 2 < 2 ^ 31 by omega)]
  refine lv_i2l (v := Int32.toInt64 (xs (6 * j + 2))) hx hb dL_law_483 rfl ?_
  refine lv_ldc2 (v := 4294967295) hx hb hown (hts (.constantLong RL 45 4294967295) (List.mem_of_getElem? (i := 514) (by decide +kernel))) dL_law_484 ?_
  refine lv_land hx hb dL_law_487 ?_
  refine lv_lor hx hb dL_law_488 ?_
  have hPc := hP.sub (ws' := (wPW cL cI q0 qw qr qc qn w tb su mx cf nu)) [1, 2, 3, 4, 5] rfl
  have hDc := hD.sub (ws' := (wPW cL cI q0 qw qr qc qn w tb su mx cf nu)) [1, 2, 3, 4, 5] (by decide) rfl
  have hFc := va_free (wc := (wPW cL cI q0 qw qr qc qn w tb su mx cf nu)) hD hS hA [1, 2, 3, 4, 5] rfl
  refine va_callv (va_runV (As := [.long (mkL (xs (6 * j + 1)) (xs (6 * j + 2)))]) (rest := []) ⟨hx, hb, hml, hown, hts⟩ (mtX1_setConfigs l dC dI cL cI q0 qw qr qc qn w tb su mx cf nu H.size (mkL (xs (6 * j + 1)) (xs (6 * j + 2))) ) (cwV 1 hts (gTbl (mc1 (List.mem_of_getElem? (i := 78) (by decide +kernel)) (mc1 (List.mem_of_getElem? (i := 79) (by decide +kernel)) (mc1 (List.mem_of_getElem? (i := 80) (by decide +kernel)) (mc1 (List.mem_of_getElem? (i := 15) (by decide +kernel)) mc0)))) (List.mem_of_getElem? (i := 81) (by decide +kernel)) (by decide +kernel)) rfl rfl rfl (by decide +kernel) ⟨Nat.le_of_ble_eq_true rfl, Nat.le_of_ble_eq_true rfl⟩) (mu_pre (ci := 1) (q0 := 0) hK hPc hDc rfl rfl) rfl rfl hl.1 rfl (lv_room (Nat.le_of_ble_eq_true rfl)) dL_law_489 ⟨(show 10 + j + 0 ≤ 1041 by omega), (show 16433 + 6 * j + 0 ≤ 24667 by omega)⟩) hS (fun q _ h => hFc q h) hFc (fun u t H1 locs ht hvm hpo hB hz1 hk1 hS => ?_)
  obtain ⟨hP1, hK1, hD1⟩ := hB
  rw [ht] at hP1
  obtain ⟨hP, hD⟩ := va_join (wr := [(qo, .inl (cL, 1, .inr (.inl ov))), (g0, .inr (2, [.int cd, .ref gm, .long tb, .int (b2i su), .int (b2i mx), .ref gc, .ref gn, .long fr, .long tt])), (gm, .inl (cL, 8192, .inr (.inl w))), (gc, .inl (cI, 8, .inl cf)), (gn, .inl (cL, 8, .inr (.inl nu)))]) (w1 := (wPW cL cI q0 qw qr qc qn w tb su mx (k_takeF cf (mkL (xs (6 * j + 1)) (xs (6 * j + 2))) 8) nu)) hP hD [1, 2, 3, 4, 5] [0, 6, 7, 8, 9] rfl rfl (by decide) (by decide) hk1 hFc hP1 hD1
  generalize H1 = H at hP hS ⊢
  have hP : va_P (dC, dI) vwCl [(qo, .inl (cL, 1, .inr (.inl ov))), (g0, .inr (2, [.int cd, .ref gm, .long tb, .int (b2i su), .int (b2i mx), .ref gc, .ref gn, .long fr, .long tt])), (gm, .inl (cL, 8192, .inr (.inl w))), (gc, .inl (cI, 8, .inl cf)), (gn, .inl (cL, 8, .inr (.inl nu))), (q0, .inr (1, [.ref qw, .ref qr, .long tb, .int (b2i su), .int (b2i mx)])), (qw, .inl (cL, 8192, .inr (.inl w))), (qr, .inr (0, [.ref qc, .ref qn])), (qc, .inl (cI, 8, .inl (k_takeF cf (mkL (xs (6 * j + 1)) (xs (6 * j + 2))) 8))), (qn, .inl (cL, 8, .inr (.inl nu)))] H := hP
  have hD : va_D A [(qo, .inl (cL, 1, .inr (.inl ov))), (g0, .inr (2, [.int cd, .ref gm, .long tb, .int (b2i su), .int (b2i mx), .ref gc, .ref gn, .long fr, .long tt])), (gm, .inl (cL, 8192, .inr (.inl w))), (gc, .inl (cI, 8, .inl cf)), (gn, .inl (cL, 8, .inr (.inl nu))), (q0, .inr (1, [.ref qw, .ref qr, .long tb, .int (b2i su), .int (b2i mx)])), (qw, .inl (cL, 8192, .inr (.inl w))), (qr, .inr (0, [.ref qc, .ref qn])), (qc, .inl (cI, 8, .inl (k_takeF cf (mkL (xs (6 * j + 1)) (xs (6 * j + 2))) 8))), (qn, .inl (cL, 8, .inr (.inl nu)))] := hD
  refine lv_aload_n hx hb dL_law_492 rfl (lv_at hl 2 rfl) ?_
  refine lv_aload_n hx hb dL_law_493 rfl (lv_at hl 0 rfl) ?_
  refine lv_iload hx hb dL_law_494 (lv_at hl 4 rfl) ?_
  refine lv_iconst (v := 1) hx hb dL_law_496 (by decide) ?_
  refine lv_iadd hx hb dL_law_497 ?_
  rw [sc_ix j 1 1 rfl]
  refine va_sld hx hb hX hbl hbA hS (vp_in_nI (show 6 * j + 1 < L by omega) (by omega)) dL_law_498 ?_
  rw [nI_clamp (show 6 * j + 1 < 2 ^ 31 by omega)]
  refine lv_i2l (v := Int32.toInt64 (xs (6 * j + 1))) hx hb dL_law_499 rfl ?_
  refine lv_bipush (v := 32) hx hb dL_law_500 (by decide) ?_
  refine lv_lshl (v := (k_shl (Int32.toInt64 (xs (6 * j + 1))) 32)) hx hb dL_law_502 rfl ?_
  refine lv_aload_n hx hb dL_law_503 rfl (lv_at hl 0 rfl) ?_
  refine lv_iload hx hb dL_law_504 (lv_at hl 4 rfl) ?_
  refine lv_iconst (v := 2) hx hb dL_law_506 (by decide) ?_
  refine lv_iadd hx hb dL_law_507 ?_
  rw [sc_ix j 2 2 rfl]
  refine va_sld hx hb hX hbl hbA hS (vp_in_nI (show 6 * j + 2 < L by omega) (by omega)) dL_law_508 ?_
  rw [nI_clamp (show 6 * j + 2 < 2 ^ 31 by omega)]
  refine lv_i2l (v := Int32.toInt64 (xs (6 * j + 2))) hx hb dL_law_509 rfl ?_
  refine lv_ldc2 (v := 4294967295) hx hb hown (hts (.constantLong RL 45 4294967295) (List.mem_of_getElem? (i := 514) (by decide +kernel))) dL_law_510 ?_
  refine lv_land hx hb dL_law_513 ?_
  refine lv_lor hx hb dL_law_514 ?_
  have hPc := hP.sub (ws' := (wMD cL cI g0 gm gc gn cd w tb su mx cf nu fr tt)) [1, 2, 3, 4] rfl
  have hDc := hD.sub (ws' := (wMD cL cI g0 gm gc gn cd w tb su mx cf nu fr tt)) [1, 2, 3, 4] (by decide) rfl
  have hFc := va_free (wc := (wMD cL cI g0 gm gc gn cd w tb su mx cf nu fr tt)) hD hS hA [1, 2, 3, 4] rfl
  refine va_callv (va_runV (As := [.long (mkL (xs (6 * j + 1)) (xs (6 * j + 2)))]) (rest := []) ⟨hx, hb, hml, hown, hts⟩ (mtX2_setConfigs l dC dI cL cI g0 gm gc gn cd w tb su mx cf nu fr tt H.size (mkL (xs (6 * j + 1)) (xs (6 * j + 2))) (hc)) (cwV 1 hts (gTbl (mc1 (List.mem_of_getElem? (i := 425) (by decide +kernel)) (mc1 (List.mem_of_getElem? (i := 426) (by decide +kernel)) (mc1 (List.mem_of_getElem? (i := 427) (by decide +kernel)) (mc1 (List.mem_of_getElem? (i := 17) (by decide +kernel)) mc0)))) (List.mem_of_getElem? (i := 428) (by decide +kernel)) (by decide +kernel)) rfl rfl rfl (by decide +kernel) ⟨Nat.le_of_ble_eq_true rfl, Nat.le_of_ble_eq_true rfl⟩) (mu_pre (ci := 2) (q0 := 0) hK hPc hDc rfl rfl) rfl rfl hl.1 rfl (lv_room (Nat.le_of_ble_eq_true rfl)) dL_law_515 ⟨(show 10 + j + 0 ≤ 1041 by omega), (show 16433 + 6 * j + 0 ≤ 24667 by omega)⟩) hS (fun q _ h => hFc q h) hFc (fun u t H1 locs ht hvm hpo hB hz1 hk1 hS => ?_)
  obtain ⟨hP1, hK1, hD1⟩ := hB
  rw [ht] at hP1
  obtain ⟨hP, hD⟩ := va_join (wr := [(qo, .inl (cL, 1, .inr (.inl ov))), (q0, .inr (1, [.ref qw, .ref qr, .long tb, .int (b2i su), .int (b2i mx)])), (qw, .inl (cL, 8192, .inr (.inl w))), (qr, .inr (0, [.ref qc, .ref qn])), (qc, .inl (cI, 8, .inl (k_takeF cf (mkL (xs (6 * j + 1)) (xs (6 * j + 2))) 8))), (qn, .inl (cL, 8, .inr (.inl nu)))]) (w1 := (wMD cL cI g0 gm gc gn (0) w tb su mx (k_takeF cf (mkL (xs (6 * j + 1)) (xs (6 * j + 2))) 8) nu fr tt)) hP hD [1, 2, 3, 4] [0, 5, 6, 7, 8, 9] rfl rfl (by decide) (by decide) hk1 hFc hP1 hD1
  generalize H1 = H at hP hS ⊢
  have hP : va_P (dC, dI) vwCl [(qo, .inl (cL, 1, .inr (.inl ov))), (q0, .inr (1, [.ref qw, .ref qr, .long tb, .int (b2i su), .int (b2i mx)])), (qw, .inl (cL, 8192, .inr (.inl w))), (qr, .inr (0, [.ref qc, .ref qn])), (qc, .inl (cI, 8, .inl (k_takeF cf (mkL (xs (6 * j + 1)) (xs (6 * j + 2))) 8))), (qn, .inl (cL, 8, .inr (.inl nu))), (g0, .inr (2, [.int (0), .ref gm, .long tb, .int (b2i su), .int (b2i mx), .ref gc, .ref gn, .long fr, .long tt])), (gm, .inl (cL, 8192, .inr (.inl w))), (gc, .inl (cI, 8, .inl (k_takeF cf (mkL (xs (6 * j + 1)) (xs (6 * j + 2))) 8))), (gn, .inl (cL, 8, .inr (.inl nu)))] H := hP
  have hD : va_D A [(qo, .inl (cL, 1, .inr (.inl ov))), (q0, .inr (1, [.ref qw, .ref qr, .long tb, .int (b2i su), .int (b2i mx)])), (qw, .inl (cL, 8192, .inr (.inl w))), (qr, .inr (0, [.ref qc, .ref qn])), (qc, .inl (cI, 8, .inl (k_takeF cf (mkL (xs (6 * j + 1)) (xs (6 * j + 2))) 8))), (qn, .inl (cL, 8, .inr (.inl nu))), (g0, .inr (2, [.int (0), .ref gm, .long tb, .int (b2i su), .int (b2i mx), .ref gc, .ref gn, .long fr, .long tt])), (gm, .inl (cL, 8192, .inr (.inl w))), (gc, .inl (cI, 8, .inl (k_takeF cf (mkL (xs (6 * j + 1)) (xs (6 * j + 2))) 8))), (gn, .inl (cL, 8, .inr (.inl nu)))] := hD
  refine lv_goto (tgt := 921) hx hb dL_law_518 (by decide) ?_
  refine W.widen (k := 10 + (j + 1)) (n := 16433 + 6 * (j + 1)) (by omega) (by omega) ?_
  exact kk w tb su mx (k_takeF cf (mkL (xs (6 * j + 1)) (xs (6 * j + 2))) 8) nu (0) fr tt ov _ _ ls (okC_take hc _ 8) (hn) (hP.sub (ws' := (wLW cL cI q0 qw qr qc qn qo g0 gm gc gn w tb su mx (k_takeF cf (mkL (xs (6 * j + 1)) (xs (6 * j + 2))) 8) nu (0) fr tt ov)) [0, 1, 2, 3, 4, 5, 6, 7, 8, 9] rfl) (hD.sub (ws' := (wLW cL cI q0 qw qr qc qn qo g0 gm gc gn w tb su mx (k_takeF cf (mkL (xs (6 * j + 1)) (xs (6 * j + 2))) 8) nu (0) fr tt ov)) [0, 1, 2, 3, 4, 5, 6, 7, 8, 9] (by decide) rfl) hS (lv_sub hl [0, 1, 2, 3, 4] rfl)
set_option maxHeartbeats 800000 in
set_option maxRecDepth 100000 in
theorem law_c7 {p : Program} {l : Launch} {e : Env} {s : State} {m : MethodId} {below : List Frame} {meth : Method} {c : Code} {b L : Nat} {xs : Nat → Int32} {A : Nat → Prop} (hl0 : l.stackTraces = false) (hL : L ≤ 3072) (C0 : lw_At p s m meth c b L xs) (hA : ∀ q, s.heap.size ≤ q → A q) (hA2 : ∀ q, A q → s.heap.size ≤ q) {sa37 : Nat} (hX37 : xR RX1 37 "no word of memory is there" sa37 xE1 A s) {sa47 : Nat} (hX47 : xR RX1 47 "the sort is none of 0, 8, 9" sa47 xE2 A s) {sa29 : Nat} (hX29 : xR RX0 29 "no such region" sa29 xE1 A s) {sa70 : Nat} (hX70 : xR RX1 70 "no such access" sa70 xE2 A s) {sa86 : Nat} (hX86 : xR RX1 86 "no such access, or no physical address" sa86 xE2 A s) (dC : Nat → ClassId) (dI : Nat → Nat → Nat) (cL : ClassId) (cI : ClassId) (q0 : Nat) (qw : Nat) (qr : Nat) (qc : Nat) (qn : Nat) (qo : Nat) (g0 : Nat) (gm : Nat) (gc : Nat) (gn : Nat) (w : Nat → Int64) (tb : Int64) (su : Bool) (mx : Bool) (cf : Nat → Int32) (nu : Nat → Int64) (cd : Int32) (fr : Int64) (tt : Int64) (ov : Nat → Int64) (j : Nat) (hj : 6 * j + 6 ≤ L) (hK : va_K (dC, dI) vwCl [(cL, .long), (cI, .int)] s) (kk : (∀ (w : Nat → Int64) (tb : Int64) (su : Bool) (mx : Bool) (cf : Nat → Int32) (nu : Nat → Int64) (cd : Int32) (fr : Int64) (tt : Int64) (ov : Nat → Int64) (H : Heap) (locs : List Loc) (ls : Array Slot), okC cf → okN nu → va_P (dC, dI) vwCl (wLW cL cI q0 qw qr qc qn qo g0 gm gc gn w tb su mx cf nu cd fr tt ov) H → va_D A (wLW cL cI q0 qw qr qc qn qo g0 gm gc gn w tb su mx cf nu cd fr tt ov) → va_S A s.heap H locs → lv_has ls 8 [(0, .ref b), (1, .ref q0), (2, .ref g0), (3, .ref qo), (4, .int (nI (6 * j)))] → W p l e room_1 s m #[Value.ref b] below meth c H locs (10 + (j + 1)) (16433 + 6 * (j + 1)) (lw_Z below #[Value.ref b] s) (F0 m 921 ls []))) (H : Heap) (locs : List Loc) (ls : Array Slot) (hc : okC cf) (hn : okN nu) (hP : va_P (dC, dI) vwCl (wLW cL cI q0 qw qr qc qn qo g0 gm gc gn w tb su mx cf nu cd fr tt ov) H) (hD : va_D A (wLW cL cI q0 qw qr qc qn qo g0 gm gc gn w tb su mx cf nu cd fr tt ov)) (hS : va_S A s.heap H locs) (hl : lv_has ls 8 [(0, .ref b), (1, .ref q0), (2, .ref g0), (3, .ref qo), (4, .int (nI (6 * j)))]) : W p l e room_1 s m #[Value.ref b] below meth c H locs (10 + j) (16433 + 6 * j) (lw_Z below #[Value.ref b] s) (F0 m 521 ls []) := by
  obtain ⟨hx, hb, hr, hml, hown, hts, hX, hbl, hlocks, hgv⟩ := id C0
  have hbA : ¬ A b := fun h => absurd (hA2 b h) (Nat.not_le.mpr hbl)
  have hP : va_P (dC, dI) vwCl [(qo, .inl (cL, 1, .inr (.inl ov))), (q0, .inr (1, [.ref qw, .ref qr, .long tb, .int (b2i su), .int (b2i mx)])), (qw, .inl (cL, 8192, .inr (.inl w))), (qr, .inr (0, [.ref qc, .ref qn])), (qc, .inl (cI, 8, .inl cf)), (qn, .inl (cL, 8, .inr (.inl nu))), (g0, .inr (2, [.int cd, .ref gm, .long tb, .int (b2i su), .int (b2i mx), .ref gc, .ref gn, .long fr, .long tt])), (gm, .inl (cL, 8192, .inr (.inl w))), (gc, .inl (cI, 8, .inl cf)), (gn, .inl (cL, 8, .inr (.inl nu)))] H := hP
  have hD : va_D A [(qo, .inl (cL, 1, .inr (.inl ov))), (q0, .inr (1, [.ref qw, .ref qr, .long tb, .int (b2i su), .int (b2i mx)])), (qw, .inl (cL, 8192, .inr (.inl w))), (qr, .inr (0, [.ref qc, .ref qn])), (qc, .inl (cI, 8, .inl cf)), (qn, .inl (cL, 8, .inr (.inl nu))), (g0, .inr (2, [.int cd, .ref gm, .long tb, .int (b2i su), .int (b2i mx), .ref gc, .ref gn, .long fr, .long tt])), (gm, .inl (cL, 8192, .inr (.inl w))), (gc, .inl (cI, 8, .inl cf)), (gn, .inl (cL, 8, .inr (.inl nu)))] := hD
  by_cases hi : ¬ (xs (6 * j + 1)) < 0 ∧ (xs (6 * j + 1)) < 8
  · obtain ⟨r, hr8, er⟩ := of8 hi.1 hi.2
    have hi0 := hi.1
    have hi8 := hi.2
    rw [er] at hi0 hi8
    refine lv_aload_n hx hb dL_law_521 rfl (lv_at hl 1 rfl) ?_
    refine lv_aload_n hx hb dL_law_522 rfl (lv_at hl 0 rfl) ?_
    refine lv_iload hx hb dL_law_523 (lv_at hl 4 rfl) ?_
    refine lv_iconst (v := 1) hx hb dL_law_525 (by decide) ?_
    refine lv_iadd hx hb dL_law_526 ?_
    rw [sc_ix j 1 1 rfl]
    refine va_sld hx hb hX hbl hbA hS (vp_in_nI (show 6 * j + 1 < L by omega) (by omega)) dL_law_527 ?_
    rw [nI_clamp (show 6 * j + 1 < 2 ^ 31 by omega)]
    rw [er]
    refine lv_aload_n hx hb dL_law_528 rfl (lv_at hl 3 rfl) ?_
    have hPc := hP.sub (ws' := (wHO cL cI q0 qw qr qc qn w tb su mx cf nu qo ov)) [0, 1, 2, 3, 4, 5] rfl
    have hDc := hD.sub (ws' := (wHO cL cI q0 qw qr qc qn w tb su mx cf nu qo ov)) [0, 1, 2, 3, 4, 5] (by decide) rfl
    have hFc := va_free (wc := (wHO cL cI q0 qw qr qc qn w tb su mx cf nu qo ov)) hD hS hA [0, 1, 2, 3, 4, 5] rfl
    refine va_calli (vx_runSW (As := [.ref q0, .int (nI r), .ref qo]) (rest := []) ⟨hx, hb, hml, hown, hts⟩ (mtL_number l dC dI cL cI q0 qw qr qc qn w tb su mx cf nu qo ov H.size (nI r) hi0 hi8) (vx_cwSW 3 hts (gTbl (mc1 (List.mem_of_getElem? (i := 211) (by decide +kernel)) (mc1 (List.mem_of_getElem? (i := 212) (by decide +kernel)) (mc1 (List.mem_of_getElem? (i := 14) (by decide +kernel)) mc0))) (List.mem_of_getElem? (i := 213) (by decide +kernel)) (by decide +kernel)) rfl rfl rfl (by decide +kernel) ⟨Nat.le_of_ble_eq_true rfl, Nat.le_of_ble_eq_true rfl⟩) (hl_pre hK hPc hDc) rfl rfl hl.1 rfl (lv_room (Nat.le_of_ble_eq_true rfl)) dL_law_529 ⟨(show 10 + j + 0 ≤ 1041 by omega), (show 16433 + 6 * j + 0 ≤ 24667 by omega)⟩) hS (fun q _ h => hFc q h) hFc (fun r_1 u t H1 locs ht hvm hpo hB hz1 hk1 hS => ?_)
    obtain ⟨hP1, hK1, hD1⟩ := hB
    rw [ht] at hP1
    obtain ⟨hP, hD⟩ := va_join (wr := [(g0, .inr (2, [.int cd, .ref gm, .long tb, .int (b2i su), .int (b2i mx), .ref gc, .ref gn, .long fr, .long tt])), (gm, .inl (cL, 8192, .inr (.inl w))), (gc, .inl (cI, 8, .inl cf)), (gn, .inl (cL, 8, .inr (.inl nu)))]) (w1 := (wHO cL cI q0 qw qr qc qn w tb su mx cf nu qo (vp_updL ov 0 (nu (Int32.toNatClampNeg (nI r)))))) hP hD [0, 1, 2, 3, 4, 5] [6, 7, 8, 9] rfl rfl (by decide) (by decide) hk1 hFc hP1 hD1
    generalize H1 = H at hP hS ⊢
    rw [nI_clamp (show r < 2 ^ 31 by omega)] at hP hD
    have hP : va_P (dC, dI) vwCl [(g0, .inr (2, [.int cd, .ref gm, .long tb, .int (b2i su), .int (b2i mx), .ref gc, .ref gn, .long fr, .long tt])), (gm, .inl (cL, 8192, .inr (.inl w))), (gc, .inl (cI, 8, .inl cf)), (gn, .inl (cL, 8, .inr (.inl nu))), (qo, .inl (cL, 1, .inr (.inl (vp_updL ov 0 (nu r))))), (q0, .inr (1, [.ref qw, .ref qr, .long tb, .int (b2i su), .int (b2i mx)])), (qw, .inl (cL, 8192, .inr (.inl w))), (qr, .inr (0, [.ref qc, .ref qn])), (qc, .inl (cI, 8, .inl cf)), (qn, .inl (cL, 8, .inr (.inl nu)))] H := hP
    have hD : va_D A [(g0, .inr (2, [.int cd, .ref gm, .long tb, .int (b2i su), .int (b2i mx), .ref gc, .ref gn, .long fr, .long tt])), (gm, .inl (cL, 8192, .inr (.inl w))), (gc, .inl (cI, 8, .inl cf)), (gn, .inl (cL, 8, .inr (.inl nu))), (qo, .inl (cL, 1, .inr (.inl (vp_updL ov 0 (nu r))))), (q0, .inr (1, [.ref qw, .ref qr, .long tb, .int (b2i su), .int (b2i mx)])), (qw, .inl (cL, 8192, .inr (.inl w))), (qr, .inr (0, [.ref qc, .ref qn])), (qc, .inl (cI, 8, .inl cf)), (qn, .inl (cL, 8, .inr (.inl nu)))] := hD
    have er_1 : r_1 = 0 := hpo
    subst er_1
    refine lv_istore (lv' := [(5, .int 0), (0, .ref b), (1, .ref q0), (2, .ref g0), (3, .ref qo), (4, .int (nI (6 * j)))]) hx hb dL_law_532 hl (by decide) rfl (fun ls hl => ?_)
    refine lv_aload_n hx hb dL_law_534 rfl (lv_at hl 3 rfl) ?_
    refine lv_aload_n hx hb dL_law_535 rfl (lv_at hl 1 rfl) ?_
    refine lv_iload hx hb dL_law_536 (lv_at hl 5 rfl) ?_
    refine lv_iconst (v := 1) hx hb dL_law_538 (by decide) ?_
    refine lv_iadd hx hb dL_law_539 ?_
    rw [sc_ix j 1 1 rfl]
    refine va_sld hx hb hX hbl hbA hS (vp_in_nI (show 6 * j + 1 < L by omega) (by omega)) dL_law_540 ?_
    rw [nI_clamp (show 6 * j + 1 < 2 ^ 31 by omega)]
    rw [er]
    have hPc := hP.sub (ws' := (wMD cL cI g0 gm gc gn cd w tb su mx cf nu fr tt)) [0, 1, 2, 3] rfl
    have hDc := hD.sub (ws' := (wMD cL cI g0 gm gc gn cd w tb su mx cf nu fr tt)) [0, 1, 2, 3] (by decide) rfl
    have hFc := va_free (wc := (wMD cL cI g0 gm gc gn cd w tb su mx cf nu fr tt)) hD hS hA [0, 1, 2, 3] rfl
    refine va_calll (va_runV (As := [.int (nI r)]) (rest := []) ⟨hx, hb, hml, hown, hts⟩ (mtX2_number l dC dI cL cI g0 gm gc gn cd w tb su mx cf nu fr tt H.size r (hr8)) (cwV 1 hts (gTbl (mc1 (List.mem_of_getElem? (i := 433) (by decide +kernel)) (mc1 (List.mem_of_getElem? (i := 434) (by decide +kernel)) (mc1 (List.mem_of_getElem? (i := 435) (by decide +kernel)) (mc1 (List.mem_of_getElem? (i := 17) (by decide +kernel)) mc0)))) (List.mem_of_getElem? (i := 436) (by decide +kernel)) (by decide +kernel)) rfl rfl rfl (by decide +kernel) ⟨Nat.le_of_ble_eq_true rfl, Nat.le_of_ble_eq_true rfl⟩) (mu_pre (ci := 2) (q0 := 0) hK hPc hDc rfl rfl) rfl rfl hl.1 rfl (lv_room (Nat.le_of_ble_eq_true rfl)) dL_law_541 ⟨(show 10 + j + 0 + 0 ≤ 1041 by omega), (show 16433 + 6 * j + 0 + 0 ≤ 24667 by omega)⟩) hS (fun q _ h => hFc q h) hFc (fun r_2 u t H1 locs ht hvm hpo hB hz1 hk1 hS => ?_)
    obtain ⟨hP1, hK1, hD1⟩ := hB
    rw [ht] at hP1
    obtain ⟨hP, hD⟩ := va_join (wr := [(qo, .inl (cL, 1, .inr (.inl (vp_updL ov 0 (nu r))))), (q0, .inr (1, [.ref qw, .ref qr, .long tb, .int (b2i su), .int (b2i mx)])), (qw, .inl (cL, 8192, .inr (.inl w))), (qr, .inr (0, [.ref qc, .ref qn])), (qc, .inl (cI, 8, .inl cf)), (qn, .inl (cL, 8, .inr (.inl nu)))]) (w1 := (wMD cL cI g0 gm gc gn (0) w tb su mx cf nu fr tt)) hP hD [0, 1, 2, 3] [4, 5, 6, 7, 8, 9] rfl rfl (by decide) (by decide) hk1 hFc hP1 hD1
    generalize H1 = H at hP hS ⊢
    have hP : va_P (dC, dI) vwCl [(qo, .inl (cL, 1, .inr (.inl (vp_updL ov 0 (nu r))))), (q0, .inr (1, [.ref qw, .ref qr, .long tb, .int (b2i su), .int (b2i mx)])), (qw, .inl (cL, 8192, .inr (.inl w))), (qr, .inr (0, [.ref qc, .ref qn])), (qc, .inl (cI, 8, .inl cf)), (qn, .inl (cL, 8, .inr (.inl nu))), (g0, .inr (2, [.int (0), .ref gm, .long tb, .int (b2i su), .int (b2i mx), .ref gc, .ref gn, .long fr, .long tt])), (gm, .inl (cL, 8192, .inr (.inl w))), (gc, .inl (cI, 8, .inl cf)), (gn, .inl (cL, 8, .inr (.inl nu)))] H := hP
    have hD : va_D A [(qo, .inl (cL, 1, .inr (.inl (vp_updL ov 0 (nu r))))), (q0, .inr (1, [.ref qw, .ref qr, .long tb, .int (b2i su), .int (b2i mx)])), (qw, .inl (cL, 8192, .inr (.inl w))), (qr, .inr (0, [.ref qc, .ref qn])), (qc, .inl (cI, 8, .inl cf)), (qn, .inl (cL, 8, .inr (.inl nu))), (g0, .inr (2, [.int (0), .ref gm, .long tb, .int (b2i su), .int (b2i mx), .ref gc, .ref gn, .long fr, .long tt])), (gm, .inl (cL, 8192, .inr (.inl w))), (gc, .inl (cI, 8, .inl cf)), (gn, .inl (cL, 8, .inr (.inl nu)))] := hD
    have er_2 : r_2 = (nu r) := hpo
    subst er_2
    refine lv_lstore (lv' := [(6, .long (nu r)), (5, .int 0), (0, .ref b), (1, .ref q0), (2, .ref g0), (3, .ref qo), (4, .int (nI (6 * j)))]) hx hb dL_law_544 hl (by decide) rfl (fun ls hl => ?_)
    refine lv_aload_n hx hb dL_law_546 rfl (lv_at hl 4 rfl) ?_
    refine vp_callSi (W.runV (As := []) (rest := []) ⟨hx, hb, hml, hown, hts⟩ (mtX2_thrown l dC dI cL cI g0 gm gc gn (0) w tb su mx cf nu fr tt  ) (cwV 0 hts (gTbl (mc1 (List.mem_of_getElem? (i := 383) (by decide +kernel)) (mc1 (List.mem_of_getElem? (i := 384) (by decide +kernel)) (mc1 (List.mem_of_getElem? (i := 385) (by decide +kernel)) (mc1 (List.mem_of_getElem? (i := 17) (by decide +kernel)) mc0)))) (List.mem_of_getElem? (i := 386) (by decide +kernel)) (by decide +kernel)) rfl rfl rfl (by decide +kernel) ⟨Nat.le_of_ble_eq_true rfl, Nat.le_of_ble_eq_true rfl⟩) (rd_pre (ci := 2) (q0 := 0) hK (hP.sub (ws' := (wMD cL cI g0 gm gc gn (0) w tb su mx cf nu fr tt)) [6, 7, 8, 9] rfl) rfl rfl) rfl rfl hl.1 rfl (lv_room (Nat.le_of_ble_eq_true rfl)) dL_law_547 ⟨(show 10 + j + 0 + 0 ≤ 1041 by omega), (show 16433 + 6 * j + 0 + 0 ≤ 24667 by omega)⟩) (fun r_3 er_3 => ?_)
    have er_3 : r_3 = (0) := er_3
    subst er_3
    refine lv_iload hx hb dL_law_550 (lv_at hl 1 rfl) ?_
    refine lv_icmp_eq (tgt := 557) hx hb dL_law_552 (by decide) (fun c_4 => ?_) (fun c_4 => ?_)
    · refine lv_iload hx hb dL_law_557 (lv_at hl 1 rfl) ?_
      refine lv_if_ne (tgt := 573) hx hb dL_law_559 (by decide) (fun c_5 => ?_) (fun c_5 => ?_)
      · first | exact absurd c_5 (by decide) | exact absurd (by decide) c_5
      · refine lv_aload_n hx hb dL_law_562 rfl (lv_at hl 5 rfl) ?_
        refine lv_iconst (v := 0) hx hb dL_law_563 (by decide) ?_
        refine va_lald hx hb hK hP 0 0 rfl rfl (pk_in 0 1 (by decide)) dL_law_564 ?_
        rw [sb_cl0]
        refine lv_lload hx hb dL_law_565 (lv_at hl 0 rfl) ?_
        refine W.lcmp hx hb dL_law_567 ?_
        refine lv_if_eq (tgt := 573) hx hb dL_law_568 (by decide) (fun c_6 => ?_) (fun c_6 => ?_)
        · rw [lg_cmp_eq] at c_6
          refine lv_goto (tgt := 921) hx hb dL_law_573 (by decide) ?_
          refine W.widen (k := 10 + (j + 1)) (n := 16433 + 6 * (j + 1)) (by omega) (by omega) ?_
          exact kk w tb su mx cf nu (0) fr tt (vp_updL ov 0 (nu r)) _ _ ls (hc) (hn) (hP.sub (ws' := (wLW cL cI q0 qw qr qc qn qo g0 gm gc gn w tb su mx cf nu (0) fr tt (vp_updL ov 0 (nu r)))) [0, 1, 2, 3, 4, 5, 6, 7, 8, 9] rfl) (hD.sub (ws' := (wLW cL cI q0 qw qr qc qn qo g0 gm gc gn w tb su mx cf nu (0) fr tt (vp_updL ov 0 (nu r)))) [0, 1, 2, 3, 4, 5, 6, 7, 8, 9] (by decide) rfl) hS (lv_sub hl [2, 3, 4, 5, 6] rfl)
        · rw [lg_cmp_eq] at c_6
          exact absurd pk_uLs c_6
    · first | exact absurd c_4 (by decide) | exact absurd (by decide) c_4
  · refine lv_aload_n hx hb dL_law_521 rfl (lv_at hl 1 rfl) ?_
    refine lv_aload_n hx hb dL_law_522 rfl (lv_at hl 0 rfl) ?_
    refine lv_iload hx hb dL_law_523 (lv_at hl 4 rfl) ?_
    refine lv_iconst (v := 1) hx hb dL_law_525 (by decide) ?_
    refine lv_iadd hx hb dL_law_526 ?_
    rw [sc_ix j 1 1 rfl]
    refine va_sld hx hb hX hbl hbA hS (vp_in_nI (show 6 * j + 1 < L by omega) (by omega)) dL_law_527 ?_
    rw [nI_clamp (show 6 * j + 1 < 2 ^ 31 by omega)]
    refine lv_aload_n hx hb dL_law_528 rfl (lv_at hl 3 rfl) ?_
    have hPc := hP.sub (ws' := (wHO cL cI q0 qw qr qc qn w tb su mx cf nu qo ov)) [0, 1, 2, 3, 4, 5] rfl
    have hDc := hD.sub (ws' := (wHO cL cI q0 qw qr qc qn w tb su mx cf nu qo ov)) [0, 1, 2, 3, 4, 5] (by decide) rfl
    have hFc := va_free (wc := (wHO cL cI q0 qw qr qc qn w tb su mx cf nu qo ov)) hD hS hA [0, 1, 2, 3, 4, 5] rfl
    refine va_calli (vx_runSW (As := [.ref q0, .int (xs (6 * j + 1)), .ref qo]) (rest := []) ⟨hx, hb, hml, hown, hts⟩ (mtL_number_no l hl0 dC dI cL cI q0 qw qr qc qn w tb su mx cf nu qo ov H.size sa29 (xs (6 * j + 1)) hi) (vx_cwSW 3 hts (gTbl (mc1 (List.mem_of_getElem? (i := 211) (by decide +kernel)) (mc1 (List.mem_of_getElem? (i := 212) (by decide +kernel)) (mc1 (List.mem_of_getElem? (i := 14) (by decide +kernel)) mc0))) (List.mem_of_getElem? (i := 213) (by decide +kernel)) (by decide +kernel)) rfl rfl rfl (by decide +kernel) ⟨Nat.le_of_ble_eq_true rfl, Nat.le_of_ble_eq_true rfl⟩) (hl_preX hK hPc hDc hX29 hS (fun q h => hFc q h)) rfl rfl hl.1 rfl (lv_room (Nat.le_of_ble_eq_true rfl)) dL_law_529 ⟨(show 10 + j + 1 ≤ 1041 by omega), (show 16433 + 6 * j + 6 ≤ 24667 by omega)⟩) hS (fun q _ h => hFc q h) hFc (fun r_7 u t H1 locs ht hvm hpo hB hz1 hk1 hS => ?_)
    obtain ⟨hP1, hK1, hD1⟩ := hB
    rw [ht] at hP1
    obtain ⟨hP, hD⟩ := va_join (wr := [(g0, .inr (2, [.int cd, .ref gm, .long tb, .int (b2i su), .int (b2i mx), .ref gc, .ref gn, .long fr, .long tt])), (gm, .inl (cL, 8192, .inr (.inl w))), (gc, .inl (cI, 8, .inl cf)), (gn, .inl (cL, 8, .inr (.inl nu)))]) (w1 := (wHO cL cI q0 qw qr qc qn w tb su mx cf nu qo ov)) hP hD [0, 1, 2, 3, 4, 5] [6, 7, 8, 9] rfl rfl (by decide) (by decide) hk1 hFc hP1 hD1
    generalize H1 = H at hP hS ⊢
    have hP : va_P (dC, dI) vwCl [(g0, .inr (2, [.int cd, .ref gm, .long tb, .int (b2i su), .int (b2i mx), .ref gc, .ref gn, .long fr, .long tt])), (gm, .inl (cL, 8192, .inr (.inl w))), (gc, .inl (cI, 8, .inl cf)), (gn, .inl (cL, 8, .inr (.inl nu))), (qo, .inl (cL, 1, .inr (.inl ov))), (q0, .inr (1, [.ref qw, .ref qr, .long tb, .int (b2i su), .int (b2i mx)])), (qw, .inl (cL, 8192, .inr (.inl w))), (qr, .inr (0, [.ref qc, .ref qn])), (qc, .inl (cI, 8, .inl cf)), (qn, .inl (cL, 8, .inr (.inl nu)))] H := hP
    have hD : va_D A [(g0, .inr (2, [.int cd, .ref gm, .long tb, .int (b2i su), .int (b2i mx), .ref gc, .ref gn, .long fr, .long tt])), (gm, .inl (cL, 8192, .inr (.inl w))), (gc, .inl (cI, 8, .inl cf)), (gn, .inl (cL, 8, .inr (.inl nu))), (qo, .inl (cL, 1, .inr (.inl ov))), (q0, .inr (1, [.ref qw, .ref qr, .long tb, .int (b2i su), .int (b2i mx)])), (qw, .inl (cL, 8192, .inr (.inl w))), (qr, .inr (0, [.ref qc, .ref qn])), (qc, .inl (cI, 8, .inl cf)), (qn, .inl (cL, 8, .inr (.inl nu)))] := hD
    have er_7 : r_7 = 1 := hpo
    subst er_7
    refine lv_istore (lv' := [(5, .int 1), (0, .ref b), (1, .ref q0), (2, .ref g0), (3, .ref qo), (4, .int (nI (6 * j)))]) hx hb dL_law_532 hl (by decide) rfl (fun ls hl => ?_)
    refine lv_aload_n hx hb dL_law_534 rfl (lv_at hl 3 rfl) ?_
    refine lv_aload_n hx hb dL_law_535 rfl (lv_at hl 1 rfl) ?_
    refine lv_iload hx hb dL_law_536 (lv_at hl 5 rfl) ?_
    refine lv_iconst (v := 1) hx hb dL_law_538 (by decide) ?_
    refine lv_iadd hx hb dL_law_539 ?_
    rw [sc_ix j 1 1 rfl]
    refine va_sld hx hb hX hbl hbA hS (vp_in_nI (show 6 * j + 1 < L by omega) (by omega)) dL_law_540 ?_
    rw [nI_clamp (show 6 * j + 1 < 2 ^ 31 by omega)]
    have hPc := hP.sub (ws' := (wMD cL cI g0 gm gc gn cd w tb su mx cf nu fr tt)) [0, 1, 2, 3] rfl
    have hDc := hD.sub (ws' := (wMD cL cI g0 gm gc gn cd w tb su mx cf nu fr tt)) [0, 1, 2, 3] (by decide) rfl
    have hFc := va_free (wc := (wMD cL cI g0 gm gc gn cd w tb su mx cf nu fr tt)) hD hS hA [0, 1, 2, 3] rfl
    refine va_calll (va_runV (As := [.int (xs (6 * j + 1))]) (rest := []) ⟨hx, hb, hml, hown, hts⟩ (mtX2_number_no l dC dI cL cI g0 gm gc gn cd w tb su mx cf nu fr tt H.size (xs (6 * j + 1)) (fun h => hi ⟨h.1, le7 h.2⟩)) (cwV 1 hts (gTbl (mc1 (List.mem_of_getElem? (i := 433) (by decide +kernel)) (mc1 (List.mem_of_getElem? (i := 434) (by decide +kernel)) (mc1 (List.mem_of_getElem? (i := 435) (by decide +kernel)) (mc1 (List.mem_of_getElem? (i := 17) (by decide +kernel)) mc0)))) (List.mem_of_getElem? (i := 436) (by decide +kernel)) (by decide +kernel)) rfl rfl rfl (by decide +kernel) ⟨Nat.le_of_ble_eq_true rfl, Nat.le_of_ble_eq_true rfl⟩) (mu_pre (ci := 2) (q0 := 0) hK hPc hDc rfl rfl) rfl rfl hl.1 rfl (lv_room (Nat.le_of_ble_eq_true rfl)) dL_law_541 ⟨(show 10 + j + 1 + 0 ≤ 1041 by omega), (show 16433 + 6 * j + 6 + 0 ≤ 24667 by omega)⟩) hS (fun q _ h => hFc q h) hFc (fun r_8 u t H1 locs ht hvm hpo hB hz1 hk1 hS => ?_)
    obtain ⟨hP1, hK1, hD1⟩ := hB
    rw [ht] at hP1
    obtain ⟨hP, hD⟩ := va_join (wr := [(qo, .inl (cL, 1, .inr (.inl ov))), (q0, .inr (1, [.ref qw, .ref qr, .long tb, .int (b2i su), .int (b2i mx)])), (qw, .inl (cL, 8192, .inr (.inl w))), (qr, .inr (0, [.ref qc, .ref qn])), (qc, .inl (cI, 8, .inl cf)), (qn, .inl (cL, 8, .inr (.inl nu)))]) (w1 := (wMD cL cI g0 gm gc gn (1) w tb su mx cf nu fr tt)) hP hD [0, 1, 2, 3] [4, 5, 6, 7, 8, 9] rfl rfl (by decide) (by decide) hk1 hFc hP1 hD1
    generalize H1 = H at hP hS ⊢
    have hP : va_P (dC, dI) vwCl [(qo, .inl (cL, 1, .inr (.inl ov))), (q0, .inr (1, [.ref qw, .ref qr, .long tb, .int (b2i su), .int (b2i mx)])), (qw, .inl (cL, 8192, .inr (.inl w))), (qr, .inr (0, [.ref qc, .ref qn])), (qc, .inl (cI, 8, .inl cf)), (qn, .inl (cL, 8, .inr (.inl nu))), (g0, .inr (2, [.int (1), .ref gm, .long tb, .int (b2i su), .int (b2i mx), .ref gc, .ref gn, .long fr, .long tt])), (gm, .inl (cL, 8192, .inr (.inl w))), (gc, .inl (cI, 8, .inl cf)), (gn, .inl (cL, 8, .inr (.inl nu)))] H := hP
    have hD : va_D A [(qo, .inl (cL, 1, .inr (.inl ov))), (q0, .inr (1, [.ref qw, .ref qr, .long tb, .int (b2i su), .int (b2i mx)])), (qw, .inl (cL, 8192, .inr (.inl w))), (qr, .inr (0, [.ref qc, .ref qn])), (qc, .inl (cI, 8, .inl cf)), (qn, .inl (cL, 8, .inr (.inl nu))), (g0, .inr (2, [.int (1), .ref gm, .long tb, .int (b2i su), .int (b2i mx), .ref gc, .ref gn, .long fr, .long tt])), (gm, .inl (cL, 8192, .inr (.inl w))), (gc, .inl (cI, 8, .inl cf)), (gn, .inl (cL, 8, .inr (.inl nu)))] := hD
    have er_8 : r_8 = (0) := hpo
    subst er_8
    refine lv_lstore (lv' := [(6, .long (0)), (5, .int 1), (0, .ref b), (1, .ref q0), (2, .ref g0), (3, .ref qo), (4, .int (nI (6 * j)))]) hx hb dL_law_544 hl (by decide) rfl (fun ls hl => ?_)
    refine lv_aload_n hx hb dL_law_546 rfl (lv_at hl 4 rfl) ?_
    refine vp_callSi (W.runV (As := []) (rest := []) ⟨hx, hb, hml, hown, hts⟩ (mtX2_thrown l dC dI cL cI g0 gm gc gn (1) w tb su mx cf nu fr tt  ) (cwV 0 hts (gTbl (mc1 (List.mem_of_getElem? (i := 383) (by decide +kernel)) (mc1 (List.mem_of_getElem? (i := 384) (by decide +kernel)) (mc1 (List.mem_of_getElem? (i := 385) (by decide +kernel)) (mc1 (List.mem_of_getElem? (i := 17) (by decide +kernel)) mc0)))) (List.mem_of_getElem? (i := 386) (by decide +kernel)) (by decide +kernel)) rfl rfl rfl (by decide +kernel) ⟨Nat.le_of_ble_eq_true rfl, Nat.le_of_ble_eq_true rfl⟩) (rd_pre (ci := 2) (q0 := 0) hK (hP.sub (ws' := (wMD cL cI g0 gm gc gn (1) w tb su mx cf nu fr tt)) [6, 7, 8, 9] rfl) rfl rfl) rfl rfl hl.1 rfl (lv_room (Nat.le_of_ble_eq_true rfl)) dL_law_547 ⟨(show 10 + j + 1 + 0 ≤ 1041 by omega), (show 16433 + 6 * j + 6 + 0 ≤ 24667 by omega)⟩) (fun r_9 er_9 => ?_)
    have er_9 : r_9 = (1) := er_9
    subst er_9
    refine lv_iload hx hb dL_law_550 (lv_at hl 1 rfl) ?_
    refine lv_icmp_eq (tgt := 557) hx hb dL_law_552 (by decide) (fun c_10 => ?_) (fun c_10 => ?_)
    · refine lv_iload hx hb dL_law_557 (lv_at hl 1 rfl) ?_
      refine lv_if_ne (tgt := 573) hx hb dL_law_559 (by decide) (fun c_11 => ?_) (fun c_11 => ?_)
      · refine lv_goto (tgt := 921) hx hb dL_law_573 (by decide) ?_
        refine W.widen (k := 10 + (j + 1)) (n := 16433 + 6 * (j + 1)) (by omega) (by omega) ?_
        exact kk w tb su mx cf nu (1) fr tt ov _ _ ls (hc) (hn) (hP.sub (ws' := (wLW cL cI q0 qw qr qc qn qo g0 gm gc gn w tb su mx cf nu (1) fr tt ov)) [0, 1, 2, 3, 4, 5, 6, 7, 8, 9] rfl) (hD.sub (ws' := (wLW cL cI q0 qw qr qc qn qo g0 gm gc gn w tb su mx cf nu (1) fr tt ov)) [0, 1, 2, 3, 4, 5, 6, 7, 8, 9] (by decide) rfl) hS (lv_sub hl [2, 3, 4, 5, 6] rfl)
      · first | exact absurd c_11 (by decide) | exact absurd (by decide) c_11
    · first | exact absurd c_10 (by decide) | exact absurd (by decide) c_10
set_option maxHeartbeats 800000 in
set_option maxRecDepth 100000 in
theorem law_c8 {p : Program} {l : Launch} {e : Env} {s : State} {m : MethodId} {below : List Frame} {meth : Method} {c : Code} {b L : Nat} {xs : Nat → Int32} {A : Nat → Prop} (hl0 : l.stackTraces = false) (hL : L ≤ 3072) (C0 : lw_At p s m meth c b L xs) (hA : ∀ q, s.heap.size ≤ q → A q) (hA2 : ∀ q, A q → s.heap.size ≤ q) {sa37 : Nat} (hX37 : xR RX1 37 "no word of memory is there" sa37 xE1 A s) {sa47 : Nat} (hX47 : xR RX1 47 "the sort is none of 0, 8, 9" sa47 xE2 A s) {sa29 : Nat} (hX29 : xR RX0 29 "no such region" sa29 xE1 A s) {sa70 : Nat} (hX70 : xR RX1 70 "no such access" sa70 xE2 A s) {sa86 : Nat} (hX86 : xR RX1 86 "no such access, or no physical address" sa86 xE2 A s) (dC : Nat → ClassId) (dI : Nat → Nat → Nat) (cL : ClassId) (cI : ClassId) (q0 : Nat) (qw : Nat) (qr : Nat) (qc : Nat) (qn : Nat) (qo : Nat) (g0 : Nat) (gm : Nat) (gc : Nat) (gn : Nat) (w : Nat → Int64) (tb : Int64) (su : Bool) (mx : Bool) (cf : Nat → Int32) (nu : Nat → Int64) (cd : Int32) (fr : Int64) (tt : Int64) (ov : Nat → Int64) (j : Nat) (hj : 6 * j + 6 ≤ L) (hK : va_K (dC, dI) vwCl [(cL, .long), (cI, .int)] s) (kk : (∀ (w : Nat → Int64) (tb : Int64) (su : Bool) (mx : Bool) (cf : Nat → Int32) (nu : Nat → Int64) (cd : Int32) (fr : Int64) (tt : Int64) (ov : Nat → Int64) (H : Heap) (locs : List Loc) (ls : Array Slot), okC cf → okN nu → va_P (dC, dI) vwCl (wLW cL cI q0 qw qr qc qn qo g0 gm gc gn w tb su mx cf nu cd fr tt ov) H → va_D A (wLW cL cI q0 qw qr qc qn qo g0 gm gc gn w tb su mx cf nu cd fr tt ov) → va_S A s.heap H locs → lv_has ls 8 [(0, .ref b), (1, .ref q0), (2, .ref g0), (3, .ref qo), (4, .int (nI (6 * j)))] → W p l e room_1 s m #[Value.ref b] below meth c H locs (10 + (j + 1)) (16433 + 6 * (j + 1)) (lw_Z below #[Value.ref b] s) (F0 m 921 ls []))) (H : Heap) (locs : List Loc) (ls : Array Slot) (hc : okC cf) (hn : okN nu) (hP : va_P (dC, dI) vwCl (wLW cL cI q0 qw qr qc qn qo g0 gm gc gn w tb su mx cf nu cd fr tt ov) H) (hD : va_D A (wLW cL cI q0 qw qr qc qn qo g0 gm gc gn w tb su mx cf nu cd fr tt ov)) (hS : va_S A s.heap H locs) (hl : lv_has ls 8 [(0, .ref b), (1, .ref q0), (2, .ref g0), (3, .ref qo), (4, .int (nI (6 * j)))]) : W p l e room_1 s m #[Value.ref b] below meth c H locs (10 + j) (16433 + 6 * j) (lw_Z below #[Value.ref b] s) (F0 m 576 ls []) := by
  obtain ⟨hx, hb, hr, hml, hown, hts, hX, hbl, hlocks, hgv⟩ := id C0
  have hbA : ¬ A b := fun h => absurd (hA2 b h) (Nat.not_le.mpr hbl)
  have hP : va_P (dC, dI) vwCl [(qo, .inl (cL, 1, .inr (.inl ov))), (q0, .inr (1, [.ref qw, .ref qr, .long tb, .int (b2i su), .int (b2i mx)])), (qw, .inl (cL, 8192, .inr (.inl w))), (qr, .inr (0, [.ref qc, .ref qn])), (qc, .inl (cI, 8, .inl cf)), (qn, .inl (cL, 8, .inr (.inl nu))), (g0, .inr (2, [.int cd, .ref gm, .long tb, .int (b2i su), .int (b2i mx), .ref gc, .ref gn, .long fr, .long tt])), (gm, .inl (cL, 8192, .inr (.inl w))), (gc, .inl (cI, 8, .inl cf)), (gn, .inl (cL, 8, .inr (.inl nu)))] H := hP
  have hD : va_D A [(qo, .inl (cL, 1, .inr (.inl ov))), (q0, .inr (1, [.ref qw, .ref qr, .long tb, .int (b2i su), .int (b2i mx)])), (qw, .inl (cL, 8192, .inr (.inl w))), (qr, .inr (0, [.ref qc, .ref qn])), (qc, .inl (cI, 8, .inl cf)), (qn, .inl (cL, 8, .inr (.inl nu))), (g0, .inr (2, [.int cd, .ref gm, .long tb, .int (b2i su), .int (b2i mx), .ref gc, .ref gn, .long fr, .long tt])), (gm, .inl (cL, 8192, .inr (.inl w))), (gc, .inl (cI, 8, .inl cf)), (gn, .inl (cL, 8, .inr (.inl nu)))] := hD
  by_cases hi : ¬ (xs (6 * j + 1)) < 0 ∧ (xs (6 * j + 1)) < 8
  · obtain ⟨r, hr8, er⟩ := of8 hi.1 hi.2
    have hi0 := hi.1
    have hi8 := hi.2
    rw [er] at hi0 hi8
    refine lv_aload_n hx hb dL_law_576 rfl (lv_at hl 1 rfl) ?_
    refine lv_aload_n hx hb dL_law_577 rfl (lv_at hl 0 rfl) ?_
    refine lv_iload hx hb dL_law_578 (lv_at hl 4 rfl) ?_
    refine lv_iconst (v := 1) hx hb dL_law_580 (by decide) ?_
    refine lv_iadd hx hb dL_law_581 ?_
    rw [sc_ix j 1 1 rfl]
    refine va_sld hx hb hX hbl hbA hS (vp_in_nI (show 6 * j + 1 < L by omega) (by omega)) dL_law_582 ?_
    rw [nI_clamp (show 6 * j + 1 < 2 ^ 31 by omega)]
    rw [er]
    refine lv_aload_n hx hb dL_law_583 rfl (lv_at hl 0 rfl) ?_
    refine lv_iload hx hb dL_law_584 (lv_at hl 4 rfl) ?_
    refine lv_iconst (v := 2) hx hb dL_law_586 (by decide) ?_
    refine lv_iadd hx hb dL_law_587 ?_
    rw [sc_ix j 2 2 rfl]
    refine va_sld hx hb hX hbl hbA hS (vp_in_nI (show 6 * j + 2 < L by omega) (by omega)) dL_law_588 ?_
    rw [nI_clamp (show 6 * j + 2 < 2 ^ 31 by omega)]
    refine lv_i2l (v := Int32.toInt64 (xs (6 * j + 2))) hx hb dL_law_589 rfl ?_
    refine lv_bipush (v := 32) hx hb dL_law_590 (by decide) ?_
    refine lv_lshl (v := (k_shl (Int32.toInt64 (xs (6 * j + 2))) 32)) hx hb dL_law_592 rfl ?_
    refine lv_aload_n hx hb dL_law_593 rfl (lv_at hl 0 rfl) ?_
    refine lv_iload hx hb dL_law_594 (lv_at hl 4 rfl) ?_
    refine lv_iconst (v := 3) hx hb dL_law_596 (by decide) ?_
    refine lv_iadd hx hb dL_law_597 ?_
    rw [sc_ix j 3 3 rfl]
    refine va_sld hx hb hX hbl hbA hS (vp_in_nI (show 6 * j + 3 < L by omega) (by omega)) dL_law_598 ?_
    rw [nI_clamp (show 6 * j + 3 < 2 ^ 31 by omega)]
    refine lv_i2l (v := Int32.toInt64 (xs (6 * j + 3))) hx hb dL_law_599 rfl ?_
    refine lv_ldc2 (v := 4294967295) hx hb hown (hts (.constantLong RL 45 4294967295) (List.mem_of_getElem? (i := 514) (by decide +kernel))) dL_law_600 ?_
    refine lv_land hx hb dL_law_603 ?_
    refine lv_lor hx hb dL_law_604 ?_
    have hPc := hP.sub (ws' := (wPW cL cI q0 qw qr qc qn w tb su mx cf nu)) [1, 2, 3, 4, 5] rfl
    have hDc := hD.sub (ws' := (wPW cL cI q0 qw qr qc qn w tb su mx cf nu)) [1, 2, 3, 4, 5] (by decide) rfl
    have hFc := va_free (wc := (wPW cL cI q0 qw qr qc qn w tb su mx cf nu)) hD hS hA [1, 2, 3, 4, 5] rfl
    refine va_calli (vx_runSW (As := [.ref q0, .int (nI r), .long (mkL (xs (6 * j + 2)) (xs (6 * j + 3)))]) (rest := []) ⟨hx, hb, hml, hown, hts⟩ (mtL_setNumber l dC dI cL cI q0 qw qr qc qn w tb su mx cf nu H.size (nI r) (mkL (xs (6 * j + 2)) (xs (6 * j + 3))) hi0 hi8) (vx_cwSW 3 hts (gTbl (mc1 (List.mem_of_getElem? (i := 225) (by decide +kernel)) (mc1 (List.mem_of_getElem? (i := 226) (by decide +kernel)) (mc1 (List.mem_of_getElem? (i := 14) (by decide +kernel)) mc0))) (List.mem_of_getElem? (i := 227) (by decide +kernel)) (by decide +kernel)) rfl rfl rfl (by decide +kernel) ⟨Nat.le_of_ble_eq_true rfl, Nat.le_of_ble_eq_true rfl⟩) (hl_pre hK hPc hDc) rfl rfl hl.1 rfl (lv_room (Nat.le_of_ble_eq_true rfl)) dL_law_605 ⟨(show 10 + j + 0 ≤ 1041 by omega), (show 16433 + 6 * j + 0 ≤ 24667 by omega)⟩) hS (fun q _ h => hFc q h) hFc (fun r_1 u t H1 locs ht hvm hpo hB hz1 hk1 hS => ?_)
    obtain ⟨hP1, hK1, hD1⟩ := hB
    rw [ht] at hP1
    obtain ⟨hP, hD⟩ := va_join (wr := [(qo, .inl (cL, 1, .inr (.inl ov))), (g0, .inr (2, [.int cd, .ref gm, .long tb, .int (b2i su), .int (b2i mx), .ref gc, .ref gn, .long fr, .long tt])), (gm, .inl (cL, 8192, .inr (.inl w))), (gc, .inl (cI, 8, .inl cf)), (gn, .inl (cL, 8, .inr (.inl nu)))]) (w1 := (wPW cL cI q0 qw qr qc qn w tb su mx cf (k_takeNumber cf nu (Int32.toNatClampNeg (nI r)) (mkL (xs (6 * j + 2)) (xs (6 * j + 3)))))) hP hD [1, 2, 3, 4, 5] [0, 6, 7, 8, 9] rfl rfl (by decide) (by decide) hk1 hFc hP1 hD1
    generalize H1 = H at hP hS ⊢
    rw [nI_clamp (show r < 2 ^ 31 by omega)] at hP hD
    have hP : va_P (dC, dI) vwCl [(qo, .inl (cL, 1, .inr (.inl ov))), (g0, .inr (2, [.int cd, .ref gm, .long tb, .int (b2i su), .int (b2i mx), .ref gc, .ref gn, .long fr, .long tt])), (gm, .inl (cL, 8192, .inr (.inl w))), (gc, .inl (cI, 8, .inl cf)), (gn, .inl (cL, 8, .inr (.inl nu))), (q0, .inr (1, [.ref qw, .ref qr, .long tb, .int (b2i su), .int (b2i mx)])), (qw, .inl (cL, 8192, .inr (.inl w))), (qr, .inr (0, [.ref qc, .ref qn])), (qc, .inl (cI, 8, .inl cf)), (qn, .inl (cL, 8, .inr (.inl (k_takeNumber cf nu r (mkL (xs (6 * j + 2)) (xs (6 * j + 3)))))))] H := hP
    have hD : va_D A [(qo, .inl (cL, 1, .inr (.inl ov))), (g0, .inr (2, [.int cd, .ref gm, .long tb, .int (b2i su), .int (b2i mx), .ref gc, .ref gn, .long fr, .long tt])), (gm, .inl (cL, 8192, .inr (.inl w))), (gc, .inl (cI, 8, .inl cf)), (gn, .inl (cL, 8, .inr (.inl nu))), (q0, .inr (1, [.ref qw, .ref qr, .long tb, .int (b2i su), .int (b2i mx)])), (qw, .inl (cL, 8192, .inr (.inl w))), (qr, .inr (0, [.ref qc, .ref qn])), (qc, .inl (cI, 8, .inl cf)), (qn, .inl (cL, 8, .inr (.inl (k_takeNumber cf nu r (mkL (xs (6 * j + 2)) (xs (6 * j + 3)))))))] := hD
    have er_1 : r_1 = 0 := hpo
    subst er_1
    refine lv_istore (lv' := [(5, .int 0), (0, .ref b), (1, .ref q0), (2, .ref g0), (3, .ref qo), (4, .int (nI (6 * j)))]) hx hb dL_law_608 hl (by decide) rfl (fun ls hl => ?_)
    refine lv_aload_n hx hb dL_law_610 rfl (lv_at hl 3 rfl) ?_
    refine lv_aload_n hx hb dL_law_611 rfl (lv_at hl 1 rfl) ?_
    refine lv_iload hx hb dL_law_612 (lv_at hl 5 rfl) ?_
    refine lv_iconst (v := 1) hx hb dL_law_614 (by decide) ?_
    refine lv_iadd hx hb dL_law_615 ?_
    rw [sc_ix j 1 1 rfl]
    refine va_sld hx hb hX hbl hbA hS (vp_in_nI (show 6 * j + 1 < L by omega) (by omega)) dL_law_616 ?_
    rw [nI_clamp (show 6 * j + 1 < 2 ^ 31 by omega)]
    rw [er]
    refine lv_aload_n hx hb dL_law_617 rfl (lv_at hl 1 rfl) ?_
    refine lv_iload hx hb dL_law_618 (lv_at hl 5 rfl) ?_
    refine lv_iconst (v := 2) hx hb dL_law_620 (by decide) ?_
    refine lv_iadd hx hb dL_law_621 ?_
    rw [sc_ix j 2 2 rfl]
    refine va_sld hx hb hX hbl hbA hS (vp_in_nI (show 6 * j + 2 < L by omega) (by omega)) dL_law_622 ?_
    rw [nI_clamp (show 6 * j + 2 < 2 ^ 31 by omega)]
    refine lv_i2l (v := Int32.toInt64 (xs (6 * j + 2))) hx hb dL_law_623 rfl ?_
    refine lv_bipush (v := 32) hx hb dL_law_624 (by decide) ?_
    refine lv_lshl (v := (k_shl (Int32.toInt64 (xs (6 * j + 2))) 32)) hx hb dL_law_626 rfl ?_
    refine lv_aload_n hx hb dL_law_627 rfl (lv_at hl 1 rfl) ?_
    refine lv_iload hx hb dL_law_628 (lv_at hl 5 rfl) ?_
    refine lv_iconst (v := 3) hx hb dL_law_630 (by decide) ?_
    refine lv_iadd hx hb dL_law_631 ?_
    rw [sc_ix j 3 3 rfl]
    refine va_sld hx hb hX hbl hbA hS (vp_in_nI (show 6 * j + 3 < L by omega) (by omega)) dL_law_632 ?_
    rw [nI_clamp (show 6 * j + 3 < 2 ^ 31 by omega)]
    refine lv_i2l (v := Int32.toInt64 (xs (6 * j + 3))) hx hb dL_law_633 rfl ?_
    refine lv_ldc2 (v := 4294967295) hx hb hown (hts (.constantLong RL 45 4294967295) (List.mem_of_getElem? (i := 514) (by decide +kernel))) dL_law_634 ?_
    refine lv_land hx hb dL_law_637 ?_
    refine lv_lor hx hb dL_law_638 ?_
    have hPc := hP.sub (ws' := (wMD cL cI g0 gm gc gn cd w tb su mx cf nu fr tt)) [1, 2, 3, 4] rfl
    have hDc := hD.sub (ws' := (wMD cL cI g0 gm gc gn cd w tb su mx cf nu fr tt)) [1, 2, 3, 4] (by decide) rfl
    have hFc := va_free (wc := (wMD cL cI g0 gm gc gn cd w tb su mx cf nu fr tt)) hD hS hA [1, 2, 3, 4] rfl
    refine va_callv (va_runV (As := [.int (nI r), .long (mkL (xs (6 * j + 2)) (xs (6 * j + 3)))]) (rest := []) ⟨hx, hb, hml, hown, hts⟩ (mtX2_setNumber l dC dI cL cI g0 gm gc gn cd w tb su mx cf nu fr tt H.size r (mkL (xs (6 * j + 2)) (xs (6 * j + 3))) (hr8) (hc)) (cwV 2 hts (gTbl (mc1 (List.mem_of_getElem? (i := 437) (by decide +kernel)) (mc1 (List.mem_of_getElem? (i := 438) (by decide +kernel)) (mc1 (List.mem_of_getElem? (i := 439) (by decide +kernel)) (mc1 (List.mem_of_getElem? (i := 17) (by decide +kernel)) mc0)))) (List.mem_of_getElem? (i := 440) (by decide +kernel)) (by decide +kernel)) rfl rfl rfl (by decide +kernel) ⟨Nat.le_of_ble_eq_true rfl, Nat.le_of_ble_eq_true rfl⟩) (mu_pre (ci := 2) (q0 := 0) hK hPc hDc rfl rfl) rfl rfl hl.1 rfl (lv_room (Nat.le_of_ble_eq_true rfl)) dL_law_639 ⟨(show 10 + j + 0 + 0 ≤ 1041 by omega), (show 16433 + 6 * j + 0 + 0 ≤ 24667 by omega)⟩) hS (fun q _ h => hFc q h) hFc (fun u t H1 locs ht hvm hpo hB hz1 hk1 hS => ?_)
    obtain ⟨hP1, hK1, hD1⟩ := hB
    rw [ht] at hP1
    obtain ⟨hP, hD⟩ := va_join (wr := [(qo, .inl (cL, 1, .inr (.inl ov))), (q0, .inr (1, [.ref qw, .ref qr, .long tb, .int (b2i su), .int (b2i mx)])), (qw, .inl (cL, 8192, .inr (.inl w))), (qr, .inr (0, [.ref qc, .ref qn])), (qc, .inl (cI, 8, .inl cf)), (qn, .inl (cL, 8, .inr (.inl (k_takeNumber cf nu r (mkL (xs (6 * j + 2)) (xs (6 * j + 3)))))))]) (w1 := (wMD cL cI g0 gm gc gn (0) w tb su mx cf (k_takeNumber cf nu r (mkL (xs (6 * j + 2)) (xs (6 * j + 3)))) fr tt)) hP hD [1, 2, 3, 4] [0, 5, 6, 7, 8, 9] rfl rfl (by decide) (by decide) hk1 hFc hP1 hD1
    generalize H1 = H at hP hS ⊢
    have hP : va_P (dC, dI) vwCl [(qo, .inl (cL, 1, .inr (.inl ov))), (q0, .inr (1, [.ref qw, .ref qr, .long tb, .int (b2i su), .int (b2i mx)])), (qw, .inl (cL, 8192, .inr (.inl w))), (qr, .inr (0, [.ref qc, .ref qn])), (qc, .inl (cI, 8, .inl cf)), (qn, .inl (cL, 8, .inr (.inl (k_takeNumber cf nu r (mkL (xs (6 * j + 2)) (xs (6 * j + 3))))))), (g0, .inr (2, [.int (0), .ref gm, .long tb, .int (b2i su), .int (b2i mx), .ref gc, .ref gn, .long fr, .long tt])), (gm, .inl (cL, 8192, .inr (.inl w))), (gc, .inl (cI, 8, .inl cf)), (gn, .inl (cL, 8, .inr (.inl (k_takeNumber cf nu r (mkL (xs (6 * j + 2)) (xs (6 * j + 3)))))))] H := hP
    have hD : va_D A [(qo, .inl (cL, 1, .inr (.inl ov))), (q0, .inr (1, [.ref qw, .ref qr, .long tb, .int (b2i su), .int (b2i mx)])), (qw, .inl (cL, 8192, .inr (.inl w))), (qr, .inr (0, [.ref qc, .ref qn])), (qc, .inl (cI, 8, .inl cf)), (qn, .inl (cL, 8, .inr (.inl (k_takeNumber cf nu r (mkL (xs (6 * j + 2)) (xs (6 * j + 3))))))), (g0, .inr (2, [.int (0), .ref gm, .long tb, .int (b2i su), .int (b2i mx), .ref gc, .ref gn, .long fr, .long tt])), (gm, .inl (cL, 8192, .inr (.inl w))), (gc, .inl (cI, 8, .inl cf)), (gn, .inl (cL, 8, .inr (.inl (k_takeNumber cf nu r (mkL (xs (6 * j + 2)) (xs (6 * j + 3)))))))] := hD
    refine lv_aload_n hx hb dL_law_642 rfl (lv_at hl 3 rfl) ?_
    refine vp_callSi (W.runV (As := []) (rest := []) ⟨hx, hb, hml, hown, hts⟩ (mtX2_thrown l dC dI cL cI g0 gm gc gn (0) w tb su mx cf (k_takeNumber cf nu r (mkL (xs (6 * j + 2)) (xs (6 * j + 3)))) fr tt  ) (cwV 0 hts (gTbl (mc1 (List.mem_of_getElem? (i := 383) (by decide +kernel)) (mc1 (List.mem_of_getElem? (i := 384) (by decide +kernel)) (mc1 (List.mem_of_getElem? (i := 385) (by decide +kernel)) (mc1 (List.mem_of_getElem? (i := 17) (by decide +kernel)) mc0)))) (List.mem_of_getElem? (i := 386) (by decide +kernel)) (by decide +kernel)) rfl rfl rfl (by decide +kernel) ⟨Nat.le_of_ble_eq_true rfl, Nat.le_of_ble_eq_true rfl⟩) (rd_pre (ci := 2) (q0 := 0) hK (hP.sub (ws' := (wMD cL cI g0 gm gc gn (0) w tb su mx cf (k_takeNumber cf nu r (mkL (xs (6 * j + 2)) (xs (6 * j + 3)))) fr tt)) [6, 7, 8, 9] rfl) rfl rfl) rfl rfl hl.1 rfl (lv_room (Nat.le_of_ble_eq_true rfl)) dL_law_643 ⟨(show 10 + j + 0 + 0 ≤ 1041 by omega), (show 16433 + 6 * j + 0 + 0 ≤ 24667 by omega)⟩) (fun r_3 er_3 => ?_)
    have er_3 : r_3 = (0) := er_3
    subst er_3
    refine lv_iload hx hb dL_law_646 (lv_at hl 0 rfl) ?_
    refine lv_icmp_eq (tgt := 653) hx hb dL_law_648 (by decide) (fun c_4 => ?_) (fun c_4 => ?_)
    · refine lv_goto (tgt := 921) hx hb dL_law_653 (by decide) ?_
      refine W.widen (k := 10 + (j + 1)) (n := 16433 + 6 * (j + 1)) (by omega) (by omega) ?_
      exact kk w tb su mx cf (k_takeNumber cf nu r (mkL (xs (6 * j + 2)) (xs (6 * j + 3)))) (0) fr tt ov _ _ ls (hc) (okN_take hn) (hP.sub (ws' := (wLW cL cI q0 qw qr qc qn qo g0 gm gc gn w tb su mx cf (k_takeNumber cf nu r (mkL (xs (6 * j + 2)) (xs (6 * j + 3)))) (0) fr tt ov)) [0, 1, 2, 3, 4, 5, 6, 7, 8, 9] rfl) (hD.sub (ws' := (wLW cL cI q0 qw qr qc qn qo g0 gm gc gn w tb su mx cf (k_takeNumber cf nu r (mkL (xs (6 * j + 2)) (xs (6 * j + 3)))) (0) fr tt ov)) [0, 1, 2, 3, 4, 5, 6, 7, 8, 9] (by decide) rfl) hS (lv_sub hl [1, 2, 3, 4, 5] rfl)
    · first | exact absurd c_4 (by decide) | exact absurd (by decide) c_4
  · refine lv_aload_n hx hb dL_law_576 rfl (lv_at hl 1 rfl) ?_
    refine lv_aload_n hx hb dL_law_577 rfl (lv_at hl 0 rfl) ?_
    refine lv_iload hx hb dL_law_578 (lv_at hl 4 rfl) ?_
    refine lv_iconst (v := 1) hx hb dL_law_580 (by decide) ?_
    refine lv_iadd hx hb dL_law_581 ?_
    rw [sc_ix j 1 1 rfl]
    refine va_sld hx hb hX hbl hbA hS (vp_in_nI (show 6 * j + 1 < L by omega) (by omega)) dL_law_582 ?_
    rw [nI_clamp (show 6 * j + 1 < 2 ^ 31 by omega)]
    refine lv_aload_n hx hb dL_law_583 rfl (lv_at hl 0 rfl) ?_
    refine lv_iload hx hb dL_law_584 (lv_at hl 4 rfl) ?_
    refine lv_iconst (v := 2) hx hb dL_law_586 (by decide) ?_
    refine lv_iadd hx hb dL_law_587 ?_
    rw [sc_ix j 2 2 rfl]
    refine va_sld hx hb hX hbl hbA hS (vp_in_nI (show 6 * j + 2 < L by omega) (by omega)) dL_law_588 ?_
    rw [nI_clamp (show 6 * j + 2 < 2 ^ 31 by omega)]
    refine lv_i2l (v := Int32.toInt64 (xs (6 * j + 2))) hx hb dL_law_589 rfl ?_
    refine lv_bipush (v := 32) hx hb dL_law_590 (by decide) ?_
    refine lv_lshl (v := (k_shl (Int32.toInt64 (xs (6 * j + 2))) 32)) hx hb dL_law_592 rfl ?_
    refine lv_aload_n hx hb dL_law_593 rfl (lv_at hl 0 rfl) ?_
    refine lv_iload hx hb dL_law_594 (lv_at hl 4 rfl) ?_
    refine lv_iconst (v := 3) hx hb dL_law_596 (by decide) ?_
    refine lv_iadd hx hb dL_law_597 ?_
    rw [sc_ix j 3 3 rfl]
    refine va_sld hx hb hX hbl hbA hS (vp_in_nI (show 6 * j + 3 < L by omega) (by omega)) dL_law_598 ?_
    rw [nI_clamp (show 6 * j + 3 < 2 ^ 31 by omega)]
    refine lv_i2l (v := Int32.toInt64 (xs (6 * j + 3))) hx hb dL_law_599 rfl ?_
    refine lv_ldc2 (v := 4294967295) hx hb hown (hts (.constantLong RL 45 4294967295) (List.mem_of_getElem? (i := 514) (by decide +kernel))) dL_law_600 ?_
    refine lv_land hx hb dL_law_603 ?_
    refine lv_lor hx hb dL_law_604 ?_
    have hPc := hP.sub (ws' := (wPW cL cI q0 qw qr qc qn w tb su mx cf nu)) [1, 2, 3, 4, 5] rfl
    have hDc := hD.sub (ws' := (wPW cL cI q0 qw qr qc qn w tb su mx cf nu)) [1, 2, 3, 4, 5] (by decide) rfl
    have hFc := va_free (wc := (wPW cL cI q0 qw qr qc qn w tb su mx cf nu)) hD hS hA [1, 2, 3, 4, 5] rfl
    refine va_calli (vx_runSW (As := [.ref q0, .int (xs (6 * j + 1)), .long (mkL (xs (6 * j + 2)) (xs (6 * j + 3)))]) (rest := []) ⟨hx, hb, hml, hown, hts⟩ (mtL_setNumber_no l hl0 dC dI cL cI q0 qw qr qc qn w tb su mx cf nu H.size sa29 (xs (6 * j + 1)) (mkL (xs (6 * j + 2)) (xs (6 * j + 3))) hi) (vx_cwSW 3 hts (gTbl (mc1 (List.mem_of_getElem? (i := 225) (by decide +kernel)) (mc1 (List.mem_of_getElem? (i := 226) (by decide +kernel)) (mc1 (List.mem_of_getElem? (i := 14) (by decide +kernel)) mc0))) (List.mem_of_getElem? (i := 227) (by decide +kernel)) (by decide +kernel)) rfl rfl rfl (by decide +kernel) ⟨Nat.le_of_ble_eq_true rfl, Nat.le_of_ble_eq_true rfl⟩) (hl_preX hK hPc hDc hX29 hS (fun q h => hFc q h)) rfl rfl hl.1 rfl (lv_room (Nat.le_of_ble_eq_true rfl)) dL_law_605 ⟨(show 10 + j + 1 ≤ 1041 by omega), (show 16433 + 6 * j + 6 ≤ 24667 by omega)⟩) hS (fun q _ h => hFc q h) hFc (fun r_5 u t H1 locs ht hvm hpo hB hz1 hk1 hS => ?_)
    obtain ⟨hP1, hK1, hD1⟩ := hB
    rw [ht] at hP1
    obtain ⟨hP, hD⟩ := va_join (wr := [(qo, .inl (cL, 1, .inr (.inl ov))), (g0, .inr (2, [.int cd, .ref gm, .long tb, .int (b2i su), .int (b2i mx), .ref gc, .ref gn, .long fr, .long tt])), (gm, .inl (cL, 8192, .inr (.inl w))), (gc, .inl (cI, 8, .inl cf)), (gn, .inl (cL, 8, .inr (.inl nu)))]) (w1 := (wPW cL cI q0 qw qr qc qn w tb su mx cf nu)) hP hD [1, 2, 3, 4, 5] [0, 6, 7, 8, 9] rfl rfl (by decide) (by decide) hk1 hFc hP1 hD1
    generalize H1 = H at hP hS ⊢
    have hP : va_P (dC, dI) vwCl [(qo, .inl (cL, 1, .inr (.inl ov))), (g0, .inr (2, [.int cd, .ref gm, .long tb, .int (b2i su), .int (b2i mx), .ref gc, .ref gn, .long fr, .long tt])), (gm, .inl (cL, 8192, .inr (.inl w))), (gc, .inl (cI, 8, .inl cf)), (gn, .inl (cL, 8, .inr (.inl nu))), (q0, .inr (1, [.ref qw, .ref qr, .long tb, .int (b2i su), .int (b2i mx)])), (qw, .inl (cL, 8192, .inr (.inl w))), (qr, .inr (0, [.ref qc, .ref qn])), (qc, .inl (cI, 8, .inl cf)), (qn, .inl (cL, 8, .inr (.inl nu)))] H := hP
    have hD : va_D A [(qo, .inl (cL, 1, .inr (.inl ov))), (g0, .inr (2, [.int cd, .ref gm, .long tb, .int (b2i su), .int (b2i mx), .ref gc, .ref gn, .long fr, .long tt])), (gm, .inl (cL, 8192, .inr (.inl w))), (gc, .inl (cI, 8, .inl cf)), (gn, .inl (cL, 8, .inr (.inl nu))), (q0, .inr (1, [.ref qw, .ref qr, .long tb, .int (b2i su), .int (b2i mx)])), (qw, .inl (cL, 8192, .inr (.inl w))), (qr, .inr (0, [.ref qc, .ref qn])), (qc, .inl (cI, 8, .inl cf)), (qn, .inl (cL, 8, .inr (.inl nu)))] := hD
    have er_5 : r_5 = 1 := hpo
    subst er_5
    refine lv_istore (lv' := [(5, .int 1), (0, .ref b), (1, .ref q0), (2, .ref g0), (3, .ref qo), (4, .int (nI (6 * j)))]) hx hb dL_law_608 hl (by decide) rfl (fun ls hl => ?_)
    refine lv_aload_n hx hb dL_law_610 rfl (lv_at hl 3 rfl) ?_
    refine lv_aload_n hx hb dL_law_611 rfl (lv_at hl 1 rfl) ?_
    refine lv_iload hx hb dL_law_612 (lv_at hl 5 rfl) ?_
    refine lv_iconst (v := 1) hx hb dL_law_614 (by decide) ?_
    refine lv_iadd hx hb dL_law_615 ?_
    rw [sc_ix j 1 1 rfl]
    refine va_sld hx hb hX hbl hbA hS (vp_in_nI (show 6 * j + 1 < L by omega) (by omega)) dL_law_616 ?_
    rw [nI_clamp (show 6 * j + 1 < 2 ^ 31 by omega)]
    refine lv_aload_n hx hb dL_law_617 rfl (lv_at hl 1 rfl) ?_
    refine lv_iload hx hb dL_law_618 (lv_at hl 5 rfl) ?_
    refine lv_iconst (v := 2) hx hb dL_law_620 (by decide) ?_
    refine lv_iadd hx hb dL_law_621 ?_
    rw [sc_ix j 2 2 rfl]
    refine va_sld hx hb hX hbl hbA hS (vp_in_nI (show 6 * j + 2 < L by omega) (by omega)) dL_law_622 ?_
    rw [nI_clamp (show 6 * j + 2 < 2 ^ 31 by omega)]
    refine lv_i2l (v := Int32.toInt64 (xs (6 * j + 2))) hx hb dL_law_623 rfl ?_
    refine lv_bipush (v := 32) hx hb dL_law_624 (by decide) ?_
    refine lv_lshl (v := (k_shl (Int32.toInt64 (xs (6 * j + 2))) 32)) hx hb dL_law_626 rfl ?_
    refine lv_aload_n hx hb dL_law_627 rfl (lv_at hl 1 rfl) ?_
    refine lv_iload hx hb dL_law_628 (lv_at hl 5 rfl) ?_
    refine lv_iconst (v := 3) hx hb dL_law_630 (by decide) ?_
    refine lv_iadd hx hb dL_law_631 ?_
    rw [sc_ix j 3 3 rfl]
    refine va_sld hx hb hX hbl hbA hS (vp_in_nI (show 6 * j + 3 < L by omega) (by omega)) dL_law_632 ?_
    rw [nI_clamp (show 6 * j + 3 < 2 ^ 31 by omega)]
    refine lv_i2l (v := Int32.toInt64 (xs (6 * j + 3))) hx hb dL_law_633 rfl ?_
    refine lv_ldc2 (v := 4294967295) hx hb hown (hts (.constantLong RL 45 4294967295) (List.mem_of_getElem? (i := 514) (by decide +kernel))) dL_law_634 ?_
    refine lv_land hx hb dL_law_637 ?_
    refine lv_lor hx hb dL_law_638 ?_
    have hPc := hP.sub (ws' := (wMD cL cI g0 gm gc gn cd w tb su mx cf nu fr tt)) [1, 2, 3, 4] rfl
    have hDc := hD.sub (ws' := (wMD cL cI g0 gm gc gn cd w tb su mx cf nu fr tt)) [1, 2, 3, 4] (by decide) rfl
    have hFc := va_free (wc := (wMD cL cI g0 gm gc gn cd w tb su mx cf nu fr tt)) hD hS hA [1, 2, 3, 4] rfl
    refine va_callv (va_runV (As := [.int (xs (6 * j + 1)), .long (mkL (xs (6 * j + 2)) (xs (6 * j + 3)))]) (rest := []) ⟨hx, hb, hml, hown, hts⟩ (mtX2_setNumber_no l dC dI cL cI g0 gm gc gn cd w tb su mx cf nu fr tt H.size (xs (6 * j + 1)) (mkL (xs (6 * j + 2)) (xs (6 * j + 3))) (fun h => hi ⟨h.1, le7 h.2⟩)) (cwV 2 hts (gTbl (mc1 (List.mem_of_getElem? (i := 437) (by decide +kernel)) (mc1 (List.mem_of_getElem? (i := 438) (by decide +kernel)) (mc1 (List.mem_of_getElem? (i := 439) (by decide +kernel)) (mc1 (List.mem_of_getElem? (i := 17) (by decide +kernel)) mc0)))) (List.mem_of_getElem? (i := 440) (by decide +kernel)) (by decide +kernel)) rfl rfl rfl (by decide +kernel) ⟨Nat.le_of_ble_eq_true rfl, Nat.le_of_ble_eq_true rfl⟩) (mu_pre (ci := 2) (q0 := 0) hK hPc hDc rfl rfl) rfl rfl hl.1 rfl (lv_room (Nat.le_of_ble_eq_true rfl)) dL_law_639 ⟨(show 10 + j + 1 + 0 ≤ 1041 by omega), (show 16433 + 6 * j + 6 + 0 ≤ 24667 by omega)⟩) hS (fun q _ h => hFc q h) hFc (fun u t H1 locs ht hvm hpo hB hz1 hk1 hS => ?_)
    obtain ⟨hP1, hK1, hD1⟩ := hB
    rw [ht] at hP1
    obtain ⟨hP, hD⟩ := va_join (wr := [(qo, .inl (cL, 1, .inr (.inl ov))), (q0, .inr (1, [.ref qw, .ref qr, .long tb, .int (b2i su), .int (b2i mx)])), (qw, .inl (cL, 8192, .inr (.inl w))), (qr, .inr (0, [.ref qc, .ref qn])), (qc, .inl (cI, 8, .inl cf)), (qn, .inl (cL, 8, .inr (.inl nu)))]) (w1 := (wMD cL cI g0 gm gc gn (1) w tb su mx cf nu fr tt)) hP hD [1, 2, 3, 4] [0, 5, 6, 7, 8, 9] rfl rfl (by decide) (by decide) hk1 hFc hP1 hD1
    generalize H1 = H at hP hS ⊢
    have hP : va_P (dC, dI) vwCl [(qo, .inl (cL, 1, .inr (.inl ov))), (q0, .inr (1, [.ref qw, .ref qr, .long tb, .int (b2i su), .int (b2i mx)])), (qw, .inl (cL, 8192, .inr (.inl w))), (qr, .inr (0, [.ref qc, .ref qn])), (qc, .inl (cI, 8, .inl cf)), (qn, .inl (cL, 8, .inr (.inl nu))), (g0, .inr (2, [.int (1), .ref gm, .long tb, .int (b2i su), .int (b2i mx), .ref gc, .ref gn, .long fr, .long tt])), (gm, .inl (cL, 8192, .inr (.inl w))), (gc, .inl (cI, 8, .inl cf)), (gn, .inl (cL, 8, .inr (.inl nu)))] H := hP
    have hD : va_D A [(qo, .inl (cL, 1, .inr (.inl ov))), (q0, .inr (1, [.ref qw, .ref qr, .long tb, .int (b2i su), .int (b2i mx)])), (qw, .inl (cL, 8192, .inr (.inl w))), (qr, .inr (0, [.ref qc, .ref qn])), (qc, .inl (cI, 8, .inl cf)), (qn, .inl (cL, 8, .inr (.inl nu))), (g0, .inr (2, [.int (1), .ref gm, .long tb, .int (b2i su), .int (b2i mx), .ref gc, .ref gn, .long fr, .long tt])), (gm, .inl (cL, 8192, .inr (.inl w))), (gc, .inl (cI, 8, .inl cf)), (gn, .inl (cL, 8, .inr (.inl nu)))] := hD
    refine lv_aload_n hx hb dL_law_642 rfl (lv_at hl 3 rfl) ?_
    refine vp_callSi (W.runV (As := []) (rest := []) ⟨hx, hb, hml, hown, hts⟩ (mtX2_thrown l dC dI cL cI g0 gm gc gn (1) w tb su mx cf nu fr tt  ) (cwV 0 hts (gTbl (mc1 (List.mem_of_getElem? (i := 383) (by decide +kernel)) (mc1 (List.mem_of_getElem? (i := 384) (by decide +kernel)) (mc1 (List.mem_of_getElem? (i := 385) (by decide +kernel)) (mc1 (List.mem_of_getElem? (i := 17) (by decide +kernel)) mc0)))) (List.mem_of_getElem? (i := 386) (by decide +kernel)) (by decide +kernel)) rfl rfl rfl (by decide +kernel) ⟨Nat.le_of_ble_eq_true rfl, Nat.le_of_ble_eq_true rfl⟩) (rd_pre (ci := 2) (q0 := 0) hK (hP.sub (ws' := (wMD cL cI g0 gm gc gn (1) w tb su mx cf nu fr tt)) [6, 7, 8, 9] rfl) rfl rfl) rfl rfl hl.1 rfl (lv_room (Nat.le_of_ble_eq_true rfl)) dL_law_643 ⟨(show 10 + j + 1 + 0 ≤ 1041 by omega), (show 16433 + 6 * j + 6 + 0 ≤ 24667 by omega)⟩) (fun r_7 er_7 => ?_)
    have er_7 : r_7 = (1) := er_7
    subst er_7
    refine lv_iload hx hb dL_law_646 (lv_at hl 0 rfl) ?_
    refine lv_icmp_eq (tgt := 653) hx hb dL_law_648 (by decide) (fun c_8 => ?_) (fun c_8 => ?_)
    · refine lv_goto (tgt := 921) hx hb dL_law_653 (by decide) ?_
      refine W.widen (k := 10 + (j + 1)) (n := 16433 + 6 * (j + 1)) (by omega) (by omega) ?_
      exact kk w tb su mx cf nu (1) fr tt ov _ _ ls (hc) (hn) (hP.sub (ws' := (wLW cL cI q0 qw qr qc qn qo g0 gm gc gn w tb su mx cf nu (1) fr tt ov)) [0, 1, 2, 3, 4, 5, 6, 7, 8, 9] rfl) (hD.sub (ws' := (wLW cL cI q0 qw qr qc qn qo g0 gm gc gn w tb su mx cf nu (1) fr tt ov)) [0, 1, 2, 3, 4, 5, 6, 7, 8, 9] (by decide) rfl) hS (lv_sub hl [1, 2, 3, 4, 5] rfl)
    · first | exact absurd c_8 (by decide) | exact absurd (by decide) c_8
set_option maxHeartbeats 800000 in
set_option maxRecDepth 100000 in
theorem law_c9 {p : Program} {l : Launch} {e : Env} {s : State} {m : MethodId} {below : List Frame} {meth : Method} {c : Code} {b L : Nat} {xs : Nat → Int32} {A : Nat → Prop} (hl0 : l.stackTraces = false) (hL : L ≤ 3072) (C0 : lw_At p s m meth c b L xs) (hA : ∀ q, s.heap.size ≤ q → A q) (hA2 : ∀ q, A q → s.heap.size ≤ q) {sa37 : Nat} (hX37 : xR RX1 37 "no word of memory is there" sa37 xE1 A s) {sa47 : Nat} (hX47 : xR RX1 47 "the sort is none of 0, 8, 9" sa47 xE2 A s) {sa29 : Nat} (hX29 : xR RX0 29 "no such region" sa29 xE1 A s) {sa70 : Nat} (hX70 : xR RX1 70 "no such access" sa70 xE2 A s) {sa86 : Nat} (hX86 : xR RX1 86 "no such access, or no physical address" sa86 xE2 A s) (dC : Nat → ClassId) (dI : Nat → Nat → Nat) (cL : ClassId) (cI : ClassId) (q0 : Nat) (qw : Nat) (qr : Nat) (qc : Nat) (qn : Nat) (qo : Nat) (g0 : Nat) (gm : Nat) (gc : Nat) (gn : Nat) (w : Nat → Int64) (tb : Int64) (su : Bool) (mx : Bool) (cf : Nat → Int32) (nu : Nat → Int64) (cd : Int32) (fr : Int64) (tt : Int64) (ov : Nat → Int64) (j : Nat) (hj : 6 * j + 6 ≤ L) (hK : va_K (dC, dI) vwCl [(cL, .long), (cI, .int)] s) (kk : (∀ (w : Nat → Int64) (tb : Int64) (su : Bool) (mx : Bool) (cf : Nat → Int32) (nu : Nat → Int64) (cd : Int32) (fr : Int64) (tt : Int64) (ov : Nat → Int64) (H : Heap) (locs : List Loc) (ls : Array Slot), okC cf → okN nu → va_P (dC, dI) vwCl (wLW cL cI q0 qw qr qc qn qo g0 gm gc gn w tb su mx cf nu cd fr tt ov) H → va_D A (wLW cL cI q0 qw qr qc qn qo g0 gm gc gn w tb su mx cf nu cd fr tt ov) → va_S A s.heap H locs → lv_has ls 8 [(0, .ref b), (1, .ref q0), (2, .ref g0), (3, .ref qo), (4, .int (nI (6 * j)))] → W p l e room_1 s m #[Value.ref b] below meth c H locs (10 + (j + 1)) (16433 + 6 * (j + 1)) (lw_Z below #[Value.ref b] s) (F0 m 921 ls []))) (H : Heap) (locs : List Loc) (ls : Array Slot) (hc : okC cf) (hn : okN nu) (hP : va_P (dC, dI) vwCl (wLW cL cI q0 qw qr qc qn qo g0 gm gc gn w tb su mx cf nu cd fr tt ov) H) (hD : va_D A (wLW cL cI q0 qw qr qc qn qo g0 gm gc gn w tb su mx cf nu cd fr tt ov)) (hS : va_S A s.heap H locs) (hl : lv_has ls 8 [(0, .ref b), (1, .ref q0), (2, .ref g0), (3, .ref qo), (4, .int (nI (6 * j)))]) : W p l e room_1 s m #[Value.ref b] below meth c H locs (10 + j) (16433 + 6 * j) (lw_Z below #[Value.ref b] s) (F0 m 656 ls []) := by
  obtain ⟨hx, hb, hr, hml, hown, hts, hX, hbl, hlocks, hgv⟩ := id C0
  have hbA : ¬ A b := fun h => absurd (hA2 b h) (Nat.not_le.mpr hbl)
  have hP : va_P (dC, dI) vwCl [(qo, .inl (cL, 1, .inr (.inl ov))), (q0, .inr (1, [.ref qw, .ref qr, .long tb, .int (b2i su), .int (b2i mx)])), (qw, .inl (cL, 8192, .inr (.inl w))), (qr, .inr (0, [.ref qc, .ref qn])), (qc, .inl (cI, 8, .inl cf)), (qn, .inl (cL, 8, .inr (.inl nu))), (g0, .inr (2, [.int cd, .ref gm, .long tb, .int (b2i su), .int (b2i mx), .ref gc, .ref gn, .long fr, .long tt])), (gm, .inl (cL, 8192, .inr (.inl w))), (gc, .inl (cI, 8, .inl cf)), (gn, .inl (cL, 8, .inr (.inl nu)))] H := hP
  have hD : va_D A [(qo, .inl (cL, 1, .inr (.inl ov))), (q0, .inr (1, [.ref qw, .ref qr, .long tb, .int (b2i su), .int (b2i mx)])), (qw, .inl (cL, 8192, .inr (.inl w))), (qr, .inr (0, [.ref qc, .ref qn])), (qc, .inl (cI, 8, .inl cf)), (qn, .inl (cL, 8, .inr (.inl nu))), (g0, .inr (2, [.int cd, .ref gm, .long tb, .int (b2i su), .int (b2i mx), .ref gc, .ref gn, .long fr, .long tt])), (gm, .inl (cL, 8192, .inr (.inl w))), (gc, .inl (cI, 8, .inl cf)), (gn, .inl (cL, 8, .inr (.inl nu)))] := hD
  by_cases hi : k_isAccess (mkL (xs (6 * j + 1)) (xs (6 * j + 2))) (xs (6 * j + 3)) (xs (6 * j + 4)) (xs (6 * j + 5)) = true
  · obtain ⟨sn, hsn, es⟩ := acc_size hi
    rw [es] at hi
    obtain ⟨ha1, ha2, ha3, ha4⟩ := acc_parts hi
    refine lv_aload_n hx hb dL_law_656 rfl (lv_at hl 1 rfl) ?_
    refine lv_aload_n hx hb dL_law_657 rfl (lv_at hl 0 rfl) ?_
    refine lv_iload hx hb dL_law_658 (lv_at hl 4 rfl) ?_
    refine lv_iconst (v := 1) hx hb dL_law_660 (by decide) ?_
    refine lv_iadd hx hb dL_law_661 ?_
    rw [sc_ix j 1 1 rfl]
    refine va_sld hx hb hX hbl hbA hS (vp_in_nI (show 6 * j + 1 < L by omega) (by omega)) dL_law_662 ?_
    rw [nI_clamp (show 6 * j + 1 < 2 ^ 31 by omega)]
    refine lv_i2l (v := Int32.toInt64 (xs (6 * j + 1))) hx hb dL_law_663 rfl ?_
    refine lv_bipush (v := 32) hx hb dL_law_664 (by decide) ?_
    refine lv_lshl (v := (k_shl (Int32.toInt64 (xs (6 * j + 1))) 32)) hx hb dL_law_666 rfl ?_
    refine lv_aload_n hx hb dL_law_667 rfl (lv_at hl 0 rfl) ?_
    refine lv_iload hx hb dL_law_668 (lv_at hl 4 rfl) ?_
    refine lv_iconst (v := 2) hx hb dL_law_670 (by decide) ?_
    refine lv_iadd hx hb dL_law_671 ?_
    rw [sc_ix j 2 2 rfl]
    refine va_sld hx hb hX hbl hbA hS (vp_in_nI (show 6 * j + 2 < L by omega) (by omega)) dL_law_672 ?_
    rw [nI_clamp (show 6 * j + 2 < 2 ^ 31 by omega)]
    refine lv_i2l (v := Int32.toInt64 (xs (6 * j + 2))) hx hb dL_law_673 rfl ?_
    refine lv_ldc2 (v := 4294967295) hx hb hown (hts (.constantLong RL 45 4294967295) (List.mem_of_getElem? (i := 514) (by decide +kernel))) dL_law_674 ?_
    refine lv_land hx hb dL_law_677 ?_
    refine lv_lor hx hb dL_law_678 ?_
    refine lv_aload_n hx hb dL_law_679 rfl (lv_at hl 0 rfl) ?_
    refine lv_iload hx hb dL_law_680 (lv_at hl 4 rfl) ?_
    refine lv_iconst (v := 3) hx hb dL_law_682 (by decide) ?_
    refine lv_iadd hx hb dL_law_683 ?_
    rw [sc_ix j 3 3 rfl]
    refine va_sld hx hb hX hbl hbA hS (vp_in_nI (show 6 * j + 3 < L by omega) (by omega)) dL_law_684 ?_
    rw [nI_clamp (show 6 * j + 3 < 2 ^ 31 by omega)]
    refine lv_aload_n hx hb dL_law_685 rfl (lv_at hl 0 rfl) ?_
    refine lv_iload hx hb dL_law_686 (lv_at hl 4 rfl) ?_
    refine lv_iconst (v := 4) hx hb dL_law_688 (by decide) ?_
    refine lv_iadd hx hb dL_law_689 ?_
    rw [sc_ix j 4 4 rfl]
    refine va_sld hx hb hX hbl hbA hS (vp_in_nI (show 6 * j + 4 < L by omega) (by omega)) dL_law_690 ?_
    rw [nI_clamp (show 6 * j + 4 < 2 ^ 31 by omega)]
    refine lv_aload_n hx hb dL_law_691 rfl (lv_at hl 0 rfl) ?_
    refine lv_iload hx hb dL_law_692 (lv_at hl 4 rfl) ?_
    refine lv_iconst (v := 5) hx hb dL_law_694 (by decide) ?_
    refine lv_iadd hx hb dL_law_695 ?_
    rw [sc_ix j 5 5 rfl]
    refine va_sld hx hb hX hbl hbA hS (vp_in_nI (show 6 * j + 5 < L by omega) (by omega)) dL_law_696 ?_
    rw [nI_clamp (show 6 * j + 5 < 2 ^ 31 by omega)]
    rw [es]
    refine lv_aload_n hx hb dL_law_697 rfl (lv_at hl 3 rfl) ?_
    have hPc := hP.sub (ws' := (wHO cL cI q0 qw qr qc qn w tb su mx cf nu qo ov)) [0, 1, 2, 3, 4, 5] rfl
    have hDc := hD.sub (ws' := (wHO cL cI q0 qw qr qc qn w tb su mx cf nu qo ov)) [0, 1, 2, 3, 4, 5] (by decide) rfl
    have hFc := va_free (wc := (wHO cL cI q0 qw qr qc qn w tb su mx cf nu qo ov)) hD hS hA [0, 1, 2, 3, 4, 5] rfl
    refine va_calli (vx_runSW (As := [.ref q0, .long (mkL (xs (6 * j + 1)) (xs (6 * j + 2))), .int (xs (6 * j + 3)), .int (xs (6 * j + 4)), .int (nI sn), .ref qo]) (rest := []) ⟨hx, hb, hml, hown, hts⟩ (mtL_find l dC dI cL cI q0 qw qr qc qn w tb su mx cf nu qo ov H.size (mkL (xs (6 * j + 1)) (xs (6 * j + 2))) (xs (6 * j + 3)) (xs (6 * j + 4)) (nI sn) hi) (vx_cwSW 6 hts (gTbl (mc1 (List.mem_of_getElem? (i := 243) (by decide +kernel)) (mc1 (List.mem_of_getElem? (i := 244) (by decide +kernel)) (mc1 (List.mem_of_getElem? (i := 14) (by decide +kernel)) mc0))) (List.mem_of_getElem? (i := 245) (by decide +kernel)) (by decide +kernel)) rfl rfl rfl (by decide +kernel) ⟨Nat.le_of_ble_eq_true rfl, Nat.le_of_ble_eq_true rfl⟩) (hl_pre hK hPc hDc) rfl rfl hl.1 rfl (lv_room (Nat.le_of_ble_eq_true rfl)) dL_law_698 ⟨(show 10 + j + 0 ≤ 1041 by omega), (show 16433 + 6 * j + 0 ≤ 24667 by omega)⟩) hS (fun q _ h => hFc q h) hFc (fun r_1 u t H1 locs ht hvm hpo hB hz1 hk1 hS => ?_)
    obtain ⟨hP1, hK1, hD1⟩ := hB
    rw [ht] at hP1
    obtain ⟨hP, hD⟩ := va_join (wr := [(g0, .inr (2, [.int cd, .ref gm, .long tb, .int (b2i su), .int (b2i mx), .ref gc, .ref gn, .long fr, .long tt])), (gm, .inl (cL, 8192, .inr (.inl w))), (gc, .inl (cI, 8, .inl cf)), (gn, .inl (cL, 8, .inr (.inl nu)))]) (w1 := (wHO cL cI q0 qw qr qc qn (k_find w tb su mx cf nu (mkL (xs (6 * j + 1)) (xs (6 * j + 2))) (xs (6 * j + 3)) (xs (6 * j + 4)) (nI sn)).2 tb su mx cf nu qo (vp_updL ov 0 (k_find w tb su mx cf nu (mkL (xs (6 * j + 1)) (xs (6 * j + 2))) (xs (6 * j + 3)) (xs (6 * j + 4)) (nI sn)).1))) hP hD [0, 1, 2, 3, 4, 5] [6, 7, 8, 9] rfl rfl (by decide) (by decide) hk1 hFc hP1 hD1
    generalize H1 = H at hP hS ⊢
    have hP : va_P (dC, dI) vwCl [(g0, .inr (2, [.int cd, .ref gm, .long tb, .int (b2i su), .int (b2i mx), .ref gc, .ref gn, .long fr, .long tt])), (gm, .inl (cL, 8192, .inr (.inl w))), (gc, .inl (cI, 8, .inl cf)), (gn, .inl (cL, 8, .inr (.inl nu))), (qo, .inl (cL, 1, .inr (.inl (vp_updL ov 0 (k_find w tb su mx cf nu (mkL (xs (6 * j + 1)) (xs (6 * j + 2))) (xs (6 * j + 3)) (xs (6 * j + 4)) (nI sn)).1)))), (q0, .inr (1, [.ref qw, .ref qr, .long tb, .int (b2i su), .int (b2i mx)])), (qw, .inl (cL, 8192, .inr (.inl (k_find w tb su mx cf nu (mkL (xs (6 * j + 1)) (xs (6 * j + 2))) (xs (6 * j + 3)) (xs (6 * j + 4)) (nI sn)).2))), (qr, .inr (0, [.ref qc, .ref qn])), (qc, .inl (cI, 8, .inl cf)), (qn, .inl (cL, 8, .inr (.inl nu)))] H := hP
    have hD : va_D A [(g0, .inr (2, [.int cd, .ref gm, .long tb, .int (b2i su), .int (b2i mx), .ref gc, .ref gn, .long fr, .long tt])), (gm, .inl (cL, 8192, .inr (.inl w))), (gc, .inl (cI, 8, .inl cf)), (gn, .inl (cL, 8, .inr (.inl nu))), (qo, .inl (cL, 1, .inr (.inl (vp_updL ov 0 (k_find w tb su mx cf nu (mkL (xs (6 * j + 1)) (xs (6 * j + 2))) (xs (6 * j + 3)) (xs (6 * j + 4)) (nI sn)).1)))), (q0, .inr (1, [.ref qw, .ref qr, .long tb, .int (b2i su), .int (b2i mx)])), (qw, .inl (cL, 8192, .inr (.inl (k_find w tb su mx cf nu (mkL (xs (6 * j + 1)) (xs (6 * j + 2))) (xs (6 * j + 3)) (xs (6 * j + 4)) (nI sn)).2))), (qr, .inr (0, [.ref qc, .ref qn])), (qc, .inl (cI, 8, .inl cf)), (qn, .inl (cL, 8, .inr (.inl nu)))] := hD
    have er_1 : r_1 = 0 := hpo
    subst er_1
    refine lv_istore (lv' := [(5, .int 0), (0, .ref b), (1, .ref q0), (2, .ref g0), (3, .ref qo), (4, .int (nI (6 * j)))]) hx hb dL_law_701 hl (by decide) rfl (fun ls hl => ?_)
    refine lv_aload_n hx hb dL_law_703 rfl (lv_at hl 3 rfl) ?_
    refine lv_aload_n hx hb dL_law_704 rfl (lv_at hl 1 rfl) ?_
    refine lv_iload hx hb dL_law_705 (lv_at hl 5 rfl) ?_
    refine lv_iconst (v := 1) hx hb dL_law_707 (by decide) ?_
    refine lv_iadd hx hb dL_law_708 ?_
    rw [sc_ix j 1 1 rfl]
    refine va_sld hx hb hX hbl hbA hS (vp_in_nI (show 6 * j + 1 < L by omega) (by omega)) dL_law_709 ?_
    rw [nI_clamp (show 6 * j + 1 < 2 ^ 31 by omega)]
    refine lv_i2l (v := Int32.toInt64 (xs (6 * j + 1))) hx hb dL_law_710 rfl ?_
    refine lv_bipush (v := 32) hx hb dL_law_711 (by decide) ?_
    refine lv_lshl (v := (k_shl (Int32.toInt64 (xs (6 * j + 1))) 32)) hx hb dL_law_713 rfl ?_
    refine lv_aload_n hx hb dL_law_714 rfl (lv_at hl 1 rfl) ?_
    refine lv_iload hx hb dL_law_715 (lv_at hl 5 rfl) ?_
    refine lv_iconst (v := 2) hx hb dL_law_717 (by decide) ?_
    refine lv_iadd hx hb dL_law_718 ?_
    rw [sc_ix j 2 2 rfl]
    refine va_sld hx hb hX hbl hbA hS (vp_in_nI (show 6 * j + 2 < L by omega) (by omega)) dL_law_719 ?_
    rw [nI_clamp (show 6 * j + 2 < 2 ^ 31 by omega)]
    refine lv_i2l (v := Int32.toInt64 (xs (6 * j + 2))) hx hb dL_law_720 rfl ?_
    refine lv_ldc2 (v := 4294967295) hx hb hown (hts (.constantLong RL 45 4294967295) (List.mem_of_getElem? (i := 514) (by decide +kernel))) dL_law_721 ?_
    refine lv_land hx hb dL_law_724 ?_
    refine lv_lor hx hb dL_law_725 ?_
    refine lv_aload_n hx hb dL_law_726 rfl (lv_at hl 1 rfl) ?_
    refine lv_iload hx hb dL_law_727 (lv_at hl 5 rfl) ?_
    refine lv_iconst (v := 3) hx hb dL_law_729 (by decide) ?_
    refine lv_iadd hx hb dL_law_730 ?_
    rw [sc_ix j 3 3 rfl]
    refine va_sld hx hb hX hbl hbA hS (vp_in_nI (show 6 * j + 3 < L by omega) (by omega)) dL_law_731 ?_
    rw [nI_clamp (show 6 * j + 3 < 2 ^ 31 by omega)]
    refine lv_aload_n hx hb dL_law_732 rfl (lv_at hl 1 rfl) ?_
    refine lv_iload hx hb dL_law_733 (lv_at hl 5 rfl) ?_
    refine lv_iconst (v := 4) hx hb dL_law_735 (by decide) ?_
    refine lv_iadd hx hb dL_law_736 ?_
    rw [sc_ix j 4 4 rfl]
    refine va_sld hx hb hX hbl hbA hS (vp_in_nI (show 6 * j + 4 < L by omega) (by omega)) dL_law_737 ?_
    rw [nI_clamp (show 6 * j + 4 < 2 ^ 31 by omega)]
    refine lv_aload_n hx hb dL_law_738 rfl (lv_at hl 1 rfl) ?_
    refine lv_iload hx hb dL_law_739 (lv_at hl 5 rfl) ?_
    refine lv_iconst (v := 5) hx hb dL_law_741 (by decide) ?_
    refine lv_iadd hx hb dL_law_742 ?_
    rw [sc_ix j 5 5 rfl]
    refine va_sld hx hb hX hbl hbA hS (vp_in_nI (show 6 * j + 5 < L by omega) (by omega)) dL_law_743 ?_
    rw [nI_clamp (show 6 * j + 5 < 2 ^ 31 by omega)]
    rw [es]
    have hPc := hP.sub (ws' := (wMD cL cI g0 gm gc gn cd w tb su mx cf nu fr tt)) [0, 1, 2, 3] rfl
    have hDc := hD.sub (ws' := (wMD cL cI g0 gm gc gn cd w tb su mx cf nu fr tt)) [0, 1, 2, 3] (by decide) rfl
    have hFc := va_free (wc := (wMD cL cI g0 gm gc gn cd w tb su mx cf nu fr tt)) hD hS hA [0, 1, 2, 3] rfl
    refine va_calll (va_runV (As := [.long (mkL (xs (6 * j + 1)) (xs (6 * j + 2))), .int (xs (6 * j + 3)), .int (xs (6 * j + 4)), .int (nI sn)]) (rest := []) ⟨hx, hb, hml, hown, hts⟩ (mtX2_find l dC dI cL cI g0 gm gc gn cd w tb su mx cf nu fr tt H.size (mkL (xs (6 * j + 1)) (xs (6 * j + 2))) (xs (6 * j + 3)) (xs (6 * j + 4)) sn (ha1) (ha2) (hsn) (hn) (hc) (ha3) (ha4)) (cwV 4 hts (gTbl (mc1 (List.mem_of_getElem? (i := 469) (by decide +kernel)) (mc1 (List.mem_of_getElem? (i := 470) (by decide +kernel)) (mc1 (List.mem_of_getElem? (i := 471) (by decide +kernel)) (mc1 (List.mem_of_getElem? (i := 17) (by decide +kernel)) mc0)))) (List.mem_of_getElem? (i := 472) (by decide +kernel)) (by decide +kernel)) rfl rfl rfl (by decide +kernel) ⟨Nat.le_of_ble_eq_true rfl, Nat.le_of_ble_eq_true rfl⟩) (mu_pre (ci := 2) (q0 := 0) hK hPc hDc rfl rfl) rfl rfl hl.1 rfl (lv_room (Nat.le_of_ble_eq_true rfl)) dL_law_744 ⟨(show 10 + j + 0 + 0 ≤ 1041 by omega), (show 16433 + 6 * j + 0 + 0 ≤ 24667 by omega)⟩) hS (fun q _ h => hFc q h) hFc (fun v_2 r_2 t H1 locs ht hvm hpo hB hz1 hk1 hS => ?_)
    obtain ⟨hP1, hK1, hD1⟩ := hB
    rw [ht] at hP1
    obtain ⟨hP, hD⟩ := va_join (wr := [(qo, .inl (cL, 1, .inr (.inl (vp_updL ov 0 (k_find w tb su mx cf nu (mkL (xs (6 * j + 1)) (xs (6 * j + 2))) (xs (6 * j + 3)) (xs (6 * j + 4)) (nI sn)).1)))), (q0, .inr (1, [.ref qw, .ref qr, .long tb, .int (b2i su), .int (b2i mx)])), (qw, .inl (cL, 8192, .inr (.inl (k_find w tb su mx cf nu (mkL (xs (6 * j + 1)) (xs (6 * j + 2))) (xs (6 * j + 3)) (xs (6 * j + 4)) (nI sn)).2))), (qr, .inr (0, [.ref qc, .ref qn])), (qc, .inl (cI, 8, .inl cf)), (qn, .inl (cL, 8, .inr (.inl nu)))]) (w1 := (wMD cL cI g0 gm gc gn (0) (k_find w tb su mx cf nu (mkL (xs (6 * j + 1)) (xs (6 * j + 2))) (xs (6 * j + 3)) (xs (6 * j + 4)) (nI sn)).2 tb su mx cf nu r_2.1 r_2.2)) hP hD [0, 1, 2, 3] [4, 5, 6, 7, 8, 9] rfl rfl (by decide) (by decide) hk1 hFc hP1 hD1
    generalize H1 = H at hP hS ⊢
    have hP : va_P (dC, dI) vwCl [(qo, .inl (cL, 1, .inr (.inl (vp_updL ov 0 (k_find w tb su mx cf nu (mkL (xs (6 * j + 1)) (xs (6 * j + 2))) (xs (6 * j + 3)) (xs (6 * j + 4)) (nI sn)).1)))), (q0, .inr (1, [.ref qw, .ref qr, .long tb, .int (b2i su), .int (b2i mx)])), (qw, .inl (cL, 8192, .inr (.inl (k_find w tb su mx cf nu (mkL (xs (6 * j + 1)) (xs (6 * j + 2))) (xs (6 * j + 3)) (xs (6 * j + 4)) (nI sn)).2))), (qr, .inr (0, [.ref qc, .ref qn])), (qc, .inl (cI, 8, .inl cf)), (qn, .inl (cL, 8, .inr (.inl nu))), (g0, .inr (2, [.int (0), .ref gm, .long tb, .int (b2i su), .int (b2i mx), .ref gc, .ref gn, .long r_2.1, .long r_2.2])), (gm, .inl (cL, 8192, .inr (.inl (k_find w tb su mx cf nu (mkL (xs (6 * j + 1)) (xs (6 * j + 2))) (xs (6 * j + 3)) (xs (6 * j + 4)) (nI sn)).2))), (gc, .inl (cI, 8, .inl cf)), (gn, .inl (cL, 8, .inr (.inl nu)))] H := hP
    have hD : va_D A [(qo, .inl (cL, 1, .inr (.inl (vp_updL ov 0 (k_find w tb su mx cf nu (mkL (xs (6 * j + 1)) (xs (6 * j + 2))) (xs (6 * j + 3)) (xs (6 * j + 4)) (nI sn)).1)))), (q0, .inr (1, [.ref qw, .ref qr, .long tb, .int (b2i su), .int (b2i mx)])), (qw, .inl (cL, 8192, .inr (.inl (k_find w tb su mx cf nu (mkL (xs (6 * j + 1)) (xs (6 * j + 2))) (xs (6 * j + 3)) (xs (6 * j + 4)) (nI sn)).2))), (qr, .inr (0, [.ref qc, .ref qn])), (qc, .inl (cI, 8, .inl cf)), (qn, .inl (cL, 8, .inr (.inl nu))), (g0, .inr (2, [.int (0), .ref gm, .long tb, .int (b2i su), .int (b2i mx), .ref gc, .ref gn, .long r_2.1, .long r_2.2])), (gm, .inl (cL, 8192, .inr (.inl (k_find w tb su mx cf nu (mkL (xs (6 * j + 1)) (xs (6 * j + 2))) (xs (6 * j + 3)) (xs (6 * j + 4)) (nI sn)).2))), (gc, .inl (cI, 8, .inl cf)), (gn, .inl (cL, 8, .inr (.inl nu)))] := hD
    have ev_2 : v_2 = (k_find w tb su mx cf nu (mkL (xs (6 * j + 1)) (xs (6 * j + 2))) (xs (6 * j + 3)) (xs (6 * j + 4)) (nI sn)).1 := hpo
    subst ev_2
    refine lv_lstore (lv' := [(6, .long (k_find w tb su mx cf nu (mkL (xs (6 * j + 1)) (xs (6 * j + 2))) (xs (6 * j + 3)) (xs (6 * j + 4)) (nI sn)).1), (5, .int 0), (0, .ref b), (1, .ref q0), (2, .ref g0), (3, .ref qo), (4, .int (nI (6 * j)))]) hx hb dL_law_747 hl (by decide) rfl (fun ls hl => ?_)
    refine lv_aload_n hx hb dL_law_749 rfl (lv_at hl 4 rfl) ?_
    refine vp_callSi (W.runV (As := []) (rest := []) ⟨hx, hb, hml, hown, hts⟩ (mtX2_thrown l dC dI cL cI g0 gm gc gn (0) (k_find w tb su mx cf nu (mkL (xs (6 * j + 1)) (xs (6 * j + 2))) (xs (6 * j + 3)) (xs (6 * j + 4)) (nI sn)).2 tb su mx cf nu r_2.1 r_2.2  ) (cwV 0 hts (gTbl (mc1 (List.mem_of_getElem? (i := 383) (by decide +kernel)) (mc1 (List.mem_of_getElem? (i := 384) (by decide +kernel)) (mc1 (List.mem_of_getElem? (i := 385) (by decide +kernel)) (mc1 (List.mem_of_getElem? (i := 17) (by decide +kernel)) mc0)))) (List.mem_of_getElem? (i := 386) (by decide +kernel)) (by decide +kernel)) rfl rfl rfl (by decide +kernel) ⟨Nat.le_of_ble_eq_true rfl, Nat.le_of_ble_eq_true rfl⟩) (rd_pre (ci := 2) (q0 := 0) hK (hP.sub (ws' := (wMD cL cI g0 gm gc gn (0) (k_find w tb su mx cf nu (mkL (xs (6 * j + 1)) (xs (6 * j + 2))) (xs (6 * j + 3)) (xs (6 * j + 4)) (nI sn)).2 tb su mx cf nu r_2.1 r_2.2)) [6, 7, 8, 9] rfl) rfl rfl) rfl rfl hl.1 rfl (lv_room (Nat.le_of_ble_eq_true rfl)) dL_law_750 ⟨(show 10 + j + 0 + 0 ≤ 1041 by omega), (show 16433 + 6 * j + 0 + 0 ≤ 24667 by omega)⟩) (fun r_3 er_3 => ?_)
    have er_3 : r_3 = (0) := er_3
    subst er_3
    refine lv_iload hx hb dL_law_753 (lv_at hl 1 rfl) ?_
    refine lv_icmp_eq (tgt := 760) hx hb dL_law_755 (by decide) (fun c_4 => ?_) (fun c_4 => ?_)
    · refine lv_iload hx hb dL_law_760 (lv_at hl 1 rfl) ?_
      refine lv_if_ne (tgt := 776) hx hb dL_law_762 (by decide) (fun c_5 => ?_) (fun c_5 => ?_)
      · first | exact absurd c_5 (by decide) | exact absurd (by decide) c_5
      · refine lv_aload_n hx hb dL_law_765 rfl (lv_at hl 5 rfl) ?_
        refine lv_iconst (v := 0) hx hb dL_law_766 (by decide) ?_
        refine va_lald hx hb hK hP 0 0 rfl rfl (pk_in 0 1 (by decide)) dL_law_767 ?_
        rw [sb_cl0]
        refine lv_lload hx hb dL_law_768 (lv_at hl 0 rfl) ?_
        refine W.lcmp hx hb dL_law_770 ?_
        refine lv_if_eq (tgt := 776) hx hb dL_law_771 (by decide) (fun c_6 => ?_) (fun c_6 => ?_)
        · rw [lg_cmp_eq] at c_6
          refine lv_goto (tgt := 921) hx hb dL_law_776 (by decide) ?_
          refine W.widen (k := 10 + (j + 1)) (n := 16433 + 6 * (j + 1)) (by omega) (by omega) ?_
          exact kk (k_find w tb su mx cf nu (mkL (xs (6 * j + 1)) (xs (6 * j + 2))) (xs (6 * j + 3)) (xs (6 * j + 4)) (nI sn)).2 tb su mx cf nu (0) r_2.1 r_2.2 (vp_updL ov 0 (k_find w tb su mx cf nu (mkL (xs (6 * j + 1)) (xs (6 * j + 2))) (xs (6 * j + 3)) (xs (6 * j + 4)) (nI sn)).1) _ _ ls (hc) (hn) (hP.sub (ws' := (wLW cL cI q0 qw qr qc qn qo g0 gm gc gn (k_find w tb su mx cf nu (mkL (xs (6 * j + 1)) (xs (6 * j + 2))) (xs (6 * j + 3)) (xs (6 * j + 4)) (nI sn)).2 tb su mx cf nu (0) r_2.1 r_2.2 (vp_updL ov 0 (k_find w tb su mx cf nu (mkL (xs (6 * j + 1)) (xs (6 * j + 2))) (xs (6 * j + 3)) (xs (6 * j + 4)) (nI sn)).1))) [0, 1, 2, 3, 4, 5, 6, 7, 8, 9] rfl) (hD.sub (ws' := (wLW cL cI q0 qw qr qc qn qo g0 gm gc gn (k_find w tb su mx cf nu (mkL (xs (6 * j + 1)) (xs (6 * j + 2))) (xs (6 * j + 3)) (xs (6 * j + 4)) (nI sn)).2 tb su mx cf nu (0) r_2.1 r_2.2 (vp_updL ov 0 (k_find w tb su mx cf nu (mkL (xs (6 * j + 1)) (xs (6 * j + 2))) (xs (6 * j + 3)) (xs (6 * j + 4)) (nI sn)).1))) [0, 1, 2, 3, 4, 5, 6, 7, 8, 9] (by decide) rfl) hS (lv_sub hl [2, 3, 4, 5, 6] rfl)
        · rw [lg_cmp_eq] at c_6
          exact absurd pk_uLs c_6
    · first | exact absurd c_4 (by decide) | exact absurd (by decide) c_4
  · have hi := Bool.not_eq_true _ ▸ hi
    refine lv_aload_n hx hb dL_law_656 rfl (lv_at hl 1 rfl) ?_
    refine lv_aload_n hx hb dL_law_657 rfl (lv_at hl 0 rfl) ?_
    refine lv_iload hx hb dL_law_658 (lv_at hl 4 rfl) ?_
    refine lv_iconst (v := 1) hx hb dL_law_660 (by decide) ?_
    refine lv_iadd hx hb dL_law_661 ?_
    rw [sc_ix j 1 1 rfl]
    refine va_sld hx hb hX hbl hbA hS (vp_in_nI (show 6 * j + 1 < L by omega) (by omega)) dL_law_662 ?_
    rw [nI_clamp (show 6 * j + 1 < 2 ^ 31 by omega)]
    refine lv_i2l (v := Int32.toInt64 (xs (6 * j + 1))) hx hb dL_law_663 rfl ?_
    refine lv_bipush (v := 32) hx hb dL_law_664 (by decide) ?_
    refine lv_lshl (v := (k_shl (Int32.toInt64 (xs (6 * j + 1))) 32)) hx hb dL_law_666 rfl ?_
    refine lv_aload_n hx hb dL_law_667 rfl (lv_at hl 0 rfl) ?_
    refine lv_iload hx hb dL_law_668 (lv_at hl 4 rfl) ?_
    refine lv_iconst (v := 2) hx hb dL_law_670 (by decide) ?_
    refine lv_iadd hx hb dL_law_671 ?_
    rw [sc_ix j 2 2 rfl]
    refine va_sld hx hb hX hbl hbA hS (vp_in_nI (show 6 * j + 2 < L by omega) (by omega)) dL_law_672 ?_
    rw [nI_clamp (show 6 * j + 2 < 2 ^ 31 by omega)]
    refine lv_i2l (v := Int32.toInt64 (xs (6 * j + 2))) hx hb dL_law_673 rfl ?_
    refine lv_ldc2 (v := 4294967295) hx hb hown (hts (.constantLong RL 45 4294967295) (List.mem_of_getElem? (i := 514) (by decide +kernel))) dL_law_674 ?_
    refine lv_land hx hb dL_law_677 ?_
    refine lv_lor hx hb dL_law_678 ?_
    refine lv_aload_n hx hb dL_law_679 rfl (lv_at hl 0 rfl) ?_
    refine lv_iload hx hb dL_law_680 (lv_at hl 4 rfl) ?_
    refine lv_iconst (v := 3) hx hb dL_law_682 (by decide) ?_
    refine lv_iadd hx hb dL_law_683 ?_
    rw [sc_ix j 3 3 rfl]
    refine va_sld hx hb hX hbl hbA hS (vp_in_nI (show 6 * j + 3 < L by omega) (by omega)) dL_law_684 ?_
    rw [nI_clamp (show 6 * j + 3 < 2 ^ 31 by omega)]
    refine lv_aload_n hx hb dL_law_685 rfl (lv_at hl 0 rfl) ?_
    refine lv_iload hx hb dL_law_686 (lv_at hl 4 rfl) ?_
    refine lv_iconst (v := 4) hx hb dL_law_688 (by decide) ?_
    refine lv_iadd hx hb dL_law_689 ?_
    rw [sc_ix j 4 4 rfl]
    refine va_sld hx hb hX hbl hbA hS (vp_in_nI (show 6 * j + 4 < L by omega) (by omega)) dL_law_690 ?_
    rw [nI_clamp (show 6 * j + 4 < 2 ^ 31 by omega)]
    refine lv_aload_n hx hb dL_law_691 rfl (lv_at hl 0 rfl) ?_
    refine lv_iload hx hb dL_law_692 (lv_at hl 4 rfl) ?_
    refine lv_iconst (v := 5) hx hb dL_law_694 (by decide) ?_
    refine lv_iadd hx hb dL_law_695 ?_
    rw [sc_ix j 5 5 rfl]
    refine va_sld hx hb hX hbl hbA hS (vp_in_nI (show 6 * j + 5 < L by omega) (by omega)) dL_law_696 ?_
    rw [nI_clamp (show 6 * j + 5 < 2 ^ 31 by omega)]
    refine lv_aload_n hx hb dL_law_697 rfl (lv_at hl 3 rfl) ?_
    have hPc := hP.sub (ws' := (wHO cL cI q0 qw qr qc qn w tb su mx cf nu qo ov)) [0, 1, 2, 3, 4, 5] rfl
    have hDc := hD.sub (ws' := (wHO cL cI q0 qw qr qc qn w tb su mx cf nu qo ov)) [0, 1, 2, 3, 4, 5] (by decide) rfl
    have hFc := va_free (wc := (wHO cL cI q0 qw qr qc qn w tb su mx cf nu qo ov)) hD hS hA [0, 1, 2, 3, 4, 5] rfl
    refine va_calli (vx_runSW (As := [.ref q0, .long (mkL (xs (6 * j + 1)) (xs (6 * j + 2))), .int (xs (6 * j + 3)), .int (xs (6 * j + 4)), .int (xs (6 * j + 5)), .ref qo]) (rest := []) ⟨hx, hb, hml, hown, hts⟩ (mtL_find_no l hl0 dC dI cL cI q0 qw qr qc qn w tb su mx cf nu qo ov H.size sa70 (mkL (xs (6 * j + 1)) (xs (6 * j + 2))) (xs (6 * j + 3)) (xs (6 * j + 4)) (xs (6 * j + 5)) hi) (vx_cwSW 6 hts (gTbl (mc1 (List.mem_of_getElem? (i := 243) (by decide +kernel)) (mc1 (List.mem_of_getElem? (i := 244) (by decide +kernel)) (mc1 (List.mem_of_getElem? (i := 14) (by decide +kernel)) mc0))) (List.mem_of_getElem? (i := 245) (by decide +kernel)) (by decide +kernel)) rfl rfl rfl (by decide +kernel) ⟨Nat.le_of_ble_eq_true rfl, Nat.le_of_ble_eq_true rfl⟩) (hl_preX hK hPc hDc hX70 hS (fun q h => hFc q h)) rfl rfl hl.1 rfl (lv_room (Nat.le_of_ble_eq_true rfl)) dL_law_698 ⟨(show 10 + j + 1 ≤ 1041 by omega), (show 16433 + 6 * j + 6 ≤ 24667 by omega)⟩) hS (fun q _ h => hFc q h) hFc (fun r_7 u t H1 locs ht hvm hpo hB hz1 hk1 hS => ?_)
    obtain ⟨hP1, hK1, hD1⟩ := hB
    rw [ht] at hP1
    obtain ⟨hP, hD⟩ := va_join (wr := [(g0, .inr (2, [.int cd, .ref gm, .long tb, .int (b2i su), .int (b2i mx), .ref gc, .ref gn, .long fr, .long tt])), (gm, .inl (cL, 8192, .inr (.inl w))), (gc, .inl (cI, 8, .inl cf)), (gn, .inl (cL, 8, .inr (.inl nu)))]) (w1 := (wHO cL cI q0 qw qr qc qn w tb su mx cf nu qo ov)) hP hD [0, 1, 2, 3, 4, 5] [6, 7, 8, 9] rfl rfl (by decide) (by decide) hk1 hFc hP1 hD1
    generalize H1 = H at hP hS ⊢
    have hP : va_P (dC, dI) vwCl [(g0, .inr (2, [.int cd, .ref gm, .long tb, .int (b2i su), .int (b2i mx), .ref gc, .ref gn, .long fr, .long tt])), (gm, .inl (cL, 8192, .inr (.inl w))), (gc, .inl (cI, 8, .inl cf)), (gn, .inl (cL, 8, .inr (.inl nu))), (qo, .inl (cL, 1, .inr (.inl ov))), (q0, .inr (1, [.ref qw, .ref qr, .long tb, .int (b2i su), .int (b2i mx)])), (qw, .inl (cL, 8192, .inr (.inl w))), (qr, .inr (0, [.ref qc, .ref qn])), (qc, .inl (cI, 8, .inl cf)), (qn, .inl (cL, 8, .inr (.inl nu)))] H := hP
    have hD : va_D A [(g0, .inr (2, [.int cd, .ref gm, .long tb, .int (b2i su), .int (b2i mx), .ref gc, .ref gn, .long fr, .long tt])), (gm, .inl (cL, 8192, .inr (.inl w))), (gc, .inl (cI, 8, .inl cf)), (gn, .inl (cL, 8, .inr (.inl nu))), (qo, .inl (cL, 1, .inr (.inl ov))), (q0, .inr (1, [.ref qw, .ref qr, .long tb, .int (b2i su), .int (b2i mx)])), (qw, .inl (cL, 8192, .inr (.inl w))), (qr, .inr (0, [.ref qc, .ref qn])), (qc, .inl (cI, 8, .inl cf)), (qn, .inl (cL, 8, .inr (.inl nu)))] := hD
    have er_7 : r_7 = 1 := hpo
    subst er_7
    refine lv_istore (lv' := [(5, .int 1), (0, .ref b), (1, .ref q0), (2, .ref g0), (3, .ref qo), (4, .int (nI (6 * j)))]) hx hb dL_law_701 hl (by decide) rfl (fun ls hl => ?_)
    refine lv_aload_n hx hb dL_law_703 rfl (lv_at hl 3 rfl) ?_
    refine lv_aload_n hx hb dL_law_704 rfl (lv_at hl 1 rfl) ?_
    refine lv_iload hx hb dL_law_705 (lv_at hl 5 rfl) ?_
    refine lv_iconst (v := 1) hx hb dL_law_707 (by decide) ?_
    refine lv_iadd hx hb dL_law_708 ?_
    rw [sc_ix j 1 1 rfl]
    refine va_sld hx hb hX hbl hbA hS (vp_in_nI (show 6 * j + 1 < L by omega) (by omega)) dL_law_709 ?_
    rw [nI_clamp (show 6 * j + 1 < 2 ^ 31 by omega)]
    refine lv_i2l (v := Int32.toInt64 (xs (6 * j + 1))) hx hb dL_law_710 rfl ?_
    refine lv_bipush (v := 32) hx hb dL_law_711 (by decide) ?_
    refine lv_lshl (v := (k_shl (Int32.toInt64 (xs (6 * j + 1))) 32)) hx hb dL_law_713 rfl ?_
    refine lv_aload_n hx hb dL_law_714 rfl (lv_at hl 1 rfl) ?_
    refine lv_iload hx hb dL_law_715 (lv_at hl 5 rfl) ?_
    refine lv_iconst (v := 2) hx hb dL_law_717 (by decide) ?_
    refine lv_iadd hx hb dL_law_718 ?_
    rw [sc_ix j 2 2 rfl]
    refine va_sld hx hb hX hbl hbA hS (vp_in_nI (show 6 * j + 2 < L by omega) (by omega)) dL_law_719 ?_
    rw [nI_clamp (show 6 * j + 2 < 2 ^ 31 by omega)]
    refine lv_i2l (v := Int32.toInt64 (xs (6 * j + 2))) hx hb dL_law_720 rfl ?_
    refine lv_ldc2 (v := 4294967295) hx hb hown (hts (.constantLong RL 45 4294967295) (List.mem_of_getElem? (i := 514) (by decide +kernel))) dL_law_721 ?_
    refine lv_land hx hb dL_law_724 ?_
    refine lv_lor hx hb dL_law_725 ?_
    refine lv_aload_n hx hb dL_law_726 rfl (lv_at hl 1 rfl) ?_
    refine lv_iload hx hb dL_law_727 (lv_at hl 5 rfl) ?_
    refine lv_iconst (v := 3) hx hb dL_law_729 (by decide) ?_
    refine lv_iadd hx hb dL_law_730 ?_
    rw [sc_ix j 3 3 rfl]
    refine va_sld hx hb hX hbl hbA hS (vp_in_nI (show 6 * j + 3 < L by omega) (by omega)) dL_law_731 ?_
    rw [nI_clamp (show 6 * j + 3 < 2 ^ 31 by omega)]
    refine lv_aload_n hx hb dL_law_732 rfl (lv_at hl 1 rfl) ?_
    refine lv_iload hx hb dL_law_733 (lv_at hl 5 rfl) ?_
    refine lv_iconst (v := 4) hx hb dL_law_735 (by decide) ?_
    refine lv_iadd hx hb dL_law_736 ?_
    rw [sc_ix j 4 4 rfl]
    refine va_sld hx hb hX hbl hbA hS (vp_in_nI (show 6 * j + 4 < L by omega) (by omega)) dL_law_737 ?_
    rw [nI_clamp (show 6 * j + 4 < 2 ^ 31 by omega)]
    refine lv_aload_n hx hb dL_law_738 rfl (lv_at hl 1 rfl) ?_
    refine lv_iload hx hb dL_law_739 (lv_at hl 5 rfl) ?_
    refine lv_iconst (v := 5) hx hb dL_law_741 (by decide) ?_
    refine lv_iadd hx hb dL_law_742 ?_
    rw [sc_ix j 5 5 rfl]
    refine va_sld hx hb hX hbl hbA hS (vp_in_nI (show 6 * j + 5 < L by omega) (by omega)) dL_law_743 ?_
    rw [nI_clamp (show 6 * j + 5 < 2 ^ 31 by omega)]
    have hPc := hP.sub (ws' := (wMD cL cI g0 gm gc gn cd w tb su mx cf nu fr tt)) [0, 1, 2, 3] rfl
    have hDc := hD.sub (ws' := (wMD cL cI g0 gm gc gn cd w tb su mx cf nu fr tt)) [0, 1, 2, 3] (by decide) rfl
    have hFc := va_free (wc := (wMD cL cI g0 gm gc gn cd w tb su mx cf nu fr tt)) hD hS hA [0, 1, 2, 3] rfl
    refine va_calll (va_runV (As := [.long (mkL (xs (6 * j + 1)) (xs (6 * j + 2))), .int (xs (6 * j + 3)), .int (xs (6 * j + 4)), .int (xs (6 * j + 5))]) (rest := []) ⟨hx, hb, hml, hown, hts⟩ (mtX2_find_no l dC dI cL cI g0 gm gc gn cd w tb su mx cf nu fr tt H.size (mkL (xs (6 * j + 1)) (xs (6 * j + 2))) (xs (6 * j + 3)) (xs (6 * j + 4)) (xs (6 * j + 5)) (acc_no hi)) (cwV 4 hts (gTbl (mc1 (List.mem_of_getElem? (i := 469) (by decide +kernel)) (mc1 (List.mem_of_getElem? (i := 470) (by decide +kernel)) (mc1 (List.mem_of_getElem? (i := 471) (by decide +kernel)) (mc1 (List.mem_of_getElem? (i := 17) (by decide +kernel)) mc0)))) (List.mem_of_getElem? (i := 472) (by decide +kernel)) (by decide +kernel)) rfl rfl rfl (by decide +kernel) ⟨Nat.le_of_ble_eq_true rfl, Nat.le_of_ble_eq_true rfl⟩) (mu_pre (ci := 2) (q0 := 0) hK hPc hDc rfl rfl) rfl rfl hl.1 rfl (lv_room (Nat.le_of_ble_eq_true rfl)) dL_law_744 ⟨(show 10 + j + 1 + 0 ≤ 1041 by omega), (show 16433 + 6 * j + 6 + 0 ≤ 24667 by omega)⟩) hS (fun q _ h => hFc q h) hFc (fun r_8 u t H1 locs ht hvm hpo hB hz1 hk1 hS => ?_)
    obtain ⟨hP1, hK1, hD1⟩ := hB
    rw [ht] at hP1
    obtain ⟨hP, hD⟩ := va_join (wr := [(qo, .inl (cL, 1, .inr (.inl ov))), (q0, .inr (1, [.ref qw, .ref qr, .long tb, .int (b2i su), .int (b2i mx)])), (qw, .inl (cL, 8192, .inr (.inl w))), (qr, .inr (0, [.ref qc, .ref qn])), (qc, .inl (cI, 8, .inl cf)), (qn, .inl (cL, 8, .inr (.inl nu)))]) (w1 := (wMD cL cI g0 gm gc gn (1) w tb su mx cf nu fr tt)) hP hD [0, 1, 2, 3] [4, 5, 6, 7, 8, 9] rfl rfl (by decide) (by decide) hk1 hFc hP1 hD1
    generalize H1 = H at hP hS ⊢
    have hP : va_P (dC, dI) vwCl [(qo, .inl (cL, 1, .inr (.inl ov))), (q0, .inr (1, [.ref qw, .ref qr, .long tb, .int (b2i su), .int (b2i mx)])), (qw, .inl (cL, 8192, .inr (.inl w))), (qr, .inr (0, [.ref qc, .ref qn])), (qc, .inl (cI, 8, .inl cf)), (qn, .inl (cL, 8, .inr (.inl nu))), (g0, .inr (2, [.int (1), .ref gm, .long tb, .int (b2i su), .int (b2i mx), .ref gc, .ref gn, .long fr, .long tt])), (gm, .inl (cL, 8192, .inr (.inl w))), (gc, .inl (cI, 8, .inl cf)), (gn, .inl (cL, 8, .inr (.inl nu)))] H := hP
    have hD : va_D A [(qo, .inl (cL, 1, .inr (.inl ov))), (q0, .inr (1, [.ref qw, .ref qr, .long tb, .int (b2i su), .int (b2i mx)])), (qw, .inl (cL, 8192, .inr (.inl w))), (qr, .inr (0, [.ref qc, .ref qn])), (qc, .inl (cI, 8, .inl cf)), (qn, .inl (cL, 8, .inr (.inl nu))), (g0, .inr (2, [.int (1), .ref gm, .long tb, .int (b2i su), .int (b2i mx), .ref gc, .ref gn, .long fr, .long tt])), (gm, .inl (cL, 8192, .inr (.inl w))), (gc, .inl (cI, 8, .inl cf)), (gn, .inl (cL, 8, .inr (.inl nu)))] := hD
    have er_8 : r_8 = (0) := hpo
    subst er_8
    refine lv_lstore (lv' := [(6, .long (0)), (5, .int 1), (0, .ref b), (1, .ref q0), (2, .ref g0), (3, .ref qo), (4, .int (nI (6 * j)))]) hx hb dL_law_747 hl (by decide) rfl (fun ls hl => ?_)
    refine lv_aload_n hx hb dL_law_749 rfl (lv_at hl 4 rfl) ?_
    refine vp_callSi (W.runV (As := []) (rest := []) ⟨hx, hb, hml, hown, hts⟩ (mtX2_thrown l dC dI cL cI g0 gm gc gn (1) w tb su mx cf nu fr tt  ) (cwV 0 hts (gTbl (mc1 (List.mem_of_getElem? (i := 383) (by decide +kernel)) (mc1 (List.mem_of_getElem? (i := 384) (by decide +kernel)) (mc1 (List.mem_of_getElem? (i := 385) (by decide +kernel)) (mc1 (List.mem_of_getElem? (i := 17) (by decide +kernel)) mc0)))) (List.mem_of_getElem? (i := 386) (by decide +kernel)) (by decide +kernel)) rfl rfl rfl (by decide +kernel) ⟨Nat.le_of_ble_eq_true rfl, Nat.le_of_ble_eq_true rfl⟩) (rd_pre (ci := 2) (q0 := 0) hK (hP.sub (ws' := (wMD cL cI g0 gm gc gn (1) w tb su mx cf nu fr tt)) [6, 7, 8, 9] rfl) rfl rfl) rfl rfl hl.1 rfl (lv_room (Nat.le_of_ble_eq_true rfl)) dL_law_750 ⟨(show 10 + j + 1 + 0 ≤ 1041 by omega), (show 16433 + 6 * j + 6 + 0 ≤ 24667 by omega)⟩) (fun r_9 er_9 => ?_)
    have er_9 : r_9 = (1) := er_9
    subst er_9
    refine lv_iload hx hb dL_law_753 (lv_at hl 1 rfl) ?_
    refine lv_icmp_eq (tgt := 760) hx hb dL_law_755 (by decide) (fun c_10 => ?_) (fun c_10 => ?_)
    · refine lv_iload hx hb dL_law_760 (lv_at hl 1 rfl) ?_
      refine lv_if_ne (tgt := 776) hx hb dL_law_762 (by decide) (fun c_11 => ?_) (fun c_11 => ?_)
      · refine lv_goto (tgt := 921) hx hb dL_law_776 (by decide) ?_
        refine W.widen (k := 10 + (j + 1)) (n := 16433 + 6 * (j + 1)) (by omega) (by omega) ?_
        exact kk w tb su mx cf nu (1) fr tt ov _ _ ls (hc) (hn) (hP.sub (ws' := (wLW cL cI q0 qw qr qc qn qo g0 gm gc gn w tb su mx cf nu (1) fr tt ov)) [0, 1, 2, 3, 4, 5, 6, 7, 8, 9] rfl) (hD.sub (ws' := (wLW cL cI q0 qw qr qc qn qo g0 gm gc gn w tb su mx cf nu (1) fr tt ov)) [0, 1, 2, 3, 4, 5, 6, 7, 8, 9] (by decide) rfl) hS (lv_sub hl [2, 3, 4, 5, 6] rfl)
      · first | exact absurd c_11 (by decide) | exact absurd (by decide) c_11
    · first | exact absurd c_10 (by decide) | exact absurd (by decide) c_10
set_option maxHeartbeats 800000 in
set_option maxRecDepth 100000 in
theorem law_c10 {p : Program} {l : Launch} {e : Env} {s : State} {m : MethodId} {below : List Frame} {meth : Method} {c : Code} {b L : Nat} {xs : Nat → Int32} {A : Nat → Prop} (hl0 : l.stackTraces = false) (hL : L ≤ 3072) (C0 : lw_At p s m meth c b L xs) (hA : ∀ q, s.heap.size ≤ q → A q) (hA2 : ∀ q, A q → s.heap.size ≤ q) {sa37 : Nat} (hX37 : xR RX1 37 "no word of memory is there" sa37 xE1 A s) {sa47 : Nat} (hX47 : xR RX1 47 "the sort is none of 0, 8, 9" sa47 xE2 A s) {sa29 : Nat} (hX29 : xR RX0 29 "no such region" sa29 xE1 A s) {sa70 : Nat} (hX70 : xR RX1 70 "no such access" sa70 xE2 A s) {sa86 : Nat} (hX86 : xR RX1 86 "no such access, or no physical address" sa86 xE2 A s) (dC : Nat → ClassId) (dI : Nat → Nat → Nat) (cL : ClassId) (cI : ClassId) (q0 : Nat) (qw : Nat) (qr : Nat) (qc : Nat) (qn : Nat) (qo : Nat) (g0 : Nat) (gm : Nat) (gc : Nat) (gn : Nat) (w : Nat → Int64) (tb : Int64) (su : Bool) (mx : Bool) (cf : Nat → Int32) (nu : Nat → Int64) (cd : Int32) (fr : Int64) (tt : Int64) (ov : Nat → Int64) (j : Nat) (hj : 6 * j + 6 ≤ L) (hK : va_K (dC, dI) vwCl [(cL, .long), (cI, .int)] s) (kk : (∀ (w : Nat → Int64) (tb : Int64) (su : Bool) (mx : Bool) (cf : Nat → Int32) (nu : Nat → Int64) (cd : Int32) (fr : Int64) (tt : Int64) (ov : Nat → Int64) (H : Heap) (locs : List Loc) (ls : Array Slot), okC cf → okN nu → va_P (dC, dI) vwCl (wLW cL cI q0 qw qr qc qn qo g0 gm gc gn w tb su mx cf nu cd fr tt ov) H → va_D A (wLW cL cI q0 qw qr qc qn qo g0 gm gc gn w tb su mx cf nu cd fr tt ov) → va_S A s.heap H locs → lv_has ls 8 [(0, .ref b), (1, .ref q0), (2, .ref g0), (3, .ref qo), (4, .int (nI (6 * j)))] → W p l e room_1 s m #[Value.ref b] below meth c H locs (10 + (j + 1)) (16433 + 6 * (j + 1)) (lw_Z below #[Value.ref b] s) (F0 m 921 ls []))) (H : Heap) (locs : List Loc) (ls : Array Slot) (hc : okC cf) (hn : okN nu) (hP : va_P (dC, dI) vwCl (wLW cL cI q0 qw qr qc qn qo g0 gm gc gn w tb su mx cf nu cd fr tt ov) H) (hD : va_D A (wLW cL cI q0 qw qr qc qn qo g0 gm gc gn w tb su mx cf nu cd fr tt ov)) (hS : va_S A s.heap H locs) (hl : lv_has ls 8 [(0, .ref b), (1, .ref q0), (2, .ref g0), (3, .ref qo), (4, .int (nI (6 * j)))]) : W p l e room_1 s m #[Value.ref b] below meth c H locs (10 + j) (16433 + 6 * j) (lw_Z below #[Value.ref b] s) (F0 m 779 ls []) := by
  obtain ⟨hx, hb, hr, hml, hown, hts, hX, hbl, hlocks, hgv⟩ := id C0
  have hbA : ¬ A b := fun h => absurd (hA2 b h) (Nat.not_le.mpr hbl)
  have hP : va_P (dC, dI) vwCl [(qo, .inl (cL, 1, .inr (.inl ov))), (q0, .inr (1, [.ref qw, .ref qr, .long tb, .int (b2i su), .int (b2i mx)])), (qw, .inl (cL, 8192, .inr (.inl w))), (qr, .inr (0, [.ref qc, .ref qn])), (qc, .inl (cI, 8, .inl cf)), (qn, .inl (cL, 8, .inr (.inl nu))), (g0, .inr (2, [.int cd, .ref gm, .long tb, .int (b2i su), .int (b2i mx), .ref gc, .ref gn, .long fr, .long tt])), (gm, .inl (cL, 8192, .inr (.inl w))), (gc, .inl (cI, 8, .inl cf)), (gn, .inl (cL, 8, .inr (.inl nu)))] H := hP
  have hD : va_D A [(qo, .inl (cL, 1, .inr (.inl ov))), (q0, .inr (1, [.ref qw, .ref qr, .long tb, .int (b2i su), .int (b2i mx)])), (qw, .inl (cL, 8192, .inr (.inl w))), (qr, .inr (0, [.ref qc, .ref qn])), (qc, .inl (cI, 8, .inl cf)), (qn, .inl (cL, 8, .inr (.inl nu))), (g0, .inr (2, [.int cd, .ref gm, .long tb, .int (b2i su), .int (b2i mx), .ref gc, .ref gn, .long fr, .long tt])), (gm, .inl (cL, 8192, .inr (.inl w))), (gc, .inl (cI, 8, .inl cf)), (gn, .inl (cL, 8, .inr (.inl nu)))] := hD
  by_cases hi : k_isAccess (mkL (xs (6 * j + 1)) (xs (6 * j + 2))) (xs (6 * j + 3)) (xs (6 * j + 4)) (xs (6 * j + 5)) = true ∧ k_isPhysical (mkL (xs (6 * j + 1)) (xs (6 * j + 2))) = true
  · obtain ⟨hi, hp⟩ := hi
    obtain ⟨sn, hsn, es⟩ := acc_size hi
    rw [es] at hi
    obtain ⟨ha1, ha2, ha3, ha4⟩ := acc_parts hi
    refine lv_aload_n hx hb dL_law_779 rfl (lv_at hl 1 rfl) ?_
    refine lv_aload_n hx hb dL_law_780 rfl (lv_at hl 0 rfl) ?_
    refine lv_iload hx hb dL_law_781 (lv_at hl 4 rfl) ?_
    refine lv_iconst (v := 1) hx hb dL_law_783 (by decide) ?_
    refine lv_iadd hx hb dL_law_784 ?_
    rw [sc_ix j 1 1 rfl]
    refine va_sld hx hb hX hbl hbA hS (vp_in_nI (show 6 * j + 1 < L by omega) (by omega)) dL_law_785 ?_
    rw [nI_clamp (show 6 * j + 1 < 2 ^ 31 by omega)]
    refine lv_i2l (v := Int32.toInt64 (xs (6 * j + 1))) hx hb dL_law_786 rfl ?_
    refine lv_bipush (v := 32) hx hb dL_law_787 (by decide) ?_
    refine lv_lshl (v := (k_shl (Int32.toInt64 (xs (6 * j + 1))) 32)) hx hb dL_law_789 rfl ?_
    refine lv_aload_n hx hb dL_law_790 rfl (lv_at hl 0 rfl) ?_
    refine lv_iload hx hb dL_law_791 (lv_at hl 4 rfl) ?_
    refine lv_iconst (v := 2) hx hb dL_law_793 (by decide) ?_
    refine lv_iadd hx hb dL_law_794 ?_
    rw [sc_ix j 2 2 rfl]
    refine va_sld hx hb hX hbl hbA hS (vp_in_nI (show 6 * j + 2 < L by omega) (by omega)) dL_law_795 ?_
    rw [nI_clamp (show 6 * j + 2 < 2 ^ 31 by omega)]
    refine lv_i2l (v := Int32.toInt64 (xs (6 * j + 2))) hx hb dL_law_796 rfl ?_
    refine lv_ldc2 (v := 4294967295) hx hb hown (hts (.constantLong RL 45 4294967295) (List.mem_of_getElem? (i := 514) (by decide +kernel))) dL_law_797 ?_
    refine lv_land hx hb dL_law_800 ?_
    refine lv_lor hx hb dL_law_801 ?_
    refine lv_aload_n hx hb dL_law_802 rfl (lv_at hl 0 rfl) ?_
    refine lv_iload hx hb dL_law_803 (lv_at hl 4 rfl) ?_
    refine lv_iconst (v := 3) hx hb dL_law_805 (by decide) ?_
    refine lv_iadd hx hb dL_law_806 ?_
    rw [sc_ix j 3 3 rfl]
    refine va_sld hx hb hX hbl hbA hS (vp_in_nI (show 6 * j + 3 < L by omega) (by omega)) dL_law_807 ?_
    rw [nI_clamp (show 6 * j + 3 < 2 ^ 31 by omega)]
    refine lv_aload_n hx hb dL_law_808 rfl (lv_at hl 0 rfl) ?_
    refine lv_iload hx hb dL_law_809 (lv_at hl 4 rfl) ?_
    refine lv_iconst (v := 4) hx hb dL_law_811 (by decide) ?_
    refine lv_iadd hx hb dL_law_812 ?_
    rw [sc_ix j 4 4 rfl]
    refine va_sld hx hb hX hbl hbA hS (vp_in_nI (show 6 * j + 4 < L by omega) (by omega)) dL_law_813 ?_
    rw [nI_clamp (show 6 * j + 4 < 2 ^ 31 by omega)]
    refine lv_aload_n hx hb dL_law_814 rfl (lv_at hl 0 rfl) ?_
    refine lv_iload hx hb dL_law_815 (lv_at hl 4 rfl) ?_
    refine lv_iconst (v := 5) hx hb dL_law_817 (by decide) ?_
    refine lv_iadd hx hb dL_law_818 ?_
    rw [sc_ix j 5 5 rfl]
    refine va_sld hx hb hX hbl hbA hS (vp_in_nI (show 6 * j + 5 < L by omega) (by omega)) dL_law_819 ?_
    rw [nI_clamp (show 6 * j + 5 < 2 ^ 31 by omega)]
    rw [es]
    refine lv_aload_n hx hb dL_law_820 rfl (lv_at hl 3 rfl) ?_
    have hPc := hP.sub (ws' := (wHO cL cI q0 qw qr qc qn w tb su mx cf nu qo ov)) [0, 1, 2, 3, 4, 5] rfl
    have hDc := hD.sub (ws' := (wHO cL cI q0 qw qr qc qn w tb su mx cf nu qo ov)) [0, 1, 2, 3, 4, 5] (by decide) rfl
    have hFc := va_free (wc := (wHO cL cI q0 qw qr qc qn w tb su mx cf nu qo ov)) hD hS hA [0, 1, 2, 3, 4, 5] rfl
    refine va_calli (vx_runSW (As := [.ref q0, .long (mkL (xs (6 * j + 1)) (xs (6 * j + 2))), .int (xs (6 * j + 3)), .int (xs (6 * j + 4)), .int (nI sn), .ref qo]) (rest := []) ⟨hx, hb, hml, hown, hts⟩ (mtL_allows l dC dI cL cI q0 qw qr qc qn w tb su mx cf nu qo ov H.size (mkL (xs (6 * j + 1)) (xs (6 * j + 2))) (xs (6 * j + 3)) (xs (6 * j + 4)) (nI sn) hi hp) (vx_cwSW 6 hts (gTbl (mc1 (List.mem_of_getElem? (i := 341) (by decide +kernel)) (mc1 (List.mem_of_getElem? (i := 342) (by decide +kernel)) (mc1 (List.mem_of_getElem? (i := 14) (by decide +kernel)) mc0))) (List.mem_of_getElem? (i := 343) (by decide +kernel)) (by decide +kernel)) rfl rfl rfl (by decide +kernel) ⟨Nat.le_of_ble_eq_true rfl, Nat.le_of_ble_eq_true rfl⟩) (hl_pre hK hPc hDc) rfl rfl hl.1 rfl (lv_room (Nat.le_of_ble_eq_true rfl)) dL_law_821 ⟨(show 10 + j + 0 ≤ 1041 by omega), (show 16433 + 6 * j + 0 ≤ 24667 by omega)⟩) hS (fun q _ h => hFc q h) hFc (fun r_1 u t H1 locs ht hvm hpo hB hz1 hk1 hS => ?_)
    obtain ⟨hP1, hK1, hD1⟩ := hB
    rw [ht] at hP1
    obtain ⟨hP, hD⟩ := va_join (wr := [(g0, .inr (2, [.int cd, .ref gm, .long tb, .int (b2i su), .int (b2i mx), .ref gc, .ref gn, .long fr, .long tt])), (gm, .inl (cL, 8192, .inr (.inl w))), (gc, .inl (cI, 8, .inl cf)), (gn, .inl (cL, 8, .inr (.inl nu)))]) (w1 := (wHO cL cI q0 qw qr qc qn w tb su mx cf nu qo (vp_updL ov 0 (if k_let cf nu (mkL (xs (6 * j + 1)) (xs (6 * j + 2))) (xs (6 * j + 3)) (xs (6 * j + 4)) (nI sn) = true then 1 else 0)))) hP hD [0, 1, 2, 3, 4, 5] [6, 7, 8, 9] rfl rfl (by decide) (by decide) hk1 hFc hP1 hD1
    generalize H1 = H at hP hS ⊢
    have hP : va_P (dC, dI) vwCl [(g0, .inr (2, [.int cd, .ref gm, .long tb, .int (b2i su), .int (b2i mx), .ref gc, .ref gn, .long fr, .long tt])), (gm, .inl (cL, 8192, .inr (.inl w))), (gc, .inl (cI, 8, .inl cf)), (gn, .inl (cL, 8, .inr (.inl nu))), (qo, .inl (cL, 1, .inr (.inl (vp_updL ov 0 (if k_let cf nu (mkL (xs (6 * j + 1)) (xs (6 * j + 2))) (xs (6 * j + 3)) (xs (6 * j + 4)) (nI sn) = true then 1 else 0))))), (q0, .inr (1, [.ref qw, .ref qr, .long tb, .int (b2i su), .int (b2i mx)])), (qw, .inl (cL, 8192, .inr (.inl w))), (qr, .inr (0, [.ref qc, .ref qn])), (qc, .inl (cI, 8, .inl cf)), (qn, .inl (cL, 8, .inr (.inl nu)))] H := hP
    have hD : va_D A [(g0, .inr (2, [.int cd, .ref gm, .long tb, .int (b2i su), .int (b2i mx), .ref gc, .ref gn, .long fr, .long tt])), (gm, .inl (cL, 8192, .inr (.inl w))), (gc, .inl (cI, 8, .inl cf)), (gn, .inl (cL, 8, .inr (.inl nu))), (qo, .inl (cL, 1, .inr (.inl (vp_updL ov 0 (if k_let cf nu (mkL (xs (6 * j + 1)) (xs (6 * j + 2))) (xs (6 * j + 3)) (xs (6 * j + 4)) (nI sn) = true then 1 else 0))))), (q0, .inr (1, [.ref qw, .ref qr, .long tb, .int (b2i su), .int (b2i mx)])), (qw, .inl (cL, 8192, .inr (.inl w))), (qr, .inr (0, [.ref qc, .ref qn])), (qc, .inl (cI, 8, .inl cf)), (qn, .inl (cL, 8, .inr (.inl nu)))] := hD
    have er_1 : r_1 = 0 := hpo
    subst er_1
    refine lv_istore (lv' := [(5, .int 0), (0, .ref b), (1, .ref q0), (2, .ref g0), (3, .ref qo), (4, .int (nI (6 * j)))]) hx hb dL_law_824 hl (by decide) rfl (fun ls hl => ?_)
    refine lv_aload_n hx hb dL_law_826 rfl (lv_at hl 3 rfl) ?_
    refine lv_aload_n hx hb dL_law_827 rfl (lv_at hl 1 rfl) ?_
    refine lv_iload hx hb dL_law_828 (lv_at hl 5 rfl) ?_
    refine lv_iconst (v := 1) hx hb dL_law_830 (by decide) ?_
    refine lv_iadd hx hb dL_law_831 ?_
    rw [sc_ix j 1 1 rfl]
    refine va_sld hx hb hX hbl hbA hS (vp_in_nI (show 6 * j + 1 < L by omega) (by omega)) dL_law_832 ?_
    rw [nI_clamp (show 6 * j + 1 < 2 ^ 31 by omega)]
    refine lv_i2l (v := Int32.toInt64 (xs (6 * j + 1))) hx hb dL_law_833 rfl ?_
    refine lv_bipush (v := 32) hx hb dL_law_834 (by decide) ?_
    refine lv_lshl (v := (k_shl (Int32.toInt64 (xs (6 * j + 1))) 32)) hx hb dL_law_836 rfl ?_
    refine lv_aload_n hx hb dL_law_837 rfl (lv_at hl 1 rfl) ?_
    refine lv_iload hx hb dL_law_838 (lv_at hl 5 rfl) ?_
    refine lv_iconst (v := 2) hx hb dL_law_840 (by decide) ?_
    refine lv_iadd hx hb dL_law_841 ?_
    rw [sc_ix j 2 2 rfl]
    refine va_sld hx hb hX hbl hbA hS (vp_in_nI (show 6 * j + 2 < L by omega) (by omega)) dL_law_842 ?_
    rw [nI_clamp (show 6 * j + 2 < 2 ^ 31 by omega)]
    refine lv_i2l (v := Int32.toInt64 (xs (6 * j + 2))) hx hb dL_law_843 rfl ?_
    refine lv_ldc2 (v := 4294967295) hx hb hown (hts (.constantLong RL 45 4294967295) (List.mem_of_getElem? (i := 514) (by decide +kernel))) dL_law_844 ?_
    refine lv_land hx hb dL_law_847 ?_
    refine lv_lor hx hb dL_law_848 ?_
    refine lv_aload_n hx hb dL_law_849 rfl (lv_at hl 1 rfl) ?_
    refine lv_iload hx hb dL_law_850 (lv_at hl 5 rfl) ?_
    refine lv_iconst (v := 3) hx hb dL_law_852 (by decide) ?_
    refine lv_iadd hx hb dL_law_853 ?_
    rw [sc_ix j 3 3 rfl]
    refine va_sld hx hb hX hbl hbA hS (vp_in_nI (show 6 * j + 3 < L by omega) (by omega)) dL_law_854 ?_
    rw [nI_clamp (show 6 * j + 3 < 2 ^ 31 by omega)]
    refine lv_aload_n hx hb dL_law_855 rfl (lv_at hl 1 rfl) ?_
    refine lv_iload hx hb dL_law_856 (lv_at hl 5 rfl) ?_
    refine lv_iconst (v := 4) hx hb dL_law_858 (by decide) ?_
    refine lv_iadd hx hb dL_law_859 ?_
    rw [sc_ix j 4 4 rfl]
    refine va_sld hx hb hX hbl hbA hS (vp_in_nI (show 6 * j + 4 < L by omega) (by omega)) dL_law_860 ?_
    rw [nI_clamp (show 6 * j + 4 < 2 ^ 31 by omega)]
    refine lv_aload_n hx hb dL_law_861 rfl (lv_at hl 1 rfl) ?_
    refine lv_iload hx hb dL_law_862 (lv_at hl 5 rfl) ?_
    refine lv_iconst (v := 5) hx hb dL_law_864 (by decide) ?_
    refine lv_iadd hx hb dL_law_865 ?_
    rw [sc_ix j 5 5 rfl]
    refine va_sld hx hb hX hbl hbA hS (vp_in_nI (show 6 * j + 5 < L by omega) (by omega)) dL_law_866 ?_
    rw [nI_clamp (show 6 * j + 5 < 2 ^ 31 by omega)]
    rw [es]
    have hPc := hP.sub (ws' := (wMD cL cI g0 gm gc gn cd w tb su mx cf nu fr tt)) [0, 1, 2, 3] rfl
    have hDc := hD.sub (ws' := (wMD cL cI g0 gm gc gn cd w tb su mx cf nu fr tt)) [0, 1, 2, 3] (by decide) rfl
    have hFc := va_free (wc := (wMD cL cI g0 gm gc gn cd w tb su mx cf nu fr tt)) hD hS hA [0, 1, 2, 3] rfl
    refine va_calli (va_runV (As := [.long (mkL (xs (6 * j + 1)) (xs (6 * j + 2))), .int (xs (6 * j + 3)), .int (xs (6 * j + 4)), .int (nI sn)]) (rest := []) ⟨hx, hb, hml, hown, hts⟩ (mtX2_allows l dC dI cL cI g0 gm gc gn cd w tb su mx cf nu fr tt H.size (mkL (xs (6 * j + 1)) (xs (6 * j + 2))) (xs (6 * j + 3)) (xs (6 * j + 4)) sn (ha1) (ha2) (of_decide_eq_true hp) (hsn) (hn) (hc)) (cwV 4 hts (gTbl (mc1 (List.mem_of_getElem? (i := 446) (by decide +kernel)) (mc1 (List.mem_of_getElem? (i := 447) (by decide +kernel)) (mc1 (List.mem_of_getElem? (i := 448) (by decide +kernel)) (mc1 (List.mem_of_getElem? (i := 17) (by decide +kernel)) mc0)))) (List.mem_of_getElem? (i := 449) (by decide +kernel)) (by decide +kernel)) rfl rfl rfl (by decide +kernel) ⟨Nat.le_of_ble_eq_true rfl, Nat.le_of_ble_eq_true rfl⟩) (mu_pre (ci := 2) (q0 := 0) hK hPc hDc rfl rfl) rfl rfl hl.1 rfl (lv_room (Nat.le_of_ble_eq_true rfl)) dL_law_867 ⟨(show 10 + j + 0 + 0 ≤ 1041 by omega), (show 16433 + 6 * j + 0 + 0 ≤ 24667 by omega)⟩) hS (fun q _ h => hFc q h) hFc (fun v_2 r_2 t H1 locs ht hvm hpo hB hz1 hk1 hS => ?_)
    obtain ⟨hP1, hK1, hD1⟩ := hB
    rw [ht] at hP1
    obtain ⟨hP, hD⟩ := va_join (wr := [(qo, .inl (cL, 1, .inr (.inl (vp_updL ov 0 (if k_let cf nu (mkL (xs (6 * j + 1)) (xs (6 * j + 2))) (xs (6 * j + 3)) (xs (6 * j + 4)) (nI sn) = true then 1 else 0))))), (q0, .inr (1, [.ref qw, .ref qr, .long tb, .int (b2i su), .int (b2i mx)])), (qw, .inl (cL, 8192, .inr (.inl w))), (qr, .inr (0, [.ref qc, .ref qn])), (qc, .inl (cI, 8, .inl cf)), (qn, .inl (cL, 8, .inr (.inl nu)))]) (w1 := (wMD cL cI g0 gm gc gn (0) w tb su mx cf nu r_2.1 r_2.2)) hP hD [0, 1, 2, 3] [4, 5, 6, 7, 8, 9] rfl rfl (by decide) (by decide) hk1 hFc hP1 hD1
    generalize H1 = H at hP hS ⊢
    have hP : va_P (dC, dI) vwCl [(qo, .inl (cL, 1, .inr (.inl (vp_updL ov 0 (if k_let cf nu (mkL (xs (6 * j + 1)) (xs (6 * j + 2))) (xs (6 * j + 3)) (xs (6 * j + 4)) (nI sn) = true then 1 else 0))))), (q0, .inr (1, [.ref qw, .ref qr, .long tb, .int (b2i su), .int (b2i mx)])), (qw, .inl (cL, 8192, .inr (.inl w))), (qr, .inr (0, [.ref qc, .ref qn])), (qc, .inl (cI, 8, .inl cf)), (qn, .inl (cL, 8, .inr (.inl nu))), (g0, .inr (2, [.int (0), .ref gm, .long tb, .int (b2i su), .int (b2i mx), .ref gc, .ref gn, .long r_2.1, .long r_2.2])), (gm, .inl (cL, 8192, .inr (.inl w))), (gc, .inl (cI, 8, .inl cf)), (gn, .inl (cL, 8, .inr (.inl nu)))] H := hP
    have hD : va_D A [(qo, .inl (cL, 1, .inr (.inl (vp_updL ov 0 (if k_let cf nu (mkL (xs (6 * j + 1)) (xs (6 * j + 2))) (xs (6 * j + 3)) (xs (6 * j + 4)) (nI sn) = true then 1 else 0))))), (q0, .inr (1, [.ref qw, .ref qr, .long tb, .int (b2i su), .int (b2i mx)])), (qw, .inl (cL, 8192, .inr (.inl w))), (qr, .inr (0, [.ref qc, .ref qn])), (qc, .inl (cI, 8, .inl cf)), (qn, .inl (cL, 8, .inr (.inl nu))), (g0, .inr (2, [.int (0), .ref gm, .long tb, .int (b2i su), .int (b2i mx), .ref gc, .ref gn, .long r_2.1, .long r_2.2])), (gm, .inl (cL, 8192, .inr (.inl w))), (gc, .inl (cI, 8, .inl cf)), (gn, .inl (cL, 8, .inr (.inl nu)))] := hD
    have ev_2 : v_2 = (b2i (k_let cf nu (mkL (xs (6 * j + 1)) (xs (6 * j + 2))) (xs (6 * j + 3)) (xs (6 * j + 4)) (nI sn))) := hpo
    subst ev_2
    refine lv_istore (lv' := [(6, .int (b2i (k_let cf nu (mkL (xs (6 * j + 1)) (xs (6 * j + 2))) (xs (6 * j + 3)) (xs (6 * j + 4)) (nI sn)))), (5, .int 0), (0, .ref b), (1, .ref q0), (2, .ref g0), (3, .ref qo), (4, .int (nI (6 * j)))]) hx hb dL_law_870 hl (by decide) rfl (fun ls hl => ?_)
    refine lv_aload_n hx hb dL_law_872 rfl (lv_at hl 4 rfl) ?_
    refine vp_callSi (W.runV (As := []) (rest := []) ⟨hx, hb, hml, hown, hts⟩ (mtX2_thrown l dC dI cL cI g0 gm gc gn (0) w tb su mx cf nu r_2.1 r_2.2  ) (cwV 0 hts (gTbl (mc1 (List.mem_of_getElem? (i := 383) (by decide +kernel)) (mc1 (List.mem_of_getElem? (i := 384) (by decide +kernel)) (mc1 (List.mem_of_getElem? (i := 385) (by decide +kernel)) (mc1 (List.mem_of_getElem? (i := 17) (by decide +kernel)) mc0)))) (List.mem_of_getElem? (i := 386) (by decide +kernel)) (by decide +kernel)) rfl rfl rfl (by decide +kernel) ⟨Nat.le_of_ble_eq_true rfl, Nat.le_of_ble_eq_true rfl⟩) (rd_pre (ci := 2) (q0 := 0) hK (hP.sub (ws' := (wMD cL cI g0 gm gc gn (0) w tb su mx cf nu r_2.1 r_2.2)) [6, 7, 8, 9] rfl) rfl rfl) rfl rfl hl.1 rfl (lv_room (Nat.le_of_ble_eq_true rfl)) dL_law_873 ⟨(show 10 + j + 0 + 0 ≤ 1041 by omega), (show 16433 + 6 * j + 0 + 0 ≤ 24667 by omega)⟩) (fun r_3 er_3 => ?_)
    have er_3 : r_3 = (0) := er_3
    subst er_3
    refine lv_iload hx hb dL_law_876 (lv_at hl 1 rfl) ?_
    refine lv_icmp_eq (tgt := 883) hx hb dL_law_878 (by decide) (fun c_4 => ?_) (fun c_4 => ?_)
    · refine lv_iload hx hb dL_law_883 (lv_at hl 1 rfl) ?_
      refine lv_if_ne (tgt := 907) hx hb dL_law_885 (by decide) (fun c_5 => ?_) (fun c_5 => ?_)
      · first | exact absurd c_5 (by decide) | exact absurd (by decide) c_5
      · refine lv_aload_n hx hb dL_law_888 rfl (lv_at hl 5 rfl) ?_
        refine lv_iconst (v := 0) hx hb dL_law_889 (by decide) ?_
        refine va_lald hx hb hK hP 0 0 rfl rfl (pk_in 0 1 (by decide)) dL_law_890 ?_
        rw [sb_cl0]
        refine lv_iload hx hb dL_law_891 (lv_at hl 0 rfl) ?_
        refine lv_if_eq (tgt := 900) hx hb dL_law_893 (by decide) (fun c_6 => ?_) (fun c_6 => ?_)
        · rw [b2i_z] at c_6
          refine lv_lconst (v := 0) hx hb dL_law_900 (by decide) ?_
          refine W.lcmp hx hb dL_law_901 ?_
          refine lv_if_eq (tgt := 907) hx hb dL_law_902 (by decide) (fun c_7 => ?_) (fun c_7 => ?_)
          · rw [lg_cmp_eq] at c_7
            refine lv_goto (tgt := 921) hx hb dL_law_907 (by decide) ?_
            refine W.widen (k := 10 + (j + 1)) (n := 16433 + 6 * (j + 1)) (by omega) (by omega) ?_
            exact kk w tb su mx cf nu (0) r_2.1 r_2.2 (vp_updL ov 0 (if k_let cf nu (mkL (xs (6 * j + 1)) (xs (6 * j + 2))) (xs (6 * j + 3)) (xs (6 * j + 4)) (nI sn) = true then 1 else 0)) _ _ ls (hc) (hn) (hP.sub (ws' := (wLW cL cI q0 qw qr qc qn qo g0 gm gc gn w tb su mx cf nu (0) r_2.1 r_2.2 (vp_updL ov 0 (if k_let cf nu (mkL (xs (6 * j + 1)) (xs (6 * j + 2))) (xs (6 * j + 3)) (xs (6 * j + 4)) (nI sn) = true then 1 else 0)))) [0, 1, 2, 3, 4, 5, 6, 7, 8, 9] rfl) (hD.sub (ws' := (wLW cL cI q0 qw qr qc qn qo g0 gm gc gn w tb su mx cf nu (0) r_2.1 r_2.2 (vp_updL ov 0 (if k_let cf nu (mkL (xs (6 * j + 1)) (xs (6 * j + 2))) (xs (6 * j + 3)) (xs (6 * j + 4)) (nI sn) = true then 1 else 0)))) [0, 1, 2, 3, 4, 5, 6, 7, 8, 9] (by decide) rfl) hS (lv_sub hl [2, 3, 4, 5, 6] rfl)
          · rw [lg_cmp_eq] at c_7
            exact absurd (by rw [pk_uLs]; simp [c_6]) c_7
        · rw [b2i_z] at c_6
          rw [Bool.not_eq_false] at c_6
          refine lv_lconst (v := 1) hx hb dL_law_896 (by decide) ?_
          refine lv_goto (tgt := 901) hx hb dL_law_897 (by decide) ?_
          refine W.lcmp hx hb dL_law_901 ?_
          refine lv_if_eq (tgt := 907) hx hb dL_law_902 (by decide) (fun c_8 => ?_) (fun c_8 => ?_)
          · rw [lg_cmp_eq] at c_8
            refine lv_goto (tgt := 921) hx hb dL_law_907 (by decide) ?_
            refine W.widen (k := 10 + (j + 1)) (n := 16433 + 6 * (j + 1)) (by omega) (by omega) ?_
            exact kk w tb su mx cf nu (0) r_2.1 r_2.2 (vp_updL ov 0 (if k_let cf nu (mkL (xs (6 * j + 1)) (xs (6 * j + 2))) (xs (6 * j + 3)) (xs (6 * j + 4)) (nI sn) = true then 1 else 0)) _ _ ls (hc) (hn) (hP.sub (ws' := (wLW cL cI q0 qw qr qc qn qo g0 gm gc gn w tb su mx cf nu (0) r_2.1 r_2.2 (vp_updL ov 0 (if k_let cf nu (mkL (xs (6 * j + 1)) (xs (6 * j + 2))) (xs (6 * j + 3)) (xs (6 * j + 4)) (nI sn) = true then 1 else 0)))) [0, 1, 2, 3, 4, 5, 6, 7, 8, 9] rfl) (hD.sub (ws' := (wLW cL cI q0 qw qr qc qn qo g0 gm gc gn w tb su mx cf nu (0) r_2.1 r_2.2 (vp_updL ov 0 (if k_let cf nu (mkL (xs (6 * j + 1)) (xs (6 * j + 2))) (xs (6 * j + 3)) (xs (6 * j + 4)) (nI sn) = true then 1 else 0)))) [0, 1, 2, 3, 4, 5, 6, 7, 8, 9] (by decide) rfl) hS (lv_sub hl [2, 3, 4, 5, 6] rfl)
          · rw [lg_cmp_eq] at c_8
            exact absurd (by rw [pk_uLs]; simp [c_6]) c_8
    · first | exact absurd c_4 (by decide) | exact absurd (by decide) c_4
  · refine lv_aload_n hx hb dL_law_779 rfl (lv_at hl 1 rfl) ?_
    refine lv_aload_n hx hb dL_law_780 rfl (lv_at hl 0 rfl) ?_
    refine lv_iload hx hb dL_law_781 (lv_at hl 4 rfl) ?_
    refine lv_iconst (v := 1) hx hb dL_law_783 (by decide) ?_
    refine lv_iadd hx hb dL_law_784 ?_
    rw [sc_ix j 1 1 rfl]
    refine va_sld hx hb hX hbl hbA hS (vp_in_nI (show 6 * j + 1 < L by omega) (by omega)) dL_law_785 ?_
    rw [nI_clamp (show 6 * j + 1 < 2 ^ 31 by omega)]
    refine lv_i2l (v := Int32.toInt64 (xs (6 * j + 1))) hx hb dL_law_786 rfl ?_
    refine lv_bipush (v := 32) hx hb dL_law_787 (by decide) ?_
    refine lv_lshl (v := (k_shl (Int32.toInt64 (xs (6 * j + 1))) 32)) hx hb dL_law_789 rfl ?_
    refine lv_aload_n hx hb dL_law_790 rfl (lv_at hl 0 rfl) ?_
    refine lv_iload hx hb dL_law_791 (lv_at hl 4 rfl) ?_
    refine lv_iconst (v := 2) hx hb dL_law_793 (by decide) ?_
    refine lv_iadd hx hb dL_law_794 ?_
    rw [sc_ix j 2 2 rfl]
    refine va_sld hx hb hX hbl hbA hS (vp_in_nI (show 6 * j + 2 < L by omega) (by omega)) dL_law_795 ?_
    rw [nI_clamp (show 6 * j + 2 < 2 ^ 31 by omega)]
    refine lv_i2l (v := Int32.toInt64 (xs (6 * j + 2))) hx hb dL_law_796 rfl ?_
    refine lv_ldc2 (v := 4294967295) hx hb hown (hts (.constantLong RL 45 4294967295) (List.mem_of_getElem? (i := 514) (by decide +kernel))) dL_law_797 ?_
    refine lv_land hx hb dL_law_800 ?_
    refine lv_lor hx hb dL_law_801 ?_
    refine lv_aload_n hx hb dL_law_802 rfl (lv_at hl 0 rfl) ?_
    refine lv_iload hx hb dL_law_803 (lv_at hl 4 rfl) ?_
    refine lv_iconst (v := 3) hx hb dL_law_805 (by decide) ?_
    refine lv_iadd hx hb dL_law_806 ?_
    rw [sc_ix j 3 3 rfl]
    refine va_sld hx hb hX hbl hbA hS (vp_in_nI (show 6 * j + 3 < L by omega) (by omega)) dL_law_807 ?_
    rw [nI_clamp (show 6 * j + 3 < 2 ^ 31 by omega)]
    refine lv_aload_n hx hb dL_law_808 rfl (lv_at hl 0 rfl) ?_
    refine lv_iload hx hb dL_law_809 (lv_at hl 4 rfl) ?_
    refine lv_iconst (v := 4) hx hb dL_law_811 (by decide) ?_
    refine lv_iadd hx hb dL_law_812 ?_
    rw [sc_ix j 4 4 rfl]
    refine va_sld hx hb hX hbl hbA hS (vp_in_nI (show 6 * j + 4 < L by omega) (by omega)) dL_law_813 ?_
    rw [nI_clamp (show 6 * j + 4 < 2 ^ 31 by omega)]
    refine lv_aload_n hx hb dL_law_814 rfl (lv_at hl 0 rfl) ?_
    refine lv_iload hx hb dL_law_815 (lv_at hl 4 rfl) ?_
    refine lv_iconst (v := 5) hx hb dL_law_817 (by decide) ?_
    refine lv_iadd hx hb dL_law_818 ?_
    rw [sc_ix j 5 5 rfl]
    refine va_sld hx hb hX hbl hbA hS (vp_in_nI (show 6 * j + 5 < L by omega) (by omega)) dL_law_819 ?_
    rw [nI_clamp (show 6 * j + 5 < 2 ^ 31 by omega)]
    refine lv_aload_n hx hb dL_law_820 rfl (lv_at hl 3 rfl) ?_
    have hPc := hP.sub (ws' := (wHO cL cI q0 qw qr qc qn w tb su mx cf nu qo ov)) [0, 1, 2, 3, 4, 5] rfl
    have hDc := hD.sub (ws' := (wHO cL cI q0 qw qr qc qn w tb su mx cf nu qo ov)) [0, 1, 2, 3, 4, 5] (by decide) rfl
    have hFc := va_free (wc := (wHO cL cI q0 qw qr qc qn w tb su mx cf nu qo ov)) hD hS hA [0, 1, 2, 3, 4, 5] rfl
    refine va_calli (vx_runSW (As := [.ref q0, .long (mkL (xs (6 * j + 1)) (xs (6 * j + 2))), .int (xs (6 * j + 3)), .int (xs (6 * j + 4)), .int (xs (6 * j + 5)), .ref qo]) (rest := []) ⟨hx, hb, hml, hown, hts⟩ (mtL_allows_no l hl0 dC dI cL cI q0 qw qr qc qn w tb su mx cf nu qo ov H.size sa86 (mkL (xs (6 * j + 1)) (xs (6 * j + 2))) (xs (6 * j + 3)) (xs (6 * j + 4)) (xs (6 * j + 5)) hi) (vx_cwSW 6 hts (gTbl (mc1 (List.mem_of_getElem? (i := 341) (by decide +kernel)) (mc1 (List.mem_of_getElem? (i := 342) (by decide +kernel)) (mc1 (List.mem_of_getElem? (i := 14) (by decide +kernel)) mc0))) (List.mem_of_getElem? (i := 343) (by decide +kernel)) (by decide +kernel)) rfl rfl rfl (by decide +kernel) ⟨Nat.le_of_ble_eq_true rfl, Nat.le_of_ble_eq_true rfl⟩) (hl_preX hK hPc hDc hX86 hS (fun q h => hFc q h)) rfl rfl hl.1 rfl (lv_room (Nat.le_of_ble_eq_true rfl)) dL_law_821 ⟨(show 10 + j + 1 ≤ 1041 by omega), (show 16433 + 6 * j + 6 ≤ 24667 by omega)⟩) hS (fun q _ h => hFc q h) hFc (fun r_9 u t H1 locs ht hvm hpo hB hz1 hk1 hS => ?_)
    obtain ⟨hP1, hK1, hD1⟩ := hB
    rw [ht] at hP1
    obtain ⟨hP, hD⟩ := va_join (wr := [(g0, .inr (2, [.int cd, .ref gm, .long tb, .int (b2i su), .int (b2i mx), .ref gc, .ref gn, .long fr, .long tt])), (gm, .inl (cL, 8192, .inr (.inl w))), (gc, .inl (cI, 8, .inl cf)), (gn, .inl (cL, 8, .inr (.inl nu)))]) (w1 := (wHO cL cI q0 qw qr qc qn w tb su mx cf nu qo ov)) hP hD [0, 1, 2, 3, 4, 5] [6, 7, 8, 9] rfl rfl (by decide) (by decide) hk1 hFc hP1 hD1
    generalize H1 = H at hP hS ⊢
    have hP : va_P (dC, dI) vwCl [(g0, .inr (2, [.int cd, .ref gm, .long tb, .int (b2i su), .int (b2i mx), .ref gc, .ref gn, .long fr, .long tt])), (gm, .inl (cL, 8192, .inr (.inl w))), (gc, .inl (cI, 8, .inl cf)), (gn, .inl (cL, 8, .inr (.inl nu))), (qo, .inl (cL, 1, .inr (.inl ov))), (q0, .inr (1, [.ref qw, .ref qr, .long tb, .int (b2i su), .int (b2i mx)])), (qw, .inl (cL, 8192, .inr (.inl w))), (qr, .inr (0, [.ref qc, .ref qn])), (qc, .inl (cI, 8, .inl cf)), (qn, .inl (cL, 8, .inr (.inl nu)))] H := hP
    have hD : va_D A [(g0, .inr (2, [.int cd, .ref gm, .long tb, .int (b2i su), .int (b2i mx), .ref gc, .ref gn, .long fr, .long tt])), (gm, .inl (cL, 8192, .inr (.inl w))), (gc, .inl (cI, 8, .inl cf)), (gn, .inl (cL, 8, .inr (.inl nu))), (qo, .inl (cL, 1, .inr (.inl ov))), (q0, .inr (1, [.ref qw, .ref qr, .long tb, .int (b2i su), .int (b2i mx)])), (qw, .inl (cL, 8192, .inr (.inl w))), (qr, .inr (0, [.ref qc, .ref qn])), (qc, .inl (cI, 8, .inl cf)), (qn, .inl (cL, 8, .inr (.inl nu)))] := hD
    have er_9 : r_9 = 1 := hpo
    subst er_9
    refine lv_istore (lv' := [(5, .int 1), (0, .ref b), (1, .ref q0), (2, .ref g0), (3, .ref qo), (4, .int (nI (6 * j)))]) hx hb dL_law_824 hl (by decide) rfl (fun ls hl => ?_)
    refine lv_aload_n hx hb dL_law_826 rfl (lv_at hl 3 rfl) ?_
    refine lv_aload_n hx hb dL_law_827 rfl (lv_at hl 1 rfl) ?_
    refine lv_iload hx hb dL_law_828 (lv_at hl 5 rfl) ?_
    refine lv_iconst (v := 1) hx hb dL_law_830 (by decide) ?_
    refine lv_iadd hx hb dL_law_831 ?_
    rw [sc_ix j 1 1 rfl]
    refine va_sld hx hb hX hbl hbA hS (vp_in_nI (show 6 * j + 1 < L by omega) (by omega)) dL_law_832 ?_
    rw [nI_clamp (show 6 * j + 1 < 2 ^ 31 by omega)]
    refine lv_i2l (v := Int32.toInt64 (xs (6 * j + 1))) hx hb dL_law_833 rfl ?_
    refine lv_bipush (v := 32) hx hb dL_law_834 (by decide) ?_
    refine lv_lshl (v := (k_shl (Int32.toInt64 (xs (6 * j + 1))) 32)) hx hb dL_law_836 rfl ?_
    refine lv_aload_n hx hb dL_law_837 rfl (lv_at hl 1 rfl) ?_
    refine lv_iload hx hb dL_law_838 (lv_at hl 5 rfl) ?_
    refine lv_iconst (v := 2) hx hb dL_law_840 (by decide) ?_
    refine lv_iadd hx hb dL_law_841 ?_
    rw [sc_ix j 2 2 rfl]
    refine va_sld hx hb hX hbl hbA hS (vp_in_nI (show 6 * j + 2 < L by omega) (by omega)) dL_law_842 ?_
    rw [nI_clamp (show 6 * j + 2 < 2 ^ 31 by omega)]
    refine lv_i2l (v := Int32.toInt64 (xs (6 * j + 2))) hx hb dL_law_843 rfl ?_
    refine lv_ldc2 (v := 4294967295) hx hb hown (hts (.constantLong RL 45 4294967295) (List.mem_of_getElem? (i := 514) (by decide +kernel))) dL_law_844 ?_
    refine lv_land hx hb dL_law_847 ?_
    refine lv_lor hx hb dL_law_848 ?_
    refine lv_aload_n hx hb dL_law_849 rfl (lv_at hl 1 rfl) ?_
    refine lv_iload hx hb dL_law_850 (lv_at hl 5 rfl) ?_
    refine lv_iconst (v := 3) hx hb dL_law_852 (by decide) ?_
    refine lv_iadd hx hb dL_law_853 ?_
    rw [sc_ix j 3 3 rfl]
    refine va_sld hx hb hX hbl hbA hS (vp_in_nI (show 6 * j + 3 < L by omega) (by omega)) dL_law_854 ?_
    rw [nI_clamp (show 6 * j + 3 < 2 ^ 31 by omega)]
    refine lv_aload_n hx hb dL_law_855 rfl (lv_at hl 1 rfl) ?_
    refine lv_iload hx hb dL_law_856 (lv_at hl 5 rfl) ?_
    refine lv_iconst (v := 4) hx hb dL_law_858 (by decide) ?_
    refine lv_iadd hx hb dL_law_859 ?_
    rw [sc_ix j 4 4 rfl]
    refine va_sld hx hb hX hbl hbA hS (vp_in_nI (show 6 * j + 4 < L by omega) (by omega)) dL_law_860 ?_
    rw [nI_clamp (show 6 * j + 4 < 2 ^ 31 by omega)]
    refine lv_aload_n hx hb dL_law_861 rfl (lv_at hl 1 rfl) ?_
    refine lv_iload hx hb dL_law_862 (lv_at hl 5 rfl) ?_
    refine lv_iconst (v := 5) hx hb dL_law_864 (by decide) ?_
    refine lv_iadd hx hb dL_law_865 ?_
    rw [sc_ix j 5 5 rfl]
    refine va_sld hx hb hX hbl hbA hS (vp_in_nI (show 6 * j + 5 < L by omega) (by omega)) dL_law_866 ?_
    rw [nI_clamp (show 6 * j + 5 < 2 ^ 31 by omega)]
    have hPc := hP.sub (ws' := (wMD cL cI g0 gm gc gn cd w tb su mx cf nu fr tt)) [0, 1, 2, 3] rfl
    have hDc := hD.sub (ws' := (wMD cL cI g0 gm gc gn cd w tb su mx cf nu fr tt)) [0, 1, 2, 3] (by decide) rfl
    have hFc := va_free (wc := (wMD cL cI g0 gm gc gn cd w tb su mx cf nu fr tt)) hD hS hA [0, 1, 2, 3] rfl
    refine va_calli (va_runV (As := [.long (mkL (xs (6 * j + 1)) (xs (6 * j + 2))), .int (xs (6 * j + 3)), .int (xs (6 * j + 4)), .int (xs (6 * j + 5))]) (rest := []) ⟨hx, hb, hml, hown, hts⟩ (mtX2_allows_no l dC dI cL cI g0 gm gc gn cd w tb su mx cf nu fr tt H.size (mkL (xs (6 * j + 1)) (xs (6 * j + 2))) (xs (6 * j + 3)) (xs (6 * j + 4)) (xs (6 * j + 5)) (acc_no2 hi)) (cwV 4 hts (gTbl (mc1 (List.mem_of_getElem? (i := 446) (by decide +kernel)) (mc1 (List.mem_of_getElem? (i := 447) (by decide +kernel)) (mc1 (List.mem_of_getElem? (i := 448) (by decide +kernel)) (mc1 (List.mem_of_getElem? (i := 17) (by decide +kernel)) mc0)))) (List.mem_of_getElem? (i := 449) (by decide +kernel)) (by decide +kernel)) rfl rfl rfl (by decide +kernel) ⟨Nat.le_of_ble_eq_true rfl, Nat.le_of_ble_eq_true rfl⟩) (mu_pre (ci := 2) (q0 := 0) hK hPc hDc rfl rfl) rfl rfl hl.1 rfl (lv_room (Nat.le_of_ble_eq_true rfl)) dL_law_867 ⟨(show 10 + j + 1 + 0 ≤ 1041 by omega), (show 16433 + 6 * j + 6 + 0 ≤ 24667 by omega)⟩) hS (fun q _ h => hFc q h) hFc (fun r_10 u t H1 locs ht hvm hpo hB hz1 hk1 hS => ?_)
    obtain ⟨hP1, hK1, hD1⟩ := hB
    rw [ht] at hP1
    obtain ⟨hP, hD⟩ := va_join (wr := [(qo, .inl (cL, 1, .inr (.inl ov))), (q0, .inr (1, [.ref qw, .ref qr, .long tb, .int (b2i su), .int (b2i mx)])), (qw, .inl (cL, 8192, .inr (.inl w))), (qr, .inr (0, [.ref qc, .ref qn])), (qc, .inl (cI, 8, .inl cf)), (qn, .inl (cL, 8, .inr (.inl nu)))]) (w1 := (wMD cL cI g0 gm gc gn (1) w tb su mx cf nu fr tt)) hP hD [0, 1, 2, 3] [4, 5, 6, 7, 8, 9] rfl rfl (by decide) (by decide) hk1 hFc hP1 hD1
    generalize H1 = H at hP hS ⊢
    have hP : va_P (dC, dI) vwCl [(qo, .inl (cL, 1, .inr (.inl ov))), (q0, .inr (1, [.ref qw, .ref qr, .long tb, .int (b2i su), .int (b2i mx)])), (qw, .inl (cL, 8192, .inr (.inl w))), (qr, .inr (0, [.ref qc, .ref qn])), (qc, .inl (cI, 8, .inl cf)), (qn, .inl (cL, 8, .inr (.inl nu))), (g0, .inr (2, [.int (1), .ref gm, .long tb, .int (b2i su), .int (b2i mx), .ref gc, .ref gn, .long fr, .long tt])), (gm, .inl (cL, 8192, .inr (.inl w))), (gc, .inl (cI, 8, .inl cf)), (gn, .inl (cL, 8, .inr (.inl nu)))] H := hP
    have hD : va_D A [(qo, .inl (cL, 1, .inr (.inl ov))), (q0, .inr (1, [.ref qw, .ref qr, .long tb, .int (b2i su), .int (b2i mx)])), (qw, .inl (cL, 8192, .inr (.inl w))), (qr, .inr (0, [.ref qc, .ref qn])), (qc, .inl (cI, 8, .inl cf)), (qn, .inl (cL, 8, .inr (.inl nu))), (g0, .inr (2, [.int (1), .ref gm, .long tb, .int (b2i su), .int (b2i mx), .ref gc, .ref gn, .long fr, .long tt])), (gm, .inl (cL, 8192, .inr (.inl w))), (gc, .inl (cI, 8, .inl cf)), (gn, .inl (cL, 8, .inr (.inl nu)))] := hD
    have er_10 : r_10 = (0) := hpo
    subst er_10
    refine lv_istore (lv' := [(6, .int (0)), (5, .int 1), (0, .ref b), (1, .ref q0), (2, .ref g0), (3, .ref qo), (4, .int (nI (6 * j)))]) hx hb dL_law_870 hl (by decide) rfl (fun ls hl => ?_)
    refine lv_aload_n hx hb dL_law_872 rfl (lv_at hl 4 rfl) ?_
    refine vp_callSi (W.runV (As := []) (rest := []) ⟨hx, hb, hml, hown, hts⟩ (mtX2_thrown l dC dI cL cI g0 gm gc gn (1) w tb su mx cf nu fr tt  ) (cwV 0 hts (gTbl (mc1 (List.mem_of_getElem? (i := 383) (by decide +kernel)) (mc1 (List.mem_of_getElem? (i := 384) (by decide +kernel)) (mc1 (List.mem_of_getElem? (i := 385) (by decide +kernel)) (mc1 (List.mem_of_getElem? (i := 17) (by decide +kernel)) mc0)))) (List.mem_of_getElem? (i := 386) (by decide +kernel)) (by decide +kernel)) rfl rfl rfl (by decide +kernel) ⟨Nat.le_of_ble_eq_true rfl, Nat.le_of_ble_eq_true rfl⟩) (rd_pre (ci := 2) (q0 := 0) hK (hP.sub (ws' := (wMD cL cI g0 gm gc gn (1) w tb su mx cf nu fr tt)) [6, 7, 8, 9] rfl) rfl rfl) rfl rfl hl.1 rfl (lv_room (Nat.le_of_ble_eq_true rfl)) dL_law_873 ⟨(show 10 + j + 1 + 0 ≤ 1041 by omega), (show 16433 + 6 * j + 6 + 0 ≤ 24667 by omega)⟩) (fun r_11 er_11 => ?_)
    have er_11 : r_11 = (1) := er_11
    subst er_11
    refine lv_iload hx hb dL_law_876 (lv_at hl 1 rfl) ?_
    refine lv_icmp_eq (tgt := 883) hx hb dL_law_878 (by decide) (fun c_12 => ?_) (fun c_12 => ?_)
    · refine lv_iload hx hb dL_law_883 (lv_at hl 1 rfl) ?_
      refine lv_if_ne (tgt := 907) hx hb dL_law_885 (by decide) (fun c_13 => ?_) (fun c_13 => ?_)
      · refine lv_goto (tgt := 921) hx hb dL_law_907 (by decide) ?_
        refine W.widen (k := 10 + (j + 1)) (n := 16433 + 6 * (j + 1)) (by omega) (by omega) ?_
        exact kk w tb su mx cf nu (1) fr tt ov _ _ ls (hc) (hn) (hP.sub (ws' := (wLW cL cI q0 qw qr qc qn qo g0 gm gc gn w tb su mx cf nu (1) fr tt ov)) [0, 1, 2, 3, 4, 5, 6, 7, 8, 9] rfl) (hD.sub (ws' := (wLW cL cI q0 qw qr qc qn qo g0 gm gc gn w tb su mx cf nu (1) fr tt ov)) [0, 1, 2, 3, 4, 5, 6, 7, 8, 9] (by decide) rfl) hS (lv_sub hl [2, 3, 4, 5, 6] rfl)
      · first | exact absurd c_13 (by decide) | exact absurd (by decide) c_13
    · first | exact absurd c_12 (by decide) | exact absurd (by decide) c_12
set_option maxHeartbeats 800000 in
set_option maxRecDepth 100000 in
theorem law_c11 {p : Program} {l : Launch} {e : Env} {s : State} {m : MethodId} {below : List Frame} {meth : Method} {c : Code} {b L : Nat} {xs : Nat → Int32} {A : Nat → Prop} (hl0 : l.stackTraces = false) (hL : L ≤ 3072) (C0 : lw_At p s m meth c b L xs) (hA : ∀ q, s.heap.size ≤ q → A q) (hA2 : ∀ q, A q → s.heap.size ≤ q) {sa37 : Nat} (hX37 : xR RX1 37 "no word of memory is there" sa37 xE1 A s) {sa47 : Nat} (hX47 : xR RX1 47 "the sort is none of 0, 8, 9" sa47 xE2 A s) {sa29 : Nat} (hX29 : xR RX0 29 "no such region" sa29 xE1 A s) {sa70 : Nat} (hX70 : xR RX1 70 "no such access" sa70 xE2 A s) {sa86 : Nat} (hX86 : xR RX1 86 "no such access, or no physical address" sa86 xE2 A s) (dC : Nat → ClassId) (dI : Nat → Nat → Nat) (cL : ClassId) (cI : ClassId) (q0 : Nat) (qw : Nat) (qr : Nat) (qc : Nat) (qn : Nat) (qo : Nat) (g0 : Nat) (gm : Nat) (gc : Nat) (gn : Nat) (w : Nat → Int64) (tb : Int64) (su : Bool) (mx : Bool) (cf : Nat → Int32) (nu : Nat → Int64) (cd : Int32) (fr : Int64) (tt : Int64) (ov : Nat → Int64) (j : Nat) (hj : 6 * j + 6 ≤ L) (hK : va_K (dC, dI) vwCl [(cL, .long), (cI, .int)] s) (kk : (∀ (w : Nat → Int64) (tb : Int64) (su : Bool) (mx : Bool) (cf : Nat → Int32) (nu : Nat → Int64) (cd : Int32) (fr : Int64) (tt : Int64) (ov : Nat → Int64) (H : Heap) (locs : List Loc) (ls : Array Slot), okC cf → okN nu → va_P (dC, dI) vwCl (wLW cL cI q0 qw qr qc qn qo g0 gm gc gn w tb su mx cf nu cd fr tt ov) H → va_D A (wLW cL cI q0 qw qr qc qn qo g0 gm gc gn w tb su mx cf nu cd fr tt ov) → va_S A s.heap H locs → lv_has ls 8 [(0, .ref b), (1, .ref q0), (2, .ref g0), (3, .ref qo), (4, .int (nI (6 * j)))] → W p l e room_1 s m #[Value.ref b] below meth c H locs (10 + (j + 1)) (16433 + 6 * (j + 1)) (lw_Z below #[Value.ref b] s) (F0 m 921 ls []))) (H : Heap) (locs : List Loc) (ls : Array Slot) (hc : okC cf) (hn : okN nu) (hP : va_P (dC, dI) vwCl (wLW cL cI q0 qw qr qc qn qo g0 gm gc gn w tb su mx cf nu cd fr tt ov) H) (hD : va_D A (wLW cL cI q0 qw qr qc qn qo g0 gm gc gn w tb su mx cf nu cd fr tt ov)) (hS : va_S A s.heap H locs) (hl : lv_has ls 8 [(0, .ref b), (1, .ref q0), (2, .ref g0), (3, .ref qo), (4, .int (nI (6 * j)))]) : W p l e room_1 s m #[Value.ref b] below meth c H locs (10 + j) (16433 + 6 * j) (lw_Z below #[Value.ref b] s) (F0 m 910 ls []) := by
  obtain ⟨hx, hb, hr, hml, hown, hts, hX, hbl, hlocks, hgv⟩ := id C0
  have hbA : ¬ A b := fun h => absurd (hA2 b h) (Nat.not_le.mpr hbl)
  have hP : va_P (dC, dI) vwCl [(qo, .inl (cL, 1, .inr (.inl ov))), (q0, .inr (1, [.ref qw, .ref qr, .long tb, .int (b2i su), .int (b2i mx)])), (qw, .inl (cL, 8192, .inr (.inl w))), (qr, .inr (0, [.ref qc, .ref qn])), (qc, .inl (cI, 8, .inl cf)), (qn, .inl (cL, 8, .inr (.inl nu))), (g0, .inr (2, [.int cd, .ref gm, .long tb, .int (b2i su), .int (b2i mx), .ref gc, .ref gn, .long fr, .long tt])), (gm, .inl (cL, 8192, .inr (.inl w))), (gc, .inl (cI, 8, .inl cf)), (gn, .inl (cL, 8, .inr (.inl nu)))] H := hP
  have hD : va_D A [(qo, .inl (cL, 1, .inr (.inl ov))), (q0, .inr (1, [.ref qw, .ref qr, .long tb, .int (b2i su), .int (b2i mx)])), (qw, .inl (cL, 8192, .inr (.inl w))), (qr, .inr (0, [.ref qc, .ref qn])), (qc, .inl (cI, 8, .inl cf)), (qn, .inl (cL, 8, .inr (.inl nu))), (g0, .inr (2, [.int cd, .ref gm, .long tb, .int (b2i su), .int (b2i mx), .ref gc, .ref gn, .long fr, .long tt])), (gm, .inl (cL, 8192, .inr (.inl w))), (gc, .inl (cI, 8, .inl cf)), (gn, .inl (cL, 8, .inr (.inl nu)))] := hD
  refine lv_aload_n hx hb dL_law_910 rfl (lv_at hl 1 rfl) ?_
  refine va_csv (W.runV (As := []) (rest := []) ⟨hx, hb, hml, hown, hts⟩ (mtX1_fence l dC dI cL cI q0 qw qr qc qn w tb su mx cf nu  ) (cwV 0 hts (gTbl (mc1 (List.mem_of_getElem? (i := 92) (by decide +kernel)) (mc1 (List.mem_of_getElem? (i := 93) (by decide +kernel)) (mc1 (List.mem_of_getElem? (i := 94) (by decide +kernel)) (mc1 (List.mem_of_getElem? (i := 15) (by decide +kernel)) mc0)))) (List.mem_of_getElem? (i := 95) (by decide +kernel)) (by decide +kernel)) rfl rfl rfl (by decide +kernel) ⟨Nat.le_of_ble_eq_true rfl, Nat.le_of_ble_eq_true rfl⟩) (rd_pre (ci := 1) (q0 := 0) hK (hP.sub (ws' := (wPW cL cI q0 qw qr qc qn w tb su mx cf nu)) [1, 2, 3, 4, 5] rfl) rfl rfl) rfl rfl hl.1 rfl (lv_room (Nat.le_of_ble_eq_true rfl)) dL_law_911 ⟨(show 10 + j + 0 ≤ 1041 by omega), (show 16433 + 6 * j + 0 ≤ 24667 by omega)⟩) (fun r_1  => ?_)
  refine lv_aload_n hx hb dL_law_914 rfl (lv_at hl 2 rfl) ?_
  have hPc := hP.sub (ws' := (wMD cL cI g0 gm gc gn cd w tb su mx cf nu fr tt)) [6, 7, 8, 9] rfl
  have hDc := hD.sub (ws' := (wMD cL cI g0 gm gc gn cd w tb su mx cf nu fr tt)) [6, 7, 8, 9] (by decide) rfl
  have hFc := va_free (wc := (wMD cL cI g0 gm gc gn cd w tb su mx cf nu fr tt)) hD hS hA [6, 7, 8, 9] rfl
  refine va_callv (va_runV (As := []) (rest := []) ⟨hx, hb, hml, hown, hts⟩ (mtX2_fence l dC dI cL cI g0 gm gc gn cd w tb su mx cf nu fr tt H.size  ) (cwV 0 hts (gTbl (mc1 (List.mem_of_getElem? (i := 510) (by decide +kernel)) (mc1 (List.mem_of_getElem? (i := 511) (by decide +kernel)) (mc1 (List.mem_of_getElem? (i := 512) (by decide +kernel)) (mc1 (List.mem_of_getElem? (i := 17) (by decide +kernel)) mc0)))) (List.mem_of_getElem? (i := 513) (by decide +kernel)) (by decide +kernel)) rfl rfl rfl (by decide +kernel) ⟨Nat.le_of_ble_eq_true rfl, Nat.le_of_ble_eq_true rfl⟩) (mu_pre (ci := 2) (q0 := 0) hK hPc hDc rfl rfl) rfl rfl hl.1 rfl (lv_room (Nat.le_of_ble_eq_true rfl)) dL_law_915 ⟨(show 10 + j + 0 ≤ 1041 by omega), (show 16433 + 6 * j + 0 ≤ 24667 by omega)⟩) hS (fun q _ h => hFc q h) hFc (fun u t H1 locs ht hvm hpo hB hz1 hk1 hS => ?_)
  obtain ⟨hP1, hK1, hD1⟩ := hB
  rw [ht] at hP1
  obtain ⟨hP, hD⟩ := va_join (wr := [(qo, .inl (cL, 1, .inr (.inl ov))), (q0, .inr (1, [.ref qw, .ref qr, .long tb, .int (b2i su), .int (b2i mx)])), (qw, .inl (cL, 8192, .inr (.inl w))), (qr, .inr (0, [.ref qc, .ref qn])), (qc, .inl (cI, 8, .inl cf)), (qn, .inl (cL, 8, .inr (.inl nu)))]) (w1 := (wMD cL cI g0 gm gc gn (0) w tb su mx cf nu fr tt)) hP hD [6, 7, 8, 9] [0, 1, 2, 3, 4, 5] rfl rfl (by decide) (by decide) hk1 hFc hP1 hD1
  generalize H1 = H at hP hS ⊢
  have hP : va_P (dC, dI) vwCl [(qo, .inl (cL, 1, .inr (.inl ov))), (q0, .inr (1, [.ref qw, .ref qr, .long tb, .int (b2i su), .int (b2i mx)])), (qw, .inl (cL, 8192, .inr (.inl w))), (qr, .inr (0, [.ref qc, .ref qn])), (qc, .inl (cI, 8, .inl cf)), (qn, .inl (cL, 8, .inr (.inl nu))), (g0, .inr (2, [.int (0), .ref gm, .long tb, .int (b2i su), .int (b2i mx), .ref gc, .ref gn, .long fr, .long tt])), (gm, .inl (cL, 8192, .inr (.inl w))), (gc, .inl (cI, 8, .inl cf)), (gn, .inl (cL, 8, .inr (.inl nu)))] H := hP
  have hD : va_D A [(qo, .inl (cL, 1, .inr (.inl ov))), (q0, .inr (1, [.ref qw, .ref qr, .long tb, .int (b2i su), .int (b2i mx)])), (qw, .inl (cL, 8192, .inr (.inl w))), (qr, .inr (0, [.ref qc, .ref qn])), (qc, .inl (cI, 8, .inl cf)), (qn, .inl (cL, 8, .inr (.inl nu))), (g0, .inr (2, [.int (0), .ref gm, .long tb, .int (b2i su), .int (b2i mx), .ref gc, .ref gn, .long fr, .long tt])), (gm, .inl (cL, 8192, .inr (.inl w))), (gc, .inl (cI, 8, .inl cf)), (gn, .inl (cL, 8, .inr (.inl nu)))] := hD
  refine lv_goto (tgt := 921) hx hb dL_law_918 (by decide) ?_
  refine W.widen (k := 10 + (j + 1)) (n := 16433 + 6 * (j + 1)) (by omega) (by omega) ?_
  exact kk w tb su mx cf nu (0) fr tt ov _ _ ls (hc) (hn) (hP.sub (ws' := (wLW cL cI q0 qw qr qc qn qo g0 gm gc gn w tb su mx cf nu (0) fr tt ov)) [0, 1, 2, 3, 4, 5, 6, 7, 8, 9] rfl) (hD.sub (ws' := (wLW cL cI q0 qw qr qc qn qo g0 gm gc gn w tb su mx cf nu (0) fr tt ov)) [0, 1, 2, 3, 4, 5, 6, 7, 8, 9] (by decide) rfl) hS (lv_sub hl [0, 1, 2, 3, 4] rfl)
