set_option maxHeartbeats 4000000 in
set_option maxRecDepth 100000 in
theorem mtX2_isLet (l : Launch) (dC : Nat → ClassId) (dI : Nat → Nat → Nat) (cL : ClassId) (cI : ClassId) (g0 : Nat) (gm : Nat) (gc : Nat) (gn : Nat) (cd : Int32) (w : Nat → Int64) (tb : Int64) (su : Bool) (mx : Bool) (cf : Nat → Int32) (nu : Nat → Int64) (fr : Int64) (tt : Int64) (hz : Nat) (ad : Int64) (ac : Int32) (md : Int32) (sn : Nat) (hAd : okA ad) (hs : okS sn) (hn : okN nu) (hc : okC cf) : Met l yX2_isLet wsX2_isLet ({ frames := 2, cells := 0, slots := 0, locals := 49 }) (va_Pc [.ref g0, .long ad, .int ac, .int md, .int (nI sn)] (fun U => U.heap.size = hz ∧ va_P (dC, dI) vwCl (wMD cL cI g0 gm gc gn cd w tb su mx cf nu fr tt) U.heap ∧ va_K (dC, dI) vwCl [(cL, .long), (cI, .int)] U ∧ va_D (fun _ => True) (wMD cL cI g0 gm gc gn cd w tb su mx cf nu fr tt))) (va_Qi (fun r (_ : Int64 × Int64) => r = b2i (k_let cf nu ad ac md (nI sn))) (fun u t => va_P (dC, dI) vwCl (wMD cL cI g0 gm gc gn cd w tb su mx cf nu u.1 u.2) t.heap ∧ va_K (dC, dI) vwCl [(cL, .long), (cI, .int)] t ∧ va_D (va_A (wMD cL cI g0 gm gc gn cd w tb su mx cf nu fr tt) hz) (wMD cL cI g0 gm gc gn cd w tb su mx cf nu u.1 u.2)) (va_A (wMD cL cI g0 gm gc gn cd w tb su mx cf nu fr tt) hz)) 0 0 (va_A (wMD cL cI g0 gm gc gn cd w tb su mx cf nu fr tt) hz) := by
  refine Met.ofW (cc := cX2_isLet) (maxL := 9) (ret := (some .boolean)) (by decide) rfl ?_
  intro p e s m args below meth c s₁ B hml hv
  obtain ⟨rfl, hsz, hP, hK, hD0⟩ := hv
  have hx := B.exec
  have hb := B.bytes
  have hr := B.returns
  have hts := atoms_spec (ws := wsX2_isLet) B.pre
  have hown : s.vm.findClass RX2 = some m.cls := findClass_of_methodNamed B.named
  have hlocks := B.notSynchronized
  subst hsz
  have hD := hD0.self (sz := s.heap.size)
  generalize hAe : va_A (wMD cL cI g0 gm gc gn cd w tb su mx cf nu fr tt) s.heap.size = A at hD ⊢
  have hA : ∀ q : Nat, s.heap.size ≤ q → A q := fun q h => by rw [← hAe]; exact Or.inr h
  have hS : va_S A s.heap s.heap [] := va_S.rf
  have hP : va_P (dC, dI) vwCl [(g0, .inr (2, [.int cd, .ref gm, .long tb, .int (b2i su), .int (b2i mx), .ref gc, .ref gn, .long fr, .long tt])), (gm, .inl (cL, 8192, .inr (.inl w))), (gc, .inl (cI, 8, .inl cf)), (gn, .inl (cL, 8, .inr (.inl nu)))] s.heap := hP
  have hD : va_D A [(g0, .inr (2, [.int cd, .ref gm, .long tb, .int (b2i su), .int (b2i mx), .ref gc, .ref gn, .long fr, .long tt])), (gm, .inl (cL, 8192, .inr (.inl w))), (gc, .inl (cI, 8, .inl cf)), (gn, .inl (cL, 8, .inr (.inl nu)))] := hD
  have hs8 : sn ≤ 8 := okS_le hs
  have hl := lv_entry ([.ref g0, .long ad, .int ac, .int md, .int (nI sn)]) (n := 9) (Nat.le_of_ble_eq_true rfl)
  rw [lg_entry_eq]
  generalize (lg_sl ([.ref g0, .long ad, .int ac, .int md, .int (nI sn)]) ++ List.replicate (9 - (lg_sl ([.ref g0, .long ad, .int ac, .int md, .int (nI sn)])).length) Slot.unset).toArray = ls at hl ⊢
  have hl : lv_has ls 9 [(0, .ref g0), (1, .long ad), (3, .int ac), (4, .int md), (5, .int (nI sn))] := hl
  have loop : ∀ (n k : Nat) (ls : Array Slot) (H : Heap) (locs : List Loc) (fr tt : Int64), k ≤ 8 → 9 ≤ k + n → k_letF cf nu ad (ad + Int32.toInt64 (nI sn)) ac md (8 - k) k (m_bef nu k) = k_let cf nu ad ac md (nI sn) → va_P (dC, dI) vwCl (wMD cL cI g0 gm gc gn cd w tb su mx cf nu fr tt) H → va_D A (wMD cL cI g0 gm gc gn cd w tb su mx cf nu fr tt) → va_S A s.heap H locs → lv_has ls 9 [(0, .ref g0), (1, .long ad), (3, .int ac), (4, .int md), (5, .int (nI sn)), (6, .int (nI k))] → W p l e (headSpec wsX2_isLet ({ frames := 2, cells := 0, slots := 0, locals := 49 })).room s m (([.ref g0, .long ad, .int ac, .int md, .int (nI sn)] : List Value).toArray) below meth c H locs 0 0 (MQ below (va_Qi (fun r (_ : Int64 × Int64) => r = b2i (k_let cf nu ad ac md (nI sn))) (fun u t => va_P (dC, dI) vwCl (wMD cL cI g0 gm gc gn cd w tb su mx cf nu u.1 u.2) t.heap ∧ va_K (dC, dI) vwCl [(cL, .long), (cI, .int)] t ∧ va_D A (wMD cL cI g0 gm gc gn cd w tb su mx cf nu u.1 u.2)) A) (([.ref g0, .long ad, .int ac, .int md, .int (nI sn)] : List Value).toArray) s 0 0 A) (F0 m 3 ls []) := by
    intro n
    induction n with
    | zero =>
      intro k ls H locs fr tt h1 h2
      exact absurd h2 (by omega)
    | succ n ih =>
      intro k ls H locs fr tt hk hn9 hq hP hD hS hl
      refine lv_iload hx hb dX2_isLet_3 (lv_at hl 5 rfl) ?_
      refine lv_bipush (v := 8) hx hb dX2_isLet_5 (by decide) ?_
      refine lv_icmp_ge (tgt := 144) hx hb dX2_isLet_7 (by decide) (fun c_1 => ?_) (fun c_1 => ?_)
      · have hk8 : k = 8 := k8_eq hk c_1
        rw [hk8] at hq
        simp only [Nat.sub_self, k_letF] at hq
        refine lv_iload hx hb dX2_isLet_144 (lv_at hl 3 rfl) ?_
        refine lv_iconst (v := 3) hx hb dX2_isLet_146 (by decide) ?_
        refine lv_icmp_ne (tgt := 154) hx hb dX2_isLet_147 (by decide) (fun c_2 => ?_) (fun c_2 => ?_)
        · refine lv_iconst (v := 0) hx hb dX2_isLet_154 (by decide) ?_
          have hP9 : va_P (dC, dI) vwCl (wMD cL cI g0 gm gc gn cd w tb su mx cf nu fr tt) H := hP
          have hD9 : va_D A (wMD cL cI g0 gm gc gn cd w tb su mx cf nu fr tt) := hD
          exact W.zret (v := 0) hx hb hr rfl (fun t ht hW => ⟨⟨0, (fr, tt), rfl, (by first | rfl | (rw [← hq]; simp only [b2i, c_1, c_2, b2i, decide_true, decide_false, Bool.not_true, Bool.not_false, Bool.and_true, Bool.and_false, Bool.true_and, Bool.false_and, Bool.or_true, Bool.or_false, Bool.true_or, Bool.false_or, reduceIte, or_true, true_or, or_false, false_or, and_true, true_and, and_false, false_and, not_true_eq_false, not_false_eq_true, Bool.false_eq_true, eq_self]; done) | (rw [← hq]; simp [b2i, c_1, c_2]; done)), (by rw [ht]; exact hP9), va_K.moved hW.alike hK, hD9⟩, hS.F ht⟩) hS.2.2 dX2_isLet_155
        · refine lv_iconst (v := 1) hx hb dX2_isLet_150 (by decide) ?_
          refine lv_goto (tgt := 155) hx hb dX2_isLet_151 (by decide) ?_
          have hP9 : va_P (dC, dI) vwCl (wMD cL cI g0 gm gc gn cd w tb su mx cf nu fr tt) H := hP
          have hD9 : va_D A (wMD cL cI g0 gm gc gn cd w tb su mx cf nu fr tt) := hD
          exact W.zret (v := 1) hx hb hr rfl (fun t ht hW => ⟨⟨1, (fr, tt), rfl, (by first | rfl | (rw [← hq]; simp only [b2i, c_1, eq_true c_2, b2i, decide_true, decide_false, Bool.not_true, Bool.not_false, Bool.and_true, Bool.and_false, Bool.true_and, Bool.false_and, Bool.or_true, Bool.or_false, Bool.true_or, Bool.false_or, reduceIte, or_true, true_or, or_false, false_or, and_true, true_and, and_false, false_and, not_true_eq_false, not_false_eq_true, Bool.false_eq_true, eq_self]; done) | (rw [← hq]; simp [b2i, c_1, eq_true c_2]; done) | (rw [← hq]; simp only [b2i, c_1, c_2, b2i, decide_true, decide_false, Bool.not_true, Bool.not_false, Bool.and_true, Bool.and_false, Bool.true_and, Bool.false_and, Bool.or_true, Bool.or_false, Bool.true_or, Bool.false_or, reduceIte, or_true, true_or, or_false, false_or, and_true, true_and, and_false, false_and, not_true_eq_false, not_false_eq_true, Bool.false_eq_true, eq_self]; done) | (rw [← hq]; simp [b2i, c_1, c_2]; done)), (by rw [ht]; exact hP9), va_K.moved hW.alike hK, hD9⟩, hS.F ht⟩) hS.2.2 dX2_isLet_155
      · have hk8 : k < 8 := k8_lt hk c_1
        rw [show 8 - k = (7 - k) + 1 by omega] at hq
        simp only [k_letF] at hq
        have hok := cover_ok hn (cf k) hk8
        refine lv_aload_n hx hb dX2_isLet_10 rfl (lv_at hl 0 rfl) ?_
        refine lv_iload hx hb dX2_isLet_11 (lv_at hl 5 rfl) ?_
        have hPc := hP.sub (ws' := (wMD cL cI g0 gm gc gn cd w tb su mx cf nu fr tt)) [0, 1, 2, 3] rfl
        have hDc := hD.sub (ws' := (wMD cL cI g0 gm gc gn cd w tb su mx cf nu fr tt)) [0, 1, 2, 3] (by decide) rfl
        have hFc := va_free (wc := (wMD cL cI g0 gm gc gn cd w tb su mx cf nu fr tt)) hD hS hA [0, 1, 2, 3] rfl
        refine va_callv (va_runV (As := [.int (nI k)]) (rest := []) ⟨hx, hb, hml, hown, hts⟩ (mtX2_cover l dC dI cL cI g0 gm gc gn cd w tb su mx cf nu fr tt H.size k (hk8) (hn)) (cwV 1 hts (gAll (mc1 (wa 462 (by decide +kernel) rfl) (mc1 (wa 464 (by decide +kernel) rfl) (mc1 (wa 10 (by decide +kernel) rfl) (mc1 (wa 17 (by decide +kernel) rfl) mc0)))) (wa 465 (by decide +kernel) rfl) (by decide +kernel)) rfl rfl rfl (by decide +kernel) ⟨Nat.le_of_ble_eq_true rfl, Nat.le_of_ble_eq_true rfl⟩) (mu_pre (ci := 2) (q0 := 0) hK hPc hDc rfl rfl) rfl rfl hl.1 rfl (lv_room (Nat.le_of_ble_eq_true rfl)) dX2_isLet_13 ⟨Nat.le_of_ble_eq_true rfl, Nat.le_of_ble_eq_true rfl⟩) hS (fun q _ h => hFc q h) hFc (fun u t H1 locs ht hvm hpo hB hz1 hk1 hS => ?_)
        obtain ⟨hP1, hK1, hD1⟩ := hB
        rw [ht] at hP1
        obtain ⟨hP, hD⟩ := va_join (wr := []) (w1 := (wMD cL cI g0 gm gc gn cd w tb su mx cf nu (k_startOf (cf k) (nu k) (m_bef nu k)) (k_endOf (cf k) (nu k)))) hP hD [0, 1, 2, 3] [] rfl rfl (by decide) (by decide) hk1 hFc hP1 hD1
        generalize H1 = H at hP hS ⊢
        have hP : va_P (dC, dI) vwCl [(g0, .inr (2, [.int cd, .ref gm, .long tb, .int (b2i su), .int (b2i mx), .ref gc, .ref gn, .long (k_startOf (cf k) (nu k) (m_bef nu k)), .long (k_endOf (cf k) (nu k))])), (gm, .inl (cL, 8192, .inr (.inl w))), (gc, .inl (cI, 8, .inl cf)), (gn, .inl (cL, 8, .inr (.inl nu)))] H := hP
        have hD : va_D A [(g0, .inr (2, [.int cd, .ref gm, .long tb, .int (b2i su), .int (b2i mx), .ref gc, .ref gn, .long (k_startOf (cf k) (nu k) (m_bef nu k)), .long (k_endOf (cf k) (nu k))])), (gm, .inl (cL, 8192, .inr (.inl w))), (gc, .inl (cI, 8, .inl cf)), (gn, .inl (cL, 8, .inr (.inl nu)))] := hD
        refine lv_iconst (v := 0) hx hb dX2_isLet_16 (by decide) ?_
        refine lv_istore (lv' := [(7, .int 0), (0, .ref g0), (1, .long ad), (3, .int ac), (4, .int md), (5, .int (nI sn)), (6, .int (nI k))]) hx hb dX2_isLet_17 hl (by decide) rfl (fun ls hl => ?_)
        refine lv_iconst (v := 0) hx hb dX2_isLet_19 (by decide) ?_
        refine lv_istore (lv' := [(8, .int 0), (7, .int 0), (0, .ref g0), (1, .long ad), (3, .int ac), (4, .int md), (5, .int (nI sn)), (6, .int (nI k))]) hx hb dX2_isLet_20 hl (by decide) rfl (fun ls hl => ?_)
        have inner : ∀ (f q : Nat) (ls : Array Slot), q ≤ sn → sn + 1 ≤ q + f → lv_has ls 9 [(0, .ref g0), (1, .long ad), (3, .int ac), (4, .int md), (5, .int (nI sn)), (6, .int (nI k)), (7, .int (nI (m_cnt ad (k_startOf (cf k) (nu k) (m_bef nu k)) (k_endOf (cf k) (nu k)) q))), (8, .int (nI q))] → W p l e (headSpec wsX2_isLet ({ frames := 2, cells := 0, slots := 0, locals := 49 })).room s m (([.ref g0, .long ad, .int ac, .int md, .int (nI sn)] : List Value).toArray) below meth c H locs 0 0 (MQ below (va_Qi (fun r (_ : Int64 × Int64) => r = b2i (k_let cf nu ad ac md (nI sn))) (fun u t => va_P (dC, dI) vwCl (wMD cL cI g0 gm gc gn cd w tb su mx cf nu u.1 u.2) t.heap ∧ va_K (dC, dI) vwCl [(cL, .long), (cI, .int)] t ∧ va_D A (wMD cL cI g0 gm gc gn cd w tb su mx cf nu u.1 u.2)) A) (([.ref g0, .long ad, .int ac, .int md, .int (nI sn)] : List Value).toArray) s 0 0 A) (F0 m 22 ls []) := by
          intro f
          induction f with
          | zero =>
            intro q ls h1 h2
            exact absurd h2 (by omega)
          | succ f ihf =>
            intro q ls hq1 hq2 hl
            refine lv_iload hx hb dX2_isLet_22 (lv_at hl 7 rfl) ?_
            refine lv_iload hx hb dX2_isLet_24 (lv_at hl 4 rfl) ?_
            refine lv_icmp_ge (tgt := 72) hx hb dX2_isLet_26 (by decide) (fun c_4 => ?_) (fun c_4 => ?_)
            · have eqs : q = sn := q_eq hq1 hs8 c_4
              rw [eqs] at hl
              refine lv_iload hx hb dX2_isLet_72 (lv_at hl 6 rfl) ?_
              refine lv_if_le (tgt := 138) hx hb dX2_isLet_74 (by decide) (fun c_5 => ?_) (fun c_5 => ?_)
              · refine lv_iinc (v := ((nI k) + 1)) (lv' := [(6, .int ((nI k) + 1)), (0, .ref g0), (1, .long ad), (3, .int ac), (4, .int md), (5, .int (nI sn)), (7, .int (nI (m_cnt ad (k_startOf (cf k) (nu k) (m_bef nu k)) (k_endOf (cf k) (nu k)) sn))), (8, .int (nI sn))]) hx hb dX2_isLet_138 hl (k := 5) rfl rfl (by decide) rfl (fun ls hl => ?_)
                refine lv_goto (tgt := 3) hx hb dX2_isLet_141 (by decide) ?_
                rw [← nI_succ] at hl
                have hm : k_meets (cf k) (nu k) (m_bef nu k) ad (ad + Int32.toInt64 (nI sn)) = false := cnt_no hAd hok hs c_5
                rw [hm, if_neg (by decide)] at hq
                exact ih (k + 1) ls _ _ _ _ (by omega) (by omega) (by rw [show 8 - (k + 1) = 7 - k by omega]; exact hq) hP hD hS (lv_sub hl [1, 2, 3, 4, 5, 0] rfl)
              · have hm : k_meets (cf k) (nu k) (m_bef nu k) ad (ad + Int32.toInt64 (nI sn)) = true := cnt_yes hAd hok hs c_5
                rw [hm, if_pos rfl, m_holds (hc k hk8)] at hq
                refine lv_iload_n hx hb dX2_isLet_77 rfl (lv_at hl 2 rfl) ?_
                refine lv_if_ne (tgt := 85) hx hb dX2_isLet_78 (by decide) (fun c_6 => ?_) (fun c_6 => ?_)
                · refine lv_iload_n hx hb dX2_isLet_85 rfl (lv_at hl 2 rfl) ?_
                  refine lv_iconst (v := 1) hx hb dX2_isLet_86 (by decide) ?_
                  refine lv_icmp_ne (tgt := 94) hx hb dX2_isLet_87 (by decide) (fun c_7 => ?_) (fun c_7 => ?_)
                  · refine lv_iconst (v := 1) hx hb dX2_isLet_94 (by decide) ?_
                    refine lv_istore (lv' := [(8, .int 1), (0, .ref g0), (1, .long ad), (3, .int ac), (4, .int md), (5, .int (nI sn)), (6, .int (nI k)), (7, .int (nI (m_cnt ad (k_startOf (cf k) (nu k) (m_bef nu k)) (k_endOf (cf k) (nu k)) sn)))]) hx hb dX2_isLet_95 hl (by decide) rfl (fun ls hl => ?_)
                    refine lv_iload hx hb dX2_isLet_97 (lv_at hl 7 rfl) ?_
                    refine lv_iload hx hb dX2_isLet_99 (lv_at hl 5 rfl) ?_
                    refine lv_icmp_ne (tgt := 136) hx hb dX2_isLet_101 (by decide) (fun c_8 => ?_) (fun c_8 => ?_)
                    · have hin : (!decide (ad < (k_startOf (cf k) (nu k) (m_bef nu k))) && !decide ((k_endOf (cf k) (nu k)) < (ad + Int32.toInt64 (nI sn)))) = false := cnt_part hAd hok hs hm c_8
                      refine lv_iconst (v := 0) hx hb dX2_isLet_136 (by decide) ?_
                      have hP9 : va_P (dC, dI) vwCl (wMD cL cI g0 gm gc gn cd w tb su mx cf nu (k_startOf (cf k) (nu k) (m_bef nu k)) (k_endOf (cf k) (nu k))) H := hP
                      have hD9 : va_D A (wMD cL cI g0 gm gc gn cd w tb su mx cf nu (k_startOf (cf k) (nu k) (m_bef nu k)) (k_endOf (cf k) (nu k))) := hD
                      exact W.zret (v := 0) hx hb hr rfl (fun t ht hW => ⟨⟨0, ((k_startOf (cf k) (nu k) (m_bef nu k)), (k_endOf (cf k) (nu k))), rfl, (by first | rfl | (rw [← hq]; simp only [b2i, hm, c_6, c_7, c_8, hin, b2i, decide_true, decide_false, Bool.not_true, Bool.not_false, Bool.and_true, Bool.and_false, Bool.true_and, Bool.false_and, Bool.or_true, Bool.or_false, Bool.true_or, Bool.false_or, reduceIte, or_true, true_or, or_false, false_or, and_true, true_and, and_false, false_and, not_true_eq_false, not_false_eq_true, Bool.false_eq_true, eq_self]; done) | (rw [← hq]; simp [b2i, hm, c_6, c_7, c_8, hin]; done)), (by rw [ht]; exact hP9), va_K.moved hW.alike hK, hD9⟩, hS.F ht⟩) hS.2.2 dX2_isLet_137
                    · have hin : (!decide (ad < (k_startOf (cf k) (nu k) (m_bef nu k))) && !decide ((k_endOf (cf k) (nu k)) < (ad + Int32.toInt64 (nI sn)))) = true := cnt_all hAd hok hs hm c_8
                      refine lv_iload hx hb dX2_isLet_104 (lv_at hl 4 rfl) ?_
                      refine lv_iconst (v := 3) hx hb dX2_isLet_106 (by decide) ?_
                      refine lv_icmp_ne (tgt := 121) hx hb dX2_isLet_107 (by decide) (fun c_9 => ?_) (fun c_9 => ?_)
                      · refine lv_aload_n hx hb dX2_isLet_121 rfl (lv_at hl 1 rfl) ?_
                        refine lv_iload hx hb dX2_isLet_122 (lv_at hl 6 rfl) ?_
                        refine lv_iload hx hb dX2_isLet_124 (lv_at hl 0 rfl) ?_
                        refine vp_callSi (W.runV (As := [.int (nI k), .int 1]) (rest := []) ⟨hx, hb, hml, hown, hts⟩ (mtX2_has l dC dI cL cI g0 gm gc gn cd w tb su mx cf nu (k_startOf (cf k) (nu k) (m_bef nu k)) (k_endOf (cf k) (nu k)) k 1 (hk8)) (cwV 2 hts (gAll (mc1 (wa 429 (by decide +kernel) rfl) (mc1 (wa 431 (by decide +kernel) rfl) (mc1 (wa 7 (by decide +kernel) rfl) (mc1 (wa 17 (by decide +kernel) rfl) mc0)))) (wa 432 (by decide +kernel) rfl) (by decide +kernel)) rfl rfl rfl (by decide +kernel) ⟨Nat.le_of_ble_eq_true rfl, Nat.le_of_ble_eq_true rfl⟩) (rd_pre (ci := 2) (q0 := 0) hK hP rfl rfl) rfl rfl hl.1 rfl (lv_room (Nat.le_of_ble_eq_true rfl)) dX2_isLet_126 ⟨Nat.le_of_ble_eq_true rfl, Nat.le_of_ble_eq_true rfl⟩) (fun r_10 er_10 => ?_)
                        have er_10 : r_10 = (b2i (m_has (cf k) 1)) := er_10
                        subst er_10
                        refine lv_if_eq (tgt := 136) hx hb dX2_isLet_129 (by decide) (fun c_11 => ?_) (fun c_11 => ?_)
                        · rw [b2i_z] at c_11
                          refine lv_iconst (v := 0) hx hb dX2_isLet_136 (by decide) ?_
                          have hP9 : va_P (dC, dI) vwCl (wMD cL cI g0 gm gc gn cd w tb su mx cf nu (k_startOf (cf k) (nu k) (m_bef nu k)) (k_endOf (cf k) (nu k))) H := hP
                          have hD9 : va_D A (wMD cL cI g0 gm gc gn cd w tb su mx cf nu (k_startOf (cf k) (nu k) (m_bef nu k)) (k_endOf (cf k) (nu k))) := hD
                          exact W.zret (v := 0) hx hb hr rfl (fun t ht hW => ⟨⟨0, ((k_startOf (cf k) (nu k) (m_bef nu k)), (k_endOf (cf k) (nu k))), rfl, (by first | rfl | (rw [← hq]; simp only [b2i, hm, c_6, c_7, eq_true c_8, hin, c_9, c_11, b2i, decide_true, decide_false, Bool.not_true, Bool.not_false, Bool.and_true, Bool.and_false, Bool.true_and, Bool.false_and, Bool.or_true, Bool.or_false, Bool.true_or, Bool.false_or, reduceIte, or_true, true_or, or_false, false_or, and_true, true_and, and_false, false_and, not_true_eq_false, not_false_eq_true, Bool.false_eq_true, eq_self]; done) | (rw [← hq]; simp [b2i, hm, c_6, c_7, eq_true c_8, hin, c_9, c_11]; done) | (rw [← hq]; simp only [b2i, hm, c_6, c_7, c_8, hin, c_9, c_11, b2i, decide_true, decide_false, Bool.not_true, Bool.not_false, Bool.and_true, Bool.and_false, Bool.true_and, Bool.false_and, Bool.or_true, Bool.or_false, Bool.true_or, Bool.false_or, reduceIte, or_true, true_or, or_false, false_or, and_true, true_and, and_false, false_and, not_true_eq_false, not_false_eq_true, Bool.false_eq_true, eq_self]; done) | (rw [← hq]; simp [b2i, hm, c_6, c_7, c_8, hin, c_9, c_11]; done)), (by rw [ht]; exact hP9), va_K.moved hW.alike hK, hD9⟩, hS.F ht⟩) hS.2.2 dX2_isLet_137
                        · rw [b2i_z] at c_11
                          rw [Bool.not_eq_false] at c_11
                          refine lv_iconst (v := 1) hx hb dX2_isLet_132 (by decide) ?_
                          refine lv_goto (tgt := 137) hx hb dX2_isLet_133 (by decide) ?_
                          have hP9 : va_P (dC, dI) vwCl (wMD cL cI g0 gm gc gn cd w tb su mx cf nu (k_startOf (cf k) (nu k) (m_bef nu k)) (k_endOf (cf k) (nu k))) H := hP
                          have hD9 : va_D A (wMD cL cI g0 gm gc gn cd w tb su mx cf nu (k_startOf (cf k) (nu k) (m_bef nu k)) (k_endOf (cf k) (nu k))) := hD
                          exact W.zret (v := 1) hx hb hr rfl (fun t ht hW => ⟨⟨1, ((k_startOf (cf k) (nu k) (m_bef nu k)), (k_endOf (cf k) (nu k))), rfl, (by first | rfl | (rw [← hq]; simp only [b2i, hm, c_6, c_7, eq_true c_8, hin, c_9, c_11, b2i, decide_true, decide_false, Bool.not_true, Bool.not_false, Bool.and_true, Bool.and_false, Bool.true_and, Bool.false_and, Bool.or_true, Bool.or_false, Bool.true_or, Bool.false_or, reduceIte, or_true, true_or, or_false, false_or, and_true, true_and, and_false, false_and, not_true_eq_false, not_false_eq_true, Bool.false_eq_true, eq_self]; done) | (rw [← hq]; simp [b2i, hm, c_6, c_7, eq_true c_8, hin, c_9, c_11]; done) | (rw [← hq]; simp only [b2i, hm, c_6, c_7, c_8, hin, c_9, c_11, b2i, decide_true, decide_false, Bool.not_true, Bool.not_false, Bool.and_true, Bool.and_false, Bool.true_and, Bool.false_and, Bool.or_true, Bool.or_false, Bool.true_or, Bool.false_or, reduceIte, or_true, true_or, or_false, false_or, and_true, true_and, and_false, false_and, not_true_eq_false, not_false_eq_true, Bool.false_eq_true, eq_self]; done) | (rw [← hq]; simp [b2i, hm, c_6, c_7, c_8, hin, c_9, c_11]; done)), (by rw [ht]; exact hP9), va_K.moved hW.alike hK, hD9⟩, hS.F ht⟩) hS.2.2 dX2_isLet_137
                      · refine lv_aload_n hx hb dX2_isLet_110 rfl (lv_at hl 1 rfl) ?_
                        refine lv_iload hx hb dX2_isLet_111 (lv_at hl 6 rfl) ?_
                        refine lv_bipush (v := 7) hx hb dX2_isLet_113 (by decide) ?_
                        refine vp_callSi (W.runV (As := [.int (nI k), .int 7]) (rest := []) ⟨hx, hb, hml, hown, hts⟩ (mtX2_has l dC dI cL cI g0 gm gc gn cd w tb su mx cf nu (k_startOf (cf k) (nu k) (m_bef nu k)) (k_endOf (cf k) (nu k)) k 7 (hk8)) (cwV 2 hts (gAll (mc1 (wa 429 (by decide +kernel) rfl) (mc1 (wa 431 (by decide +kernel) rfl) (mc1 (wa 7 (by decide +kernel) rfl) (mc1 (wa 17 (by decide +kernel) rfl) mc0)))) (wa 432 (by decide +kernel) rfl) (by decide +kernel)) rfl rfl rfl (by decide +kernel) ⟨Nat.le_of_ble_eq_true rfl, Nat.le_of_ble_eq_true rfl⟩) (rd_pre (ci := 2) (q0 := 0) hK hP rfl rfl) rfl rfl hl.1 rfl (lv_room (Nat.le_of_ble_eq_true rfl)) dX2_isLet_115 ⟨Nat.le_of_ble_eq_true rfl, Nat.le_of_ble_eq_true rfl⟩) (fun r_12 er_12 => ?_)
                        have er_12 : r_12 = (b2i (m_has (cf k) 7)) := er_12
                        subst er_12
                        refine lv_if_eq (tgt := 132) hx hb dX2_isLet_118 (by decide) (fun c_13 => ?_) (fun c_13 => ?_)
                        · rw [b2i_z] at c_13
                          refine lv_iconst (v := 1) hx hb dX2_isLet_132 (by decide) ?_
                          refine lv_goto (tgt := 137) hx hb dX2_isLet_133 (by decide) ?_
                          have hP9 : va_P (dC, dI) vwCl (wMD cL cI g0 gm gc gn cd w tb su mx cf nu (k_startOf (cf k) (nu k) (m_bef nu k)) (k_endOf (cf k) (nu k))) H := hP
                          have hD9 : va_D A (wMD cL cI g0 gm gc gn cd w tb su mx cf nu (k_startOf (cf k) (nu k) (m_bef nu k)) (k_endOf (cf k) (nu k))) := hD
                          exact W.zret (v := 1) hx hb hr rfl (fun t ht hW => ⟨⟨1, ((k_startOf (cf k) (nu k) (m_bef nu k)), (k_endOf (cf k) (nu k))), rfl, (by first | rfl | (rw [← hq]; simp only [b2i, hm, c_6, c_7, eq_true c_8, hin, eq_true c_9, c_13, b2i, decide_true, decide_false, Bool.not_true, Bool.not_false, Bool.and_true, Bool.and_false, Bool.true_and, Bool.false_and, Bool.or_true, Bool.or_false, Bool.true_or, Bool.false_or, reduceIte, or_true, true_or, or_false, false_or, and_true, true_and, and_false, false_and, not_true_eq_false, not_false_eq_true, Bool.false_eq_true, eq_self]; done) | (rw [← hq]; simp [b2i, hm, c_6, c_7, eq_true c_8, hin, eq_true c_9, c_13]; done) | (rw [← hq]; simp only [b2i, hm, c_6, c_7, c_8, hin, c_9, c_13, b2i, decide_true, decide_false, Bool.not_true, Bool.not_false, Bool.and_true, Bool.and_false, Bool.true_and, Bool.false_and, Bool.or_true, Bool.or_false, Bool.true_or, Bool.false_or, reduceIte, or_true, true_or, or_false, false_or, and_true, true_and, and_false, false_and, not_true_eq_false, not_false_eq_true, Bool.false_eq_true, eq_self]; done) | (rw [← hq]; simp [b2i, hm, c_6, c_7, c_8, hin, c_9, c_13]; done)), (by rw [ht]; exact hP9), va_K.moved hW.alike hK, hD9⟩, hS.F ht⟩) hS.2.2 dX2_isLet_137
                        · rw [b2i_z] at c_13
                          rw [Bool.not_eq_false] at c_13
                          refine lv_aload_n hx hb dX2_isLet_121 rfl (lv_at hl 1 rfl) ?_
                          refine lv_iload hx hb dX2_isLet_122 (lv_at hl 6 rfl) ?_
                          refine lv_iload hx hb dX2_isLet_124 (lv_at hl 0 rfl) ?_
                          refine vp_callSi (W.runV (As := [.int (nI k), .int 1]) (rest := []) ⟨hx, hb, hml, hown, hts⟩ (mtX2_has l dC dI cL cI g0 gm gc gn cd w tb su mx cf nu (k_startOf (cf k) (nu k) (m_bef nu k)) (k_endOf (cf k) (nu k)) k 1 (hk8)) (cwV 2 hts (gAll (mc1 (wa 429 (by decide +kernel) rfl) (mc1 (wa 431 (by decide +kernel) rfl) (mc1 (wa 7 (by decide +kernel) rfl) (mc1 (wa 17 (by decide +kernel) rfl) mc0)))) (wa 432 (by decide +kernel) rfl) (by decide +kernel)) rfl rfl rfl (by decide +kernel) ⟨Nat.le_of_ble_eq_true rfl, Nat.le_of_ble_eq_true rfl⟩) (rd_pre (ci := 2) (q0 := 0) hK hP rfl rfl) rfl rfl hl.1 rfl (lv_room (Nat.le_of_ble_eq_true rfl)) dX2_isLet_126 ⟨Nat.le_of_ble_eq_true rfl, Nat.le_of_ble_eq_true rfl⟩) (fun r_14 er_14 => ?_)
                          have er_14 : r_14 = (b2i (m_has (cf k) 1)) := er_14
                          subst er_14
                          refine lv_if_eq (tgt := 136) hx hb dX2_isLet_129 (by decide) (fun c_15 => ?_) (fun c_15 => ?_)
                          · rw [b2i_z] at c_15
                            refine lv_iconst (v := 0) hx hb dX2_isLet_136 (by decide) ?_
                            have hP9 : va_P (dC, dI) vwCl (wMD cL cI g0 gm gc gn cd w tb su mx cf nu (k_startOf (cf k) (nu k) (m_bef nu k)) (k_endOf (cf k) (nu k))) H := hP
                            have hD9 : va_D A (wMD cL cI g0 gm gc gn cd w tb su mx cf nu (k_startOf (cf k) (nu k) (m_bef nu k)) (k_endOf (cf k) (nu k))) := hD
                            exact W.zret (v := 0) hx hb hr rfl (fun t ht hW => ⟨⟨0, ((k_startOf (cf k) (nu k) (m_bef nu k)), (k_endOf (cf k) (nu k))), rfl, (by first | rfl | (rw [← hq]; simp only [b2i, hm, c_6, c_7, eq_true c_8, hin, eq_true c_9, c_13, c_15, b2i, decide_true, decide_false, Bool.not_true, Bool.not_false, Bool.and_true, Bool.and_false, Bool.true_and, Bool.false_and, Bool.or_true, Bool.or_false, Bool.true_or, Bool.false_or, reduceIte, or_true, true_or, or_false, false_or, and_true, true_and, and_false, false_and, not_true_eq_false, not_false_eq_true, Bool.false_eq_true, eq_self]; done) | (rw [← hq]; simp [b2i, hm, c_6, c_7, eq_true c_8, hin, eq_true c_9, c_13, c_15]; done) | (rw [← hq]; simp only [b2i, hm, c_6, c_7, c_8, hin, c_9, c_13, c_15, b2i, decide_true, decide_false, Bool.not_true, Bool.not_false, Bool.and_true, Bool.and_false, Bool.true_and, Bool.false_and, Bool.or_true, Bool.or_false, Bool.true_or, Bool.false_or, reduceIte, or_true, true_or, or_false, false_or, and_true, true_and, and_false, false_and, not_true_eq_false, not_false_eq_true, Bool.false_eq_true, eq_self]; done) | (rw [← hq]; simp [b2i, hm, c_6, c_7, c_8, hin, c_9, c_13, c_15]; done)), (by rw [ht]; exact hP9), va_K.moved hW.alike hK, hD9⟩, hS.F ht⟩) hS.2.2 dX2_isLet_137
                          · rw [b2i_z] at c_15
                            rw [Bool.not_eq_false] at c_15
                            refine lv_iconst (v := 1) hx hb dX2_isLet_132 (by decide) ?_
                            refine lv_goto (tgt := 137) hx hb dX2_isLet_133 (by decide) ?_
                            have hP9 : va_P (dC, dI) vwCl (wMD cL cI g0 gm gc gn cd w tb su mx cf nu (k_startOf (cf k) (nu k) (m_bef nu k)) (k_endOf (cf k) (nu k))) H := hP
                            have hD9 : va_D A (wMD cL cI g0 gm gc gn cd w tb su mx cf nu (k_startOf (cf k) (nu k) (m_bef nu k)) (k_endOf (cf k) (nu k))) := hD
                            exact W.zret (v := 1) hx hb hr rfl (fun t ht hW => ⟨⟨1, ((k_startOf (cf k) (nu k) (m_bef nu k)), (k_endOf (cf k) (nu k))), rfl, (by first | rfl | (rw [← hq]; simp only [b2i, hm, c_6, c_7, eq_true c_8, hin, eq_true c_9, c_13, c_15, b2i, decide_true, decide_false, Bool.not_true, Bool.not_false, Bool.and_true, Bool.and_false, Bool.true_and, Bool.false_and, Bool.or_true, Bool.or_false, Bool.true_or, Bool.false_or, reduceIte, or_true, true_or, or_false, false_or, and_true, true_and, and_false, false_and, not_true_eq_false, not_false_eq_true, Bool.false_eq_true, eq_self]; done) | (rw [← hq]; simp [b2i, hm, c_6, c_7, eq_true c_8, hin, eq_true c_9, c_13, c_15]; done) | (rw [← hq]; simp only [b2i, hm, c_6, c_7, c_8, hin, c_9, c_13, c_15, b2i, decide_true, decide_false, Bool.not_true, Bool.not_false, Bool.and_true, Bool.and_false, Bool.true_and, Bool.false_and, Bool.or_true, Bool.or_false, Bool.true_or, Bool.false_or, reduceIte, or_true, true_or, or_false, false_or, and_true, true_and, and_false, false_and, not_true_eq_false, not_false_eq_true, Bool.false_eq_true, eq_self]; done) | (rw [← hq]; simp [b2i, hm, c_6, c_7, c_8, hin, c_9, c_13, c_15]; done)), (by rw [ht]; exact hP9), va_K.moved hW.alike hK, hD9⟩, hS.F ht⟩) hS.2.2 dX2_isLet_137
                  · refine lv_iconst (v := 0) hx hb dX2_isLet_90 (by decide) ?_
                    refine lv_goto (tgt := 95) hx hb dX2_isLet_91 (by decide) ?_
                    refine lv_istore (lv' := [(8, .int 0), (0, .ref g0), (1, .long ad), (3, .int ac), (4, .int md), (5, .int (nI sn)), (6, .int (nI k)), (7, .int (nI (m_cnt ad (k_startOf (cf k) (nu k) (m_bef nu k)) (k_endOf (cf k) (nu k)) sn)))]) hx hb dX2_isLet_95 hl (by decide) rfl (fun ls hl => ?_)
                    refine lv_iload hx hb dX2_isLet_97 (lv_at hl 7 rfl) ?_
                    refine lv_iload hx hb dX2_isLet_99 (lv_at hl 5 rfl) ?_
                    refine lv_icmp_ne (tgt := 136) hx hb dX2_isLet_101 (by decide) (fun c_16 => ?_) (fun c_16 => ?_)
                    · have hin : (!decide (ad < (k_startOf (cf k) (nu k) (m_bef nu k))) && !decide ((k_endOf (cf k) (nu k)) < (ad + Int32.toInt64 (nI sn)))) = false := cnt_part hAd hok hs hm c_16
                      refine lv_iconst (v := 0) hx hb dX2_isLet_136 (by decide) ?_
                      have hP9 : va_P (dC, dI) vwCl (wMD cL cI g0 gm gc gn cd w tb su mx cf nu (k_startOf (cf k) (nu k) (m_bef nu k)) (k_endOf (cf k) (nu k))) H := hP
                      have hD9 : va_D A (wMD cL cI g0 gm gc gn cd w tb su mx cf nu (k_startOf (cf k) (nu k) (m_bef nu k)) (k_endOf (cf k) (nu k))) := hD
                      exact W.zret (v := 0) hx hb hr rfl (fun t ht hW => ⟨⟨0, ((k_startOf (cf k) (nu k) (m_bef nu k)), (k_endOf (cf k) (nu k))), rfl, (by first | rfl | (rw [← hq]; simp only [b2i, hm, c_6, eq_true c_7, c_16, hin, b2i, decide_true, decide_false, Bool.not_true, Bool.not_false, Bool.and_true, Bool.and_false, Bool.true_and, Bool.false_and, Bool.or_true, Bool.or_false, Bool.true_or, Bool.false_or, reduceIte, or_true, true_or, or_false, false_or, and_true, true_and, and_false, false_and, not_true_eq_false, not_false_eq_true, Bool.false_eq_true, eq_self]; done) | (rw [← hq]; simp [b2i, hm, c_6, eq_true c_7, c_16, hin]; done) | (rw [← hq]; simp only [b2i, hm, c_6, c_7, c_16, hin, b2i, decide_true, decide_false, Bool.not_true, Bool.not_false, Bool.and_true, Bool.and_false, Bool.true_and, Bool.false_and, Bool.or_true, Bool.or_false, Bool.true_or, Bool.false_or, reduceIte, or_true, true_or, or_false, false_or, and_true, true_and, and_false, false_and, not_true_eq_false, not_false_eq_true, Bool.false_eq_true, eq_self]; done) | (rw [← hq]; simp [b2i, hm, c_6, c_7, c_16, hin]; done)), (by rw [ht]; exact hP9), va_K.moved hW.alike hK, hD9⟩, hS.F ht⟩) hS.2.2 dX2_isLet_137
                    · have hin : (!decide (ad < (k_startOf (cf k) (nu k) (m_bef nu k))) && !decide ((k_endOf (cf k) (nu k)) < (ad + Int32.toInt64 (nI sn)))) = true := cnt_all hAd hok hs hm c_16
                      refine lv_iload hx hb dX2_isLet_104 (lv_at hl 4 rfl) ?_
                      refine lv_iconst (v := 3) hx hb dX2_isLet_106 (by decide) ?_
                      refine lv_icmp_ne (tgt := 121) hx hb dX2_isLet_107 (by decide) (fun c_17 => ?_) (fun c_17 => ?_)
                      · refine lv_aload_n hx hb dX2_isLet_121 rfl (lv_at hl 1 rfl) ?_
                        refine lv_iload hx hb dX2_isLet_122 (lv_at hl 6 rfl) ?_
                        refine lv_iload hx hb dX2_isLet_124 (lv_at hl 0 rfl) ?_
                        refine vp_callSi (W.runV (As := [.int (nI k), .int 0]) (rest := []) ⟨hx, hb, hml, hown, hts⟩ (mtX2_has l dC dI cL cI g0 gm gc gn cd w tb su mx cf nu (k_startOf (cf k) (nu k) (m_bef nu k)) (k_endOf (cf k) (nu k)) k 0 (hk8)) (cwV 2 hts (gAll (mc1 (wa 429 (by decide +kernel) rfl) (mc1 (wa 431 (by decide +kernel) rfl) (mc1 (wa 7 (by decide +kernel) rfl) (mc1 (wa 17 (by decide +kernel) rfl) mc0)))) (wa 432 (by decide +kernel) rfl) (by decide +kernel)) rfl rfl rfl (by decide +kernel) ⟨Nat.le_of_ble_eq_true rfl, Nat.le_of_ble_eq_true rfl⟩) (rd_pre (ci := 2) (q0 := 0) hK hP rfl rfl) rfl rfl hl.1 rfl (lv_room (Nat.le_of_ble_eq_true rfl)) dX2_isLet_126 ⟨Nat.le_of_ble_eq_true rfl, Nat.le_of_ble_eq_true rfl⟩) (fun r_18 er_18 => ?_)
                        have er_18 : r_18 = (b2i (m_has (cf k) 0)) := er_18
                        subst er_18
                        refine lv_if_eq (tgt := 136) hx hb dX2_isLet_129 (by decide) (fun c_19 => ?_) (fun c_19 => ?_)
                        · rw [b2i_z] at c_19
                          refine lv_iconst (v := 0) hx hb dX2_isLet_136 (by decide) ?_
                          have hP9 : va_P (dC, dI) vwCl (wMD cL cI g0 gm gc gn cd w tb su mx cf nu (k_startOf (cf k) (nu k) (m_bef nu k)) (k_endOf (cf k) (nu k))) H := hP
                          have hD9 : va_D A (wMD cL cI g0 gm gc gn cd w tb su mx cf nu (k_startOf (cf k) (nu k) (m_bef nu k)) (k_endOf (cf k) (nu k))) := hD
                          exact W.zret (v := 0) hx hb hr rfl (fun t ht hW => ⟨⟨0, ((k_startOf (cf k) (nu k) (m_bef nu k)), (k_endOf (cf k) (nu k))), rfl, (by first | rfl | (rw [← hq]; simp only [b2i, hm, c_6, eq_true c_7, eq_true c_16, hin, c_17, c_19, b2i, decide_true, decide_false, Bool.not_true, Bool.not_false, Bool.and_true, Bool.and_false, Bool.true_and, Bool.false_and, Bool.or_true, Bool.or_false, Bool.true_or, Bool.false_or, reduceIte, or_true, true_or, or_false, false_or, and_true, true_and, and_false, false_and, not_true_eq_false, not_false_eq_true, Bool.false_eq_true, eq_self]; done) | (rw [← hq]; simp [b2i, hm, c_6, eq_true c_7, eq_true c_16, hin, c_17, c_19]; done) | (rw [← hq]; simp only [b2i, hm, c_6, c_7, c_16, hin, c_17, c_19, b2i, decide_true, decide_false, Bool.not_true, Bool.not_false, Bool.and_true, Bool.and_false, Bool.true_and, Bool.false_and, Bool.or_true, Bool.or_false, Bool.true_or, Bool.false_or, reduceIte, or_true, true_or, or_false, false_or, and_true, true_and, and_false, false_and, not_true_eq_false, not_false_eq_true, Bool.false_eq_true, eq_self]; done) | (rw [← hq]; simp [b2i, hm, c_6, c_7, c_16, hin, c_17, c_19]; done)), (by rw [ht]; exact hP9), va_K.moved hW.alike hK, hD9⟩, hS.F ht⟩) hS.2.2 dX2_isLet_137
                        · rw [b2i_z] at c_19
                          rw [Bool.not_eq_false] at c_19
                          refine lv_iconst (v := 1) hx hb dX2_isLet_132 (by decide) ?_
                          refine lv_goto (tgt := 137) hx hb dX2_isLet_133 (by decide) ?_
                          have hP9 : va_P (dC, dI) vwCl (wMD cL cI g0 gm gc gn cd w tb su mx cf nu (k_startOf (cf k) (nu k) (m_bef nu k)) (k_endOf (cf k) (nu k))) H := hP
                          have hD9 : va_D A (wMD cL cI g0 gm gc gn cd w tb su mx cf nu (k_startOf (cf k) (nu k) (m_bef nu k)) (k_endOf (cf k) (nu k))) := hD
                          exact W.zret (v := 1) hx hb hr rfl (fun t ht hW => ⟨⟨1, ((k_startOf (cf k) (nu k) (m_bef nu k)), (k_endOf (cf k) (nu k))), rfl, (by first | rfl | (rw [← hq]; simp only [b2i, hm, c_6, eq_true c_7, eq_true c_16, hin, c_17, c_19, b2i, decide_true, decide_false, Bool.not_true, Bool.not_false, Bool.and_true, Bool.and_false, Bool.true_and, Bool.false_and, Bool.or_true, Bool.or_false, Bool.true_or, Bool.false_or, reduceIte, or_true, true_or, or_false, false_or, and_true, true_and, and_false, false_and, not_true_eq_false, not_false_eq_true, Bool.false_eq_true, eq_self]; done) | (rw [← hq]; simp [b2i, hm, c_6, eq_true c_7, eq_true c_16, hin, c_17, c_19]; done) | (rw [← hq]; simp only [b2i, hm, c_6, c_7, c_16, hin, c_17, c_19, b2i, decide_true, decide_false, Bool.not_true, Bool.not_false, Bool.and_true, Bool.and_false, Bool.true_and, Bool.false_and, Bool.or_true, Bool.or_false, Bool.true_or, Bool.false_or, reduceIte, or_true, true_or, or_false, false_or, and_true, true_and, and_false, false_and, not_true_eq_false, not_false_eq_true, Bool.false_eq_true, eq_self]; done) | (rw [← hq]; simp [b2i, hm, c_6, c_7, c_16, hin, c_17, c_19]; done)), (by rw [ht]; exact hP9), va_K.moved hW.alike hK, hD9⟩, hS.F ht⟩) hS.2.2 dX2_isLet_137
                      · refine lv_aload_n hx hb dX2_isLet_110 rfl (lv_at hl 1 rfl) ?_
                        refine lv_iload hx hb dX2_isLet_111 (lv_at hl 6 rfl) ?_
                        refine lv_bipush (v := 7) hx hb dX2_isLet_113 (by decide) ?_
                        refine vp_callSi (W.runV (As := [.int (nI k), .int 7]) (rest := []) ⟨hx, hb, hml, hown, hts⟩ (mtX2_has l dC dI cL cI g0 gm gc gn cd w tb su mx cf nu (k_startOf (cf k) (nu k) (m_bef nu k)) (k_endOf (cf k) (nu k)) k 7 (hk8)) (cwV 2 hts (gAll (mc1 (wa 429 (by decide +kernel) rfl) (mc1 (wa 431 (by decide +kernel) rfl) (mc1 (wa 7 (by decide +kernel) rfl) (mc1 (wa 17 (by decide +kernel) rfl) mc0)))) (wa 432 (by decide +kernel) rfl) (by decide +kernel)) rfl rfl rfl (by decide +kernel) ⟨Nat.le_of_ble_eq_true rfl, Nat.le_of_ble_eq_true rfl⟩) (rd_pre (ci := 2) (q0 := 0) hK hP rfl rfl) rfl rfl hl.1 rfl (lv_room (Nat.le_of_ble_eq_true rfl)) dX2_isLet_115 ⟨Nat.le_of_ble_eq_true rfl, Nat.le_of_ble_eq_true rfl⟩) (fun r_20 er_20 => ?_)
                        have er_20 : r_20 = (b2i (m_has (cf k) 7)) := er_20
                        subst er_20
                        refine lv_if_eq (tgt := 132) hx hb dX2_isLet_118 (by decide) (fun c_21 => ?_) (fun c_21 => ?_)
                        · rw [b2i_z] at c_21
                          refine lv_iconst (v := 1) hx hb dX2_isLet_132 (by decide) ?_
                          refine lv_goto (tgt := 137) hx hb dX2_isLet_133 (by decide) ?_
                          have hP9 : va_P (dC, dI) vwCl (wMD cL cI g0 gm gc gn cd w tb su mx cf nu (k_startOf (cf k) (nu k) (m_bef nu k)) (k_endOf (cf k) (nu k))) H := hP
                          have hD9 : va_D A (wMD cL cI g0 gm gc gn cd w tb su mx cf nu (k_startOf (cf k) (nu k) (m_bef nu k)) (k_endOf (cf k) (nu k))) := hD
                          exact W.zret (v := 1) hx hb hr rfl (fun t ht hW => ⟨⟨1, ((k_startOf (cf k) (nu k) (m_bef nu k)), (k_endOf (cf k) (nu k))), rfl, (by first | rfl | (rw [← hq]; simp only [b2i, hm, c_6, eq_true c_7, eq_true c_16, hin, eq_true c_17, c_21, b2i, decide_true, decide_false, Bool.not_true, Bool.not_false, Bool.and_true, Bool.and_false, Bool.true_and, Bool.false_and, Bool.or_true, Bool.or_false, Bool.true_or, Bool.false_or, reduceIte, or_true, true_or, or_false, false_or, and_true, true_and, and_false, false_and, not_true_eq_false, not_false_eq_true, Bool.false_eq_true, eq_self]; done) | (rw [← hq]; simp [b2i, hm, c_6, eq_true c_7, eq_true c_16, hin, eq_true c_17, c_21]; done) | (rw [← hq]; simp only [b2i, hm, c_6, c_7, c_16, hin, c_17, c_21, b2i, decide_true, decide_false, Bool.not_true, Bool.not_false, Bool.and_true, Bool.and_false, Bool.true_and, Bool.false_and, Bool.or_true, Bool.or_false, Bool.true_or, Bool.false_or, reduceIte, or_true, true_or, or_false, false_or, and_true, true_and, and_false, false_and, not_true_eq_false, not_false_eq_true, Bool.false_eq_true, eq_self]; done) | (rw [← hq]; simp [b2i, hm, c_6, c_7, c_16, hin, c_17, c_21]; done)), (by rw [ht]; exact hP9), va_K.moved hW.alike hK, hD9⟩, hS.F ht⟩) hS.2.2 dX2_isLet_137
                        · rw [b2i_z] at c_21
                          rw [Bool.not_eq_false] at c_21
                          refine lv_aload_n hx hb dX2_isLet_121 rfl (lv_at hl 1 rfl) ?_
                          refine lv_iload hx hb dX2_isLet_122 (lv_at hl 6 rfl) ?_
                          refine lv_iload hx hb dX2_isLet_124 (lv_at hl 0 rfl) ?_
                          refine vp_callSi (W.runV (As := [.int (nI k), .int 0]) (rest := []) ⟨hx, hb, hml, hown, hts⟩ (mtX2_has l dC dI cL cI g0 gm gc gn cd w tb su mx cf nu (k_startOf (cf k) (nu k) (m_bef nu k)) (k_endOf (cf k) (nu k)) k 0 (hk8)) (cwV 2 hts (gAll (mc1 (wa 429 (by decide +kernel) rfl) (mc1 (wa 431 (by decide +kernel) rfl) (mc1 (wa 7 (by decide +kernel) rfl) (mc1 (wa 17 (by decide +kernel) rfl) mc0)))) (wa 432 (by decide +kernel) rfl) (by decide +kernel)) rfl rfl rfl (by decide +kernel) ⟨Nat.le_of_ble_eq_true rfl, Nat.le_of_ble_eq_true rfl⟩) (rd_pre (ci := 2) (q0 := 0) hK hP rfl rfl) rfl rfl hl.1 rfl (lv_room (Nat.le_of_ble_eq_true rfl)) dX2_isLet_126 ⟨Nat.le_of_ble_eq_true rfl, Nat.le_of_ble_eq_true rfl⟩) (fun r_22 er_22 => ?_)
                          have er_22 : r_22 = (b2i (m_has (cf k) 0)) := er_22
                          subst er_22
                          refine lv_if_eq (tgt := 136) hx hb dX2_isLet_129 (by decide) (fun c_23 => ?_) (fun c_23 => ?_)
                          · rw [b2i_z] at c_23
                            refine lv_iconst (v := 0) hx hb dX2_isLet_136 (by decide) ?_
                            have hP9 : va_P (dC, dI) vwCl (wMD cL cI g0 gm gc gn cd w tb su mx cf nu (k_startOf (cf k) (nu k) (m_bef nu k)) (k_endOf (cf k) (nu k))) H := hP
                            have hD9 : va_D A (wMD cL cI g0 gm gc gn cd w tb su mx cf nu (k_startOf (cf k) (nu k) (m_bef nu k)) (k_endOf (cf k) (nu k))) := hD
                            exact W.zret (v := 0) hx hb hr rfl (fun t ht hW => ⟨⟨0, ((k_startOf (cf k) (nu k) (m_bef nu k)), (k_endOf (cf k) (nu k))), rfl, (by first | rfl | (rw [← hq]; simp only [b2i, hm, c_6, eq_true c_7, eq_true c_16, hin, eq_true c_17, c_21, c_23, b2i, decide_true, decide_false, Bool.not_true, Bool.not_false, Bool.and_true, Bool.and_false, Bool.true_and, Bool.false_and, Bool.or_true, Bool.or_false, Bool.true_or, Bool.false_or, reduceIte, or_true, true_or, or_false, false_or, and_true, true_and, and_false, false_and, not_true_eq_false, not_false_eq_true, Bool.false_eq_true, eq_self]; done) | (rw [← hq]; simp [b2i, hm, c_6, eq_true c_7, eq_true c_16, hin, eq_true c_17, c_21, c_23]; done) | (rw [← hq]; simp only [b2i, hm, c_6, c_7, c_16, hin, c_17, c_21, c_23, b2i, decide_true, decide_false, Bool.not_true, Bool.not_false, Bool.and_true, Bool.and_false, Bool.true_and, Bool.false_and, Bool.or_true, Bool.or_false, Bool.true_or, Bool.false_or, reduceIte, or_true, true_or, or_false, false_or, and_true, true_and, and_false, false_and, not_true_eq_false, not_false_eq_true, Bool.false_eq_true, eq_self]; done) | (rw [← hq]; simp [b2i, hm, c_6, c_7, c_16, hin, c_17, c_21, c_23]; done)), (by rw [ht]; exact hP9), va_K.moved hW.alike hK, hD9⟩, hS.F ht⟩) hS.2.2 dX2_isLet_137
                          · rw [b2i_z] at c_23
                            rw [Bool.not_eq_false] at c_23
                            refine lv_iconst (v := 1) hx hb dX2_isLet_132 (by decide) ?_
                            refine lv_goto (tgt := 137) hx hb dX2_isLet_133 (by decide) ?_
                            have hP9 : va_P (dC, dI) vwCl (wMD cL cI g0 gm gc gn cd w tb su mx cf nu (k_startOf (cf k) (nu k) (m_bef nu k)) (k_endOf (cf k) (nu k))) H := hP
                            have hD9 : va_D A (wMD cL cI g0 gm gc gn cd w tb su mx cf nu (k_startOf (cf k) (nu k) (m_bef nu k)) (k_endOf (cf k) (nu k))) := hD
                            exact W.zret (v := 1) hx hb hr rfl (fun t ht hW => ⟨⟨1, ((k_startOf (cf k) (nu k) (m_bef nu k)), (k_endOf (cf k) (nu k))), rfl, (by first | rfl | (rw [← hq]; simp only [b2i, hm, c_6, eq_true c_7, eq_true c_16, hin, eq_true c_17, c_21, c_23, b2i, decide_true, decide_false, Bool.not_true, Bool.not_false, Bool.and_true, Bool.and_false, Bool.true_and, Bool.false_and, Bool.or_true, Bool.or_false, Bool.true_or, Bool.false_or, reduceIte, or_true, true_or, or_false, false_or, and_true, true_and, and_false, false_and, not_true_eq_false, not_false_eq_true, Bool.false_eq_true, eq_self]; done) | (rw [← hq]; simp [b2i, hm, c_6, eq_true c_7, eq_true c_16, hin, eq_true c_17, c_21, c_23]; done) | (rw [← hq]; simp only [b2i, hm, c_6, c_7, c_16, hin, c_17, c_21, c_23, b2i, decide_true, decide_false, Bool.not_true, Bool.not_false, Bool.and_true, Bool.and_false, Bool.true_and, Bool.false_and, Bool.or_true, Bool.or_false, Bool.true_or, Bool.false_or, reduceIte, or_true, true_or, or_false, false_or, and_true, true_and, and_false, false_and, not_true_eq_false, not_false_eq_true, Bool.false_eq_true, eq_self]; done) | (rw [← hq]; simp [b2i, hm, c_6, c_7, c_16, hin, c_17, c_21, c_23]; done)), (by rw [ht]; exact hP9), va_K.moved hW.alike hK, hD9⟩, hS.F ht⟩) hS.2.2 dX2_isLet_137
                · refine lv_iconst (v := 2) hx hb dX2_isLet_81 (by decide) ?_
                  refine lv_goto (tgt := 95) hx hb dX2_isLet_82 (by decide) ?_
                  refine lv_istore (lv' := [(8, .int 2), (0, .ref g0), (1, .long ad), (3, .int ac), (4, .int md), (5, .int (nI sn)), (6, .int (nI k)), (7, .int (nI (m_cnt ad (k_startOf (cf k) (nu k) (m_bef nu k)) (k_endOf (cf k) (nu k)) sn)))]) hx hb dX2_isLet_95 hl (by decide) rfl (fun ls hl => ?_)
                  refine lv_iload hx hb dX2_isLet_97 (lv_at hl 7 rfl) ?_
                  refine lv_iload hx hb dX2_isLet_99 (lv_at hl 5 rfl) ?_
                  refine lv_icmp_ne (tgt := 136) hx hb dX2_isLet_101 (by decide) (fun c_24 => ?_) (fun c_24 => ?_)
                  · have hin : (!decide (ad < (k_startOf (cf k) (nu k) (m_bef nu k))) && !decide ((k_endOf (cf k) (nu k)) < (ad + Int32.toInt64 (nI sn)))) = false := cnt_part hAd hok hs hm c_24
                    refine lv_iconst (v := 0) hx hb dX2_isLet_136 (by decide) ?_
                    have hP9 : va_P (dC, dI) vwCl (wMD cL cI g0 gm gc gn cd w tb su mx cf nu (k_startOf (cf k) (nu k) (m_bef nu k)) (k_endOf (cf k) (nu k))) H := hP
                    have hD9 : va_D A (wMD cL cI g0 gm gc gn cd w tb su mx cf nu (k_startOf (cf k) (nu k) (m_bef nu k)) (k_endOf (cf k) (nu k))) := hD
                    exact W.zret (v := 0) hx hb hr rfl (fun t ht hW => ⟨⟨0, ((k_startOf (cf k) (nu k) (m_bef nu k)), (k_endOf (cf k) (nu k))), rfl, (by first | rfl | (rw [← hq]; simp only [b2i, hm, eq_true c_6, c_24, hin, b2i, decide_true, decide_false, Bool.not_true, Bool.not_false, Bool.and_true, Bool.and_false, Bool.true_and, Bool.false_and, Bool.or_true, Bool.or_false, Bool.true_or, Bool.false_or, reduceIte, or_true, true_or, or_false, false_or, and_true, true_and, and_false, false_and, not_true_eq_false, not_false_eq_true, Bool.false_eq_true, eq_self]; done) | (rw [← hq]; simp [b2i, hm, eq_true c_6, c_24, hin]; done) | (rw [← hq]; simp only [b2i, hm, c_6, c_24, hin, b2i, decide_true, decide_false, Bool.not_true, Bool.not_false, Bool.and_true, Bool.and_false, Bool.true_and, Bool.false_and, Bool.or_true, Bool.or_false, Bool.true_or, Bool.false_or, reduceIte, or_true, true_or, or_false, false_or, and_true, true_and, and_false, false_and, not_true_eq_false, not_false_eq_true, Bool.false_eq_true, eq_self]; done) | (rw [← hq]; simp [b2i, hm, c_6, c_24, hin]; done)), (by rw [ht]; exact hP9), va_K.moved hW.alike hK, hD9⟩, hS.F ht⟩) hS.2.2 dX2_isLet_137
                  · have hin : (!decide (ad < (k_startOf (cf k) (nu k) (m_bef nu k))) && !decide ((k_endOf (cf k) (nu k)) < (ad + Int32.toInt64 (nI sn)))) = true := cnt_all hAd hok hs hm c_24
                    refine lv_iload hx hb dX2_isLet_104 (lv_at hl 4 rfl) ?_
                    refine lv_iconst (v := 3) hx hb dX2_isLet_106 (by decide) ?_
                    refine lv_icmp_ne (tgt := 121) hx hb dX2_isLet_107 (by decide) (fun c_25 => ?_) (fun c_25 => ?_)
                    · refine lv_aload_n hx hb dX2_isLet_121 rfl (lv_at hl 1 rfl) ?_
                      refine lv_iload hx hb dX2_isLet_122 (lv_at hl 6 rfl) ?_
                      refine lv_iload hx hb dX2_isLet_124 (lv_at hl 0 rfl) ?_
                      refine vp_callSi (W.runV (As := [.int (nI k), .int 2]) (rest := []) ⟨hx, hb, hml, hown, hts⟩ (mtX2_has l dC dI cL cI g0 gm gc gn cd w tb su mx cf nu (k_startOf (cf k) (nu k) (m_bef nu k)) (k_endOf (cf k) (nu k)) k 2 (hk8)) (cwV 2 hts (gAll (mc1 (wa 429 (by decide +kernel) rfl) (mc1 (wa 431 (by decide +kernel) rfl) (mc1 (wa 7 (by decide +kernel) rfl) (mc1 (wa 17 (by decide +kernel) rfl) mc0)))) (wa 432 (by decide +kernel) rfl) (by decide +kernel)) rfl rfl rfl (by decide +kernel) ⟨Nat.le_of_ble_eq_true rfl, Nat.le_of_ble_eq_true rfl⟩) (rd_pre (ci := 2) (q0 := 0) hK hP rfl rfl) rfl rfl hl.1 rfl (lv_room (Nat.le_of_ble_eq_true rfl)) dX2_isLet_126 ⟨Nat.le_of_ble_eq_true rfl, Nat.le_of_ble_eq_true rfl⟩) (fun r_26 er_26 => ?_)
                      have er_26 : r_26 = (b2i (m_has (cf k) 2)) := er_26
                      subst er_26
                      refine lv_if_eq (tgt := 136) hx hb dX2_isLet_129 (by decide) (fun c_27 => ?_) (fun c_27 => ?_)
                      · rw [b2i_z] at c_27
                        refine lv_iconst (v := 0) hx hb dX2_isLet_136 (by decide) ?_
                        have hP9 : va_P (dC, dI) vwCl (wMD cL cI g0 gm gc gn cd w tb su mx cf nu (k_startOf (cf k) (nu k) (m_bef nu k)) (k_endOf (cf k) (nu k))) H := hP
                        have hD9 : va_D A (wMD cL cI g0 gm gc gn cd w tb su mx cf nu (k_startOf (cf k) (nu k) (m_bef nu k)) (k_endOf (cf k) (nu k))) := hD
                        exact W.zret (v := 0) hx hb hr rfl (fun t ht hW => ⟨⟨0, ((k_startOf (cf k) (nu k) (m_bef nu k)), (k_endOf (cf k) (nu k))), rfl, (by first | rfl | (rw [← hq]; simp only [b2i, hm, eq_true c_6, eq_true c_24, hin, c_25, c_27, b2i, decide_true, decide_false, Bool.not_true, Bool.not_false, Bool.and_true, Bool.and_false, Bool.true_and, Bool.false_and, Bool.or_true, Bool.or_false, Bool.true_or, Bool.false_or, reduceIte, or_true, true_or, or_false, false_or, and_true, true_and, and_false, false_and, not_true_eq_false, not_false_eq_true, Bool.false_eq_true, eq_self]; done) | (rw [← hq]; simp [b2i, hm, eq_true c_6, eq_true c_24, hin, c_25, c_27]; done) | (rw [← hq]; simp only [b2i, hm, c_6, c_24, hin, c_25, c_27, b2i, decide_true, decide_false, Bool.not_true, Bool.not_false, Bool.and_true, Bool.and_false, Bool.true_and, Bool.false_and, Bool.or_true, Bool.or_false, Bool.true_or, Bool.false_or, reduceIte, or_true, true_or, or_false, false_or, and_true, true_and, and_false, false_and, not_true_eq_false, not_false_eq_true, Bool.false_eq_true, eq_self]; done) | (rw [← hq]; simp [b2i, hm, c_6, c_24, hin, c_25, c_27]; done)), (by rw [ht]; exact hP9), va_K.moved hW.alike hK, hD9⟩, hS.F ht⟩) hS.2.2 dX2_isLet_137
                      · rw [b2i_z] at c_27
                        rw [Bool.not_eq_false] at c_27
                        refine lv_iconst (v := 1) hx hb dX2_isLet_132 (by decide) ?_
                        refine lv_goto (tgt := 137) hx hb dX2_isLet_133 (by decide) ?_
                        have hP9 : va_P (dC, dI) vwCl (wMD cL cI g0 gm gc gn cd w tb su mx cf nu (k_startOf (cf k) (nu k) (m_bef nu k)) (k_endOf (cf k) (nu k))) H := hP
                        have hD9 : va_D A (wMD cL cI g0 gm gc gn cd w tb su mx cf nu (k_startOf (cf k) (nu k) (m_bef nu k)) (k_endOf (cf k) (nu k))) := hD
                        exact W.zret (v := 1) hx hb hr rfl (fun t ht hW => ⟨⟨1, ((k_startOf (cf k) (nu k) (m_bef nu k)), (k_endOf (cf k) (nu k))), rfl, (by first | rfl | (rw [← hq]; simp only [b2i, hm, eq_true c_6, eq_true c_24, hin, c_25, c_27, b2i, decide_true, decide_false, Bool.not_true, Bool.not_false, Bool.and_true, Bool.and_false, Bool.true_and, Bool.false_and, Bool.or_true, Bool.or_false, Bool.true_or, Bool.false_or, reduceIte, or_true, true_or, or_false, false_or, and_true, true_and, and_false, false_and, not_true_eq_false, not_false_eq_true, Bool.false_eq_true, eq_self]; done) | (rw [← hq]; simp [b2i, hm, eq_true c_6, eq_true c_24, hin, c_25, c_27]; done) | (rw [← hq]; simp only [b2i, hm, c_6, c_24, hin, c_25, c_27, b2i, decide_true, decide_false, Bool.not_true, Bool.not_false, Bool.and_true, Bool.and_false, Bool.true_and, Bool.false_and, Bool.or_true, Bool.or_false, Bool.true_or, Bool.false_or, reduceIte, or_true, true_or, or_false, false_or, and_true, true_and, and_false, false_and, not_true_eq_false, not_false_eq_true, Bool.false_eq_true, eq_self]; done) | (rw [← hq]; simp [b2i, hm, c_6, c_24, hin, c_25, c_27]; done)), (by rw [ht]; exact hP9), va_K.moved hW.alike hK, hD9⟩, hS.F ht⟩) hS.2.2 dX2_isLet_137
                    · refine lv_aload_n hx hb dX2_isLet_110 rfl (lv_at hl 1 rfl) ?_
                      refine lv_iload hx hb dX2_isLet_111 (lv_at hl 6 rfl) ?_
                      refine lv_bipush (v := 7) hx hb dX2_isLet_113 (by decide) ?_
                      refine vp_callSi (W.runV (As := [.int (nI k), .int 7]) (rest := []) ⟨hx, hb, hml, hown, hts⟩ (mtX2_has l dC dI cL cI g0 gm gc gn cd w tb su mx cf nu (k_startOf (cf k) (nu k) (m_bef nu k)) (k_endOf (cf k) (nu k)) k 7 (hk8)) (cwV 2 hts (gAll (mc1 (wa 429 (by decide +kernel) rfl) (mc1 (wa 431 (by decide +kernel) rfl) (mc1 (wa 7 (by decide +kernel) rfl) (mc1 (wa 17 (by decide +kernel) rfl) mc0)))) (wa 432 (by decide +kernel) rfl) (by decide +kernel)) rfl rfl rfl (by decide +kernel) ⟨Nat.le_of_ble_eq_true rfl, Nat.le_of_ble_eq_true rfl⟩) (rd_pre (ci := 2) (q0 := 0) hK hP rfl rfl) rfl rfl hl.1 rfl (lv_room (Nat.le_of_ble_eq_true rfl)) dX2_isLet_115 ⟨Nat.le_of_ble_eq_true rfl, Nat.le_of_ble_eq_true rfl⟩) (fun r_28 er_28 => ?_)
                      have er_28 : r_28 = (b2i (m_has (cf k) 7)) := er_28
                      subst er_28
                      refine lv_if_eq (tgt := 132) hx hb dX2_isLet_118 (by decide) (fun c_29 => ?_) (fun c_29 => ?_)
                      · rw [b2i_z] at c_29
                        refine lv_iconst (v := 1) hx hb dX2_isLet_132 (by decide) ?_
                        refine lv_goto (tgt := 137) hx hb dX2_isLet_133 (by decide) ?_
                        have hP9 : va_P (dC, dI) vwCl (wMD cL cI g0 gm gc gn cd w tb su mx cf nu (k_startOf (cf k) (nu k) (m_bef nu k)) (k_endOf (cf k) (nu k))) H := hP
                        have hD9 : va_D A (wMD cL cI g0 gm gc gn cd w tb su mx cf nu (k_startOf (cf k) (nu k) (m_bef nu k)) (k_endOf (cf k) (nu k))) := hD
                        exact W.zret (v := 1) hx hb hr rfl (fun t ht hW => ⟨⟨1, ((k_startOf (cf k) (nu k) (m_bef nu k)), (k_endOf (cf k) (nu k))), rfl, (by first | rfl | (rw [← hq]; simp only [b2i, hm, eq_true c_6, eq_true c_24, hin, eq_true c_25, c_29, b2i, decide_true, decide_false, Bool.not_true, Bool.not_false, Bool.and_true, Bool.and_false, Bool.true_and, Bool.false_and, Bool.or_true, Bool.or_false, Bool.true_or, Bool.false_or, reduceIte, or_true, true_or, or_false, false_or, and_true, true_and, and_false, false_and, not_true_eq_false, not_false_eq_true, Bool.false_eq_true, eq_self]; done) | (rw [← hq]; simp [b2i, hm, eq_true c_6, eq_true c_24, hin, eq_true c_25, c_29]; done) | (rw [← hq]; simp only [b2i, hm, c_6, c_24, hin, c_25, c_29, b2i, decide_true, decide_false, Bool.not_true, Bool.not_false, Bool.and_true, Bool.and_false, Bool.true_and, Bool.false_and, Bool.or_true, Bool.or_false, Bool.true_or, Bool.false_or, reduceIte, or_true, true_or, or_false, false_or, and_true, true_and, and_false, false_and, not_true_eq_false, not_false_eq_true, Bool.false_eq_true, eq_self]; done) | (rw [← hq]; simp [b2i, hm, c_6, c_24, hin, c_25, c_29]; done)), (by rw [ht]; exact hP9), va_K.moved hW.alike hK, hD9⟩, hS.F ht⟩) hS.2.2 dX2_isLet_137
                      · rw [b2i_z] at c_29
                        rw [Bool.not_eq_false] at c_29
                        refine lv_aload_n hx hb dX2_isLet_121 rfl (lv_at hl 1 rfl) ?_
                        refine lv_iload hx hb dX2_isLet_122 (lv_at hl 6 rfl) ?_
                        refine lv_iload hx hb dX2_isLet_124 (lv_at hl 0 rfl) ?_
                        refine vp_callSi (W.runV (As := [.int (nI k), .int 2]) (rest := []) ⟨hx, hb, hml, hown, hts⟩ (mtX2_has l dC dI cL cI g0 gm gc gn cd w tb su mx cf nu (k_startOf (cf k) (nu k) (m_bef nu k)) (k_endOf (cf k) (nu k)) k 2 (hk8)) (cwV 2 hts (gAll (mc1 (wa 429 (by decide +kernel) rfl) (mc1 (wa 431 (by decide +kernel) rfl) (mc1 (wa 7 (by decide +kernel) rfl) (mc1 (wa 17 (by decide +kernel) rfl) mc0)))) (wa 432 (by decide +kernel) rfl) (by decide +kernel)) rfl rfl rfl (by decide +kernel) ⟨Nat.le_of_ble_eq_true rfl, Nat.le_of_ble_eq_true rfl⟩) (rd_pre (ci := 2) (q0 := 0) hK hP rfl rfl) rfl rfl hl.1 rfl (lv_room (Nat.le_of_ble_eq_true rfl)) dX2_isLet_126 ⟨Nat.le_of_ble_eq_true rfl, Nat.le_of_ble_eq_true rfl⟩) (fun r_30 er_30 => ?_)
                        have er_30 : r_30 = (b2i (m_has (cf k) 2)) := er_30
                        subst er_30
                        refine lv_if_eq (tgt := 136) hx hb dX2_isLet_129 (by decide) (fun c_31 => ?_) (fun c_31 => ?_)
                        · rw [b2i_z] at c_31
                          refine lv_iconst (v := 0) hx hb dX2_isLet_136 (by decide) ?_
                          have hP9 : va_P (dC, dI) vwCl (wMD cL cI g0 gm gc gn cd w tb su mx cf nu (k_startOf (cf k) (nu k) (m_bef nu k)) (k_endOf (cf k) (nu k))) H := hP
                          have hD9 : va_D A (wMD cL cI g0 gm gc gn cd w tb su mx cf nu (k_startOf (cf k) (nu k) (m_bef nu k)) (k_endOf (cf k) (nu k))) := hD
                          exact W.zret (v := 0) hx hb hr rfl (fun t ht hW => ⟨⟨0, ((k_startOf (cf k) (nu k) (m_bef nu k)), (k_endOf (cf k) (nu k))), rfl, (by first | rfl | (rw [← hq]; simp only [b2i, hm, eq_true c_6, eq_true c_24, hin, eq_true c_25, c_29, c_31, b2i, decide_true, decide_false, Bool.not_true, Bool.not_false, Bool.and_true, Bool.and_false, Bool.true_and, Bool.false_and, Bool.or_true, Bool.or_false, Bool.true_or, Bool.false_or, reduceIte, or_true, true_or, or_false, false_or, and_true, true_and, and_false, false_and, not_true_eq_false, not_false_eq_true, Bool.false_eq_true, eq_self]; done) | (rw [← hq]; simp [b2i, hm, eq_true c_6, eq_true c_24, hin, eq_true c_25, c_29, c_31]; done) | (rw [← hq]; simp only [b2i, hm, c_6, c_24, hin, c_25, c_29, c_31, b2i, decide_true, decide_false, Bool.not_true, Bool.not_false, Bool.and_true, Bool.and_false, Bool.true_and, Bool.false_and, Bool.or_true, Bool.or_false, Bool.true_or, Bool.false_or, reduceIte, or_true, true_or, or_false, false_or, and_true, true_and, and_false, false_and, not_true_eq_false, not_false_eq_true, Bool.false_eq_true, eq_self]; done) | (rw [← hq]; simp [b2i, hm, c_6, c_24, hin, c_25, c_29, c_31]; done)), (by rw [ht]; exact hP9), va_K.moved hW.alike hK, hD9⟩, hS.F ht⟩) hS.2.2 dX2_isLet_137
                        · rw [b2i_z] at c_31
                          rw [Bool.not_eq_false] at c_31
                          refine lv_iconst (v := 1) hx hb dX2_isLet_132 (by decide) ?_
                          refine lv_goto (tgt := 137) hx hb dX2_isLet_133 (by decide) ?_
                          have hP9 : va_P (dC, dI) vwCl (wMD cL cI g0 gm gc gn cd w tb su mx cf nu (k_startOf (cf k) (nu k) (m_bef nu k)) (k_endOf (cf k) (nu k))) H := hP
                          have hD9 : va_D A (wMD cL cI g0 gm gc gn cd w tb su mx cf nu (k_startOf (cf k) (nu k) (m_bef nu k)) (k_endOf (cf k) (nu k))) := hD
                          exact W.zret (v := 1) hx hb hr rfl (fun t ht hW => ⟨⟨1, ((k_startOf (cf k) (nu k) (m_bef nu k)), (k_endOf (cf k) (nu k))), rfl, (by first | rfl | (rw [← hq]; simp only [b2i, hm, eq_true c_6, eq_true c_24, hin, eq_true c_25, c_29, c_31, b2i, decide_true, decide_false, Bool.not_true, Bool.not_false, Bool.and_true, Bool.and_false, Bool.true_and, Bool.false_and, Bool.or_true, Bool.or_false, Bool.true_or, Bool.false_or, reduceIte, or_true, true_or, or_false, false_or, and_true, true_and, and_false, false_and, not_true_eq_false, not_false_eq_true, Bool.false_eq_true, eq_self]; done) | (rw [← hq]; simp [b2i, hm, eq_true c_6, eq_true c_24, hin, eq_true c_25, c_29, c_31]; done) | (rw [← hq]; simp only [b2i, hm, c_6, c_24, hin, c_25, c_29, c_31, b2i, decide_true, decide_false, Bool.not_true, Bool.not_false, Bool.and_true, Bool.and_false, Bool.true_and, Bool.false_and, Bool.or_true, Bool.or_false, Bool.true_or, Bool.false_or, reduceIte, or_true, true_or, or_false, false_or, and_true, true_and, and_false, false_and, not_true_eq_false, not_false_eq_true, Bool.false_eq_true, eq_self]; done) | (rw [← hq]; simp [b2i, hm, c_6, c_24, hin, c_25, c_29, c_31]; done)), (by rw [ht]; exact hP9), va_K.moved hW.alike hK, hD9⟩, hS.F ht⟩) hS.2.2 dX2_isLet_137
            · have hq3 : q < sn := q_lt hq1 hs8 c_4
              refine lv_lload_n hx hb dX2_isLet_29 rfl (lv_at hl 1 rfl) ?_
              refine lv_iload hx hb dX2_isLet_30 (lv_at hl 7 rfl) ?_
              refine lv_i2l (v := Int32.toInt64 (nI q)) hx hb dX2_isLet_32 rfl ?_
              refine lv_ladd hx hb dX2_isLet_33 ?_
              refine lv_aload_n hx hb dX2_isLet_34 rfl (lv_at hl 0 rfl) ?_
              refine va_get (D := (dC, dI)) (ci := 2) (v := .long (k_startOf (cf k) (nu k) (m_bef nu k))) (C := RX2) (T := TX2) (N := 9) hx hb hts iwX2 hown hK hP 0 rfl rfl 7 (by decide) (hts (.fieldLink RX2 67 RX2 "from" "J") (wa 362 (by decide +kernel) rfl)) (fun _ h9 => h9) rfl dX2_isLet_35 ?_
              refine W.lcmp hx hb dX2_isLet_38 ?_
              refine lv_if_lt (tgt := 62) hx hb dX2_isLet_39 (by decide) (fun c_32 => ?_) (fun c_32 => ?_)
              · rw [lg_cmp_lt] at c_32
                refine lv_iload hx hb dX2_isLet_62 (lv_at hl 6 rfl) ?_
                refine lv_istore (lv' := [(7, .int (nI (m_cnt ad (k_startOf (cf k) (nu k) (m_bef nu k)) (k_endOf (cf k) (nu k)) q))), (0, .ref g0), (1, .long ad), (3, .int ac), (4, .int md), (5, .int (nI sn)), (6, .int (nI k)), (8, .int (nI q))]) hx hb dX2_isLet_64 hl (by decide) rfl (fun ls hl => ?_)
                refine lv_iinc (v := ((nI q) + 1)) (lv' := [(8, .int ((nI q) + 1)), (7, .int (nI (m_cnt ad (k_startOf (cf k) (nu k) (m_bef nu k)) (k_endOf (cf k) (nu k)) q))), (0, .ref g0), (1, .long ad), (3, .int ac), (4, .int md), (5, .int (nI sn)), (6, .int (nI k))]) hx hb dX2_isLet_66 hl (k := 7) rfl rfl (by decide) rfl (fun ls hl => ?_)
                refine lv_goto (tgt := 22) hx hb dX2_isLet_69 (by decide) ?_
                have e7 : m_cnt ad (k_startOf (cf k) (nu k) (m_bef nu k)) (k_endOf (cf k) (nu k)) (q + 1) = m_cnt ad (k_startOf (cf k) (nu k) (m_bef nu k)) (k_endOf (cf k) (nu k)) q := by show (if _ then _ else _) = _; rw [if_pos c_32]
                rw [← e7, ← nI_succ] at hl
                exact ihf (q + 1) ls (by omega) (by omega) (lv_sub hl [2, 3, 4, 5, 6, 7, 1, 0] rfl)
              · rw [lg_cmp_lt] at c_32
                refine lv_lload_n hx hb dX2_isLet_42 rfl (lv_at hl 1 rfl) ?_
                refine lv_iload hx hb dX2_isLet_43 (lv_at hl 7 rfl) ?_
                refine lv_i2l (v := Int32.toInt64 (nI q)) hx hb dX2_isLet_45 rfl ?_
                refine lv_ladd hx hb dX2_isLet_46 ?_
                refine lv_aload_n hx hb dX2_isLet_47 rfl (lv_at hl 0 rfl) ?_
                refine va_get (D := (dC, dI)) (ci := 2) (v := .long (k_endOf (cf k) (nu k))) (C := RX2) (T := TX2) (N := 9) hx hb hts iwX2 hown hK hP 0 rfl rfl 8 (by decide) (hts (.fieldLink RX2 70 RX2 "to" "J") (wa 363 (by decide +kernel) rfl)) (fun _ h9 => h9) rfl dX2_isLet_48 ?_
                refine W.lcmp hx hb dX2_isLet_51 ?_
                refine lv_if_ge (tgt := 62) hx hb dX2_isLet_52 (by decide) (fun c_33 => ?_) (fun c_33 => ?_)
                · rw [lg_cmp_ge] at c_33
                  refine lv_iload hx hb dX2_isLet_62 (lv_at hl 6 rfl) ?_
                  refine lv_istore (lv' := [(7, .int (nI (m_cnt ad (k_startOf (cf k) (nu k) (m_bef nu k)) (k_endOf (cf k) (nu k)) q))), (0, .ref g0), (1, .long ad), (3, .int ac), (4, .int md), (5, .int (nI sn)), (6, .int (nI k)), (8, .int (nI q))]) hx hb dX2_isLet_64 hl (by decide) rfl (fun ls hl => ?_)
                  refine lv_iinc (v := ((nI q) + 1)) (lv' := [(8, .int ((nI q) + 1)), (7, .int (nI (m_cnt ad (k_startOf (cf k) (nu k) (m_bef nu k)) (k_endOf (cf k) (nu k)) q))), (0, .ref g0), (1, .long ad), (3, .int ac), (4, .int md), (5, .int (nI sn)), (6, .int (nI k))]) hx hb dX2_isLet_66 hl (k := 7) rfl rfl (by decide) rfl (fun ls hl => ?_)
                  refine lv_goto (tgt := 22) hx hb dX2_isLet_69 (by decide) ?_
                  have e7 : m_cnt ad (k_startOf (cf k) (nu k) (m_bef nu k)) (k_endOf (cf k) (nu k)) (q + 1) = m_cnt ad (k_startOf (cf k) (nu k) (m_bef nu k)) (k_endOf (cf k) (nu k)) q := by show (if _ then _ else _) = _; rw [if_neg c_32, if_pos c_33]
                  rw [← e7, ← nI_succ] at hl
                  exact ihf (q + 1) ls (by omega) (by omega) (lv_sub hl [2, 3, 4, 5, 6, 7, 1, 0] rfl)
                · rw [lg_cmp_ge] at c_33
                  refine lv_iload hx hb dX2_isLet_55 (lv_at hl 6 rfl) ?_
                  refine lv_iconst (v := 1) hx hb dX2_isLet_57 (by decide) ?_
                  refine lv_iadd hx hb dX2_isLet_58 ?_
                  refine lv_goto (tgt := 64) hx hb dX2_isLet_59 (by decide) ?_
                  refine lv_istore (lv' := [(7, .int ((nI (m_cnt ad (k_startOf (cf k) (nu k) (m_bef nu k)) (k_endOf (cf k) (nu k)) q)) + 1)), (0, .ref g0), (1, .long ad), (3, .int ac), (4, .int md), (5, .int (nI sn)), (6, .int (nI k)), (8, .int (nI q))]) hx hb dX2_isLet_64 hl (by decide) rfl (fun ls hl => ?_)
                  refine lv_iinc (v := ((nI q) + 1)) (lv' := [(8, .int ((nI q) + 1)), (7, .int ((nI (m_cnt ad (k_startOf (cf k) (nu k) (m_bef nu k)) (k_endOf (cf k) (nu k)) q)) + 1)), (0, .ref g0), (1, .long ad), (3, .int ac), (4, .int md), (5, .int (nI sn)), (6, .int (nI k))]) hx hb dX2_isLet_66 hl (k := 7) rfl rfl (by decide) rfl (fun ls hl => ?_)
                  refine lv_goto (tgt := 22) hx hb dX2_isLet_69 (by decide) ?_
                  have e7 : m_cnt ad (k_startOf (cf k) (nu k) (m_bef nu k)) (k_endOf (cf k) (nu k)) (q + 1) = m_cnt ad (k_startOf (cf k) (nu k) (m_bef nu k)) (k_endOf (cf k) (nu k)) q + 1 := by show (if _ then _ else _) = _; rw [if_neg c_32, if_neg c_33]
                  rw [nI_1 (m_cnt ad (k_startOf (cf k) (nu k) (m_bef nu k)) (k_endOf (cf k) (nu k)) q), ← e7, ← nI_succ] at hl
                  exact ihf (q + 1) ls (by omega) (by omega) (lv_sub hl [2, 3, 4, 5, 6, 7, 1, 0] rfl)
        exact inner (sn + 1) 0 ls (by omega) (by omega) (lv_sub hl [2, 3, 4, 5, 6, 7, 1, 0] rfl)
  refine lv_iconst (v := 0) hx hb dX2_isLet_0 (by decide) ?_
  refine lv_istore (lv' := [(6, .int 0), (0, .ref g0), (1, .long ad), (3, .int ac), (4, .int md), (5, .int (nI sn))]) hx hb dX2_isLet_1 hl (by decide) rfl (fun ls hl => ?_)
  exact loop 9 0 ls _ _ _ _ (by omega) (by omega) rfl hP hD hS (lv_sub hl [1, 2, 3, 4, 5, 0] rfl)
