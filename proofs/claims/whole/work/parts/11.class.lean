set_option maxHeartbeats 4000000 in
set_option maxRecDepth 100000 in
theorem mtX1_isAccess (l : Launch) (ad : Int64) (ac : Int32) (md : Int32) (sz : Int32) : Met l yX1_isAccess wsX1_isAccess ({ frames := 0, cells := 0, slots := 0, locals := 0 }) (fun v _ => v = ([.long ad, .int ac, .int md, .int sz] : List Value).toArray) (vp_Si (fun r => r = b2i (k_isAccess ad ac md sz))) 0 0 (fun _ => False) := by
  refine Met.ofW (cc := cX1_isAccess) (maxL := 5) (ret := (some .boolean)) (by decide) rfl ?_
  intro p e s m args below meth c s₁ B hml hv
  have hv : args = ([.long ad, .int ac, .int md, .int sz] : List Value).toArray := hv
  subst hv
  have hx := B.exec
  have hb := B.bytes
  have hr := B.returns
  have hts := atoms_spec (ws := wsX1_isAccess) B.pre
  have hown : s.vm.findClass RX1 = some m.cls := findClass_of_methodNamed B.named
  have hlocks := B.notSynchronized
  have hl := lv_entry ([.long ad, .int ac, .int md, .int sz]) (n := 5) (Nat.le_of_ble_eq_true rfl)
  rw [lg_entry_eq]
  generalize (lg_sl ([.long ad, .int ac, .int md, .int sz]) ++ List.replicate (5 - (lg_sl ([.long ad, .int ac, .int md, .int sz])).length) Slot.unset).toArray = ls at hl ⊢
  have hl : lv_has ls 5 [(0, .long ad), (2, .int ac), (3, .int md), (4, .int sz)] := hl
  refine lv_iload_n hx hb dX1_isAccess_0 rfl (lv_at hl 1 rfl) ?_
  refine lv_if_eq (tgt := 14) hx hb dX1_isAccess_1 (by decide) (fun c_1 => ?_) (fun c_1 => ?_)
  · have ha : (decide (ac = 0) || decide (ac = 1) || decide (ac = 2)) = true := by simp [c_1]
    refine lv_iload_n hx hb dX1_isAccess_14 rfl (lv_at hl 2 rfl) ?_
    refine lv_if_eq (tgt := 28) hx hb dX1_isAccess_15 (by decide) (fun c_2 => ?_) (fun c_2 => ?_)
    · have hm : (decide (md = 0) || decide (md = 1) || decide (md = 3)) = true := by simp [c_2]
      refine lv_iload hx hb dX1_isAccess_28 (lv_at hl 3 rfl) ?_
      refine lv_iconst (v := 1) hx hb dX1_isAccess_30 (by decide) ?_
      refine lv_icmp_eq (tgt := 53) hx hb dX1_isAccess_31 (by decide) (fun c_3 => ?_) (fun c_3 => ?_)
      · have hs : (decide (sz = 1) || decide (sz = 2) || decide (sz = 4) || decide (sz = 8)) = true := by simp [c_3]
        refine lv_lload_n hx hb dX1_isAccess_53 rfl (lv_at hl 0 rfl) ?_
        refine lv_ldc2 (v := 4095) hx hb hown (hts (.constantLong RX1 88 4095) (wa 253 (by decide +kernel) rfl)) dX1_isAccess_54 ?_
        refine lv_land hx hb dX1_isAccess_57 ?_
        refine lv_iload hx hb dX1_isAccess_58 (lv_at hl 3 rfl) ?_
        refine lv_i2l (v := Int32.toInt64 sz) hx hb dX1_isAccess_60 rfl ?_
        refine lv_ladd hx hb dX1_isAccess_61 ?_
        refine lv_ldc2 (v := 4096) hx hb hown (hts (.constantLong RX1 90 4096) (wa 254 (by decide +kernel) rfl)) dX1_isAccess_62 ?_
        refine W.lcmp hx hb dX1_isAccess_65 ?_
        refine lv_if_gt (tgt := 73) hx hb dX1_isAccess_66 (by decide) (fun c_4 => ?_) (fun c_4 => ?_)
        · rw [lg_cmp_gt] at c_4
          refine lv_iconst (v := 0) hx hb dX1_isAccess_73 (by decide) ?_
          exact W.zret (v := 0) hx hb hr rfl (fun t ht hW => ⟨0, rfl, (by first | rfl | (simp only [k_isAccess, b2i, ha, hm, hs, c_4, b2i, decide_true, decide_false, Bool.not_true, Bool.not_false, Bool.and_true, Bool.and_false, Bool.true_and, Bool.false_and, Bool.or_true, Bool.or_false, Bool.true_or, Bool.false_or, reduceIte, or_true, true_or, or_false, false_or, and_true, true_and, and_false, false_and, not_true_eq_false, not_false_eq_true, Bool.false_eq_true, eq_self]; done) | (simp [k_isAccess, b2i, ha, hm, hs, c_4]; done)), ht⟩) (fun _ h => nomatch h) dX1_isAccess_74
        · rw [lg_cmp_gt] at c_4
          refine lv_iconst (v := 1) hx hb dX1_isAccess_69 (by decide) ?_
          refine lv_goto (tgt := 74) hx hb dX1_isAccess_70 (by decide) ?_
          exact W.zret (v := 1) hx hb hr rfl (fun t ht hW => ⟨1, rfl, (by first | rfl | (simp only [k_isAccess, b2i, ha, hm, hs, c_4, b2i, decide_true, decide_false, Bool.not_true, Bool.not_false, Bool.and_true, Bool.and_false, Bool.true_and, Bool.false_and, Bool.or_true, Bool.or_false, Bool.true_or, Bool.false_or, reduceIte, or_true, true_or, or_false, false_or, and_true, true_and, and_false, false_and, not_true_eq_false, not_false_eq_true, Bool.false_eq_true, eq_self]; done) | (simp [k_isAccess, b2i, ha, hm, hs, c_4]; done)), ht⟩) (fun _ h => nomatch h) dX1_isAccess_74
      · refine lv_iload hx hb dX1_isAccess_34 (lv_at hl 3 rfl) ?_
        refine lv_iconst (v := 2) hx hb dX1_isAccess_36 (by decide) ?_
        refine lv_icmp_eq (tgt := 53) hx hb dX1_isAccess_37 (by decide) (fun c_5 => ?_) (fun c_5 => ?_)
        · have hs : (decide (sz = 1) || decide (sz = 2) || decide (sz = 4) || decide (sz = 8)) = true := by simp [c_3, c_5]
          refine lv_lload_n hx hb dX1_isAccess_53 rfl (lv_at hl 0 rfl) ?_
          refine lv_ldc2 (v := 4095) hx hb hown (hts (.constantLong RX1 88 4095) (wa 253 (by decide +kernel) rfl)) dX1_isAccess_54 ?_
          refine lv_land hx hb dX1_isAccess_57 ?_
          refine lv_iload hx hb dX1_isAccess_58 (lv_at hl 3 rfl) ?_
          refine lv_i2l (v := Int32.toInt64 sz) hx hb dX1_isAccess_60 rfl ?_
          refine lv_ladd hx hb dX1_isAccess_61 ?_
          refine lv_ldc2 (v := 4096) hx hb hown (hts (.constantLong RX1 90 4096) (wa 254 (by decide +kernel) rfl)) dX1_isAccess_62 ?_
          refine W.lcmp hx hb dX1_isAccess_65 ?_
          refine lv_if_gt (tgt := 73) hx hb dX1_isAccess_66 (by decide) (fun c_6 => ?_) (fun c_6 => ?_)
          · rw [lg_cmp_gt] at c_6
            refine lv_iconst (v := 0) hx hb dX1_isAccess_73 (by decide) ?_
            exact W.zret (v := 0) hx hb hr rfl (fun t ht hW => ⟨0, rfl, (by first | rfl | (simp only [k_isAccess, b2i, ha, hm, hs, c_6, b2i, decide_true, decide_false, Bool.not_true, Bool.not_false, Bool.and_true, Bool.and_false, Bool.true_and, Bool.false_and, Bool.or_true, Bool.or_false, Bool.true_or, Bool.false_or, reduceIte, or_true, true_or, or_false, false_or, and_true, true_and, and_false, false_and, not_true_eq_false, not_false_eq_true, Bool.false_eq_true, eq_self]; done) | (simp [k_isAccess, b2i, ha, hm, hs, c_6]; done)), ht⟩) (fun _ h => nomatch h) dX1_isAccess_74
          · rw [lg_cmp_gt] at c_6
            refine lv_iconst (v := 1) hx hb dX1_isAccess_69 (by decide) ?_
            refine lv_goto (tgt := 74) hx hb dX1_isAccess_70 (by decide) ?_
            exact W.zret (v := 1) hx hb hr rfl (fun t ht hW => ⟨1, rfl, (by first | rfl | (simp only [k_isAccess, b2i, ha, hm, hs, c_6, b2i, decide_true, decide_false, Bool.not_true, Bool.not_false, Bool.and_true, Bool.and_false, Bool.true_and, Bool.false_and, Bool.or_true, Bool.or_false, Bool.true_or, Bool.false_or, reduceIte, or_true, true_or, or_false, false_or, and_true, true_and, and_false, false_and, not_true_eq_false, not_false_eq_true, Bool.false_eq_true, eq_self]; done) | (simp [k_isAccess, b2i, ha, hm, hs, c_6]; done)), ht⟩) (fun _ h => nomatch h) dX1_isAccess_74
        · refine lv_iload hx hb dX1_isAccess_40 (lv_at hl 3 rfl) ?_
          refine lv_iconst (v := 4) hx hb dX1_isAccess_42 (by decide) ?_
          refine lv_icmp_eq (tgt := 53) hx hb dX1_isAccess_43 (by decide) (fun c_7 => ?_) (fun c_7 => ?_)
          · have hs : (decide (sz = 1) || decide (sz = 2) || decide (sz = 4) || decide (sz = 8)) = true := by simp [c_3, c_5, c_7]
            refine lv_lload_n hx hb dX1_isAccess_53 rfl (lv_at hl 0 rfl) ?_
            refine lv_ldc2 (v := 4095) hx hb hown (hts (.constantLong RX1 88 4095) (wa 253 (by decide +kernel) rfl)) dX1_isAccess_54 ?_
            refine lv_land hx hb dX1_isAccess_57 ?_
            refine lv_iload hx hb dX1_isAccess_58 (lv_at hl 3 rfl) ?_
            refine lv_i2l (v := Int32.toInt64 sz) hx hb dX1_isAccess_60 rfl ?_
            refine lv_ladd hx hb dX1_isAccess_61 ?_
            refine lv_ldc2 (v := 4096) hx hb hown (hts (.constantLong RX1 90 4096) (wa 254 (by decide +kernel) rfl)) dX1_isAccess_62 ?_
            refine W.lcmp hx hb dX1_isAccess_65 ?_
            refine lv_if_gt (tgt := 73) hx hb dX1_isAccess_66 (by decide) (fun c_8 => ?_) (fun c_8 => ?_)
            · rw [lg_cmp_gt] at c_8
              refine lv_iconst (v := 0) hx hb dX1_isAccess_73 (by decide) ?_
              exact W.zret (v := 0) hx hb hr rfl (fun t ht hW => ⟨0, rfl, (by first | rfl | (simp only [k_isAccess, b2i, ha, hm, hs, c_8, b2i, decide_true, decide_false, Bool.not_true, Bool.not_false, Bool.and_true, Bool.and_false, Bool.true_and, Bool.false_and, Bool.or_true, Bool.or_false, Bool.true_or, Bool.false_or, reduceIte, or_true, true_or, or_false, false_or, and_true, true_and, and_false, false_and, not_true_eq_false, not_false_eq_true, Bool.false_eq_true, eq_self]; done) | (simp [k_isAccess, b2i, ha, hm, hs, c_8]; done)), ht⟩) (fun _ h => nomatch h) dX1_isAccess_74
            · rw [lg_cmp_gt] at c_8
              refine lv_iconst (v := 1) hx hb dX1_isAccess_69 (by decide) ?_
              refine lv_goto (tgt := 74) hx hb dX1_isAccess_70 (by decide) ?_
              exact W.zret (v := 1) hx hb hr rfl (fun t ht hW => ⟨1, rfl, (by first | rfl | (simp only [k_isAccess, b2i, ha, hm, hs, c_8, b2i, decide_true, decide_false, Bool.not_true, Bool.not_false, Bool.and_true, Bool.and_false, Bool.true_and, Bool.false_and, Bool.or_true, Bool.or_false, Bool.true_or, Bool.false_or, reduceIte, or_true, true_or, or_false, false_or, and_true, true_and, and_false, false_and, not_true_eq_false, not_false_eq_true, Bool.false_eq_true, eq_self]; done) | (simp [k_isAccess, b2i, ha, hm, hs, c_8]; done)), ht⟩) (fun _ h => nomatch h) dX1_isAccess_74
          · refine lv_iload hx hb dX1_isAccess_46 (lv_at hl 3 rfl) ?_
            refine lv_bipush (v := 8) hx hb dX1_isAccess_48 (by decide) ?_
            refine lv_icmp_ne (tgt := 73) hx hb dX1_isAccess_50 (by decide) (fun c_9 => ?_) (fun c_9 => ?_)
            · refine lv_iconst (v := 0) hx hb dX1_isAccess_73 (by decide) ?_
              exact W.zret (v := 0) hx hb hr rfl (fun t ht hW => ⟨0, rfl, (by first | rfl | (simp only [k_isAccess, b2i, ha, hm, c_3, c_5, c_7, c_9, b2i, decide_true, decide_false, Bool.not_true, Bool.not_false, Bool.and_true, Bool.and_false, Bool.true_and, Bool.false_and, Bool.or_true, Bool.or_false, Bool.true_or, Bool.false_or, reduceIte, or_true, true_or, or_false, false_or, and_true, true_and, and_false, false_and, not_true_eq_false, not_false_eq_true, Bool.false_eq_true, eq_self]; done) | (simp [k_isAccess, b2i, ha, hm, c_3, c_5, c_7, c_9]; done)), ht⟩) (fun _ h => nomatch h) dX1_isAccess_74
            · have hs : (decide (sz = 1) || decide (sz = 2) || decide (sz = 4) || decide (sz = 8)) = true := by simp [c_3, c_5, c_7, c_9]
              refine lv_lload_n hx hb dX1_isAccess_53 rfl (lv_at hl 0 rfl) ?_
              refine lv_ldc2 (v := 4095) hx hb hown (hts (.constantLong RX1 88 4095) (wa 253 (by decide +kernel) rfl)) dX1_isAccess_54 ?_
              refine lv_land hx hb dX1_isAccess_57 ?_
              refine lv_iload hx hb dX1_isAccess_58 (lv_at hl 3 rfl) ?_
              refine lv_i2l (v := Int32.toInt64 sz) hx hb dX1_isAccess_60 rfl ?_
              refine lv_ladd hx hb dX1_isAccess_61 ?_
              refine lv_ldc2 (v := 4096) hx hb hown (hts (.constantLong RX1 90 4096) (wa 254 (by decide +kernel) rfl)) dX1_isAccess_62 ?_
              refine W.lcmp hx hb dX1_isAccess_65 ?_
              refine lv_if_gt (tgt := 73) hx hb dX1_isAccess_66 (by decide) (fun c_10 => ?_) (fun c_10 => ?_)
              · rw [lg_cmp_gt] at c_10
                refine lv_iconst (v := 0) hx hb dX1_isAccess_73 (by decide) ?_
                exact W.zret (v := 0) hx hb hr rfl (fun t ht hW => ⟨0, rfl, (by first | rfl | (simp only [k_isAccess, b2i, ha, hm, hs, c_10, b2i, decide_true, decide_false, Bool.not_true, Bool.not_false, Bool.and_true, Bool.and_false, Bool.true_and, Bool.false_and, Bool.or_true, Bool.or_false, Bool.true_or, Bool.false_or, reduceIte, or_true, true_or, or_false, false_or, and_true, true_and, and_false, false_and, not_true_eq_false, not_false_eq_true, Bool.false_eq_true, eq_self]; done) | (simp [k_isAccess, b2i, ha, hm, hs, c_10]; done)), ht⟩) (fun _ h => nomatch h) dX1_isAccess_74
              · rw [lg_cmp_gt] at c_10
                refine lv_iconst (v := 1) hx hb dX1_isAccess_69 (by decide) ?_
                refine lv_goto (tgt := 74) hx hb dX1_isAccess_70 (by decide) ?_
                exact W.zret (v := 1) hx hb hr rfl (fun t ht hW => ⟨1, rfl, (by first | rfl | (simp only [k_isAccess, b2i, ha, hm, hs, c_10, b2i, decide_true, decide_false, Bool.not_true, Bool.not_false, Bool.and_true, Bool.and_false, Bool.true_and, Bool.false_and, Bool.or_true, Bool.or_false, Bool.true_or, Bool.false_or, reduceIte, or_true, true_or, or_false, false_or, and_true, true_and, and_false, false_and, not_true_eq_false, not_false_eq_true, Bool.false_eq_true, eq_self]; done) | (simp [k_isAccess, b2i, ha, hm, hs, c_10]; done)), ht⟩) (fun _ h => nomatch h) dX1_isAccess_74
    · refine lv_iload_n hx hb dX1_isAccess_18 rfl (lv_at hl 2 rfl) ?_
      refine lv_iconst (v := 1) hx hb dX1_isAccess_19 (by decide) ?_
      refine lv_icmp_eq (tgt := 28) hx hb dX1_isAccess_20 (by decide) (fun c_11 => ?_) (fun c_11 => ?_)
      · have hm : (decide (md = 0) || decide (md = 1) || decide (md = 3)) = true := by simp [c_2, c_11]
        refine lv_iload hx hb dX1_isAccess_28 (lv_at hl 3 rfl) ?_
        refine lv_iconst (v := 1) hx hb dX1_isAccess_30 (by decide) ?_
        refine lv_icmp_eq (tgt := 53) hx hb dX1_isAccess_31 (by decide) (fun c_12 => ?_) (fun c_12 => ?_)
        · have hs : (decide (sz = 1) || decide (sz = 2) || decide (sz = 4) || decide (sz = 8)) = true := by simp [c_12]
          refine lv_lload_n hx hb dX1_isAccess_53 rfl (lv_at hl 0 rfl) ?_
          refine lv_ldc2 (v := 4095) hx hb hown (hts (.constantLong RX1 88 4095) (wa 253 (by decide +kernel) rfl)) dX1_isAccess_54 ?_
          refine lv_land hx hb dX1_isAccess_57 ?_
          refine lv_iload hx hb dX1_isAccess_58 (lv_at hl 3 rfl) ?_
          refine lv_i2l (v := Int32.toInt64 sz) hx hb dX1_isAccess_60 rfl ?_
          refine lv_ladd hx hb dX1_isAccess_61 ?_
          refine lv_ldc2 (v := 4096) hx hb hown (hts (.constantLong RX1 90 4096) (wa 254 (by decide +kernel) rfl)) dX1_isAccess_62 ?_
          refine W.lcmp hx hb dX1_isAccess_65 ?_
          refine lv_if_gt (tgt := 73) hx hb dX1_isAccess_66 (by decide) (fun c_13 => ?_) (fun c_13 => ?_)
          · rw [lg_cmp_gt] at c_13
            refine lv_iconst (v := 0) hx hb dX1_isAccess_73 (by decide) ?_
            exact W.zret (v := 0) hx hb hr rfl (fun t ht hW => ⟨0, rfl, (by first | rfl | (simp only [k_isAccess, b2i, ha, hm, hs, c_13, b2i, decide_true, decide_false, Bool.not_true, Bool.not_false, Bool.and_true, Bool.and_false, Bool.true_and, Bool.false_and, Bool.or_true, Bool.or_false, Bool.true_or, Bool.false_or, reduceIte, or_true, true_or, or_false, false_or, and_true, true_and, and_false, false_and, not_true_eq_false, not_false_eq_true, Bool.false_eq_true, eq_self]; done) | (simp [k_isAccess, b2i, ha, hm, hs, c_13]; done)), ht⟩) (fun _ h => nomatch h) dX1_isAccess_74
          · rw [lg_cmp_gt] at c_13
            refine lv_iconst (v := 1) hx hb dX1_isAccess_69 (by decide) ?_
            refine lv_goto (tgt := 74) hx hb dX1_isAccess_70 (by decide) ?_
            exact W.zret (v := 1) hx hb hr rfl (fun t ht hW => ⟨1, rfl, (by first | rfl | (simp only [k_isAccess, b2i, ha, hm, hs, c_13, b2i, decide_true, decide_false, Bool.not_true, Bool.not_false, Bool.and_true, Bool.and_false, Bool.true_and, Bool.false_and, Bool.or_true, Bool.or_false, Bool.true_or, Bool.false_or, reduceIte, or_true, true_or, or_false, false_or, and_true, true_and, and_false, false_and, not_true_eq_false, not_false_eq_true, Bool.false_eq_true, eq_self]; done) | (simp [k_isAccess, b2i, ha, hm, hs, c_13]; done)), ht⟩) (fun _ h => nomatch h) dX1_isAccess_74
        · refine lv_iload hx hb dX1_isAccess_34 (lv_at hl 3 rfl) ?_
          refine lv_iconst (v := 2) hx hb dX1_isAccess_36 (by decide) ?_
          refine lv_icmp_eq (tgt := 53) hx hb dX1_isAccess_37 (by decide) (fun c_14 => ?_) (fun c_14 => ?_)
          · have hs : (decide (sz = 1) || decide (sz = 2) || decide (sz = 4) || decide (sz = 8)) = true := by simp [c_12, c_14]
            refine lv_lload_n hx hb dX1_isAccess_53 rfl (lv_at hl 0 rfl) ?_
            refine lv_ldc2 (v := 4095) hx hb hown (hts (.constantLong RX1 88 4095) (wa 253 (by decide +kernel) rfl)) dX1_isAccess_54 ?_
            refine lv_land hx hb dX1_isAccess_57 ?_
            refine lv_iload hx hb dX1_isAccess_58 (lv_at hl 3 rfl) ?_
            refine lv_i2l (v := Int32.toInt64 sz) hx hb dX1_isAccess_60 rfl ?_
            refine lv_ladd hx hb dX1_isAccess_61 ?_
            refine lv_ldc2 (v := 4096) hx hb hown (hts (.constantLong RX1 90 4096) (wa 254 (by decide +kernel) rfl)) dX1_isAccess_62 ?_
            refine W.lcmp hx hb dX1_isAccess_65 ?_
            refine lv_if_gt (tgt := 73) hx hb dX1_isAccess_66 (by decide) (fun c_15 => ?_) (fun c_15 => ?_)
            · rw [lg_cmp_gt] at c_15
              refine lv_iconst (v := 0) hx hb dX1_isAccess_73 (by decide) ?_
              exact W.zret (v := 0) hx hb hr rfl (fun t ht hW => ⟨0, rfl, (by first | rfl | (simp only [k_isAccess, b2i, ha, hm, hs, c_15, b2i, decide_true, decide_false, Bool.not_true, Bool.not_false, Bool.and_true, Bool.and_false, Bool.true_and, Bool.false_and, Bool.or_true, Bool.or_false, Bool.true_or, Bool.false_or, reduceIte, or_true, true_or, or_false, false_or, and_true, true_and, and_false, false_and, not_true_eq_false, not_false_eq_true, Bool.false_eq_true, eq_self]; done) | (simp [k_isAccess, b2i, ha, hm, hs, c_15]; done)), ht⟩) (fun _ h => nomatch h) dX1_isAccess_74
            · rw [lg_cmp_gt] at c_15
              refine lv_iconst (v := 1) hx hb dX1_isAccess_69 (by decide) ?_
              refine lv_goto (tgt := 74) hx hb dX1_isAccess_70 (by decide) ?_
              exact W.zret (v := 1) hx hb hr rfl (fun t ht hW => ⟨1, rfl, (by first | rfl | (simp only [k_isAccess, b2i, ha, hm, hs, c_15, b2i, decide_true, decide_false, Bool.not_true, Bool.not_false, Bool.and_true, Bool.and_false, Bool.true_and, Bool.false_and, Bool.or_true, Bool.or_false, Bool.true_or, Bool.false_or, reduceIte, or_true, true_or, or_false, false_or, and_true, true_and, and_false, false_and, not_true_eq_false, not_false_eq_true, Bool.false_eq_true, eq_self]; done) | (simp [k_isAccess, b2i, ha, hm, hs, c_15]; done)), ht⟩) (fun _ h => nomatch h) dX1_isAccess_74
          · refine lv_iload hx hb dX1_isAccess_40 (lv_at hl 3 rfl) ?_
            refine lv_iconst (v := 4) hx hb dX1_isAccess_42 (by decide) ?_
            refine lv_icmp_eq (tgt := 53) hx hb dX1_isAccess_43 (by decide) (fun c_16 => ?_) (fun c_16 => ?_)
            · have hs : (decide (sz = 1) || decide (sz = 2) || decide (sz = 4) || decide (sz = 8)) = true := by simp [c_12, c_14, c_16]
              refine lv_lload_n hx hb dX1_isAccess_53 rfl (lv_at hl 0 rfl) ?_
              refine lv_ldc2 (v := 4095) hx hb hown (hts (.constantLong RX1 88 4095) (wa 253 (by decide +kernel) rfl)) dX1_isAccess_54 ?_
              refine lv_land hx hb dX1_isAccess_57 ?_
              refine lv_iload hx hb dX1_isAccess_58 (lv_at hl 3 rfl) ?_
              refine lv_i2l (v := Int32.toInt64 sz) hx hb dX1_isAccess_60 rfl ?_
              refine lv_ladd hx hb dX1_isAccess_61 ?_
              refine lv_ldc2 (v := 4096) hx hb hown (hts (.constantLong RX1 90 4096) (wa 254 (by decide +kernel) rfl)) dX1_isAccess_62 ?_
              refine W.lcmp hx hb dX1_isAccess_65 ?_
              refine lv_if_gt (tgt := 73) hx hb dX1_isAccess_66 (by decide) (fun c_17 => ?_) (fun c_17 => ?_)
              · rw [lg_cmp_gt] at c_17
                refine lv_iconst (v := 0) hx hb dX1_isAccess_73 (by decide) ?_
                exact W.zret (v := 0) hx hb hr rfl (fun t ht hW => ⟨0, rfl, (by first | rfl | (simp only [k_isAccess, b2i, ha, hm, hs, c_17, b2i, decide_true, decide_false, Bool.not_true, Bool.not_false, Bool.and_true, Bool.and_false, Bool.true_and, Bool.false_and, Bool.or_true, Bool.or_false, Bool.true_or, Bool.false_or, reduceIte, or_true, true_or, or_false, false_or, and_true, true_and, and_false, false_and, not_true_eq_false, not_false_eq_true, Bool.false_eq_true, eq_self]; done) | (simp [k_isAccess, b2i, ha, hm, hs, c_17]; done)), ht⟩) (fun _ h => nomatch h) dX1_isAccess_74
              · rw [lg_cmp_gt] at c_17
                refine lv_iconst (v := 1) hx hb dX1_isAccess_69 (by decide) ?_
                refine lv_goto (tgt := 74) hx hb dX1_isAccess_70 (by decide) ?_
                exact W.zret (v := 1) hx hb hr rfl (fun t ht hW => ⟨1, rfl, (by first | rfl | (simp only [k_isAccess, b2i, ha, hm, hs, c_17, b2i, decide_true, decide_false, Bool.not_true, Bool.not_false, Bool.and_true, Bool.and_false, Bool.true_and, Bool.false_and, Bool.or_true, Bool.or_false, Bool.true_or, Bool.false_or, reduceIte, or_true, true_or, or_false, false_or, and_true, true_and, and_false, false_and, not_true_eq_false, not_false_eq_true, Bool.false_eq_true, eq_self]; done) | (simp [k_isAccess, b2i, ha, hm, hs, c_17]; done)), ht⟩) (fun _ h => nomatch h) dX1_isAccess_74
            · refine lv_iload hx hb dX1_isAccess_46 (lv_at hl 3 rfl) ?_
              refine lv_bipush (v := 8) hx hb dX1_isAccess_48 (by decide) ?_
              refine lv_icmp_ne (tgt := 73) hx hb dX1_isAccess_50 (by decide) (fun c_18 => ?_) (fun c_18 => ?_)
              · refine lv_iconst (v := 0) hx hb dX1_isAccess_73 (by decide) ?_
                exact W.zret (v := 0) hx hb hr rfl (fun t ht hW => ⟨0, rfl, (by first | rfl | (simp only [k_isAccess, b2i, ha, hm, c_12, c_14, c_16, c_18, b2i, decide_true, decide_false, Bool.not_true, Bool.not_false, Bool.and_true, Bool.and_false, Bool.true_and, Bool.false_and, Bool.or_true, Bool.or_false, Bool.true_or, Bool.false_or, reduceIte, or_true, true_or, or_false, false_or, and_true, true_and, and_false, false_and, not_true_eq_false, not_false_eq_true, Bool.false_eq_true, eq_self]; done) | (simp [k_isAccess, b2i, ha, hm, c_12, c_14, c_16, c_18]; done)), ht⟩) (fun _ h => nomatch h) dX1_isAccess_74
              · have hs : (decide (sz = 1) || decide (sz = 2) || decide (sz = 4) || decide (sz = 8)) = true := by simp [c_12, c_14, c_16, c_18]
                refine lv_lload_n hx hb dX1_isAccess_53 rfl (lv_at hl 0 rfl) ?_
                refine lv_ldc2 (v := 4095) hx hb hown (hts (.constantLong RX1 88 4095) (wa 253 (by decide +kernel) rfl)) dX1_isAccess_54 ?_
                refine lv_land hx hb dX1_isAccess_57 ?_
                refine lv_iload hx hb dX1_isAccess_58 (lv_at hl 3 rfl) ?_
                refine lv_i2l (v := Int32.toInt64 sz) hx hb dX1_isAccess_60 rfl ?_
                refine lv_ladd hx hb dX1_isAccess_61 ?_
                refine lv_ldc2 (v := 4096) hx hb hown (hts (.constantLong RX1 90 4096) (wa 254 (by decide +kernel) rfl)) dX1_isAccess_62 ?_
                refine W.lcmp hx hb dX1_isAccess_65 ?_
                refine lv_if_gt (tgt := 73) hx hb dX1_isAccess_66 (by decide) (fun c_19 => ?_) (fun c_19 => ?_)
                · rw [lg_cmp_gt] at c_19
                  refine lv_iconst (v := 0) hx hb dX1_isAccess_73 (by decide) ?_
                  exact W.zret (v := 0) hx hb hr rfl (fun t ht hW => ⟨0, rfl, (by first | rfl | (simp only [k_isAccess, b2i, ha, hm, hs, c_19, b2i, decide_true, decide_false, Bool.not_true, Bool.not_false, Bool.and_true, Bool.and_false, Bool.true_and, Bool.false_and, Bool.or_true, Bool.or_false, Bool.true_or, Bool.false_or, reduceIte, or_true, true_or, or_false, false_or, and_true, true_and, and_false, false_and, not_true_eq_false, not_false_eq_true, Bool.false_eq_true, eq_self]; done) | (simp [k_isAccess, b2i, ha, hm, hs, c_19]; done)), ht⟩) (fun _ h => nomatch h) dX1_isAccess_74
                · rw [lg_cmp_gt] at c_19
                  refine lv_iconst (v := 1) hx hb dX1_isAccess_69 (by decide) ?_
                  refine lv_goto (tgt := 74) hx hb dX1_isAccess_70 (by decide) ?_
                  exact W.zret (v := 1) hx hb hr rfl (fun t ht hW => ⟨1, rfl, (by first | rfl | (simp only [k_isAccess, b2i, ha, hm, hs, c_19, b2i, decide_true, decide_false, Bool.not_true, Bool.not_false, Bool.and_true, Bool.and_false, Bool.true_and, Bool.false_and, Bool.or_true, Bool.or_false, Bool.true_or, Bool.false_or, reduceIte, or_true, true_or, or_false, false_or, and_true, true_and, and_false, false_and, not_true_eq_false, not_false_eq_true, Bool.false_eq_true, eq_self]; done) | (simp [k_isAccess, b2i, ha, hm, hs, c_19]; done)), ht⟩) (fun _ h => nomatch h) dX1_isAccess_74
      · refine lv_iload_n hx hb dX1_isAccess_23 rfl (lv_at hl 2 rfl) ?_
        refine lv_iconst (v := 3) hx hb dX1_isAccess_24 (by decide) ?_
        refine lv_icmp_ne (tgt := 73) hx hb dX1_isAccess_25 (by decide) (fun c_20 => ?_) (fun c_20 => ?_)
        · refine lv_iconst (v := 0) hx hb dX1_isAccess_73 (by decide) ?_
          exact W.zret (v := 0) hx hb hr rfl (fun t ht hW => ⟨0, rfl, (by first | rfl | (simp only [k_isAccess, b2i, ha, c_2, c_11, c_20, b2i, decide_true, decide_false, Bool.not_true, Bool.not_false, Bool.and_true, Bool.and_false, Bool.true_and, Bool.false_and, Bool.or_true, Bool.or_false, Bool.true_or, Bool.false_or, reduceIte, or_true, true_or, or_false, false_or, and_true, true_and, and_false, false_and, not_true_eq_false, not_false_eq_true, Bool.false_eq_true, eq_self]; done) | (simp [k_isAccess, b2i, ha, c_2, c_11, c_20]; done)), ht⟩) (fun _ h => nomatch h) dX1_isAccess_74
        · have hm : (decide (md = 0) || decide (md = 1) || decide (md = 3)) = true := by simp [c_2, c_11, c_20]
          refine lv_iload hx hb dX1_isAccess_28 (lv_at hl 3 rfl) ?_
          refine lv_iconst (v := 1) hx hb dX1_isAccess_30 (by decide) ?_
          refine lv_icmp_eq (tgt := 53) hx hb dX1_isAccess_31 (by decide) (fun c_21 => ?_) (fun c_21 => ?_)
          · have hs : (decide (sz = 1) || decide (sz = 2) || decide (sz = 4) || decide (sz = 8)) = true := by simp [c_21]
            refine lv_lload_n hx hb dX1_isAccess_53 rfl (lv_at hl 0 rfl) ?_
            refine lv_ldc2 (v := 4095) hx hb hown (hts (.constantLong RX1 88 4095) (wa 253 (by decide +kernel) rfl)) dX1_isAccess_54 ?_
            refine lv_land hx hb dX1_isAccess_57 ?_
            refine lv_iload hx hb dX1_isAccess_58 (lv_at hl 3 rfl) ?_
            refine lv_i2l (v := Int32.toInt64 sz) hx hb dX1_isAccess_60 rfl ?_
            refine lv_ladd hx hb dX1_isAccess_61 ?_
            refine lv_ldc2 (v := 4096) hx hb hown (hts (.constantLong RX1 90 4096) (wa 254 (by decide +kernel) rfl)) dX1_isAccess_62 ?_
            refine W.lcmp hx hb dX1_isAccess_65 ?_
            refine lv_if_gt (tgt := 73) hx hb dX1_isAccess_66 (by decide) (fun c_22 => ?_) (fun c_22 => ?_)
            · rw [lg_cmp_gt] at c_22
              refine lv_iconst (v := 0) hx hb dX1_isAccess_73 (by decide) ?_
              exact W.zret (v := 0) hx hb hr rfl (fun t ht hW => ⟨0, rfl, (by first | rfl | (simp only [k_isAccess, b2i, ha, hm, hs, c_22, b2i, decide_true, decide_false, Bool.not_true, Bool.not_false, Bool.and_true, Bool.and_false, Bool.true_and, Bool.false_and, Bool.or_true, Bool.or_false, Bool.true_or, Bool.false_or, reduceIte, or_true, true_or, or_false, false_or, and_true, true_and, and_false, false_and, not_true_eq_false, not_false_eq_true, Bool.false_eq_true, eq_self]; done) | (simp [k_isAccess, b2i, ha, hm, hs, c_22]; done)), ht⟩) (fun _ h => nomatch h) dX1_isAccess_74
            · rw [lg_cmp_gt] at c_22
              refine lv_iconst (v := 1) hx hb dX1_isAccess_69 (by decide) ?_
              refine lv_goto (tgt := 74) hx hb dX1_isAccess_70 (by decide) ?_
              exact W.zret (v := 1) hx hb hr rfl (fun t ht hW => ⟨1, rfl, (by first | rfl | (simp only [k_isAccess, b2i, ha, hm, hs, c_22, b2i, decide_true, decide_false, Bool.not_true, Bool.not_false, Bool.and_true, Bool.and_false, Bool.true_and, Bool.false_and, Bool.or_true, Bool.or_false, Bool.true_or, Bool.false_or, reduceIte, or_true, true_or, or_false, false_or, and_true, true_and, and_false, false_and, not_true_eq_false, not_false_eq_true, Bool.false_eq_true, eq_self]; done) | (simp [k_isAccess, b2i, ha, hm, hs, c_22]; done)), ht⟩) (fun _ h => nomatch h) dX1_isAccess_74
          · refine lv_iload hx hb dX1_isAccess_34 (lv_at hl 3 rfl) ?_
            refine lv_iconst (v := 2) hx hb dX1_isAccess_36 (by decide) ?_
            refine lv_icmp_eq (tgt := 53) hx hb dX1_isAccess_37 (by decide) (fun c_23 => ?_) (fun c_23 => ?_)
            · have hs : (decide (sz = 1) || decide (sz = 2) || decide (sz = 4) || decide (sz = 8)) = true := by simp [c_21, c_23]
              refine lv_lload_n hx hb dX1_isAccess_53 rfl (lv_at hl 0 rfl) ?_
              refine lv_ldc2 (v := 4095) hx hb hown (hts (.constantLong RX1 88 4095) (wa 253 (by decide +kernel) rfl)) dX1_isAccess_54 ?_
              refine lv_land hx hb dX1_isAccess_57 ?_
              refine lv_iload hx hb dX1_isAccess_58 (lv_at hl 3 rfl) ?_
              refine lv_i2l (v := Int32.toInt64 sz) hx hb dX1_isAccess_60 rfl ?_
              refine lv_ladd hx hb dX1_isAccess_61 ?_
              refine lv_ldc2 (v := 4096) hx hb hown (hts (.constantLong RX1 90 4096) (wa 254 (by decide +kernel) rfl)) dX1_isAccess_62 ?_
              refine W.lcmp hx hb dX1_isAccess_65 ?_
              refine lv_if_gt (tgt := 73) hx hb dX1_isAccess_66 (by decide) (fun c_24 => ?_) (fun c_24 => ?_)
              · rw [lg_cmp_gt] at c_24
                refine lv_iconst (v := 0) hx hb dX1_isAccess_73 (by decide) ?_
                exact W.zret (v := 0) hx hb hr rfl (fun t ht hW => ⟨0, rfl, (by first | rfl | (simp only [k_isAccess, b2i, ha, hm, hs, c_24, b2i, decide_true, decide_false, Bool.not_true, Bool.not_false, Bool.and_true, Bool.and_false, Bool.true_and, Bool.false_and, Bool.or_true, Bool.or_false, Bool.true_or, Bool.false_or, reduceIte, or_true, true_or, or_false, false_or, and_true, true_and, and_false, false_and, not_true_eq_false, not_false_eq_true, Bool.false_eq_true, eq_self]; done) | (simp [k_isAccess, b2i, ha, hm, hs, c_24]; done)), ht⟩) (fun _ h => nomatch h) dX1_isAccess_74
              · rw [lg_cmp_gt] at c_24
                refine lv_iconst (v := 1) hx hb dX1_isAccess_69 (by decide) ?_
                refine lv_goto (tgt := 74) hx hb dX1_isAccess_70 (by decide) ?_
                exact W.zret (v := 1) hx hb hr rfl (fun t ht hW => ⟨1, rfl, (by first | rfl | (simp only [k_isAccess, b2i, ha, hm, hs, c_24, b2i, decide_true, decide_false, Bool.not_true, Bool.not_false, Bool.and_true, Bool.and_false, Bool.true_and, Bool.false_and, Bool.or_true, Bool.or_false, Bool.true_or, Bool.false_or, reduceIte, or_true, true_or, or_false, false_or, and_true, true_and, and_false, false_and, not_true_eq_false, not_false_eq_true, Bool.false_eq_true, eq_self]; done) | (simp [k_isAccess, b2i, ha, hm, hs, c_24]; done)), ht⟩) (fun _ h => nomatch h) dX1_isAccess_74
            · refine lv_iload hx hb dX1_isAccess_40 (lv_at hl 3 rfl) ?_
              refine lv_iconst (v := 4) hx hb dX1_isAccess_42 (by decide) ?_
              refine lv_icmp_eq (tgt := 53) hx hb dX1_isAccess_43 (by decide) (fun c_25 => ?_) (fun c_25 => ?_)
              · have hs : (decide (sz = 1) || decide (sz = 2) || decide (sz = 4) || decide (sz = 8)) = true := by simp [c_21, c_23, c_25]
                refine lv_lload_n hx hb dX1_isAccess_53 rfl (lv_at hl 0 rfl) ?_
                refine lv_ldc2 (v := 4095) hx hb hown (hts (.constantLong RX1 88 4095) (wa 253 (by decide +kernel) rfl)) dX1_isAccess_54 ?_
                refine lv_land hx hb dX1_isAccess_57 ?_
                refine lv_iload hx hb dX1_isAccess_58 (lv_at hl 3 rfl) ?_
                refine lv_i2l (v := Int32.toInt64 sz) hx hb dX1_isAccess_60 rfl ?_
                refine lv_ladd hx hb dX1_isAccess_61 ?_
                refine lv_ldc2 (v := 4096) hx hb hown (hts (.constantLong RX1 90 4096) (wa 254 (by decide +kernel) rfl)) dX1_isAccess_62 ?_
                refine W.lcmp hx hb dX1_isAccess_65 ?_
                refine lv_if_gt (tgt := 73) hx hb dX1_isAccess_66 (by decide) (fun c_26 => ?_) (fun c_26 => ?_)
                · rw [lg_cmp_gt] at c_26
                  refine lv_iconst (v := 0) hx hb dX1_isAccess_73 (by decide) ?_
                  exact W.zret (v := 0) hx hb hr rfl (fun t ht hW => ⟨0, rfl, (by first | rfl | (simp only [k_isAccess, b2i, ha, hm, hs, c_26, b2i, decide_true, decide_false, Bool.not_true, Bool.not_false, Bool.and_true, Bool.and_false, Bool.true_and, Bool.false_and, Bool.or_true, Bool.or_false, Bool.true_or, Bool.false_or, reduceIte, or_true, true_or, or_false, false_or, and_true, true_and, and_false, false_and, not_true_eq_false, not_false_eq_true, Bool.false_eq_true, eq_self]; done) | (simp [k_isAccess, b2i, ha, hm, hs, c_26]; done)), ht⟩) (fun _ h => nomatch h) dX1_isAccess_74
                · rw [lg_cmp_gt] at c_26
                  refine lv_iconst (v := 1) hx hb dX1_isAccess_69 (by decide) ?_
                  refine lv_goto (tgt := 74) hx hb dX1_isAccess_70 (by decide) ?_
                  exact W.zret (v := 1) hx hb hr rfl (fun t ht hW => ⟨1, rfl, (by first | rfl | (simp only [k_isAccess, b2i, ha, hm, hs, c_26, b2i, decide_true, decide_false, Bool.not_true, Bool.not_false, Bool.and_true, Bool.and_false, Bool.true_and, Bool.false_and, Bool.or_true, Bool.or_false, Bool.true_or, Bool.false_or, reduceIte, or_true, true_or, or_false, false_or, and_true, true_and, and_false, false_and, not_true_eq_false, not_false_eq_true, Bool.false_eq_true, eq_self]; done) | (simp [k_isAccess, b2i, ha, hm, hs, c_26]; done)), ht⟩) (fun _ h => nomatch h) dX1_isAccess_74
              · refine lv_iload hx hb dX1_isAccess_46 (lv_at hl 3 rfl) ?_
                refine lv_bipush (v := 8) hx hb dX1_isAccess_48 (by decide) ?_
                refine lv_icmp_ne (tgt := 73) hx hb dX1_isAccess_50 (by decide) (fun c_27 => ?_) (fun c_27 => ?_)
                · refine lv_iconst (v := 0) hx hb dX1_isAccess_73 (by decide) ?_
                  exact W.zret (v := 0) hx hb hr rfl (fun t ht hW => ⟨0, rfl, (by first | rfl | (simp only [k_isAccess, b2i, ha, hm, c_21, c_23, c_25, c_27, b2i, decide_true, decide_false, Bool.not_true, Bool.not_false, Bool.and_true, Bool.and_false, Bool.true_and, Bool.false_and, Bool.or_true, Bool.or_false, Bool.true_or, Bool.false_or, reduceIte, or_true, true_or, or_false, false_or, and_true, true_and, and_false, false_and, not_true_eq_false, not_false_eq_true, Bool.false_eq_true, eq_self]; done) | (simp [k_isAccess, b2i, ha, hm, c_21, c_23, c_25, c_27]; done)), ht⟩) (fun _ h => nomatch h) dX1_isAccess_74
                · have hs : (decide (sz = 1) || decide (sz = 2) || decide (sz = 4) || decide (sz = 8)) = true := by simp [c_21, c_23, c_25, c_27]
                  refine lv_lload_n hx hb dX1_isAccess_53 rfl (lv_at hl 0 rfl) ?_
                  refine lv_ldc2 (v := 4095) hx hb hown (hts (.constantLong RX1 88 4095) (wa 253 (by decide +kernel) rfl)) dX1_isAccess_54 ?_
                  refine lv_land hx hb dX1_isAccess_57 ?_
                  refine lv_iload hx hb dX1_isAccess_58 (lv_at hl 3 rfl) ?_
                  refine lv_i2l (v := Int32.toInt64 sz) hx hb dX1_isAccess_60 rfl ?_
                  refine lv_ladd hx hb dX1_isAccess_61 ?_
                  refine lv_ldc2 (v := 4096) hx hb hown (hts (.constantLong RX1 90 4096) (wa 254 (by decide +kernel) rfl)) dX1_isAccess_62 ?_
                  refine W.lcmp hx hb dX1_isAccess_65 ?_
                  refine lv_if_gt (tgt := 73) hx hb dX1_isAccess_66 (by decide) (fun c_28 => ?_) (fun c_28 => ?_)
                  · rw [lg_cmp_gt] at c_28
                    refine lv_iconst (v := 0) hx hb dX1_isAccess_73 (by decide) ?_
                    exact W.zret (v := 0) hx hb hr rfl (fun t ht hW => ⟨0, rfl, (by first | rfl | (simp only [k_isAccess, b2i, ha, hm, hs, c_28, b2i, decide_true, decide_false, Bool.not_true, Bool.not_false, Bool.and_true, Bool.and_false, Bool.true_and, Bool.false_and, Bool.or_true, Bool.or_false, Bool.true_or, Bool.false_or, reduceIte, or_true, true_or, or_false, false_or, and_true, true_and, and_false, false_and, not_true_eq_false, not_false_eq_true, Bool.false_eq_true, eq_self]; done) | (simp [k_isAccess, b2i, ha, hm, hs, c_28]; done)), ht⟩) (fun _ h => nomatch h) dX1_isAccess_74
                  · rw [lg_cmp_gt] at c_28
                    refine lv_iconst (v := 1) hx hb dX1_isAccess_69 (by decide) ?_
                    refine lv_goto (tgt := 74) hx hb dX1_isAccess_70 (by decide) ?_
                    exact W.zret (v := 1) hx hb hr rfl (fun t ht hW => ⟨1, rfl, (by first | rfl | (simp only [k_isAccess, b2i, ha, hm, hs, c_28, b2i, decide_true, decide_false, Bool.not_true, Bool.not_false, Bool.and_true, Bool.and_false, Bool.true_and, Bool.false_and, Bool.or_true, Bool.or_false, Bool.true_or, Bool.false_or, reduceIte, or_true, true_or, or_false, false_or, and_true, true_and, and_false, false_and, not_true_eq_false, not_false_eq_true, Bool.false_eq_true, eq_self]; done) | (simp [k_isAccess, b2i, ha, hm, hs, c_28]; done)), ht⟩) (fun _ h => nomatch h) dX1_isAccess_74
  · refine lv_iload_n hx hb dX1_isAccess_4 rfl (lv_at hl 1 rfl) ?_
    refine lv_iconst (v := 1) hx hb dX1_isAccess_5 (by decide) ?_
    refine lv_icmp_eq (tgt := 14) hx hb dX1_isAccess_6 (by decide) (fun c_29 => ?_) (fun c_29 => ?_)
    · have ha : (decide (ac = 0) || decide (ac = 1) || decide (ac = 2)) = true := by simp [c_1, c_29]
      refine lv_iload_n hx hb dX1_isAccess_14 rfl (lv_at hl 2 rfl) ?_
      refine lv_if_eq (tgt := 28) hx hb dX1_isAccess_15 (by decide) (fun c_30 => ?_) (fun c_30 => ?_)
      · have hm : (decide (md = 0) || decide (md = 1) || decide (md = 3)) = true := by simp [c_30]
        refine lv_iload hx hb dX1_isAccess_28 (lv_at hl 3 rfl) ?_
        refine lv_iconst (v := 1) hx hb dX1_isAccess_30 (by decide) ?_
        refine lv_icmp_eq (tgt := 53) hx hb dX1_isAccess_31 (by decide) (fun c_31 => ?_) (fun c_31 => ?_)
        · have hs : (decide (sz = 1) || decide (sz = 2) || decide (sz = 4) || decide (sz = 8)) = true := by simp [c_31]
          refine lv_lload_n hx hb dX1_isAccess_53 rfl (lv_at hl 0 rfl) ?_
          refine lv_ldc2 (v := 4095) hx hb hown (hts (.constantLong RX1 88 4095) (wa 253 (by decide +kernel) rfl)) dX1_isAccess_54 ?_
          refine lv_land hx hb dX1_isAccess_57 ?_
          refine lv_iload hx hb dX1_isAccess_58 (lv_at hl 3 rfl) ?_
          refine lv_i2l (v := Int32.toInt64 sz) hx hb dX1_isAccess_60 rfl ?_
          refine lv_ladd hx hb dX1_isAccess_61 ?_
          refine lv_ldc2 (v := 4096) hx hb hown (hts (.constantLong RX1 90 4096) (wa 254 (by decide +kernel) rfl)) dX1_isAccess_62 ?_
          refine W.lcmp hx hb dX1_isAccess_65 ?_
          refine lv_if_gt (tgt := 73) hx hb dX1_isAccess_66 (by decide) (fun c_32 => ?_) (fun c_32 => ?_)
          · rw [lg_cmp_gt] at c_32
            refine lv_iconst (v := 0) hx hb dX1_isAccess_73 (by decide) ?_
            exact W.zret (v := 0) hx hb hr rfl (fun t ht hW => ⟨0, rfl, (by first | rfl | (simp only [k_isAccess, b2i, ha, hm, hs, c_32, b2i, decide_true, decide_false, Bool.not_true, Bool.not_false, Bool.and_true, Bool.and_false, Bool.true_and, Bool.false_and, Bool.or_true, Bool.or_false, Bool.true_or, Bool.false_or, reduceIte, or_true, true_or, or_false, false_or, and_true, true_and, and_false, false_and, not_true_eq_false, not_false_eq_true, Bool.false_eq_true, eq_self]; done) | (simp [k_isAccess, b2i, ha, hm, hs, c_32]; done)), ht⟩) (fun _ h => nomatch h) dX1_isAccess_74
          · rw [lg_cmp_gt] at c_32
            refine lv_iconst (v := 1) hx hb dX1_isAccess_69 (by decide) ?_
            refine lv_goto (tgt := 74) hx hb dX1_isAccess_70 (by decide) ?_
            exact W.zret (v := 1) hx hb hr rfl (fun t ht hW => ⟨1, rfl, (by first | rfl | (simp only [k_isAccess, b2i, ha, hm, hs, c_32, b2i, decide_true, decide_false, Bool.not_true, Bool.not_false, Bool.and_true, Bool.and_false, Bool.true_and, Bool.false_and, Bool.or_true, Bool.or_false, Bool.true_or, Bool.false_or, reduceIte, or_true, true_or, or_false, false_or, and_true, true_and, and_false, false_and, not_true_eq_false, not_false_eq_true, Bool.false_eq_true, eq_self]; done) | (simp [k_isAccess, b2i, ha, hm, hs, c_32]; done)), ht⟩) (fun _ h => nomatch h) dX1_isAccess_74
        · refine lv_iload hx hb dX1_isAccess_34 (lv_at hl 3 rfl) ?_
          refine lv_iconst (v := 2) hx hb dX1_isAccess_36 (by decide) ?_
          refine lv_icmp_eq (tgt := 53) hx hb dX1_isAccess_37 (by decide) (fun c_33 => ?_) (fun c_33 => ?_)
          · have hs : (decide (sz = 1) || decide (sz = 2) || decide (sz = 4) || decide (sz = 8)) = true := by simp [c_31, c_33]
            refine lv_lload_n hx hb dX1_isAccess_53 rfl (lv_at hl 0 rfl) ?_
            refine lv_ldc2 (v := 4095) hx hb hown (hts (.constantLong RX1 88 4095) (wa 253 (by decide +kernel) rfl)) dX1_isAccess_54 ?_
            refine lv_land hx hb dX1_isAccess_57 ?_
            refine lv_iload hx hb dX1_isAccess_58 (lv_at hl 3 rfl) ?_
            refine lv_i2l (v := Int32.toInt64 sz) hx hb dX1_isAccess_60 rfl ?_
            refine lv_ladd hx hb dX1_isAccess_61 ?_
            refine lv_ldc2 (v := 4096) hx hb hown (hts (.constantLong RX1 90 4096) (wa 254 (by decide +kernel) rfl)) dX1_isAccess_62 ?_
            refine W.lcmp hx hb dX1_isAccess_65 ?_
            refine lv_if_gt (tgt := 73) hx hb dX1_isAccess_66 (by decide) (fun c_34 => ?_) (fun c_34 => ?_)
            · rw [lg_cmp_gt] at c_34
              refine lv_iconst (v := 0) hx hb dX1_isAccess_73 (by decide) ?_
              exact W.zret (v := 0) hx hb hr rfl (fun t ht hW => ⟨0, rfl, (by first | rfl | (simp only [k_isAccess, b2i, ha, hm, hs, c_34, b2i, decide_true, decide_false, Bool.not_true, Bool.not_false, Bool.and_true, Bool.and_false, Bool.true_and, Bool.false_and, Bool.or_true, Bool.or_false, Bool.true_or, Bool.false_or, reduceIte, or_true, true_or, or_false, false_or, and_true, true_and, and_false, false_and, not_true_eq_false, not_false_eq_true, Bool.false_eq_true, eq_self]; done) | (simp [k_isAccess, b2i, ha, hm, hs, c_34]; done)), ht⟩) (fun _ h => nomatch h) dX1_isAccess_74
            · rw [lg_cmp_gt] at c_34
              refine lv_iconst (v := 1) hx hb dX1_isAccess_69 (by decide) ?_
              refine lv_goto (tgt := 74) hx hb dX1_isAccess_70 (by decide) ?_
              exact W.zret (v := 1) hx hb hr rfl (fun t ht hW => ⟨1, rfl, (by first | rfl | (simp only [k_isAccess, b2i, ha, hm, hs, c_34, b2i, decide_true, decide_false, Bool.not_true, Bool.not_false, Bool.and_true, Bool.and_false, Bool.true_and, Bool.false_and, Bool.or_true, Bool.or_false, Bool.true_or, Bool.false_or, reduceIte, or_true, true_or, or_false, false_or, and_true, true_and, and_false, false_and, not_true_eq_false, not_false_eq_true, Bool.false_eq_true, eq_self]; done) | (simp [k_isAccess, b2i, ha, hm, hs, c_34]; done)), ht⟩) (fun _ h => nomatch h) dX1_isAccess_74
          · refine lv_iload hx hb dX1_isAccess_40 (lv_at hl 3 rfl) ?_
            refine lv_iconst (v := 4) hx hb dX1_isAccess_42 (by decide) ?_
            refine lv_icmp_eq (tgt := 53) hx hb dX1_isAccess_43 (by decide) (fun c_35 => ?_) (fun c_35 => ?_)
            · have hs : (decide (sz = 1) || decide (sz = 2) || decide (sz = 4) || decide (sz = 8)) = true := by simp [c_31, c_33, c_35]
              refine lv_lload_n hx hb dX1_isAccess_53 rfl (lv_at hl 0 rfl) ?_
              refine lv_ldc2 (v := 4095) hx hb hown (hts (.constantLong RX1 88 4095) (wa 253 (by decide +kernel) rfl)) dX1_isAccess_54 ?_
              refine lv_land hx hb dX1_isAccess_57 ?_
              refine lv_iload hx hb dX1_isAccess_58 (lv_at hl 3 rfl) ?_
              refine lv_i2l (v := Int32.toInt64 sz) hx hb dX1_isAccess_60 rfl ?_
              refine lv_ladd hx hb dX1_isAccess_61 ?_
              refine lv_ldc2 (v := 4096) hx hb hown (hts (.constantLong RX1 90 4096) (wa 254 (by decide +kernel) rfl)) dX1_isAccess_62 ?_
              refine W.lcmp hx hb dX1_isAccess_65 ?_
              refine lv_if_gt (tgt := 73) hx hb dX1_isAccess_66 (by decide) (fun c_36 => ?_) (fun c_36 => ?_)
              · rw [lg_cmp_gt] at c_36
                refine lv_iconst (v := 0) hx hb dX1_isAccess_73 (by decide) ?_
                exact W.zret (v := 0) hx hb hr rfl (fun t ht hW => ⟨0, rfl, (by first | rfl | (simp only [k_isAccess, b2i, ha, hm, hs, c_36, b2i, decide_true, decide_false, Bool.not_true, Bool.not_false, Bool.and_true, Bool.and_false, Bool.true_and, Bool.false_and, Bool.or_true, Bool.or_false, Bool.true_or, Bool.false_or, reduceIte, or_true, true_or, or_false, false_or, and_true, true_and, and_false, false_and, not_true_eq_false, not_false_eq_true, Bool.false_eq_true, eq_self]; done) | (simp [k_isAccess, b2i, ha, hm, hs, c_36]; done)), ht⟩) (fun _ h => nomatch h) dX1_isAccess_74
              · rw [lg_cmp_gt] at c_36
                refine lv_iconst (v := 1) hx hb dX1_isAccess_69 (by decide) ?_
                refine lv_goto (tgt := 74) hx hb dX1_isAccess_70 (by decide) ?_
                exact W.zret (v := 1) hx hb hr rfl (fun t ht hW => ⟨1, rfl, (by first | rfl | (simp only [k_isAccess, b2i, ha, hm, hs, c_36, b2i, decide_true, decide_false, Bool.not_true, Bool.not_false, Bool.and_true, Bool.and_false, Bool.true_and, Bool.false_and, Bool.or_true, Bool.or_false, Bool.true_or, Bool.false_or, reduceIte, or_true, true_or, or_false, false_or, and_true, true_and, and_false, false_and, not_true_eq_false, not_false_eq_true, Bool.false_eq_true, eq_self]; done) | (simp [k_isAccess, b2i, ha, hm, hs, c_36]; done)), ht⟩) (fun _ h => nomatch h) dX1_isAccess_74
            · refine lv_iload hx hb dX1_isAccess_46 (lv_at hl 3 rfl) ?_
              refine lv_bipush (v := 8) hx hb dX1_isAccess_48 (by decide) ?_
              refine lv_icmp_ne (tgt := 73) hx hb dX1_isAccess_50 (by decide) (fun c_37 => ?_) (fun c_37 => ?_)
              · refine lv_iconst (v := 0) hx hb dX1_isAccess_73 (by decide) ?_
                exact W.zret (v := 0) hx hb hr rfl (fun t ht hW => ⟨0, rfl, (by first | rfl | (simp only [k_isAccess, b2i, ha, hm, c_31, c_33, c_35, c_37, b2i, decide_true, decide_false, Bool.not_true, Bool.not_false, Bool.and_true, Bool.and_false, Bool.true_and, Bool.false_and, Bool.or_true, Bool.or_false, Bool.true_or, Bool.false_or, reduceIte, or_true, true_or, or_false, false_or, and_true, true_and, and_false, false_and, not_true_eq_false, not_false_eq_true, Bool.false_eq_true, eq_self]; done) | (simp [k_isAccess, b2i, ha, hm, c_31, c_33, c_35, c_37]; done)), ht⟩) (fun _ h => nomatch h) dX1_isAccess_74
              · have hs : (decide (sz = 1) || decide (sz = 2) || decide (sz = 4) || decide (sz = 8)) = true := by simp [c_31, c_33, c_35, c_37]
                refine lv_lload_n hx hb dX1_isAccess_53 rfl (lv_at hl 0 rfl) ?_
                refine lv_ldc2 (v := 4095) hx hb hown (hts (.constantLong RX1 88 4095) (wa 253 (by decide +kernel) rfl)) dX1_isAccess_54 ?_
                refine lv_land hx hb dX1_isAccess_57 ?_
                refine lv_iload hx hb dX1_isAccess_58 (lv_at hl 3 rfl) ?_
                refine lv_i2l (v := Int32.toInt64 sz) hx hb dX1_isAccess_60 rfl ?_
                refine lv_ladd hx hb dX1_isAccess_61 ?_
                refine lv_ldc2 (v := 4096) hx hb hown (hts (.constantLong RX1 90 4096) (wa 254 (by decide +kernel) rfl)) dX1_isAccess_62 ?_
                refine W.lcmp hx hb dX1_isAccess_65 ?_
                refine lv_if_gt (tgt := 73) hx hb dX1_isAccess_66 (by decide) (fun c_38 => ?_) (fun c_38 => ?_)
                · rw [lg_cmp_gt] at c_38
                  refine lv_iconst (v := 0) hx hb dX1_isAccess_73 (by decide) ?_
                  exact W.zret (v := 0) hx hb hr rfl (fun t ht hW => ⟨0, rfl, (by first | rfl | (simp only [k_isAccess, b2i, ha, hm, hs, c_38, b2i, decide_true, decide_false, Bool.not_true, Bool.not_false, Bool.and_true, Bool.and_false, Bool.true_and, Bool.false_and, Bool.or_true, Bool.or_false, Bool.true_or, Bool.false_or, reduceIte, or_true, true_or, or_false, false_or, and_true, true_and, and_false, false_and, not_true_eq_false, not_false_eq_true, Bool.false_eq_true, eq_self]; done) | (simp [k_isAccess, b2i, ha, hm, hs, c_38]; done)), ht⟩) (fun _ h => nomatch h) dX1_isAccess_74
                · rw [lg_cmp_gt] at c_38
                  refine lv_iconst (v := 1) hx hb dX1_isAccess_69 (by decide) ?_
                  refine lv_goto (tgt := 74) hx hb dX1_isAccess_70 (by decide) ?_
                  exact W.zret (v := 1) hx hb hr rfl (fun t ht hW => ⟨1, rfl, (by first | rfl | (simp only [k_isAccess, b2i, ha, hm, hs, c_38, b2i, decide_true, decide_false, Bool.not_true, Bool.not_false, Bool.and_true, Bool.and_false, Bool.true_and, Bool.false_and, Bool.or_true, Bool.or_false, Bool.true_or, Bool.false_or, reduceIte, or_true, true_or, or_false, false_or, and_true, true_and, and_false, false_and, not_true_eq_false, not_false_eq_true, Bool.false_eq_true, eq_self]; done) | (simp [k_isAccess, b2i, ha, hm, hs, c_38]; done)), ht⟩) (fun _ h => nomatch h) dX1_isAccess_74
      · refine lv_iload_n hx hb dX1_isAccess_18 rfl (lv_at hl 2 rfl) ?_
        refine lv_iconst (v := 1) hx hb dX1_isAccess_19 (by decide) ?_
        refine lv_icmp_eq (tgt := 28) hx hb dX1_isAccess_20 (by decide) (fun c_39 => ?_) (fun c_39 => ?_)
        · have hm : (decide (md = 0) || decide (md = 1) || decide (md = 3)) = true := by simp [c_30, c_39]
          refine lv_iload hx hb dX1_isAccess_28 (lv_at hl 3 rfl) ?_
          refine lv_iconst (v := 1) hx hb dX1_isAccess_30 (by decide) ?_
          refine lv_icmp_eq (tgt := 53) hx hb dX1_isAccess_31 (by decide) (fun c_40 => ?_) (fun c_40 => ?_)
          · have hs : (decide (sz = 1) || decide (sz = 2) || decide (sz = 4) || decide (sz = 8)) = true := by simp [c_40]
            refine lv_lload_n hx hb dX1_isAccess_53 rfl (lv_at hl 0 rfl) ?_
            refine lv_ldc2 (v := 4095) hx hb hown (hts (.constantLong RX1 88 4095) (wa 253 (by decide +kernel) rfl)) dX1_isAccess_54 ?_
            refine lv_land hx hb dX1_isAccess_57 ?_
            refine lv_iload hx hb dX1_isAccess_58 (lv_at hl 3 rfl) ?_
            refine lv_i2l (v := Int32.toInt64 sz) hx hb dX1_isAccess_60 rfl ?_
            refine lv_ladd hx hb dX1_isAccess_61 ?_
            refine lv_ldc2 (v := 4096) hx hb hown (hts (.constantLong RX1 90 4096) (wa 254 (by decide +kernel) rfl)) dX1_isAccess_62 ?_
            refine W.lcmp hx hb dX1_isAccess_65 ?_
            refine lv_if_gt (tgt := 73) hx hb dX1_isAccess_66 (by decide) (fun c_41 => ?_) (fun c_41 => ?_)
            · rw [lg_cmp_gt] at c_41
              refine lv_iconst (v := 0) hx hb dX1_isAccess_73 (by decide) ?_
              exact W.zret (v := 0) hx hb hr rfl (fun t ht hW => ⟨0, rfl, (by first | rfl | (simp only [k_isAccess, b2i, ha, hm, hs, c_41, b2i, decide_true, decide_false, Bool.not_true, Bool.not_false, Bool.and_true, Bool.and_false, Bool.true_and, Bool.false_and, Bool.or_true, Bool.or_false, Bool.true_or, Bool.false_or, reduceIte, or_true, true_or, or_false, false_or, and_true, true_and, and_false, false_and, not_true_eq_false, not_false_eq_true, Bool.false_eq_true, eq_self]; done) | (simp [k_isAccess, b2i, ha, hm, hs, c_41]; done)), ht⟩) (fun _ h => nomatch h) dX1_isAccess_74
            · rw [lg_cmp_gt] at c_41
              refine lv_iconst (v := 1) hx hb dX1_isAccess_69 (by decide) ?_
              refine lv_goto (tgt := 74) hx hb dX1_isAccess_70 (by decide) ?_
              exact W.zret (v := 1) hx hb hr rfl (fun t ht hW => ⟨1, rfl, (by first | rfl | (simp only [k_isAccess, b2i, ha, hm, hs, c_41, b2i, decide_true, decide_false, Bool.not_true, Bool.not_false, Bool.and_true, Bool.and_false, Bool.true_and, Bool.false_and, Bool.or_true, Bool.or_false, Bool.true_or, Bool.false_or, reduceIte, or_true, true_or, or_false, false_or, and_true, true_and, and_false, false_and, not_true_eq_false, not_false_eq_true, Bool.false_eq_true, eq_self]; done) | (simp [k_isAccess, b2i, ha, hm, hs, c_41]; done)), ht⟩) (fun _ h => nomatch h) dX1_isAccess_74
          · refine lv_iload hx hb dX1_isAccess_34 (lv_at hl 3 rfl) ?_
            refine lv_iconst (v := 2) hx hb dX1_isAccess_36 (by decide) ?_
            refine lv_icmp_eq (tgt := 53) hx hb dX1_isAccess_37 (by decide) (fun c_42 => ?_) (fun c_42 => ?_)
            · have hs : (decide (sz = 1) || decide (sz = 2) || decide (sz = 4) || decide (sz = 8)) = true := by simp [c_40, c_42]
              refine lv_lload_n hx hb dX1_isAccess_53 rfl (lv_at hl 0 rfl) ?_
              refine lv_ldc2 (v := 4095) hx hb hown (hts (.constantLong RX1 88 4095) (wa 253 (by decide +kernel) rfl)) dX1_isAccess_54 ?_
              refine lv_land hx hb dX1_isAccess_57 ?_
              refine lv_iload hx hb dX1_isAccess_58 (lv_at hl 3 rfl) ?_
              refine lv_i2l (v := Int32.toInt64 sz) hx hb dX1_isAccess_60 rfl ?_
              refine lv_ladd hx hb dX1_isAccess_61 ?_
              refine lv_ldc2 (v := 4096) hx hb hown (hts (.constantLong RX1 90 4096) (wa 254 (by decide +kernel) rfl)) dX1_isAccess_62 ?_
              refine W.lcmp hx hb dX1_isAccess_65 ?_
              refine lv_if_gt (tgt := 73) hx hb dX1_isAccess_66 (by decide) (fun c_43 => ?_) (fun c_43 => ?_)
              · rw [lg_cmp_gt] at c_43
                refine lv_iconst (v := 0) hx hb dX1_isAccess_73 (by decide) ?_
                exact W.zret (v := 0) hx hb hr rfl (fun t ht hW => ⟨0, rfl, (by first | rfl | (simp only [k_isAccess, b2i, ha, hm, hs, c_43, b2i, decide_true, decide_false, Bool.not_true, Bool.not_false, Bool.and_true, Bool.and_false, Bool.true_and, Bool.false_and, Bool.or_true, Bool.or_false, Bool.true_or, Bool.false_or, reduceIte, or_true, true_or, or_false, false_or, and_true, true_and, and_false, false_and, not_true_eq_false, not_false_eq_true, Bool.false_eq_true, eq_self]; done) | (simp [k_isAccess, b2i, ha, hm, hs, c_43]; done)), ht⟩) (fun _ h => nomatch h) dX1_isAccess_74
              · rw [lg_cmp_gt] at c_43
                refine lv_iconst (v := 1) hx hb dX1_isAccess_69 (by decide) ?_
                refine lv_goto (tgt := 74) hx hb dX1_isAccess_70 (by decide) ?_
                exact W.zret (v := 1) hx hb hr rfl (fun t ht hW => ⟨1, rfl, (by first | rfl | (simp only [k_isAccess, b2i, ha, hm, hs, c_43, b2i, decide_true, decide_false, Bool.not_true, Bool.not_false, Bool.and_true, Bool.and_false, Bool.true_and, Bool.false_and, Bool.or_true, Bool.or_false, Bool.true_or, Bool.false_or, reduceIte, or_true, true_or, or_false, false_or, and_true, true_and, and_false, false_and, not_true_eq_false, not_false_eq_true, Bool.false_eq_true, eq_self]; done) | (simp [k_isAccess, b2i, ha, hm, hs, c_43]; done)), ht⟩) (fun _ h => nomatch h) dX1_isAccess_74
            · refine lv_iload hx hb dX1_isAccess_40 (lv_at hl 3 rfl) ?_
              refine lv_iconst (v := 4) hx hb dX1_isAccess_42 (by decide) ?_
              refine lv_icmp_eq (tgt := 53) hx hb dX1_isAccess_43 (by decide) (fun c_44 => ?_) (fun c_44 => ?_)
              · have hs : (decide (sz = 1) || decide (sz = 2) || decide (sz = 4) || decide (sz = 8)) = true := by simp [c_40, c_42, c_44]
                refine lv_lload_n hx hb dX1_isAccess_53 rfl (lv_at hl 0 rfl) ?_
                refine lv_ldc2 (v := 4095) hx hb hown (hts (.constantLong RX1 88 4095) (wa 253 (by decide +kernel) rfl)) dX1_isAccess_54 ?_
                refine lv_land hx hb dX1_isAccess_57 ?_
                refine lv_iload hx hb dX1_isAccess_58 (lv_at hl 3 rfl) ?_
                refine lv_i2l (v := Int32.toInt64 sz) hx hb dX1_isAccess_60 rfl ?_
                refine lv_ladd hx hb dX1_isAccess_61 ?_
                refine lv_ldc2 (v := 4096) hx hb hown (hts (.constantLong RX1 90 4096) (wa 254 (by decide +kernel) rfl)) dX1_isAccess_62 ?_
                refine W.lcmp hx hb dX1_isAccess_65 ?_
                refine lv_if_gt (tgt := 73) hx hb dX1_isAccess_66 (by decide) (fun c_45 => ?_) (fun c_45 => ?_)
                · rw [lg_cmp_gt] at c_45
                  refine lv_iconst (v := 0) hx hb dX1_isAccess_73 (by decide) ?_
                  exact W.zret (v := 0) hx hb hr rfl (fun t ht hW => ⟨0, rfl, (by first | rfl | (simp only [k_isAccess, b2i, ha, hm, hs, c_45, b2i, decide_true, decide_false, Bool.not_true, Bool.not_false, Bool.and_true, Bool.and_false, Bool.true_and, Bool.false_and, Bool.or_true, Bool.or_false, Bool.true_or, Bool.false_or, reduceIte, or_true, true_or, or_false, false_or, and_true, true_and, and_false, false_and, not_true_eq_false, not_false_eq_true, Bool.false_eq_true, eq_self]; done) | (simp [k_isAccess, b2i, ha, hm, hs, c_45]; done)), ht⟩) (fun _ h => nomatch h) dX1_isAccess_74
                · rw [lg_cmp_gt] at c_45
                  refine lv_iconst (v := 1) hx hb dX1_isAccess_69 (by decide) ?_
                  refine lv_goto (tgt := 74) hx hb dX1_isAccess_70 (by decide) ?_
                  exact W.zret (v := 1) hx hb hr rfl (fun t ht hW => ⟨1, rfl, (by first | rfl | (simp only [k_isAccess, b2i, ha, hm, hs, c_45, b2i, decide_true, decide_false, Bool.not_true, Bool.not_false, Bool.and_true, Bool.and_false, Bool.true_and, Bool.false_and, Bool.or_true, Bool.or_false, Bool.true_or, Bool.false_or, reduceIte, or_true, true_or, or_false, false_or, and_true, true_and, and_false, false_and, not_true_eq_false, not_false_eq_true, Bool.false_eq_true, eq_self]; done) | (simp [k_isAccess, b2i, ha, hm, hs, c_45]; done)), ht⟩) (fun _ h => nomatch h) dX1_isAccess_74
              · refine lv_iload hx hb dX1_isAccess_46 (lv_at hl 3 rfl) ?_
                refine lv_bipush (v := 8) hx hb dX1_isAccess_48 (by decide) ?_
                refine lv_icmp_ne (tgt := 73) hx hb dX1_isAccess_50 (by decide) (fun c_46 => ?_) (fun c_46 => ?_)
                · refine lv_iconst (v := 0) hx hb dX1_isAccess_73 (by decide) ?_
                  exact W.zret (v := 0) hx hb hr rfl (fun t ht hW => ⟨0, rfl, (by first | rfl | (simp only [k_isAccess, b2i, ha, hm, c_40, c_42, c_44, c_46, b2i, decide_true, decide_false, Bool.not_true, Bool.not_false, Bool.and_true, Bool.and_false, Bool.true_and, Bool.false_and, Bool.or_true, Bool.or_false, Bool.true_or, Bool.false_or, reduceIte, or_true, true_or, or_false, false_or, and_true, true_and, and_false, false_and, not_true_eq_false, not_false_eq_true, Bool.false_eq_true, eq_self]; done) | (simp [k_isAccess, b2i, ha, hm, c_40, c_42, c_44, c_46]; done)), ht⟩) (fun _ h => nomatch h) dX1_isAccess_74
                · have hs : (decide (sz = 1) || decide (sz = 2) || decide (sz = 4) || decide (sz = 8)) = true := by simp [c_40, c_42, c_44, c_46]
                  refine lv_lload_n hx hb dX1_isAccess_53 rfl (lv_at hl 0 rfl) ?_
                  refine lv_ldc2 (v := 4095) hx hb hown (hts (.constantLong RX1 88 4095) (wa 253 (by decide +kernel) rfl)) dX1_isAccess_54 ?_
                  refine lv_land hx hb dX1_isAccess_57 ?_
                  refine lv_iload hx hb dX1_isAccess_58 (lv_at hl 3 rfl) ?_
                  refine lv_i2l (v := Int32.toInt64 sz) hx hb dX1_isAccess_60 rfl ?_
                  refine lv_ladd hx hb dX1_isAccess_61 ?_
                  refine lv_ldc2 (v := 4096) hx hb hown (hts (.constantLong RX1 90 4096) (wa 254 (by decide +kernel) rfl)) dX1_isAccess_62 ?_
                  refine W.lcmp hx hb dX1_isAccess_65 ?_
                  refine lv_if_gt (tgt := 73) hx hb dX1_isAccess_66 (by decide) (fun c_47 => ?_) (fun c_47 => ?_)
                  · rw [lg_cmp_gt] at c_47
                    refine lv_iconst (v := 0) hx hb dX1_isAccess_73 (by decide) ?_
                    exact W.zret (v := 0) hx hb hr rfl (fun t ht hW => ⟨0, rfl, (by first | rfl | (simp only [k_isAccess, b2i, ha, hm, hs, c_47, b2i, decide_true, decide_false, Bool.not_true, Bool.not_false, Bool.and_true, Bool.and_false, Bool.true_and, Bool.false_and, Bool.or_true, Bool.or_false, Bool.true_or, Bool.false_or, reduceIte, or_true, true_or, or_false, false_or, and_true, true_and, and_false, false_and, not_true_eq_false, not_false_eq_true, Bool.false_eq_true, eq_self]; done) | (simp [k_isAccess, b2i, ha, hm, hs, c_47]; done)), ht⟩) (fun _ h => nomatch h) dX1_isAccess_74
                  · rw [lg_cmp_gt] at c_47
                    refine lv_iconst (v := 1) hx hb dX1_isAccess_69 (by decide) ?_
                    refine lv_goto (tgt := 74) hx hb dX1_isAccess_70 (by decide) ?_
                    exact W.zret (v := 1) hx hb hr rfl (fun t ht hW => ⟨1, rfl, (by first | rfl | (simp only [k_isAccess, b2i, ha, hm, hs, c_47, b2i, decide_true, decide_false, Bool.not_true, Bool.not_false, Bool.and_true, Bool.and_false, Bool.true_and, Bool.false_and, Bool.or_true, Bool.or_false, Bool.true_or, Bool.false_or, reduceIte, or_true, true_or, or_false, false_or, and_true, true_and, and_false, false_and, not_true_eq_false, not_false_eq_true, Bool.false_eq_true, eq_self]; done) | (simp [k_isAccess, b2i, ha, hm, hs, c_47]; done)), ht⟩) (fun _ h => nomatch h) dX1_isAccess_74
        · refine lv_iload_n hx hb dX1_isAccess_23 rfl (lv_at hl 2 rfl) ?_
          refine lv_iconst (v := 3) hx hb dX1_isAccess_24 (by decide) ?_
          refine lv_icmp_ne (tgt := 73) hx hb dX1_isAccess_25 (by decide) (fun c_48 => ?_) (fun c_48 => ?_)
          · refine lv_iconst (v := 0) hx hb dX1_isAccess_73 (by decide) ?_
            exact W.zret (v := 0) hx hb hr rfl (fun t ht hW => ⟨0, rfl, (by first | rfl | (simp only [k_isAccess, b2i, ha, c_30, c_39, c_48, b2i, decide_true, decide_false, Bool.not_true, Bool.not_false, Bool.and_true, Bool.and_false, Bool.true_and, Bool.false_and, Bool.or_true, Bool.or_false, Bool.true_or, Bool.false_or, reduceIte, or_true, true_or, or_false, false_or, and_true, true_and, and_false, false_and, not_true_eq_false, not_false_eq_true, Bool.false_eq_true, eq_self]; done) | (simp [k_isAccess, b2i, ha, c_30, c_39, c_48]; done)), ht⟩) (fun _ h => nomatch h) dX1_isAccess_74
          · have hm : (decide (md = 0) || decide (md = 1) || decide (md = 3)) = true := by simp [c_30, c_39, c_48]
            refine lv_iload hx hb dX1_isAccess_28 (lv_at hl 3 rfl) ?_
            refine lv_iconst (v := 1) hx hb dX1_isAccess_30 (by decide) ?_
            refine lv_icmp_eq (tgt := 53) hx hb dX1_isAccess_31 (by decide) (fun c_49 => ?_) (fun c_49 => ?_)
            · have hs : (decide (sz = 1) || decide (sz = 2) || decide (sz = 4) || decide (sz = 8)) = true := by simp [c_49]
              refine lv_lload_n hx hb dX1_isAccess_53 rfl (lv_at hl 0 rfl) ?_
              refine lv_ldc2 (v := 4095) hx hb hown (hts (.constantLong RX1 88 4095) (wa 253 (by decide +kernel) rfl)) dX1_isAccess_54 ?_
              refine lv_land hx hb dX1_isAccess_57 ?_
              refine lv_iload hx hb dX1_isAccess_58 (lv_at hl 3 rfl) ?_
              refine lv_i2l (v := Int32.toInt64 sz) hx hb dX1_isAccess_60 rfl ?_
              refine lv_ladd hx hb dX1_isAccess_61 ?_
              refine lv_ldc2 (v := 4096) hx hb hown (hts (.constantLong RX1 90 4096) (wa 254 (by decide +kernel) rfl)) dX1_isAccess_62 ?_
              refine W.lcmp hx hb dX1_isAccess_65 ?_
              refine lv_if_gt (tgt := 73) hx hb dX1_isAccess_66 (by decide) (fun c_50 => ?_) (fun c_50 => ?_)
              · rw [lg_cmp_gt] at c_50
                refine lv_iconst (v := 0) hx hb dX1_isAccess_73 (by decide) ?_
                exact W.zret (v := 0) hx hb hr rfl (fun t ht hW => ⟨0, rfl, (by first | rfl | (simp only [k_isAccess, b2i, ha, hm, hs, c_50, b2i, decide_true, decide_false, Bool.not_true, Bool.not_false, Bool.and_true, Bool.and_false, Bool.true_and, Bool.false_and, Bool.or_true, Bool.or_false, Bool.true_or, Bool.false_or, reduceIte, or_true, true_or, or_false, false_or, and_true, true_and, and_false, false_and, not_true_eq_false, not_false_eq_true, Bool.false_eq_true, eq_self]; done) | (simp [k_isAccess, b2i, ha, hm, hs, c_50]; done)), ht⟩) (fun _ h => nomatch h) dX1_isAccess_74
              · rw [lg_cmp_gt] at c_50
                refine lv_iconst (v := 1) hx hb dX1_isAccess_69 (by decide) ?_
                refine lv_goto (tgt := 74) hx hb dX1_isAccess_70 (by decide) ?_
                exact W.zret (v := 1) hx hb hr rfl (fun t ht hW => ⟨1, rfl, (by first | rfl | (simp only [k_isAccess, b2i, ha, hm, hs, c_50, b2i, decide_true, decide_false, Bool.not_true, Bool.not_false, Bool.and_true, Bool.and_false, Bool.true_and, Bool.false_and, Bool.or_true, Bool.or_false, Bool.true_or, Bool.false_or, reduceIte, or_true, true_or, or_false, false_or, and_true, true_and, and_false, false_and, not_true_eq_false, not_false_eq_true, Bool.false_eq_true, eq_self]; done) | (simp [k_isAccess, b2i, ha, hm, hs, c_50]; done)), ht⟩) (fun _ h => nomatch h) dX1_isAccess_74
            · refine lv_iload hx hb dX1_isAccess_34 (lv_at hl 3 rfl) ?_
              refine lv_iconst (v := 2) hx hb dX1_isAccess_36 (by decide) ?_
              refine lv_icmp_eq (tgt := 53) hx hb dX1_isAccess_37 (by decide) (fun c_51 => ?_) (fun c_51 => ?_)
              · have hs : (decide (sz = 1) || decide (sz = 2) || decide (sz = 4) || decide (sz = 8)) = true := by simp [c_49, c_51]
                refine lv_lload_n hx hb dX1_isAccess_53 rfl (lv_at hl 0 rfl) ?_
                refine lv_ldc2 (v := 4095) hx hb hown (hts (.constantLong RX1 88 4095) (wa 253 (by decide +kernel) rfl)) dX1_isAccess_54 ?_
                refine lv_land hx hb dX1_isAccess_57 ?_
                refine lv_iload hx hb dX1_isAccess_58 (lv_at hl 3 rfl) ?_
                refine lv_i2l (v := Int32.toInt64 sz) hx hb dX1_isAccess_60 rfl ?_
                refine lv_ladd hx hb dX1_isAccess_61 ?_
                refine lv_ldc2 (v := 4096) hx hb hown (hts (.constantLong RX1 90 4096) (wa 254 (by decide +kernel) rfl)) dX1_isAccess_62 ?_
                refine W.lcmp hx hb dX1_isAccess_65 ?_
                refine lv_if_gt (tgt := 73) hx hb dX1_isAccess_66 (by decide) (fun c_52 => ?_) (fun c_52 => ?_)
                · rw [lg_cmp_gt] at c_52
                  refine lv_iconst (v := 0) hx hb dX1_isAccess_73 (by decide) ?_
                  exact W.zret (v := 0) hx hb hr rfl (fun t ht hW => ⟨0, rfl, (by first | rfl | (simp only [k_isAccess, b2i, ha, hm, hs, c_52, b2i, decide_true, decide_false, Bool.not_true, Bool.not_false, Bool.and_true, Bool.and_false, Bool.true_and, Bool.false_and, Bool.or_true, Bool.or_false, Bool.true_or, Bool.false_or, reduceIte, or_true, true_or, or_false, false_or, and_true, true_and, and_false, false_and, not_true_eq_false, not_false_eq_true, Bool.false_eq_true, eq_self]; done) | (simp [k_isAccess, b2i, ha, hm, hs, c_52]; done)), ht⟩) (fun _ h => nomatch h) dX1_isAccess_74
                · rw [lg_cmp_gt] at c_52
                  refine lv_iconst (v := 1) hx hb dX1_isAccess_69 (by decide) ?_
                  refine lv_goto (tgt := 74) hx hb dX1_isAccess_70 (by decide) ?_
                  exact W.zret (v := 1) hx hb hr rfl (fun t ht hW => ⟨1, rfl, (by first | rfl | (simp only [k_isAccess, b2i, ha, hm, hs, c_52, b2i, decide_true, decide_false, Bool.not_true, Bool.not_false, Bool.and_true, Bool.and_false, Bool.true_and, Bool.false_and, Bool.or_true, Bool.or_false, Bool.true_or, Bool.false_or, reduceIte, or_true, true_or, or_false, false_or, and_true, true_and, and_false, false_and, not_true_eq_false, not_false_eq_true, Bool.false_eq_true, eq_self]; done) | (simp [k_isAccess, b2i, ha, hm, hs, c_52]; done)), ht⟩) (fun _ h => nomatch h) dX1_isAccess_74
              · refine lv_iload hx hb dX1_isAccess_40 (lv_at hl 3 rfl) ?_
                refine lv_iconst (v := 4) hx hb dX1_isAccess_42 (by decide) ?_
                refine lv_icmp_eq (tgt := 53) hx hb dX1_isAccess_43 (by decide) (fun c_53 => ?_) (fun c_53 => ?_)
                · have hs : (decide (sz = 1) || decide (sz = 2) || decide (sz = 4) || decide (sz = 8)) = true := by simp [c_49, c_51, c_53]
                  refine lv_lload_n hx hb dX1_isAccess_53 rfl (lv_at hl 0 rfl) ?_
                  refine lv_ldc2 (v := 4095) hx hb hown (hts (.constantLong RX1 88 4095) (wa 253 (by decide +kernel) rfl)) dX1_isAccess_54 ?_
                  refine lv_land hx hb dX1_isAccess_57 ?_
                  refine lv_iload hx hb dX1_isAccess_58 (lv_at hl 3 rfl) ?_
                  refine lv_i2l (v := Int32.toInt64 sz) hx hb dX1_isAccess_60 rfl ?_
                  refine lv_ladd hx hb dX1_isAccess_61 ?_
                  refine lv_ldc2 (v := 4096) hx hb hown (hts (.constantLong RX1 90 4096) (wa 254 (by decide +kernel) rfl)) dX1_isAccess_62 ?_
                  refine W.lcmp hx hb dX1_isAccess_65 ?_
                  refine lv_if_gt (tgt := 73) hx hb dX1_isAccess_66 (by decide) (fun c_54 => ?_) (fun c_54 => ?_)
                  · rw [lg_cmp_gt] at c_54
                    refine lv_iconst (v := 0) hx hb dX1_isAccess_73 (by decide) ?_
                    exact W.zret (v := 0) hx hb hr rfl (fun t ht hW => ⟨0, rfl, (by first | rfl | (simp only [k_isAccess, b2i, ha, hm, hs, c_54, b2i, decide_true, decide_false, Bool.not_true, Bool.not_false, Bool.and_true, Bool.and_false, Bool.true_and, Bool.false_and, Bool.or_true, Bool.or_false, Bool.true_or, Bool.false_or, reduceIte, or_true, true_or, or_false, false_or, and_true, true_and, and_false, false_and, not_true_eq_false, not_false_eq_true, Bool.false_eq_true, eq_self]; done) | (simp [k_isAccess, b2i, ha, hm, hs, c_54]; done)), ht⟩) (fun _ h => nomatch h) dX1_isAccess_74
                  · rw [lg_cmp_gt] at c_54
                    refine lv_iconst (v := 1) hx hb dX1_isAccess_69 (by decide) ?_
                    refine lv_goto (tgt := 74) hx hb dX1_isAccess_70 (by decide) ?_
                    exact W.zret (v := 1) hx hb hr rfl (fun t ht hW => ⟨1, rfl, (by first | rfl | (simp only [k_isAccess, b2i, ha, hm, hs, c_54, b2i, decide_true, decide_false, Bool.not_true, Bool.not_false, Bool.and_true, Bool.and_false, Bool.true_and, Bool.false_and, Bool.or_true, Bool.or_false, Bool.true_or, Bool.false_or, reduceIte, or_true, true_or, or_false, false_or, and_true, true_and, and_false, false_and, not_true_eq_false, not_false_eq_true, Bool.false_eq_true, eq_self]; done) | (simp [k_isAccess, b2i, ha, hm, hs, c_54]; done)), ht⟩) (fun _ h => nomatch h) dX1_isAccess_74
                · refine lv_iload hx hb dX1_isAccess_46 (lv_at hl 3 rfl) ?_
                  refine lv_bipush (v := 8) hx hb dX1_isAccess_48 (by decide) ?_
                  refine lv_icmp_ne (tgt := 73) hx hb dX1_isAccess_50 (by decide) (fun c_55 => ?_) (fun c_55 => ?_)
                  · refine lv_iconst (v := 0) hx hb dX1_isAccess_73 (by decide) ?_
                    exact W.zret (v := 0) hx hb hr rfl (fun t ht hW => ⟨0, rfl, (by first | rfl | (simp only [k_isAccess, b2i, ha, hm, c_49, c_51, c_53, c_55, b2i, decide_true, decide_false, Bool.not_true, Bool.not_false, Bool.and_true, Bool.and_false, Bool.true_and, Bool.false_and, Bool.or_true, Bool.or_false, Bool.true_or, Bool.false_or, reduceIte, or_true, true_or, or_false, false_or, and_true, true_and, and_false, false_and, not_true_eq_false, not_false_eq_true, Bool.false_eq_true, eq_self]; done) | (simp [k_isAccess, b2i, ha, hm, c_49, c_51, c_53, c_55]; done)), ht⟩) (fun _ h => nomatch h) dX1_isAccess_74
                  · have hs : (decide (sz = 1) || decide (sz = 2) || decide (sz = 4) || decide (sz = 8)) = true := by simp [c_49, c_51, c_53, c_55]
                    refine lv_lload_n hx hb dX1_isAccess_53 rfl (lv_at hl 0 rfl) ?_
                    refine lv_ldc2 (v := 4095) hx hb hown (hts (.constantLong RX1 88 4095) (wa 253 (by decide +kernel) rfl)) dX1_isAccess_54 ?_
                    refine lv_land hx hb dX1_isAccess_57 ?_
                    refine lv_iload hx hb dX1_isAccess_58 (lv_at hl 3 rfl) ?_
                    refine lv_i2l (v := Int32.toInt64 sz) hx hb dX1_isAccess_60 rfl ?_
                    refine lv_ladd hx hb dX1_isAccess_61 ?_
                    refine lv_ldc2 (v := 4096) hx hb hown (hts (.constantLong RX1 90 4096) (wa 254 (by decide +kernel) rfl)) dX1_isAccess_62 ?_
                    refine W.lcmp hx hb dX1_isAccess_65 ?_
                    refine lv_if_gt (tgt := 73) hx hb dX1_isAccess_66 (by decide) (fun c_56 => ?_) (fun c_56 => ?_)
                    · rw [lg_cmp_gt] at c_56
                      refine lv_iconst (v := 0) hx hb dX1_isAccess_73 (by decide) ?_
                      exact W.zret (v := 0) hx hb hr rfl (fun t ht hW => ⟨0, rfl, (by first | rfl | (simp only [k_isAccess, b2i, ha, hm, hs, c_56, b2i, decide_true, decide_false, Bool.not_true, Bool.not_false, Bool.and_true, Bool.and_false, Bool.true_and, Bool.false_and, Bool.or_true, Bool.or_false, Bool.true_or, Bool.false_or, reduceIte, or_true, true_or, or_false, false_or, and_true, true_and, and_false, false_and, not_true_eq_false, not_false_eq_true, Bool.false_eq_true, eq_self]; done) | (simp [k_isAccess, b2i, ha, hm, hs, c_56]; done)), ht⟩) (fun _ h => nomatch h) dX1_isAccess_74
                    · rw [lg_cmp_gt] at c_56
                      refine lv_iconst (v := 1) hx hb dX1_isAccess_69 (by decide) ?_
                      refine lv_goto (tgt := 74) hx hb dX1_isAccess_70 (by decide) ?_
                      exact W.zret (v := 1) hx hb hr rfl (fun t ht hW => ⟨1, rfl, (by first | rfl | (simp only [k_isAccess, b2i, ha, hm, hs, c_56, b2i, decide_true, decide_false, Bool.not_true, Bool.not_false, Bool.and_true, Bool.and_false, Bool.true_and, Bool.false_and, Bool.or_true, Bool.or_false, Bool.true_or, Bool.false_or, reduceIte, or_true, true_or, or_false, false_or, and_true, true_and, and_false, false_and, not_true_eq_false, not_false_eq_true, Bool.false_eq_true, eq_self]; done) | (simp [k_isAccess, b2i, ha, hm, hs, c_56]; done)), ht⟩) (fun _ h => nomatch h) dX1_isAccess_74
    · refine lv_iload_n hx hb dX1_isAccess_9 rfl (lv_at hl 1 rfl) ?_
      refine lv_iconst (v := 2) hx hb dX1_isAccess_10 (by decide) ?_
      refine lv_icmp_ne (tgt := 73) hx hb dX1_isAccess_11 (by decide) (fun c_57 => ?_) (fun c_57 => ?_)
      · refine lv_iconst (v := 0) hx hb dX1_isAccess_73 (by decide) ?_
        exact W.zret (v := 0) hx hb hr rfl (fun t ht hW => ⟨0, rfl, (by first | rfl | (simp only [k_isAccess, b2i, c_1, c_29, c_57, b2i, decide_true, decide_false, Bool.not_true, Bool.not_false, Bool.and_true, Bool.and_false, Bool.true_and, Bool.false_and, Bool.or_true, Bool.or_false, Bool.true_or, Bool.false_or, reduceIte, or_true, true_or, or_false, false_or, and_true, true_and, and_false, false_and, not_true_eq_false, not_false_eq_true, Bool.false_eq_true, eq_self]; done) | (simp [k_isAccess, b2i, c_1, c_29, c_57]; done)), ht⟩) (fun _ h => nomatch h) dX1_isAccess_74
      · have ha : (decide (ac = 0) || decide (ac = 1) || decide (ac = 2)) = true := by simp [c_1, c_29, c_57]
        refine lv_iload_n hx hb dX1_isAccess_14 rfl (lv_at hl 2 rfl) ?_
        refine lv_if_eq (tgt := 28) hx hb dX1_isAccess_15 (by decide) (fun c_58 => ?_) (fun c_58 => ?_)
        · have hm : (decide (md = 0) || decide (md = 1) || decide (md = 3)) = true := by simp [c_58]
          refine lv_iload hx hb dX1_isAccess_28 (lv_at hl 3 rfl) ?_
          refine lv_iconst (v := 1) hx hb dX1_isAccess_30 (by decide) ?_
          refine lv_icmp_eq (tgt := 53) hx hb dX1_isAccess_31 (by decide) (fun c_59 => ?_) (fun c_59 => ?_)
          · have hs : (decide (sz = 1) || decide (sz = 2) || decide (sz = 4) || decide (sz = 8)) = true := by simp [c_59]
            refine lv_lload_n hx hb dX1_isAccess_53 rfl (lv_at hl 0 rfl) ?_
            refine lv_ldc2 (v := 4095) hx hb hown (hts (.constantLong RX1 88 4095) (wa 253 (by decide +kernel) rfl)) dX1_isAccess_54 ?_
            refine lv_land hx hb dX1_isAccess_57 ?_
            refine lv_iload hx hb dX1_isAccess_58 (lv_at hl 3 rfl) ?_
            refine lv_i2l (v := Int32.toInt64 sz) hx hb dX1_isAccess_60 rfl ?_
            refine lv_ladd hx hb dX1_isAccess_61 ?_
            refine lv_ldc2 (v := 4096) hx hb hown (hts (.constantLong RX1 90 4096) (wa 254 (by decide +kernel) rfl)) dX1_isAccess_62 ?_
            refine W.lcmp hx hb dX1_isAccess_65 ?_
            refine lv_if_gt (tgt := 73) hx hb dX1_isAccess_66 (by decide) (fun c_60 => ?_) (fun c_60 => ?_)
            · rw [lg_cmp_gt] at c_60
              refine lv_iconst (v := 0) hx hb dX1_isAccess_73 (by decide) ?_
              exact W.zret (v := 0) hx hb hr rfl (fun t ht hW => ⟨0, rfl, (by first | rfl | (simp only [k_isAccess, b2i, ha, hm, hs, c_60, b2i, decide_true, decide_false, Bool.not_true, Bool.not_false, Bool.and_true, Bool.and_false, Bool.true_and, Bool.false_and, Bool.or_true, Bool.or_false, Bool.true_or, Bool.false_or, reduceIte, or_true, true_or, or_false, false_or, and_true, true_and, and_false, false_and, not_true_eq_false, not_false_eq_true, Bool.false_eq_true, eq_self]; done) | (simp [k_isAccess, b2i, ha, hm, hs, c_60]; done)), ht⟩) (fun _ h => nomatch h) dX1_isAccess_74
            · rw [lg_cmp_gt] at c_60
              refine lv_iconst (v := 1) hx hb dX1_isAccess_69 (by decide) ?_
              refine lv_goto (tgt := 74) hx hb dX1_isAccess_70 (by decide) ?_
              exact W.zret (v := 1) hx hb hr rfl (fun t ht hW => ⟨1, rfl, (by first | rfl | (simp only [k_isAccess, b2i, ha, hm, hs, c_60, b2i, decide_true, decide_false, Bool.not_true, Bool.not_false, Bool.and_true, Bool.and_false, Bool.true_and, Bool.false_and, Bool.or_true, Bool.or_false, Bool.true_or, Bool.false_or, reduceIte, or_true, true_or, or_false, false_or, and_true, true_and, and_false, false_and, not_true_eq_false, not_false_eq_true, Bool.false_eq_true, eq_self]; done) | (simp [k_isAccess, b2i, ha, hm, hs, c_60]; done)), ht⟩) (fun _ h => nomatch h) dX1_isAccess_74
          · refine lv_iload hx hb dX1_isAccess_34 (lv_at hl 3 rfl) ?_
            refine lv_iconst (v := 2) hx hb dX1_isAccess_36 (by decide) ?_
            refine lv_icmp_eq (tgt := 53) hx hb dX1_isAccess_37 (by decide) (fun c_61 => ?_) (fun c_61 => ?_)
            · have hs : (decide (sz = 1) || decide (sz = 2) || decide (sz = 4) || decide (sz = 8)) = true := by simp [c_59, c_61]
              refine lv_lload_n hx hb dX1_isAccess_53 rfl (lv_at hl 0 rfl) ?_
              refine lv_ldc2 (v := 4095) hx hb hown (hts (.constantLong RX1 88 4095) (wa 253 (by decide +kernel) rfl)) dX1_isAccess_54 ?_
              refine lv_land hx hb dX1_isAccess_57 ?_
              refine lv_iload hx hb dX1_isAccess_58 (lv_at hl 3 rfl) ?_
              refine lv_i2l (v := Int32.toInt64 sz) hx hb dX1_isAccess_60 rfl ?_
              refine lv_ladd hx hb dX1_isAccess_61 ?_
              refine lv_ldc2 (v := 4096) hx hb hown (hts (.constantLong RX1 90 4096) (wa 254 (by decide +kernel) rfl)) dX1_isAccess_62 ?_
              refine W.lcmp hx hb dX1_isAccess_65 ?_
              refine lv_if_gt (tgt := 73) hx hb dX1_isAccess_66 (by decide) (fun c_62 => ?_) (fun c_62 => ?_)
              · rw [lg_cmp_gt] at c_62
                refine lv_iconst (v := 0) hx hb dX1_isAccess_73 (by decide) ?_
                exact W.zret (v := 0) hx hb hr rfl (fun t ht hW => ⟨0, rfl, (by first | rfl | (simp only [k_isAccess, b2i, ha, hm, hs, c_62, b2i, decide_true, decide_false, Bool.not_true, Bool.not_false, Bool.and_true, Bool.and_false, Bool.true_and, Bool.false_and, Bool.or_true, Bool.or_false, Bool.true_or, Bool.false_or, reduceIte, or_true, true_or, or_false, false_or, and_true, true_and, and_false, false_and, not_true_eq_false, not_false_eq_true, Bool.false_eq_true, eq_self]; done) | (simp [k_isAccess, b2i, ha, hm, hs, c_62]; done)), ht⟩) (fun _ h => nomatch h) dX1_isAccess_74
              · rw [lg_cmp_gt] at c_62
                refine lv_iconst (v := 1) hx hb dX1_isAccess_69 (by decide) ?_
                refine lv_goto (tgt := 74) hx hb dX1_isAccess_70 (by decide) ?_
                exact W.zret (v := 1) hx hb hr rfl (fun t ht hW => ⟨1, rfl, (by first | rfl | (simp only [k_isAccess, b2i, ha, hm, hs, c_62, b2i, decide_true, decide_false, Bool.not_true, Bool.not_false, Bool.and_true, Bool.and_false, Bool.true_and, Bool.false_and, Bool.or_true, Bool.or_false, Bool.true_or, Bool.false_or, reduceIte, or_true, true_or, or_false, false_or, and_true, true_and, and_false, false_and, not_true_eq_false, not_false_eq_true, Bool.false_eq_true, eq_self]; done) | (simp [k_isAccess, b2i, ha, hm, hs, c_62]; done)), ht⟩) (fun _ h => nomatch h) dX1_isAccess_74
            · refine lv_iload hx hb dX1_isAccess_40 (lv_at hl 3 rfl) ?_
              refine lv_iconst (v := 4) hx hb dX1_isAccess_42 (by decide) ?_
              refine lv_icmp_eq (tgt := 53) hx hb dX1_isAccess_43 (by decide) (fun c_63 => ?_) (fun c_63 => ?_)
              · have hs : (decide (sz = 1) || decide (sz = 2) || decide (sz = 4) || decide (sz = 8)) = true := by simp [c_59, c_61, c_63]
                refine lv_lload_n hx hb dX1_isAccess_53 rfl (lv_at hl 0 rfl) ?_
                refine lv_ldc2 (v := 4095) hx hb hown (hts (.constantLong RX1 88 4095) (wa 253 (by decide +kernel) rfl)) dX1_isAccess_54 ?_
                refine lv_land hx hb dX1_isAccess_57 ?_
                refine lv_iload hx hb dX1_isAccess_58 (lv_at hl 3 rfl) ?_
                refine lv_i2l (v := Int32.toInt64 sz) hx hb dX1_isAccess_60 rfl ?_
                refine lv_ladd hx hb dX1_isAccess_61 ?_
                refine lv_ldc2 (v := 4096) hx hb hown (hts (.constantLong RX1 90 4096) (wa 254 (by decide +kernel) rfl)) dX1_isAccess_62 ?_
                refine W.lcmp hx hb dX1_isAccess_65 ?_
                refine lv_if_gt (tgt := 73) hx hb dX1_isAccess_66 (by decide) (fun c_64 => ?_) (fun c_64 => ?_)
                · rw [lg_cmp_gt] at c_64
                  refine lv_iconst (v := 0) hx hb dX1_isAccess_73 (by decide) ?_
                  exact W.zret (v := 0) hx hb hr rfl (fun t ht hW => ⟨0, rfl, (by first | rfl | (simp only [k_isAccess, b2i, ha, hm, hs, c_64, b2i, decide_true, decide_false, Bool.not_true, Bool.not_false, Bool.and_true, Bool.and_false, Bool.true_and, Bool.false_and, Bool.or_true, Bool.or_false, Bool.true_or, Bool.false_or, reduceIte, or_true, true_or, or_false, false_or, and_true, true_and, and_false, false_and, not_true_eq_false, not_false_eq_true, Bool.false_eq_true, eq_self]; done) | (simp [k_isAccess, b2i, ha, hm, hs, c_64]; done)), ht⟩) (fun _ h => nomatch h) dX1_isAccess_74
                · rw [lg_cmp_gt] at c_64
                  refine lv_iconst (v := 1) hx hb dX1_isAccess_69 (by decide) ?_
                  refine lv_goto (tgt := 74) hx hb dX1_isAccess_70 (by decide) ?_
                  exact W.zret (v := 1) hx hb hr rfl (fun t ht hW => ⟨1, rfl, (by first | rfl | (simp only [k_isAccess, b2i, ha, hm, hs, c_64, b2i, decide_true, decide_false, Bool.not_true, Bool.not_false, Bool.and_true, Bool.and_false, Bool.true_and, Bool.false_and, Bool.or_true, Bool.or_false, Bool.true_or, Bool.false_or, reduceIte, or_true, true_or, or_false, false_or, and_true, true_and, and_false, false_and, not_true_eq_false, not_false_eq_true, Bool.false_eq_true, eq_self]; done) | (simp [k_isAccess, b2i, ha, hm, hs, c_64]; done)), ht⟩) (fun _ h => nomatch h) dX1_isAccess_74
              · refine lv_iload hx hb dX1_isAccess_46 (lv_at hl 3 rfl) ?_
                refine lv_bipush (v := 8) hx hb dX1_isAccess_48 (by decide) ?_
                refine lv_icmp_ne (tgt := 73) hx hb dX1_isAccess_50 (by decide) (fun c_65 => ?_) (fun c_65 => ?_)
                · refine lv_iconst (v := 0) hx hb dX1_isAccess_73 (by decide) ?_
                  exact W.zret (v := 0) hx hb hr rfl (fun t ht hW => ⟨0, rfl, (by first | rfl | (simp only [k_isAccess, b2i, ha, hm, c_59, c_61, c_63, c_65, b2i, decide_true, decide_false, Bool.not_true, Bool.not_false, Bool.and_true, Bool.and_false, Bool.true_and, Bool.false_and, Bool.or_true, Bool.or_false, Bool.true_or, Bool.false_or, reduceIte, or_true, true_or, or_false, false_or, and_true, true_and, and_false, false_and, not_true_eq_false, not_false_eq_true, Bool.false_eq_true, eq_self]; done) | (simp [k_isAccess, b2i, ha, hm, c_59, c_61, c_63, c_65]; done)), ht⟩) (fun _ h => nomatch h) dX1_isAccess_74
                · have hs : (decide (sz = 1) || decide (sz = 2) || decide (sz = 4) || decide (sz = 8)) = true := by simp [c_59, c_61, c_63, c_65]
                  refine lv_lload_n hx hb dX1_isAccess_53 rfl (lv_at hl 0 rfl) ?_
                  refine lv_ldc2 (v := 4095) hx hb hown (hts (.constantLong RX1 88 4095) (wa 253 (by decide +kernel) rfl)) dX1_isAccess_54 ?_
                  refine lv_land hx hb dX1_isAccess_57 ?_
                  refine lv_iload hx hb dX1_isAccess_58 (lv_at hl 3 rfl) ?_
                  refine lv_i2l (v := Int32.toInt64 sz) hx hb dX1_isAccess_60 rfl ?_
                  refine lv_ladd hx hb dX1_isAccess_61 ?_
                  refine lv_ldc2 (v := 4096) hx hb hown (hts (.constantLong RX1 90 4096) (wa 254 (by decide +kernel) rfl)) dX1_isAccess_62 ?_
                  refine W.lcmp hx hb dX1_isAccess_65 ?_
                  refine lv_if_gt (tgt := 73) hx hb dX1_isAccess_66 (by decide) (fun c_66 => ?_) (fun c_66 => ?_)
                  · rw [lg_cmp_gt] at c_66
                    refine lv_iconst (v := 0) hx hb dX1_isAccess_73 (by decide) ?_
                    exact W.zret (v := 0) hx hb hr rfl (fun t ht hW => ⟨0, rfl, (by first | rfl | (simp only [k_isAccess, b2i, ha, hm, hs, c_66, b2i, decide_true, decide_false, Bool.not_true, Bool.not_false, Bool.and_true, Bool.and_false, Bool.true_and, Bool.false_and, Bool.or_true, Bool.or_false, Bool.true_or, Bool.false_or, reduceIte, or_true, true_or, or_false, false_or, and_true, true_and, and_false, false_and, not_true_eq_false, not_false_eq_true, Bool.false_eq_true, eq_self]; done) | (simp [k_isAccess, b2i, ha, hm, hs, c_66]; done)), ht⟩) (fun _ h => nomatch h) dX1_isAccess_74
                  · rw [lg_cmp_gt] at c_66
                    refine lv_iconst (v := 1) hx hb dX1_isAccess_69 (by decide) ?_
                    refine lv_goto (tgt := 74) hx hb dX1_isAccess_70 (by decide) ?_
                    exact W.zret (v := 1) hx hb hr rfl (fun t ht hW => ⟨1, rfl, (by first | rfl | (simp only [k_isAccess, b2i, ha, hm, hs, c_66, b2i, decide_true, decide_false, Bool.not_true, Bool.not_false, Bool.and_true, Bool.and_false, Bool.true_and, Bool.false_and, Bool.or_true, Bool.or_false, Bool.true_or, Bool.false_or, reduceIte, or_true, true_or, or_false, false_or, and_true, true_and, and_false, false_and, not_true_eq_false, not_false_eq_true, Bool.false_eq_true, eq_self]; done) | (simp [k_isAccess, b2i, ha, hm, hs, c_66]; done)), ht⟩) (fun _ h => nomatch h) dX1_isAccess_74
        · refine lv_iload_n hx hb dX1_isAccess_18 rfl (lv_at hl 2 rfl) ?_
          refine lv_iconst (v := 1) hx hb dX1_isAccess_19 (by decide) ?_
          refine lv_icmp_eq (tgt := 28) hx hb dX1_isAccess_20 (by decide) (fun c_67 => ?_) (fun c_67 => ?_)
          · have hm : (decide (md = 0) || decide (md = 1) || decide (md = 3)) = true := by simp [c_58, c_67]
            refine lv_iload hx hb dX1_isAccess_28 (lv_at hl 3 rfl) ?_
            refine lv_iconst (v := 1) hx hb dX1_isAccess_30 (by decide) ?_
            refine lv_icmp_eq (tgt := 53) hx hb dX1_isAccess_31 (by decide) (fun c_68 => ?_) (fun c_68 => ?_)
            · have hs : (decide (sz = 1) || decide (sz = 2) || decide (sz = 4) || decide (sz = 8)) = true := by simp [c_68]
              refine lv_lload_n hx hb dX1_isAccess_53 rfl (lv_at hl 0 rfl) ?_
              refine lv_ldc2 (v := 4095) hx hb hown (hts (.constantLong RX1 88 4095) (wa 253 (by decide +kernel) rfl)) dX1_isAccess_54 ?_
              refine lv_land hx hb dX1_isAccess_57 ?_
              refine lv_iload hx hb dX1_isAccess_58 (lv_at hl 3 rfl) ?_
              refine lv_i2l (v := Int32.toInt64 sz) hx hb dX1_isAccess_60 rfl ?_
              refine lv_ladd hx hb dX1_isAccess_61 ?_
              refine lv_ldc2 (v := 4096) hx hb hown (hts (.constantLong RX1 90 4096) (wa 254 (by decide +kernel) rfl)) dX1_isAccess_62 ?_
              refine W.lcmp hx hb dX1_isAccess_65 ?_
              refine lv_if_gt (tgt := 73) hx hb dX1_isAccess_66 (by decide) (fun c_69 => ?_) (fun c_69 => ?_)
              · rw [lg_cmp_gt] at c_69
                refine lv_iconst (v := 0) hx hb dX1_isAccess_73 (by decide) ?_
                exact W.zret (v := 0) hx hb hr rfl (fun t ht hW => ⟨0, rfl, (by first | rfl | (simp only [k_isAccess, b2i, ha, hm, hs, c_69, b2i, decide_true, decide_false, Bool.not_true, Bool.not_false, Bool.and_true, Bool.and_false, Bool.true_and, Bool.false_and, Bool.or_true, Bool.or_false, Bool.true_or, Bool.false_or, reduceIte, or_true, true_or, or_false, false_or, and_true, true_and, and_false, false_and, not_true_eq_false, not_false_eq_true, Bool.false_eq_true, eq_self]; done) | (simp [k_isAccess, b2i, ha, hm, hs, c_69]; done)), ht⟩) (fun _ h => nomatch h) dX1_isAccess_74
              · rw [lg_cmp_gt] at c_69
                refine lv_iconst (v := 1) hx hb dX1_isAccess_69 (by decide) ?_
                refine lv_goto (tgt := 74) hx hb dX1_isAccess_70 (by decide) ?_
                exact W.zret (v := 1) hx hb hr rfl (fun t ht hW => ⟨1, rfl, (by first | rfl | (simp only [k_isAccess, b2i, ha, hm, hs, c_69, b2i, decide_true, decide_false, Bool.not_true, Bool.not_false, Bool.and_true, Bool.and_false, Bool.true_and, Bool.false_and, Bool.or_true, Bool.or_false, Bool.true_or, Bool.false_or, reduceIte, or_true, true_or, or_false, false_or, and_true, true_and, and_false, false_and, not_true_eq_false, not_false_eq_true, Bool.false_eq_true, eq_self]; done) | (simp [k_isAccess, b2i, ha, hm, hs, c_69]; done)), ht⟩) (fun _ h => nomatch h) dX1_isAccess_74
            · refine lv_iload hx hb dX1_isAccess_34 (lv_at hl 3 rfl) ?_
              refine lv_iconst (v := 2) hx hb dX1_isAccess_36 (by decide) ?_
              refine lv_icmp_eq (tgt := 53) hx hb dX1_isAccess_37 (by decide) (fun c_70 => ?_) (fun c_70 => ?_)
              · have hs : (decide (sz = 1) || decide (sz = 2) || decide (sz = 4) || decide (sz = 8)) = true := by simp [c_68, c_70]
                refine lv_lload_n hx hb dX1_isAccess_53 rfl (lv_at hl 0 rfl) ?_
                refine lv_ldc2 (v := 4095) hx hb hown (hts (.constantLong RX1 88 4095) (wa 253 (by decide +kernel) rfl)) dX1_isAccess_54 ?_
                refine lv_land hx hb dX1_isAccess_57 ?_
                refine lv_iload hx hb dX1_isAccess_58 (lv_at hl 3 rfl) ?_
                refine lv_i2l (v := Int32.toInt64 sz) hx hb dX1_isAccess_60 rfl ?_
                refine lv_ladd hx hb dX1_isAccess_61 ?_
                refine lv_ldc2 (v := 4096) hx hb hown (hts (.constantLong RX1 90 4096) (wa 254 (by decide +kernel) rfl)) dX1_isAccess_62 ?_
                refine W.lcmp hx hb dX1_isAccess_65 ?_
                refine lv_if_gt (tgt := 73) hx hb dX1_isAccess_66 (by decide) (fun c_71 => ?_) (fun c_71 => ?_)
                · rw [lg_cmp_gt] at c_71
                  refine lv_iconst (v := 0) hx hb dX1_isAccess_73 (by decide) ?_
                  exact W.zret (v := 0) hx hb hr rfl (fun t ht hW => ⟨0, rfl, (by first | rfl | (simp only [k_isAccess, b2i, ha, hm, hs, c_71, b2i, decide_true, decide_false, Bool.not_true, Bool.not_false, Bool.and_true, Bool.and_false, Bool.true_and, Bool.false_and, Bool.or_true, Bool.or_false, Bool.true_or, Bool.false_or, reduceIte, or_true, true_or, or_false, false_or, and_true, true_and, and_false, false_and, not_true_eq_false, not_false_eq_true, Bool.false_eq_true, eq_self]; done) | (simp [k_isAccess, b2i, ha, hm, hs, c_71]; done)), ht⟩) (fun _ h => nomatch h) dX1_isAccess_74
                · rw [lg_cmp_gt] at c_71
                  refine lv_iconst (v := 1) hx hb dX1_isAccess_69 (by decide) ?_
                  refine lv_goto (tgt := 74) hx hb dX1_isAccess_70 (by decide) ?_
                  exact W.zret (v := 1) hx hb hr rfl (fun t ht hW => ⟨1, rfl, (by first | rfl | (simp only [k_isAccess, b2i, ha, hm, hs, c_71, b2i, decide_true, decide_false, Bool.not_true, Bool.not_false, Bool.and_true, Bool.and_false, Bool.true_and, Bool.false_and, Bool.or_true, Bool.or_false, Bool.true_or, Bool.false_or, reduceIte, or_true, true_or, or_false, false_or, and_true, true_and, and_false, false_and, not_true_eq_false, not_false_eq_true, Bool.false_eq_true, eq_self]; done) | (simp [k_isAccess, b2i, ha, hm, hs, c_71]; done)), ht⟩) (fun _ h => nomatch h) dX1_isAccess_74
              · refine lv_iload hx hb dX1_isAccess_40 (lv_at hl 3 rfl) ?_
                refine lv_iconst (v := 4) hx hb dX1_isAccess_42 (by decide) ?_
                refine lv_icmp_eq (tgt := 53) hx hb dX1_isAccess_43 (by decide) (fun c_72 => ?_) (fun c_72 => ?_)
                · have hs : (decide (sz = 1) || decide (sz = 2) || decide (sz = 4) || decide (sz = 8)) = true := by simp [c_68, c_70, c_72]
                  refine lv_lload_n hx hb dX1_isAccess_53 rfl (lv_at hl 0 rfl) ?_
                  refine lv_ldc2 (v := 4095) hx hb hown (hts (.constantLong RX1 88 4095) (wa 253 (by decide +kernel) rfl)) dX1_isAccess_54 ?_
                  refine lv_land hx hb dX1_isAccess_57 ?_
                  refine lv_iload hx hb dX1_isAccess_58 (lv_at hl 3 rfl) ?_
                  refine lv_i2l (v := Int32.toInt64 sz) hx hb dX1_isAccess_60 rfl ?_
                  refine lv_ladd hx hb dX1_isAccess_61 ?_
                  refine lv_ldc2 (v := 4096) hx hb hown (hts (.constantLong RX1 90 4096) (wa 254 (by decide +kernel) rfl)) dX1_isAccess_62 ?_
                  refine W.lcmp hx hb dX1_isAccess_65 ?_
                  refine lv_if_gt (tgt := 73) hx hb dX1_isAccess_66 (by decide) (fun c_73 => ?_) (fun c_73 => ?_)
                  · rw [lg_cmp_gt] at c_73
                    refine lv_iconst (v := 0) hx hb dX1_isAccess_73 (by decide) ?_
                    exact W.zret (v := 0) hx hb hr rfl (fun t ht hW => ⟨0, rfl, (by first | rfl | (simp only [k_isAccess, b2i, ha, hm, hs, c_73, b2i, decide_true, decide_false, Bool.not_true, Bool.not_false, Bool.and_true, Bool.and_false, Bool.true_and, Bool.false_and, Bool.or_true, Bool.or_false, Bool.true_or, Bool.false_or, reduceIte, or_true, true_or, or_false, false_or, and_true, true_and, and_false, false_and, not_true_eq_false, not_false_eq_true, Bool.false_eq_true, eq_self]; done) | (simp [k_isAccess, b2i, ha, hm, hs, c_73]; done)), ht⟩) (fun _ h => nomatch h) dX1_isAccess_74
                  · rw [lg_cmp_gt] at c_73
                    refine lv_iconst (v := 1) hx hb dX1_isAccess_69 (by decide) ?_
                    refine lv_goto (tgt := 74) hx hb dX1_isAccess_70 (by decide) ?_
                    exact W.zret (v := 1) hx hb hr rfl (fun t ht hW => ⟨1, rfl, (by first | rfl | (simp only [k_isAccess, b2i, ha, hm, hs, c_73, b2i, decide_true, decide_false, Bool.not_true, Bool.not_false, Bool.and_true, Bool.and_false, Bool.true_and, Bool.false_and, Bool.or_true, Bool.or_false, Bool.true_or, Bool.false_or, reduceIte, or_true, true_or, or_false, false_or, and_true, true_and, and_false, false_and, not_true_eq_false, not_false_eq_true, Bool.false_eq_true, eq_self]; done) | (simp [k_isAccess, b2i, ha, hm, hs, c_73]; done)), ht⟩) (fun _ h => nomatch h) dX1_isAccess_74
                · refine lv_iload hx hb dX1_isAccess_46 (lv_at hl 3 rfl) ?_
                  refine lv_bipush (v := 8) hx hb dX1_isAccess_48 (by decide) ?_
                  refine lv_icmp_ne (tgt := 73) hx hb dX1_isAccess_50 (by decide) (fun c_74 => ?_) (fun c_74 => ?_)
                  · refine lv_iconst (v := 0) hx hb dX1_isAccess_73 (by decide) ?_
                    exact W.zret (v := 0) hx hb hr rfl (fun t ht hW => ⟨0, rfl, (by first | rfl | (simp only [k_isAccess, b2i, ha, hm, c_68, c_70, c_72, c_74, b2i, decide_true, decide_false, Bool.not_true, Bool.not_false, Bool.and_true, Bool.and_false, Bool.true_and, Bool.false_and, Bool.or_true, Bool.or_false, Bool.true_or, Bool.false_or, reduceIte, or_true, true_or, or_false, false_or, and_true, true_and, and_false, false_and, not_true_eq_false, not_false_eq_true, Bool.false_eq_true, eq_self]; done) | (simp [k_isAccess, b2i, ha, hm, c_68, c_70, c_72, c_74]; done)), ht⟩) (fun _ h => nomatch h) dX1_isAccess_74
                  · have hs : (decide (sz = 1) || decide (sz = 2) || decide (sz = 4) || decide (sz = 8)) = true := by simp [c_68, c_70, c_72, c_74]
                    refine lv_lload_n hx hb dX1_isAccess_53 rfl (lv_at hl 0 rfl) ?_
                    refine lv_ldc2 (v := 4095) hx hb hown (hts (.constantLong RX1 88 4095) (wa 253 (by decide +kernel) rfl)) dX1_isAccess_54 ?_
                    refine lv_land hx hb dX1_isAccess_57 ?_
                    refine lv_iload hx hb dX1_isAccess_58 (lv_at hl 3 rfl) ?_
                    refine lv_i2l (v := Int32.toInt64 sz) hx hb dX1_isAccess_60 rfl ?_
                    refine lv_ladd hx hb dX1_isAccess_61 ?_
                    refine lv_ldc2 (v := 4096) hx hb hown (hts (.constantLong RX1 90 4096) (wa 254 (by decide +kernel) rfl)) dX1_isAccess_62 ?_
                    refine W.lcmp hx hb dX1_isAccess_65 ?_
                    refine lv_if_gt (tgt := 73) hx hb dX1_isAccess_66 (by decide) (fun c_75 => ?_) (fun c_75 => ?_)
                    · rw [lg_cmp_gt] at c_75
                      refine lv_iconst (v := 0) hx hb dX1_isAccess_73 (by decide) ?_
                      exact W.zret (v := 0) hx hb hr rfl (fun t ht hW => ⟨0, rfl, (by first | rfl | (simp only [k_isAccess, b2i, ha, hm, hs, c_75, b2i, decide_true, decide_false, Bool.not_true, Bool.not_false, Bool.and_true, Bool.and_false, Bool.true_and, Bool.false_and, Bool.or_true, Bool.or_false, Bool.true_or, Bool.false_or, reduceIte, or_true, true_or, or_false, false_or, and_true, true_and, and_false, false_and, not_true_eq_false, not_false_eq_true, Bool.false_eq_true, eq_self]; done) | (simp [k_isAccess, b2i, ha, hm, hs, c_75]; done)), ht⟩) (fun _ h => nomatch h) dX1_isAccess_74
                    · rw [lg_cmp_gt] at c_75
                      refine lv_iconst (v := 1) hx hb dX1_isAccess_69 (by decide) ?_
                      refine lv_goto (tgt := 74) hx hb dX1_isAccess_70 (by decide) ?_
                      exact W.zret (v := 1) hx hb hr rfl (fun t ht hW => ⟨1, rfl, (by first | rfl | (simp only [k_isAccess, b2i, ha, hm, hs, c_75, b2i, decide_true, decide_false, Bool.not_true, Bool.not_false, Bool.and_true, Bool.and_false, Bool.true_and, Bool.false_and, Bool.or_true, Bool.or_false, Bool.true_or, Bool.false_or, reduceIte, or_true, true_or, or_false, false_or, and_true, true_and, and_false, false_and, not_true_eq_false, not_false_eq_true, Bool.false_eq_true, eq_self]; done) | (simp [k_isAccess, b2i, ha, hm, hs, c_75]; done)), ht⟩) (fun _ h => nomatch h) dX1_isAccess_74
          · refine lv_iload_n hx hb dX1_isAccess_23 rfl (lv_at hl 2 rfl) ?_
            refine lv_iconst (v := 3) hx hb dX1_isAccess_24 (by decide) ?_
            refine lv_icmp_ne (tgt := 73) hx hb dX1_isAccess_25 (by decide) (fun c_76 => ?_) (fun c_76 => ?_)
            · refine lv_iconst (v := 0) hx hb dX1_isAccess_73 (by decide) ?_
              exact W.zret (v := 0) hx hb hr rfl (fun t ht hW => ⟨0, rfl, (by first | rfl | (simp only [k_isAccess, b2i, ha, c_58, c_67, c_76, b2i, decide_true, decide_false, Bool.not_true, Bool.not_false, Bool.and_true, Bool.and_false, Bool.true_and, Bool.false_and, Bool.or_true, Bool.or_false, Bool.true_or, Bool.false_or, reduceIte, or_true, true_or, or_false, false_or, and_true, true_and, and_false, false_and, not_true_eq_false, not_false_eq_true, Bool.false_eq_true, eq_self]; done) | (simp [k_isAccess, b2i, ha, c_58, c_67, c_76]; done)), ht⟩) (fun _ h => nomatch h) dX1_isAccess_74
            · have hm : (decide (md = 0) || decide (md = 1) || decide (md = 3)) = true := by simp [c_58, c_67, c_76]
              refine lv_iload hx hb dX1_isAccess_28 (lv_at hl 3 rfl) ?_
              refine lv_iconst (v := 1) hx hb dX1_isAccess_30 (by decide) ?_
              refine lv_icmp_eq (tgt := 53) hx hb dX1_isAccess_31 (by decide) (fun c_77 => ?_) (fun c_77 => ?_)
              · have hs : (decide (sz = 1) || decide (sz = 2) || decide (sz = 4) || decide (sz = 8)) = true := by simp [c_77]
                refine lv_lload_n hx hb dX1_isAccess_53 rfl (lv_at hl 0 rfl) ?_
                refine lv_ldc2 (v := 4095) hx hb hown (hts (.constantLong RX1 88 4095) (wa 253 (by decide +kernel) rfl)) dX1_isAccess_54 ?_
                refine lv_land hx hb dX1_isAccess_57 ?_
                refine lv_iload hx hb dX1_isAccess_58 (lv_at hl 3 rfl) ?_
                refine lv_i2l (v := Int32.toInt64 sz) hx hb dX1_isAccess_60 rfl ?_
                refine lv_ladd hx hb dX1_isAccess_61 ?_
                refine lv_ldc2 (v := 4096) hx hb hown (hts (.constantLong RX1 90 4096) (wa 254 (by decide +kernel) rfl)) dX1_isAccess_62 ?_
                refine W.lcmp hx hb dX1_isAccess_65 ?_
                refine lv_if_gt (tgt := 73) hx hb dX1_isAccess_66 (by decide) (fun c_78 => ?_) (fun c_78 => ?_)
                · rw [lg_cmp_gt] at c_78
                  refine lv_iconst (v := 0) hx hb dX1_isAccess_73 (by decide) ?_
                  exact W.zret (v := 0) hx hb hr rfl (fun t ht hW => ⟨0, rfl, (by first | rfl | (simp only [k_isAccess, b2i, ha, hm, hs, c_78, b2i, decide_true, decide_false, Bool.not_true, Bool.not_false, Bool.and_true, Bool.and_false, Bool.true_and, Bool.false_and, Bool.or_true, Bool.or_false, Bool.true_or, Bool.false_or, reduceIte, or_true, true_or, or_false, false_or, and_true, true_and, and_false, false_and, not_true_eq_false, not_false_eq_true, Bool.false_eq_true, eq_self]; done) | (simp [k_isAccess, b2i, ha, hm, hs, c_78]; done)), ht⟩) (fun _ h => nomatch h) dX1_isAccess_74
                · rw [lg_cmp_gt] at c_78
                  refine lv_iconst (v := 1) hx hb dX1_isAccess_69 (by decide) ?_
                  refine lv_goto (tgt := 74) hx hb dX1_isAccess_70 (by decide) ?_
                  exact W.zret (v := 1) hx hb hr rfl (fun t ht hW => ⟨1, rfl, (by first | rfl | (simp only [k_isAccess, b2i, ha, hm, hs, c_78, b2i, decide_true, decide_false, Bool.not_true, Bool.not_false, Bool.and_true, Bool.and_false, Bool.true_and, Bool.false_and, Bool.or_true, Bool.or_false, Bool.true_or, Bool.false_or, reduceIte, or_true, true_or, or_false, false_or, and_true, true_and, and_false, false_and, not_true_eq_false, not_false_eq_true, Bool.false_eq_true, eq_self]; done) | (simp [k_isAccess, b2i, ha, hm, hs, c_78]; done)), ht⟩) (fun _ h => nomatch h) dX1_isAccess_74
              · refine lv_iload hx hb dX1_isAccess_34 (lv_at hl 3 rfl) ?_
                refine lv_iconst (v := 2) hx hb dX1_isAccess_36 (by decide) ?_
                refine lv_icmp_eq (tgt := 53) hx hb dX1_isAccess_37 (by decide) (fun c_79 => ?_) (fun c_79 => ?_)
                · have hs : (decide (sz = 1) || decide (sz = 2) || decide (sz = 4) || decide (sz = 8)) = true := by simp [c_77, c_79]
                  refine lv_lload_n hx hb dX1_isAccess_53 rfl (lv_at hl 0 rfl) ?_
                  refine lv_ldc2 (v := 4095) hx hb hown (hts (.constantLong RX1 88 4095) (wa 253 (by decide +kernel) rfl)) dX1_isAccess_54 ?_
                  refine lv_land hx hb dX1_isAccess_57 ?_
                  refine lv_iload hx hb dX1_isAccess_58 (lv_at hl 3 rfl) ?_
                  refine lv_i2l (v := Int32.toInt64 sz) hx hb dX1_isAccess_60 rfl ?_
                  refine lv_ladd hx hb dX1_isAccess_61 ?_
                  refine lv_ldc2 (v := 4096) hx hb hown (hts (.constantLong RX1 90 4096) (wa 254 (by decide +kernel) rfl)) dX1_isAccess_62 ?_
                  refine W.lcmp hx hb dX1_isAccess_65 ?_
                  refine lv_if_gt (tgt := 73) hx hb dX1_isAccess_66 (by decide) (fun c_80 => ?_) (fun c_80 => ?_)
                  · rw [lg_cmp_gt] at c_80
                    refine lv_iconst (v := 0) hx hb dX1_isAccess_73 (by decide) ?_
                    exact W.zret (v := 0) hx hb hr rfl (fun t ht hW => ⟨0, rfl, (by first | rfl | (simp only [k_isAccess, b2i, ha, hm, hs, c_80, b2i, decide_true, decide_false, Bool.not_true, Bool.not_false, Bool.and_true, Bool.and_false, Bool.true_and, Bool.false_and, Bool.or_true, Bool.or_false, Bool.true_or, Bool.false_or, reduceIte, or_true, true_or, or_false, false_or, and_true, true_and, and_false, false_and, not_true_eq_false, not_false_eq_true, Bool.false_eq_true, eq_self]; done) | (simp [k_isAccess, b2i, ha, hm, hs, c_80]; done)), ht⟩) (fun _ h => nomatch h) dX1_isAccess_74
                  · rw [lg_cmp_gt] at c_80
                    refine lv_iconst (v := 1) hx hb dX1_isAccess_69 (by decide) ?_
                    refine lv_goto (tgt := 74) hx hb dX1_isAccess_70 (by decide) ?_
                    exact W.zret (v := 1) hx hb hr rfl (fun t ht hW => ⟨1, rfl, (by first | rfl | (simp only [k_isAccess, b2i, ha, hm, hs, c_80, b2i, decide_true, decide_false, Bool.not_true, Bool.not_false, Bool.and_true, Bool.and_false, Bool.true_and, Bool.false_and, Bool.or_true, Bool.or_false, Bool.true_or, Bool.false_or, reduceIte, or_true, true_or, or_false, false_or, and_true, true_and, and_false, false_and, not_true_eq_false, not_false_eq_true, Bool.false_eq_true, eq_self]; done) | (simp [k_isAccess, b2i, ha, hm, hs, c_80]; done)), ht⟩) (fun _ h => nomatch h) dX1_isAccess_74
                · refine lv_iload hx hb dX1_isAccess_40 (lv_at hl 3 rfl) ?_
                  refine lv_iconst (v := 4) hx hb dX1_isAccess_42 (by decide) ?_
                  refine lv_icmp_eq (tgt := 53) hx hb dX1_isAccess_43 (by decide) (fun c_81 => ?_) (fun c_81 => ?_)
                  · have hs : (decide (sz = 1) || decide (sz = 2) || decide (sz = 4) || decide (sz = 8)) = true := by simp [c_77, c_79, c_81]
                    refine lv_lload_n hx hb dX1_isAccess_53 rfl (lv_at hl 0 rfl) ?_
                    refine lv_ldc2 (v := 4095) hx hb hown (hts (.constantLong RX1 88 4095) (wa 253 (by decide +kernel) rfl)) dX1_isAccess_54 ?_
                    refine lv_land hx hb dX1_isAccess_57 ?_
                    refine lv_iload hx hb dX1_isAccess_58 (lv_at hl 3 rfl) ?_
                    refine lv_i2l (v := Int32.toInt64 sz) hx hb dX1_isAccess_60 rfl ?_
                    refine lv_ladd hx hb dX1_isAccess_61 ?_
                    refine lv_ldc2 (v := 4096) hx hb hown (hts (.constantLong RX1 90 4096) (wa 254 (by decide +kernel) rfl)) dX1_isAccess_62 ?_
                    refine W.lcmp hx hb dX1_isAccess_65 ?_
                    refine lv_if_gt (tgt := 73) hx hb dX1_isAccess_66 (by decide) (fun c_82 => ?_) (fun c_82 => ?_)
                    · rw [lg_cmp_gt] at c_82
                      refine lv_iconst (v := 0) hx hb dX1_isAccess_73 (by decide) ?_
                      exact W.zret (v := 0) hx hb hr rfl (fun t ht hW => ⟨0, rfl, (by first | rfl | (simp only [k_isAccess, b2i, ha, hm, hs, c_82, b2i, decide_true, decide_false, Bool.not_true, Bool.not_false, Bool.and_true, Bool.and_false, Bool.true_and, Bool.false_and, Bool.or_true, Bool.or_false, Bool.true_or, Bool.false_or, reduceIte, or_true, true_or, or_false, false_or, and_true, true_and, and_false, false_and, not_true_eq_false, not_false_eq_true, Bool.false_eq_true, eq_self]; done) | (simp [k_isAccess, b2i, ha, hm, hs, c_82]; done)), ht⟩) (fun _ h => nomatch h) dX1_isAccess_74
                    · rw [lg_cmp_gt] at c_82
                      refine lv_iconst (v := 1) hx hb dX1_isAccess_69 (by decide) ?_
                      refine lv_goto (tgt := 74) hx hb dX1_isAccess_70 (by decide) ?_
                      exact W.zret (v := 1) hx hb hr rfl (fun t ht hW => ⟨1, rfl, (by first | rfl | (simp only [k_isAccess, b2i, ha, hm, hs, c_82, b2i, decide_true, decide_false, Bool.not_true, Bool.not_false, Bool.and_true, Bool.and_false, Bool.true_and, Bool.false_and, Bool.or_true, Bool.or_false, Bool.true_or, Bool.false_or, reduceIte, or_true, true_or, or_false, false_or, and_true, true_and, and_false, false_and, not_true_eq_false, not_false_eq_true, Bool.false_eq_true, eq_self]; done) | (simp [k_isAccess, b2i, ha, hm, hs, c_82]; done)), ht⟩) (fun _ h => nomatch h) dX1_isAccess_74
                  · refine lv_iload hx hb dX1_isAccess_46 (lv_at hl 3 rfl) ?_
                    refine lv_bipush (v := 8) hx hb dX1_isAccess_48 (by decide) ?_
                    refine lv_icmp_ne (tgt := 73) hx hb dX1_isAccess_50 (by decide) (fun c_83 => ?_) (fun c_83 => ?_)
                    · refine lv_iconst (v := 0) hx hb dX1_isAccess_73 (by decide) ?_
                      exact W.zret (v := 0) hx hb hr rfl (fun t ht hW => ⟨0, rfl, (by first | rfl | (simp only [k_isAccess, b2i, ha, hm, c_77, c_79, c_81, c_83, b2i, decide_true, decide_false, Bool.not_true, Bool.not_false, Bool.and_true, Bool.and_false, Bool.true_and, Bool.false_and, Bool.or_true, Bool.or_false, Bool.true_or, Bool.false_or, reduceIte, or_true, true_or, or_false, false_or, and_true, true_and, and_false, false_and, not_true_eq_false, not_false_eq_true, Bool.false_eq_true, eq_self]; done) | (simp [k_isAccess, b2i, ha, hm, c_77, c_79, c_81, c_83]; done)), ht⟩) (fun _ h => nomatch h) dX1_isAccess_74
                    · have hs : (decide (sz = 1) || decide (sz = 2) || decide (sz = 4) || decide (sz = 8)) = true := by simp [c_77, c_79, c_81, c_83]
                      refine lv_lload_n hx hb dX1_isAccess_53 rfl (lv_at hl 0 rfl) ?_
                      refine lv_ldc2 (v := 4095) hx hb hown (hts (.constantLong RX1 88 4095) (wa 253 (by decide +kernel) rfl)) dX1_isAccess_54 ?_
                      refine lv_land hx hb dX1_isAccess_57 ?_
                      refine lv_iload hx hb dX1_isAccess_58 (lv_at hl 3 rfl) ?_
                      refine lv_i2l (v := Int32.toInt64 sz) hx hb dX1_isAccess_60 rfl ?_
                      refine lv_ladd hx hb dX1_isAccess_61 ?_
                      refine lv_ldc2 (v := 4096) hx hb hown (hts (.constantLong RX1 90 4096) (wa 254 (by decide +kernel) rfl)) dX1_isAccess_62 ?_
                      refine W.lcmp hx hb dX1_isAccess_65 ?_
                      refine lv_if_gt (tgt := 73) hx hb dX1_isAccess_66 (by decide) (fun c_84 => ?_) (fun c_84 => ?_)
                      · rw [lg_cmp_gt] at c_84
                        refine lv_iconst (v := 0) hx hb dX1_isAccess_73 (by decide) ?_
                        exact W.zret (v := 0) hx hb hr rfl (fun t ht hW => ⟨0, rfl, (by first | rfl | (simp only [k_isAccess, b2i, ha, hm, hs, c_84, b2i, decide_true, decide_false, Bool.not_true, Bool.not_false, Bool.and_true, Bool.and_false, Bool.true_and, Bool.false_and, Bool.or_true, Bool.or_false, Bool.true_or, Bool.false_or, reduceIte, or_true, true_or, or_false, false_or, and_true, true_and, and_false, false_and, not_true_eq_false, not_false_eq_true, Bool.false_eq_true, eq_self]; done) | (simp [k_isAccess, b2i, ha, hm, hs, c_84]; done)), ht⟩) (fun _ h => nomatch h) dX1_isAccess_74
                      · rw [lg_cmp_gt] at c_84
                        refine lv_iconst (v := 1) hx hb dX1_isAccess_69 (by decide) ?_
                        refine lv_goto (tgt := 74) hx hb dX1_isAccess_70 (by decide) ?_
                        exact W.zret (v := 1) hx hb hr rfl (fun t ht hW => ⟨1, rfl, (by first | rfl | (simp only [k_isAccess, b2i, ha, hm, hs, c_84, b2i, decide_true, decide_false, Bool.not_true, Bool.not_false, Bool.and_true, Bool.and_false, Bool.true_and, Bool.false_and, Bool.or_true, Bool.or_false, Bool.true_or, Bool.false_or, reduceIte, or_true, true_or, or_false, false_or, and_true, true_and, and_false, false_and, not_true_eq_false, not_false_eq_true, Bool.false_eq_true, eq_self]; done) | (simp [k_isAccess, b2i, ha, hm, hs, c_84]; done)), ht⟩) (fun _ h => nomatch h) dX1_isAccess_74
set_option maxHeartbeats 4000000 in
set_option maxRecDepth 100000 in
theorem mtX1_isPhysical (l : Launch) (ad : Int64) : Met l yX1_isPhysical wsX1_isPhysical ({ frames := 0, cells := 0, slots := 0, locals := 0 }) (fun v _ => v = ([.long ad] : List Value).toArray) (vp_Si (fun r => r = b2i (k_isPhysical ad))) 0 0 (fun _ => False) := by
  refine Met.ofW (cc := cX1_isPhysical) (maxL := 2) (ret := (some .boolean)) (by decide) rfl ?_
  intro p e s m args below meth c s₁ B hml hv
  have hv : args = ([.long ad] : List Value).toArray := hv
  subst hv
  have hx := B.exec
  have hb := B.bytes
  have hr := B.returns
  have hts := atoms_spec (ws := wsX1_isPhysical) B.pre
  have hown : s.vm.findClass RX1 = some m.cls := findClass_of_methodNamed B.named
  have hlocks := B.notSynchronized
  have hl := lv_entry ([.long ad]) (n := 2) (Nat.le_of_ble_eq_true rfl)
  rw [lg_entry_eq]
  generalize (lg_sl ([.long ad]) ++ List.replicate (2 - (lg_sl ([.long ad])).length) Slot.unset).toArray = ls at hl ⊢
  have hl : lv_has ls 2 [(0, .long ad)] := hl
  refine lv_lload_n hx hb dX1_isPhysical_0 rfl (lv_at hl 0 rfl) ?_
  refine lv_bipush (v := 56) hx hb dX1_isPhysical_1 (by decide) ?_
  refine lv_lushr (v := (k_ush ad 56)) hx hb dX1_isPhysical_3 rfl ?_
  refine lv_lconst (v := 0) hx hb dX1_isPhysical_4 (by decide) ?_
  refine W.lcmp hx hb dX1_isPhysical_5 ?_
  refine lv_if_ne (tgt := 13) hx hb dX1_isPhysical_6 (by decide) (fun c_1 => ?_) (fun c_1 => ?_)
  · rw [lg_cmp_eq] at c_1
    refine lv_iconst (v := 0) hx hb dX1_isPhysical_13 (by decide) ?_
    exact W.zret (v := 0) hx hb hr rfl (fun t ht hW => ⟨0, rfl, (by first | rfl | (simp only [k_isPhysical, b2i, c_1, b2i, decide_true, decide_false, Bool.not_true, Bool.not_false, Bool.and_true, Bool.and_false, Bool.true_and, Bool.false_and, Bool.or_true, Bool.or_false, Bool.true_or, Bool.false_or, reduceIte, or_true, true_or, or_false, false_or, and_true, true_and, and_false, false_and, not_true_eq_false, not_false_eq_true, Bool.false_eq_true, eq_self]; done) | (simp [k_isPhysical, b2i, c_1]; done)), ht⟩) (fun _ h => nomatch h) dX1_isPhysical_14
  · rw [lg_cmp_eq] at c_1
    refine lv_iconst (v := 1) hx hb dX1_isPhysical_9 (by decide) ?_
    refine lv_goto (tgt := 14) hx hb dX1_isPhysical_10 (by decide) ?_
    exact W.zret (v := 1) hx hb hr rfl (fun t ht hW => ⟨1, rfl, (by first | rfl | (simp only [k_isPhysical, b2i, c_1, b2i, decide_true, decide_false, Bool.not_true, Bool.not_false, Bool.and_true, Bool.and_false, Bool.true_and, Bool.false_and, Bool.or_true, Bool.or_false, Bool.true_or, Bool.false_or, reduceIte, or_true, true_or, or_false, false_or, and_true, true_and, and_false, false_and, not_true_eq_false, not_false_eq_true, Bool.false_eq_true, eq_self]; done) | (simp [k_isPhysical, b2i, c_1]; done)), ht⟩) (fun _ h => nomatch h) dX1_isPhysical_14
set_option maxHeartbeats 4000000 in
set_option maxRecDepth 100000 in
theorem mtX1_sortOf (l : Launch) (tv : Int64) : Met l yX1_sortOf wsX1_sortOf ({ frames := 0, cells := 0, slots := 0, locals := 0 }) (fun v _ => v = ([.long tv] : List Value).toArray) (vp_Si (fun r => r = k_sortOf tv)) 0 0 (fun _ => False) := by
  refine Met.ofW (cc := cX1_sortOf) (maxL := 2) (ret := (some .int)) (by decide) rfl ?_
  intro p e s m args below meth c s₁ B hml hv
  have hv : args = ([.long tv] : List Value).toArray := hv
  subst hv
  have hx := B.exec
  have hb := B.bytes
  have hr := B.returns
  have hts := atoms_spec (ws := wsX1_sortOf) B.pre
  have hown : s.vm.findClass RX1 = some m.cls := findClass_of_methodNamed B.named
  have hlocks := B.notSynchronized
  have hl := lv_entry ([.long tv]) (n := 2) (Nat.le_of_ble_eq_true rfl)
  rw [lg_entry_eq]
  generalize (lg_sl ([.long tv]) ++ List.replicate (2 - (lg_sl ([.long tv])).length) Slot.unset).toArray = ls at hl ⊢
  have hl : lv_has ls 2 [(0, .long tv)] := hl
  refine lv_lload_n hx hb dX1_sortOf_0 rfl (lv_at hl 0 rfl) ?_
  refine lv_bipush (v := 60) hx hb dX1_sortOf_1 (by decide) ?_
  refine lv_lushr (v := (k_ush tv 60)) hx hb dX1_sortOf_3 rfl ?_
  refine lv_l2i (v := Int64.toInt32 (k_ush tv 60)) hx hb dX1_sortOf_4 rfl ?_
  exact W.iret (v := (Int64.toInt32 (k_ush tv 60))) hx hb hr (fun t ht hW => ⟨(Int64.toInt32 (k_ush tv 60)), rfl, (by first | rfl | (simp only [k_sortOf, b2i, decide_true, decide_false, Bool.not_true, Bool.not_false, Bool.and_true, Bool.and_false, Bool.true_and, Bool.false_and, Bool.or_true, Bool.or_false, Bool.true_or, Bool.false_or, reduceIte, or_true, true_or, or_false, false_or, and_true, true_and, and_false, false_and, not_true_eq_false, not_false_eq_true, Bool.false_eq_true, eq_self]; done) | (simp [k_sortOf]; done)), ht⟩) (fun _ h => nomatch h) dX1_sortOf_5
set_option maxHeartbeats 4000000 in
set_option maxRecDepth 100000 in
theorem mtX1_accessFault (l : Launch) (ac : Int32) : Met l yX1_accessFault wsX1_accessFault ({ frames := 0, cells := 0, slots := 0, locals := 0 }) (fun v _ => v = ([.int ac] : List Value).toArray) (vp_Sl (fun r => r = k_accessFault ac)) 0 0 (fun _ => False) := by
  refine Met.ofW (cc := cX1_accessFault) (maxL := 1) (ret := (some .long)) (by decide) rfl ?_
  intro p e s m args below meth c s₁ B hml hv
  have hv : args = ([.int ac] : List Value).toArray := hv
  subst hv
  have hx := B.exec
  have hb := B.bytes
  have hr := B.returns
  have hts := atoms_spec (ws := wsX1_accessFault) B.pre
  have hown : s.vm.findClass RX1 = some m.cls := findClass_of_methodNamed B.named
  have hlocks := B.notSynchronized
  have hl := lv_entry ([.int ac]) (n := 1) (Nat.le_of_ble_eq_true rfl)
  rw [lg_entry_eq]
  generalize (lg_sl ([.int ac]) ++ List.replicate (1 - (lg_sl ([.int ac])).length) Slot.unset).toArray = ls at hl ⊢
  have hl : lv_has ls 1 [(0, .int ac)] := hl
  refine lv_iload_n hx hb dX1_accessFault_0 rfl (lv_at hl 0 rfl) ?_
  refine lv_if_ne (tgt := 10) hx hb dX1_accessFault_1 (by decide) (fun c_1 => ?_) (fun c_1 => ?_)
  · refine lv_iload_n hx hb dX1_accessFault_10 rfl (lv_at hl 0 rfl) ?_
    refine lv_iconst (v := 1) hx hb dX1_accessFault_11 (by decide) ?_
    refine lv_icmp_ne (tgt := 21) hx hb dX1_accessFault_12 (by decide) (fun c_2 => ?_) (fun c_2 => ?_)
    · refine lv_ldc2 (v := (-7)) hx hb hown (hts (.constantLong RX1 96 (-7)) (wa 268 (by decide +kernel) rfl)) dX1_accessFault_21 ?_
      exact W.lret (v := (-7)) hx hb hr (fun t ht hW => ⟨(-7), rfl, (by first | rfl | (simp only [k_accessFault, c_1, c_2, b2i, decide_true, decide_false, Bool.not_true, Bool.not_false, Bool.and_true, Bool.and_false, Bool.true_and, Bool.false_and, Bool.or_true, Bool.or_false, Bool.true_or, Bool.false_or, reduceIte, or_true, true_or, or_false, false_or, and_true, true_and, and_false, false_and, not_true_eq_false, not_false_eq_true, Bool.false_eq_true, eq_self]; done) | (simp [k_accessFault, c_1, c_2]; done)), ht⟩) (fun _ h => nomatch h) dX1_accessFault_24
    · refine lv_ldc2 (v := (-5)) hx hb hown (hts (.constantLong RX1 94 (-5)) (wa 267 (by decide +kernel) rfl)) dX1_accessFault_15 ?_
      refine lv_goto (tgt := 24) hx hb dX1_accessFault_18 (by decide) ?_
      exact W.lret (v := (-5)) hx hb hr (fun t ht hW => ⟨(-5), rfl, (by first | rfl | (simp only [k_accessFault, c_1, c_2, b2i, decide_true, decide_false, Bool.not_true, Bool.not_false, Bool.and_true, Bool.and_false, Bool.true_and, Bool.false_and, Bool.or_true, Bool.or_false, Bool.true_or, Bool.false_or, reduceIte, or_true, true_or, or_false, false_or, and_true, true_and, and_false, false_and, not_true_eq_false, not_false_eq_true, Bool.false_eq_true, eq_self]; done) | (simp [k_accessFault, c_1, c_2]; done)), ht⟩) (fun _ h => nomatch h) dX1_accessFault_24
  · refine lv_ldc2 (v := (-1)) hx hb hown (hts (.constantLong RX1 92 (-1)) (wa 266 (by decide +kernel) rfl)) dX1_accessFault_4 ?_
    refine lv_goto (tgt := 24) hx hb dX1_accessFault_7 (by decide) ?_
    exact W.lret (v := (-1)) hx hb hr (fun t ht hW => ⟨(-1), rfl, (by first | rfl | (simp only [k_accessFault, c_1, b2i, decide_true, decide_false, Bool.not_true, Bool.not_false, Bool.and_true, Bool.and_false, Bool.true_and, Bool.false_and, Bool.or_true, Bool.or_false, Bool.true_or, Bool.false_or, reduceIte, or_true, true_or, or_false, false_or, and_true, true_and, and_false, false_and, not_true_eq_false, not_false_eq_true, Bool.false_eq_true, eq_self]; done) | (simp [k_accessFault, c_1]; done)), ht⟩) (fun _ h => nomatch h) dX1_accessFault_24
set_option maxHeartbeats 4000000 in
set_option maxRecDepth 100000 in
theorem mtX1_pageFault (l : Launch) (ac : Int32) : Met l yX1_pageFault wsX1_pageFault ({ frames := 0, cells := 0, slots := 0, locals := 0 }) (fun v _ => v = ([.int ac] : List Value).toArray) (vp_Sl (fun r => r = k_pageFault ac)) 0 0 (fun _ => False) := by
  refine Met.ofW (cc := cX1_pageFault) (maxL := 1) (ret := (some .long)) (by decide) rfl ?_
  intro p e s m args below meth c s₁ B hml hv
  have hv : args = ([.int ac] : List Value).toArray := hv
  subst hv
  have hx := B.exec
  have hb := B.bytes
  have hr := B.returns
  have hts := atoms_spec (ws := wsX1_pageFault) B.pre
  have hown : s.vm.findClass RX1 = some m.cls := findClass_of_methodNamed B.named
  have hlocks := B.notSynchronized
  have hl := lv_entry ([.int ac]) (n := 1) (Nat.le_of_ble_eq_true rfl)
  rw [lg_entry_eq]
  generalize (lg_sl ([.int ac]) ++ List.replicate (1 - (lg_sl ([.int ac])).length) Slot.unset).toArray = ls at hl ⊢
  have hl : lv_has ls 1 [(0, .int ac)] := hl
  refine lv_iload_n hx hb dX1_pageFault_0 rfl (lv_at hl 0 rfl) ?_
  refine lv_if_ne (tgt := 10) hx hb dX1_pageFault_1 (by decide) (fun c_1 => ?_) (fun c_1 => ?_)
  · refine lv_iload_n hx hb dX1_pageFault_10 rfl (lv_at hl 0 rfl) ?_
    refine lv_iconst (v := 1) hx hb dX1_pageFault_11 (by decide) ?_
    refine lv_icmp_ne (tgt := 21) hx hb dX1_pageFault_12 (by decide) (fun c_2 => ?_) (fun c_2 => ?_)
    · refine lv_ldc2 (v := (-15)) hx hb hown (hts (.constantLong RX1 102 (-15)) (wa 274 (by decide +kernel) rfl)) dX1_pageFault_21 ?_
      exact W.lret (v := (-15)) hx hb hr (fun t ht hW => ⟨(-15), rfl, (by first | rfl | (simp only [k_pageFault, c_1, c_2, b2i, decide_true, decide_false, Bool.not_true, Bool.not_false, Bool.and_true, Bool.and_false, Bool.true_and, Bool.false_and, Bool.or_true, Bool.or_false, Bool.true_or, Bool.false_or, reduceIte, or_true, true_or, or_false, false_or, and_true, true_and, and_false, false_and, not_true_eq_false, not_false_eq_true, Bool.false_eq_true, eq_self]; done) | (simp [k_pageFault, c_1, c_2]; done)), ht⟩) (fun _ h => nomatch h) dX1_pageFault_24
    · refine lv_ldc2 (v := (-13)) hx hb hown (hts (.constantLong RX1 100 (-13)) (wa 273 (by decide +kernel) rfl)) dX1_pageFault_15 ?_
      refine lv_goto (tgt := 24) hx hb dX1_pageFault_18 (by decide) ?_
      exact W.lret (v := (-13)) hx hb hr (fun t ht hW => ⟨(-13), rfl, (by first | rfl | (simp only [k_pageFault, c_1, c_2, b2i, decide_true, decide_false, Bool.not_true, Bool.not_false, Bool.and_true, Bool.and_false, Bool.true_and, Bool.false_and, Bool.or_true, Bool.or_false, Bool.true_or, Bool.false_or, reduceIte, or_true, true_or, or_false, false_or, and_true, true_and, and_false, false_and, not_true_eq_false, not_false_eq_true, Bool.false_eq_true, eq_self]; done) | (simp [k_pageFault, c_1, c_2]; done)), ht⟩) (fun _ h => nomatch h) dX1_pageFault_24
  · refine lv_ldc2 (v := (-12)) hx hb hown (hts (.constantLong RX1 98 (-12)) (wa 272 (by decide +kernel) rfl)) dX1_pageFault_4 ?_
    refine lv_goto (tgt := 24) hx hb dX1_pageFault_7 (by decide) ?_
    exact W.lret (v := (-12)) hx hb hr (fun t ht hW => ⟨(-12), rfl, (by first | rfl | (simp only [k_pageFault, c_1, b2i, decide_true, decide_false, Bool.not_true, Bool.not_false, Bool.and_true, Bool.and_false, Bool.true_and, Bool.false_and, Bool.or_true, Bool.or_false, Bool.true_or, Bool.false_or, reduceIte, or_true, true_or, or_false, false_or, and_true, true_and, and_false, false_and, not_true_eq_false, not_false_eq_true, Bool.false_eq_true, eq_self]; done) | (simp [k_pageFault, c_1]; done)), ht⟩) (fun _ h => nomatch h) dX1_pageFault_24
set_option maxHeartbeats 4000000 in
set_option maxRecDepth 100000 in
theorem mtX1_wordIndex (l : Launch) (ad : Int64) : Met l yX1_wordIndex wsX1_wordIndex ({ frames := 0, cells := 0, slots := 0, locals := 0 }) (fun v _ => v = ([.long ad] : List Value).toArray) (vp_Si (fun r => r = k_wordIndex ad)) 0 0 (fun _ => False) := by
  refine Met.ofW (cc := cX1_wordIndex) (maxL := 4) (ret := (some .int)) (by decide) rfl ?_
  intro p e s m args below meth c s₁ B hml hv
  have hv : args = ([.long ad] : List Value).toArray := hv
  subst hv
  have hx := B.exec
  have hb := B.bytes
  have hr := B.returns
  have hts := atoms_spec (ws := wsX1_wordIndex) B.pre
  have hown : s.vm.findClass RX1 = some m.cls := findClass_of_methodNamed B.named
  have hlocks := B.notSynchronized
  have hl := lv_entry ([.long ad]) (n := 4) (Nat.le_of_ble_eq_true rfl)
  rw [lg_entry_eq]
  generalize (lg_sl ([.long ad]) ++ List.replicate (4 - (lg_sl ([.long ad])).length) Slot.unset).toArray = ls at hl ⊢
  have hl : lv_has ls 4 [(0, .long ad)] := hl
  refine lv_lload_n hx hb dX1_wordIndex_0 rfl (lv_at hl 0 rfl) ?_
  refine lv_ldc2 (v := 2147483648) hx hb hown (hts (.constantLong RX1 104 2147483648) (wa 107 (by decide +kernel) rfl)) dX1_wordIndex_1 ?_
  refine lv_lsub hx hb dX1_wordIndex_4 ?_
  refine lv_lstore_n (lv' := [(2, .long (ad - 2147483648)), (0, .long ad)]) hx hb dX1_wordIndex_5 rfl hl (by decide) rfl (fun ls hl => ?_)
  refine lv_lload_n hx hb dX1_wordIndex_6 rfl (lv_at hl 0 rfl) ?_
  refine lv_lconst (v := 0) hx hb dX1_wordIndex_7 (by decide) ?_
  refine W.lcmp hx hb dX1_wordIndex_8 ?_
  refine lv_if_lt (tgt := 30) hx hb dX1_wordIndex_9 (by decide) (fun c_1 => ?_) (fun c_1 => ?_)
  · rw [lg_cmp_lt] at c_1
    refine lv_iconst (v := (-1)) hx hb dX1_wordIndex_30 (by decide) ?_
    exact W.iret (v := (-1)) hx hb hr (fun t ht hW => ⟨(-1), rfl, (by first | rfl | (simp only [k_wordIndex, c_1, b2i, decide_true, decide_false, Bool.not_true, Bool.not_false, Bool.and_true, Bool.and_false, Bool.true_and, Bool.false_and, Bool.or_true, Bool.or_false, Bool.true_or, Bool.false_or, reduceIte, or_true, true_or, or_false, false_or, and_true, true_and, and_false, false_and, not_true_eq_false, not_false_eq_true, Bool.false_eq_true, eq_self]; done) | (simp [k_wordIndex, c_1]; done)), ht⟩) (fun _ h => nomatch h) dX1_wordIndex_31
  · rw [lg_cmp_lt] at c_1
    refine lv_lload_n hx hb dX1_wordIndex_12 rfl (lv_at hl 0 rfl) ?_
    refine lv_ldc2 (v := 65536) hx hb hown (hts (.constantLong RX1 106 65536) (wa 108 (by decide +kernel) rfl)) dX1_wordIndex_13 ?_
    refine W.lcmp hx hb dX1_wordIndex_16 ?_
    refine lv_if_ge (tgt := 30) hx hb dX1_wordIndex_17 (by decide) (fun c_2 => ?_) (fun c_2 => ?_)
    · rw [lg_cmp_ge] at c_2
      refine lv_iconst (v := (-1)) hx hb dX1_wordIndex_30 (by decide) ?_
      exact W.iret (v := (-1)) hx hb hr (fun t ht hW => ⟨(-1), rfl, (by first | rfl | (simp only [k_wordIndex, c_1, c_2, b2i, decide_true, decide_false, Bool.not_true, Bool.not_false, Bool.and_true, Bool.and_false, Bool.true_and, Bool.false_and, Bool.or_true, Bool.or_false, Bool.true_or, Bool.false_or, reduceIte, or_true, true_or, or_false, false_or, and_true, true_and, and_false, false_and, not_true_eq_false, not_false_eq_true, Bool.false_eq_true, eq_self]; done) | (simp [k_wordIndex, c_1, c_2]; done)), ht⟩) (fun _ h => nomatch h) dX1_wordIndex_31
    · rw [lg_cmp_ge] at c_2
      refine lv_lload_n hx hb dX1_wordIndex_20 rfl (lv_at hl 0 rfl) ?_
      refine lv_ldc2 (v := 8) hx hb hown (hts (.constantLong RX1 108 8) (wa 109 (by decide +kernel) rfl)) dX1_wordIndex_21 ?_
      refine lv_lrem hx hb dX1_wordIndex_24 (by decide) ?_
      refine lv_lconst (v := 0) hx hb dX1_wordIndex_25 (by decide) ?_
      refine W.lcmp hx hb dX1_wordIndex_26 ?_
      refine lv_if_eq (tgt := 32) hx hb dX1_wordIndex_27 (by decide) (fun c_3 => ?_) (fun c_3 => ?_)
      · rw [lg_cmp_eq] at c_3
        refine lv_lload_n hx hb dX1_wordIndex_32 rfl (lv_at hl 0 rfl) ?_
        refine lv_ldc2 (v := 8) hx hb hown (hts (.constantLong RX1 108 8) (wa 109 (by decide +kernel) rfl)) dX1_wordIndex_33 ?_
        refine lv_ldiv hx hb dX1_wordIndex_36 (by decide) ?_
        refine lv_l2i (v := Int64.toInt32 ((ad - 2147483648) / 8)) hx hb dX1_wordIndex_37 rfl ?_
        exact W.iret (v := (Int64.toInt32 ((ad - 2147483648) / 8))) hx hb hr (fun t ht hW => ⟨(Int64.toInt32 ((ad - 2147483648) / 8)), rfl, (by first | rfl | (simp only [k_wordIndex, c_1, c_2, c_3, b2i, decide_true, decide_false, Bool.not_true, Bool.not_false, Bool.and_true, Bool.and_false, Bool.true_and, Bool.false_and, Bool.or_true, Bool.or_false, Bool.true_or, Bool.false_or, reduceIte, or_true, true_or, or_false, false_or, and_true, true_and, and_false, false_and, not_true_eq_false, not_false_eq_true, Bool.false_eq_true, eq_self]; done) | (simp [k_wordIndex, c_1, c_2, c_3]; done)), ht⟩) (fun _ h => nomatch h) dX1_wordIndex_38
      · rw [lg_cmp_eq] at c_3
        refine lv_iconst (v := (-1)) hx hb dX1_wordIndex_30 (by decide) ?_
        exact W.iret (v := (-1)) hx hb hr (fun t ht hW => ⟨(-1), rfl, (by first | rfl | (simp only [k_wordIndex, c_1, c_2, c_3, b2i, decide_true, decide_false, Bool.not_true, Bool.not_false, Bool.and_true, Bool.and_false, Bool.true_and, Bool.false_and, Bool.or_true, Bool.or_false, Bool.true_or, Bool.false_or, reduceIte, or_true, true_or, or_false, false_or, and_true, true_and, and_false, false_and, not_true_eq_false, not_false_eq_true, Bool.false_eq_true, eq_self]; done) | (simp [k_wordIndex, c_1, c_2, c_3]; done)), ht⟩) (fun _ h => nomatch h) dX1_wordIndex_31
set_option maxHeartbeats 4000000 in
set_option maxRecDepth 100000 in
theorem mtX1_shiftOf (l : Launch) (d : Int32) : Met l yX1_shiftOf wsX1_shiftOf ({ frames := 0, cells := 0, slots := 0, locals := 0 }) (fun v _ => v = ([.int d] : List Value).toArray) (vp_Si (fun r => r = k_shiftOf d)) 0 0 (fun _ => False) := by
  refine Met.ofW (cc := cX1_shiftOf) (maxL := 1) (ret := (some .int)) (by decide) rfl ?_
  intro p e s m args below meth c s₁ B hml hv
  have hv : args = ([.int d] : List Value).toArray := hv
  subst hv
  have hx := B.exec
  have hb := B.bytes
  have hr := B.returns
  have hts := atoms_spec (ws := wsX1_shiftOf) B.pre
  have hown : s.vm.findClass RX1 = some m.cls := findClass_of_methodNamed B.named
  have hlocks := B.notSynchronized
  have hl := lv_entry ([.int d]) (n := 1) (Nat.le_of_ble_eq_true rfl)
  rw [lg_entry_eq]
  generalize (lg_sl ([.int d]) ++ List.replicate (1 - (lg_sl ([.int d])).length) Slot.unset).toArray = ls at hl ⊢
  have hl : lv_has ls 1 [(0, .int d)] := hl
  refine lv_bipush (v := 12) hx hb dX1_shiftOf_0 (by decide) ?_
  refine lv_bipush (v := 9) hx hb dX1_shiftOf_2 (by decide) ?_
  refine lv_iload_n hx hb dX1_shiftOf_4 rfl (lv_at hl 0 rfl) ?_
  refine lv_imul hx hb dX1_shiftOf_5 ?_
  refine lv_iadd hx hb dX1_shiftOf_6 ?_
  exact W.iret (v := (12 + (9 * d))) hx hb hr (fun t ht hW => ⟨(12 + (9 * d)), rfl, (by first | rfl | (simp only [k_shiftOf, b2i, decide_true, decide_false, Bool.not_true, Bool.not_false, Bool.and_true, Bool.and_false, Bool.true_and, Bool.false_and, Bool.or_true, Bool.or_false, Bool.true_or, Bool.false_or, reduceIte, or_true, true_or, or_false, false_or, and_true, true_and, and_false, false_and, not_true_eq_false, not_false_eq_true, Bool.false_eq_true, eq_self]; done) | (simp [k_shiftOf]; done)), ht⟩) (fun _ h => nomatch h) dX1_shiftOf_7
set_option maxHeartbeats 4000000 in
set_option maxRecDepth 100000 in
theorem mtX1_entryPlace (l : Launch) (pg : Int64) (ad : Int64) (d : Int32) : Met l yX1_entryPlace wsX1_entryPlace ({ frames := 1, cells := 0, slots := 0, locals := 20 }) (fun v _ => v = ([.long pg, .long ad, .int d] : List Value).toArray) (vp_Sl (fun r => r = k_entryPlace pg ad d)) 0 0 (fun _ => False) := by
  refine Met.ofW (cc := cX1_entryPlace) (maxL := 7) (ret := (some .long)) (by decide) rfl ?_
  intro p e s m args below meth c s₁ B hml hv
  have hv : args = ([.long pg, .long ad, .int d] : List Value).toArray := hv
  subst hv
  have hx := B.exec
  have hb := B.bytes
  have hr := B.returns
  have hts := atoms_spec (ws := wsX1_entryPlace) B.pre
  have hown : s.vm.findClass RX1 = some m.cls := findClass_of_methodNamed B.named
  have hlocks := B.notSynchronized
  have hl := lv_entry ([.long pg, .long ad, .int d]) (n := 7) (Nat.le_of_ble_eq_true rfl)
  rw [lg_entry_eq]
  generalize (lg_sl ([.long pg, .long ad, .int d]) ++ List.replicate (7 - (lg_sl ([.long pg, .long ad, .int d])).length) Slot.unset).toArray = ls at hl ⊢
  have hl : lv_has ls 7 [(0, .long pg), (2, .long ad), (4, .int d)] := hl
  refine lv_lload_n hx hb dX1_entryPlace_0 rfl (lv_at hl 1 rfl) ?_
  refine lv_iload hx hb dX1_entryPlace_1 (lv_at hl 2 rfl) ?_
  refine vp_callSi (W.runS (As := [.int d]) (rest := [.long ad]) ⟨hx, hb, hml, hown, hts⟩ (mtX1_shiftOf l d) (va_cwS 1 hts (gAll (mc1 (wa 283 (by decide +kernel) rfl) (mc1 (wa 284 (by decide +kernel) rfl) (mc1 (wa 15 (by decide +kernel) rfl) mc0))) (wa 285 (by decide +kernel) rfl) (by decide +kernel)) rfl rfl rfl (by decide +kernel) ⟨Nat.le_of_ble_eq_true rfl, Nat.le_of_ble_eq_true rfl⟩) preEq rfl rfl hl.1 rfl (lv_room (Nat.le_of_ble_eq_true rfl)) dX1_entryPlace_3 ⟨Nat.le_of_ble_eq_true rfl, Nat.le_of_ble_eq_true rfl⟩) (fun r_1 er_1 => ?_)
  have er_1 : r_1 = (k_shiftOf d) := er_1
  subst er_1
  refine lv_lshr (v := (k_shr ad (k_shiftOf d))) hx hb dX1_entryPlace_6 rfl ?_
  refine lv_ldc2 (v := 511) hx hb hown (hts (.constantLong RX1 150 511) (wa 286 (by decide +kernel) rfl)) dX1_entryPlace_7 ?_
  refine lv_land hx hb dX1_entryPlace_10 ?_
  refine lv_lstore (lv' := [(5, .long ((k_shr ad (k_shiftOf d)) &&& 511)), (0, .long pg), (2, .long ad), (4, .int d)]) hx hb dX1_entryPlace_11 hl (by decide) rfl (fun ls hl => ?_)
  refine lv_lload_n hx hb dX1_entryPlace_13 rfl (lv_at hl 1 rfl) ?_
  refine lv_ldc2 (v := 4096) hx hb hown (hts (.constantLong RX1 90 4096) (wa 254 (by decide +kernel) rfl)) dX1_entryPlace_14 ?_
  refine lv_lmul hx hb dX1_entryPlace_17 ?_
  refine lv_lload hx hb dX1_entryPlace_18 (lv_at hl 0 rfl) ?_
  refine lv_ldc2 (v := 8) hx hb hown (hts (.constantLong RX1 108 8) (wa 109 (by decide +kernel) rfl)) dX1_entryPlace_20 ?_
  refine lv_lmul hx hb dX1_entryPlace_23 ?_
  refine lv_ladd hx hb dX1_entryPlace_24 ?_
  exact W.lret (v := ((pg * 4096) + (((k_shr ad (k_shiftOf d)) &&& 511) * 8))) hx hb hr (fun t ht hW => ⟨((pg * 4096) + (((k_shr ad (k_shiftOf d)) &&& 511) * 8)), rfl, (by first | rfl | (simp only [k_entryPlace, b2i, decide_true, decide_false, Bool.not_true, Bool.not_false, Bool.and_true, Bool.and_false, Bool.true_and, Bool.false_and, Bool.or_true, Bool.or_false, Bool.true_or, Bool.false_or, reduceIte, or_true, true_or, or_false, false_or, and_true, true_and, and_false, false_and, not_true_eq_false, not_false_eq_true, Bool.false_eq_true, eq_self]; done) | (simp [k_entryPlace]; done)), ht⟩) (fun _ h => nomatch h) dX1_entryPlace_25
set_option maxHeartbeats 4000000 in
set_option maxRecDepth 100000 in
theorem mtX1_has (l : Launch) (en : Int64) (bt : Int64) : Met l yX1_has wsX1_has ({ frames := 0, cells := 0, slots := 0, locals := 0 }) (fun v _ => v = ([.long en, .long bt] : List Value).toArray) (vp_Si (fun r => r = b2i (k_has en bt))) 0 0 (fun _ => False) := by
  refine Met.ofW (cc := cX1_has) (maxL := 4) (ret := (some .boolean)) (by decide) rfl ?_
  intro p e s m args below meth c s₁ B hml hv
  have hv : args = ([.long en, .long bt] : List Value).toArray := hv
  subst hv
  have hx := B.exec
  have hb := B.bytes
  have hr := B.returns
  have hts := atoms_spec (ws := wsX1_has) B.pre
  have hown : s.vm.findClass RX1 = some m.cls := findClass_of_methodNamed B.named
  have hlocks := B.notSynchronized
  have hl := lv_entry ([.long en, .long bt]) (n := 4) (Nat.le_of_ble_eq_true rfl)
  rw [lg_entry_eq]
  generalize (lg_sl ([.long en, .long bt]) ++ List.replicate (4 - (lg_sl ([.long en, .long bt])).length) Slot.unset).toArray = ls at hl ⊢
  have hl : lv_has ls 4 [(0, .long en), (2, .long bt)] := hl
  refine lv_lload_n hx hb dX1_has_0 rfl (lv_at hl 0 rfl) ?_
  refine lv_lload_n hx hb dX1_has_1 rfl (lv_at hl 1 rfl) ?_
  refine lv_land hx hb dX1_has_2 ?_
  refine lv_lconst (v := 0) hx hb dX1_has_3 (by decide) ?_
  refine W.lcmp hx hb dX1_has_4 ?_
  refine lv_if_eq (tgt := 12) hx hb dX1_has_5 (by decide) (fun c_1 => ?_) (fun c_1 => ?_)
  · rw [lg_cmp_eq] at c_1
    refine lv_iconst (v := 0) hx hb dX1_has_12 (by decide) ?_
    exact W.zret (v := 0) hx hb hr rfl (fun t ht hW => ⟨0, rfl, (by first | rfl | (simp only [k_has, b2i, c_1, b2i, decide_true, decide_false, Bool.not_true, Bool.not_false, Bool.and_true, Bool.and_false, Bool.true_and, Bool.false_and, Bool.or_true, Bool.or_false, Bool.true_or, Bool.false_or, reduceIte, or_true, true_or, or_false, false_or, and_true, true_and, and_false, false_and, not_true_eq_false, not_false_eq_true, Bool.false_eq_true, eq_self]; done) | (simp [k_has, b2i, c_1]; done)), ht⟩) (fun _ h => nomatch h) dX1_has_13
  · rw [lg_cmp_eq] at c_1
    refine lv_iconst (v := 1) hx hb dX1_has_8 (by decide) ?_
    refine lv_goto (tgt := 13) hx hb dX1_has_9 (by decide) ?_
    exact W.zret (v := 1) hx hb hr rfl (fun t ht hW => ⟨1, rfl, (by first | rfl | (simp only [k_has, b2i, c_1, b2i, decide_true, decide_false, Bool.not_true, Bool.not_false, Bool.and_true, Bool.and_false, Bool.true_and, Bool.false_and, Bool.or_true, Bool.or_false, Bool.true_or, Bool.false_or, reduceIte, or_true, true_or, or_false, false_or, and_true, true_and, and_false, false_and, not_true_eq_false, not_false_eq_true, Bool.false_eq_true, eq_self]; done) | (simp [k_has, b2i, c_1]; done)), ht⟩) (fun _ h => nomatch h) dX1_has_13
set_option maxHeartbeats 4000000 in
set_option maxRecDepth 100000 in
theorem mtX1_pageNumber (l : Launch) (en : Int64) : Met l yX1_pageNumber wsX1_pageNumber ({ frames := 0, cells := 0, slots := 0, locals := 0 }) (fun v _ => v = ([.long en] : List Value).toArray) (vp_Sl (fun r => r = k_pageNumber en)) 0 0 (fun _ => False) := by
  refine Met.ofW (cc := cX1_pageNumber) (maxL := 2) (ret := (some .long)) (by decide) rfl ?_
  intro p e s m args below meth c s₁ B hml hv
  have hv : args = ([.long en] : List Value).toArray := hv
  subst hv
  have hx := B.exec
  have hb := B.bytes
  have hr := B.returns
  have hts := atoms_spec (ws := wsX1_pageNumber) B.pre
  have hown : s.vm.findClass RX1 = some m.cls := findClass_of_methodNamed B.named
  have hlocks := B.notSynchronized
  have hl := lv_entry ([.long en]) (n := 2) (Nat.le_of_ble_eq_true rfl)
  rw [lg_entry_eq]
  generalize (lg_sl ([.long en]) ++ List.replicate (2 - (lg_sl ([.long en])).length) Slot.unset).toArray = ls at hl ⊢
  have hl : lv_has ls 2 [(0, .long en)] := hl
  refine lv_lload_n hx hb dX1_pageNumber_0 rfl (lv_at hl 0 rfl) ?_
  refine lv_bipush (v := 10) hx hb dX1_pageNumber_1 (by decide) ?_
  refine lv_lushr (v := (k_ush en 10)) hx hb dX1_pageNumber_3 rfl ?_
  refine lv_ldc2 (v := 17592186044415) hx hb hown (hts (.constantLong RX1 117 17592186044415) (wa 279 (by decide +kernel) rfl)) dX1_pageNumber_4 ?_
  refine lv_land hx hb dX1_pageNumber_7 ?_
  exact W.lret (v := ((k_ush en 10) &&& 17592186044415)) hx hb hr (fun t ht hW => ⟨((k_ush en 10) &&& 17592186044415), rfl, (by first | rfl | (simp only [k_pageNumber, b2i, decide_true, decide_false, Bool.not_true, Bool.not_false, Bool.and_true, Bool.and_false, Bool.true_and, Bool.false_and, Bool.or_true, Bool.or_false, Bool.true_or, Bool.false_or, reduceIte, or_true, true_or, or_false, false_or, and_true, true_and, and_false, false_and, not_true_eq_false, not_false_eq_true, Bool.false_eq_true, eq_self]; done) | (simp [k_pageNumber]; done)), ht⟩) (fun _ h => nomatch h) dX1_pageNumber_8
set_option maxHeartbeats 4000000 in
set_option maxRecDepth 100000 in
theorem mtX1_isLast (l : Launch) (en : Int64) : Met l yX1_isLast wsX1_isLast ({ frames := 1, cells := 0, slots := 0, locals := 23 }) (fun v _ => v = ([.long en] : List Value).toArray) (vp_Si (fun r => r = b2i (k_isLast en))) 0 0 (fun _ => False) := by
  refine Met.ofW (cc := cX1_isLast) (maxL := 2) (ret := (some .boolean)) (by decide) rfl ?_
  intro p e s m args below meth c s₁ B hml hv
  have hv : args = ([.long en] : List Value).toArray := hv
  subst hv
  have hx := B.exec
  have hb := B.bytes
  have hr := B.returns
  have hts := atoms_spec (ws := wsX1_isLast) B.pre
  have hown : s.vm.findClass RX1 = some m.cls := findClass_of_methodNamed B.named
  have hlocks := B.notSynchronized
  have hl := lv_entry ([.long en]) (n := 2) (Nat.le_of_ble_eq_true rfl)
  rw [lg_entry_eq]
  generalize (lg_sl ([.long en]) ++ List.replicate (2 - (lg_sl ([.long en])).length) Slot.unset).toArray = ls at hl ⊢
  have hl : lv_has ls 2 [(0, .long en)] := hl
  refine lv_lload_n hx hb dX1_isLast_0 rfl (lv_at hl 0 rfl) ?_
  refine lv_ldc2 (v := 10) hx hb hown (hts (.constantLong RX1 152 10) (wa 313 (by decide +kernel) rfl)) dX1_isLast_1 ?_
  refine vp_callSi (W.runS (As := [.long en, .long 10]) (rest := []) ⟨hx, hb, hml, hown, hts⟩ (mtX1_has l en 10) (va_cwS 2 hts (gAll (mc1 (wa 305 (by decide +kernel) rfl) (mc1 (wa 306 (by decide +kernel) rfl) (mc1 (wa 15 (by decide +kernel) rfl) mc0))) (wa 307 (by decide +kernel) rfl) (by decide +kernel)) rfl rfl rfl (by decide +kernel) ⟨Nat.le_of_ble_eq_true rfl, Nat.le_of_ble_eq_true rfl⟩) preEq rfl rfl hl.1 rfl (lv_room (Nat.le_of_ble_eq_true rfl)) dX1_isLast_4 ⟨Nat.le_of_ble_eq_true rfl, Nat.le_of_ble_eq_true rfl⟩) (fun r_1 er_1 => ?_)
  have er_1 : r_1 = (b2i (k_has en 10)) := er_1
  subst er_1
  exact W.zret (v := (b2i (k_has en 10))) hx hb hr (nar_b2i _) (fun t ht hW => ⟨(b2i (k_has en 10)), rfl, (by first | rfl | (simp only [k_isLast, b2i, b2i, decide_true, decide_false, Bool.not_true, Bool.not_false, Bool.and_true, Bool.and_false, Bool.true_and, Bool.false_and, Bool.or_true, Bool.or_false, Bool.true_or, Bool.false_or, reduceIte, or_true, true_or, or_false, false_or, and_true, true_and, and_false, false_and, not_true_eq_false, not_false_eq_true, Bool.false_eq_true, eq_self]; done) | (simp [k_isLast, b2i]; done)), ht⟩) (fun _ h => nomatch h) dX1_isLast_7
set_option maxHeartbeats 4000000 in
set_option maxRecDepth 100000 in
theorem mtX1_isMalformed (l : Launch) (en : Int64) : Met l yX1_isMalformed wsX1_isMalformed ({ frames := 2, cells := 0, slots := 0, locals := 44 }) (fun v _ => v = ([.long en] : List Value).toArray) (vp_Si (fun r => r = b2i (k_isMalformed en))) 0 0 (fun _ => False) := by
  refine Met.ofW (cc := cX1_isMalformed) (maxL := 2) (ret := (some .boolean)) (by decide) rfl ?_
  intro p e s m args below meth c s₁ B hml hv
  have hv : args = ([.long en] : List Value).toArray := hv
  subst hv
  have hx := B.exec
  have hb := B.bytes
  have hr := B.returns
  have hts := atoms_spec (ws := wsX1_isMalformed) B.pre
  have hown : s.vm.findClass RX1 = some m.cls := findClass_of_methodNamed B.named
  have hlocks := B.notSynchronized
  have hl := lv_entry ([.long en]) (n := 2) (Nat.le_of_ble_eq_true rfl)
  rw [lg_entry_eq]
  generalize (lg_sl ([.long en]) ++ List.replicate (2 - (lg_sl ([.long en])).length) Slot.unset).toArray = ls at hl ⊢
  have hl : lv_has ls 2 [(0, .long en)] := hl
  refine lv_lload_n hx hb dX1_isMalformed_0 rfl (lv_at hl 0 rfl) ?_
  refine lv_lconst (v := 1) hx hb dX1_isMalformed_1 (by decide) ?_
  refine vp_callSi (W.runS (As := [.long en, .long 1]) (rest := []) ⟨hx, hb, hml, hown, hts⟩ (mtX1_has l en 1) (va_cwS 2 hts (gAll (mc1 (wa 305 (by decide +kernel) rfl) (mc1 (wa 306 (by decide +kernel) rfl) (mc1 (wa 15 (by decide +kernel) rfl) mc0))) (wa 307 (by decide +kernel) rfl) (by decide +kernel)) rfl rfl rfl (by decide +kernel) ⟨Nat.le_of_ble_eq_true rfl, Nat.le_of_ble_eq_true rfl⟩) preEq rfl rfl hl.1 rfl (lv_room (Nat.le_of_ble_eq_true rfl)) dX1_isMalformed_2 ⟨Nat.le_of_ble_eq_true rfl, Nat.le_of_ble_eq_true rfl⟩) (fun r_1 er_1 => ?_)
  have er_1 : r_1 = (b2i (k_has en 1)) := er_1
  subst er_1
  refine lv_if_eq (tgt := 54) hx hb dX1_isMalformed_5 (by decide) (fun c_2 => ?_) (fun c_2 => ?_)
  · rw [b2i_z] at c_2
    refine lv_iconst (v := 1) hx hb dX1_isMalformed_54 (by decide) ?_
    refine lv_goto (tgt := 59) hx hb dX1_isMalformed_55 (by decide) ?_
    exact W.zret (v := 1) hx hb hr rfl (fun t ht hW => ⟨1, rfl, (by first | rfl | (simp only [k_isMalformed, b2i, c_2, b2i, decide_true, decide_false, Bool.not_true, Bool.not_false, Bool.and_true, Bool.and_false, Bool.true_and, Bool.false_and, Bool.or_true, Bool.or_false, Bool.true_or, Bool.false_or, reduceIte, or_true, true_or, or_false, false_or, and_true, true_and, and_false, false_and, not_true_eq_false, not_false_eq_true, Bool.false_eq_true, eq_self]; done) | (simp [k_isMalformed, b2i, c_2]; done)), ht⟩) (fun _ h => nomatch h) dX1_isMalformed_59
  · rw [b2i_z] at c_2
    rw [Bool.not_eq_false] at c_2
    refine lv_lload_n hx hb dX1_isMalformed_8 rfl (lv_at hl 0 rfl) ?_
    refine lv_ldc2 (v := 4) hx hb hown (hts (.constantLong RX1 158 4) (wa 308 (by decide +kernel) rfl)) dX1_isMalformed_9 ?_
    refine vp_callSi (W.runS (As := [.long en, .long 4]) (rest := []) ⟨hx, hb, hml, hown, hts⟩ (mtX1_has l en 4) (va_cwS 2 hts (gAll (mc1 (wa 305 (by decide +kernel) rfl) (mc1 (wa 306 (by decide +kernel) rfl) (mc1 (wa 15 (by decide +kernel) rfl) mc0))) (wa 307 (by decide +kernel) rfl) (by decide +kernel)) rfl rfl rfl (by decide +kernel) ⟨Nat.le_of_ble_eq_true rfl, Nat.le_of_ble_eq_true rfl⟩) preEq rfl rfl hl.1 rfl (lv_room (Nat.le_of_ble_eq_true rfl)) dX1_isMalformed_12 ⟨Nat.le_of_ble_eq_true rfl, Nat.le_of_ble_eq_true rfl⟩) (fun r_3 er_3 => ?_)
    have er_3 : r_3 = (b2i (k_has en 4)) := er_3
    subst er_3
    refine lv_if_eq (tgt := 28) hx hb dX1_isMalformed_15 (by decide) (fun c_4 => ?_) (fun c_4 => ?_)
    · rw [b2i_z] at c_4
      refine lv_lload_n hx hb dX1_isMalformed_28 rfl (lv_at hl 0 rfl) ?_
      refine lv_bipush (v := 54) hx hb dX1_isMalformed_29 (by decide) ?_
      refine lv_lushr (v := (k_ush en 54)) hx hb dX1_isMalformed_31 rfl ?_
      refine lv_lconst (v := 0) hx hb dX1_isMalformed_32 (by decide) ?_
      refine W.lcmp hx hb dX1_isMalformed_33 ?_
      refine lv_if_ne (tgt := 54) hx hb dX1_isMalformed_34 (by decide) (fun c_5 => ?_) (fun c_5 => ?_)
      · rw [lg_cmp_eq] at c_5
        refine lv_iconst (v := 1) hx hb dX1_isMalformed_54 (by decide) ?_
        refine lv_goto (tgt := 59) hx hb dX1_isMalformed_55 (by decide) ?_
        exact W.zret (v := 1) hx hb hr rfl (fun t ht hW => ⟨1, rfl, (by first | rfl | (simp only [k_isMalformed, b2i, c_2, c_4, c_5, b2i, decide_true, decide_false, Bool.not_true, Bool.not_false, Bool.and_true, Bool.and_false, Bool.true_and, Bool.false_and, Bool.or_true, Bool.or_false, Bool.true_or, Bool.false_or, reduceIte, or_true, true_or, or_false, false_or, and_true, true_and, and_false, false_and, not_true_eq_false, not_false_eq_true, Bool.false_eq_true, eq_self]; done) | (simp [k_isMalformed, b2i, c_2, c_4, c_5]; done)), ht⟩) (fun _ h => nomatch h) dX1_isMalformed_59
      · rw [lg_cmp_eq] at c_5
        refine lv_lload_n hx hb dX1_isMalformed_37 rfl (lv_at hl 0 rfl) ?_
        refine vp_callSi (W.runS (As := [.long en]) (rest := []) ⟨hx, hb, hml, hown, hts⟩ (mtX1_isLast l en) (va_cwS 1 hts (gAll (mc1 (wa 310 (by decide +kernel) rfl) (mc1 (wa 311 (by decide +kernel) rfl) (mc1 (wa 15 (by decide +kernel) rfl) mc0))) (wa 312 (by decide +kernel) rfl) (by decide +kernel)) rfl rfl rfl (by decide +kernel) ⟨Nat.le_of_ble_eq_true rfl, Nat.le_of_ble_eq_true rfl⟩) preEq rfl rfl hl.1 rfl (lv_room (Nat.le_of_ble_eq_true rfl)) dX1_isMalformed_38 ⟨Nat.le_of_ble_eq_true rfl, Nat.le_of_ble_eq_true rfl⟩) (fun r_6 er_6 => ?_)
        have er_6 : r_6 = (b2i (k_isLast en)) := er_6
        subst er_6
        refine lv_if_ne (tgt := 58) hx hb dX1_isMalformed_41 (by decide) (fun c_7 => ?_) (fun c_7 => ?_)
        · rw [b2i_z] at c_7
          rw [Bool.not_eq_false] at c_7
          refine lv_iconst (v := 0) hx hb dX1_isMalformed_58 (by decide) ?_
          exact W.zret (v := 0) hx hb hr rfl (fun t ht hW => ⟨0, rfl, (by first | rfl | (simp only [k_isMalformed, b2i, c_2, c_4, c_5, c_7, b2i, decide_true, decide_false, Bool.not_true, Bool.not_false, Bool.and_true, Bool.and_false, Bool.true_and, Bool.false_and, Bool.or_true, Bool.or_false, Bool.true_or, Bool.false_or, reduceIte, or_true, true_or, or_false, false_or, and_true, true_and, and_false, false_and, not_true_eq_false, not_false_eq_true, Bool.false_eq_true, eq_self]; done) | (simp [k_isMalformed, b2i, c_2, c_4, c_5, c_7]; done)), ht⟩) (fun _ h => nomatch h) dX1_isMalformed_59
        · rw [b2i_z] at c_7
          refine lv_lload_n hx hb dX1_isMalformed_44 rfl (lv_at hl 0 rfl) ?_
          refine lv_ldc2 (v := 208) hx hb hown (hts (.constantLong RX1 162 208) (wa 314 (by decide +kernel) rfl)) dX1_isMalformed_45 ?_
          refine vp_callSi (W.runS (As := [.long en, .long 208]) (rest := []) ⟨hx, hb, hml, hown, hts⟩ (mtX1_has l en 208) (va_cwS 2 hts (gAll (mc1 (wa 305 (by decide +kernel) rfl) (mc1 (wa 306 (by decide +kernel) rfl) (mc1 (wa 15 (by decide +kernel) rfl) mc0))) (wa 307 (by decide +kernel) rfl) (by decide +kernel)) rfl rfl rfl (by decide +kernel) ⟨Nat.le_of_ble_eq_true rfl, Nat.le_of_ble_eq_true rfl⟩) preEq rfl rfl hl.1 rfl (lv_room (Nat.le_of_ble_eq_true rfl)) dX1_isMalformed_48 ⟨Nat.le_of_ble_eq_true rfl, Nat.le_of_ble_eq_true rfl⟩) (fun r_8 er_8 => ?_)
          have er_8 : r_8 = (b2i (k_has en 208)) := er_8
          subst er_8
          refine lv_if_eq (tgt := 58) hx hb dX1_isMalformed_51 (by decide) (fun c_9 => ?_) (fun c_9 => ?_)
          · rw [b2i_z] at c_9
            refine lv_iconst (v := 0) hx hb dX1_isMalformed_58 (by decide) ?_
            exact W.zret (v := 0) hx hb hr rfl (fun t ht hW => ⟨0, rfl, (by first | rfl | (simp only [k_isMalformed, b2i, c_2, c_4, c_5, c_7, c_9, b2i, decide_true, decide_false, Bool.not_true, Bool.not_false, Bool.and_true, Bool.and_false, Bool.true_and, Bool.false_and, Bool.or_true, Bool.or_false, Bool.true_or, Bool.false_or, reduceIte, or_true, true_or, or_false, false_or, and_true, true_and, and_false, false_and, not_true_eq_false, not_false_eq_true, Bool.false_eq_true, eq_self]; done) | (simp [k_isMalformed, b2i, c_2, c_4, c_5, c_7, c_9]; done)), ht⟩) (fun _ h => nomatch h) dX1_isMalformed_59
          · rw [b2i_z] at c_9
            rw [Bool.not_eq_false] at c_9
            refine lv_iconst (v := 1) hx hb dX1_isMalformed_54 (by decide) ?_
            refine lv_goto (tgt := 59) hx hb dX1_isMalformed_55 (by decide) ?_
            exact W.zret (v := 1) hx hb hr rfl (fun t ht hW => ⟨1, rfl, (by first | rfl | (simp only [k_isMalformed, b2i, c_2, c_4, c_5, c_7, c_9, b2i, decide_true, decide_false, Bool.not_true, Bool.not_false, Bool.and_true, Bool.and_false, Bool.true_and, Bool.false_and, Bool.or_true, Bool.or_false, Bool.true_or, Bool.false_or, reduceIte, or_true, true_or, or_false, false_or, and_true, true_and, and_false, false_and, not_true_eq_false, not_false_eq_true, Bool.false_eq_true, eq_self]; done) | (simp [k_isMalformed, b2i, c_2, c_4, c_5, c_7, c_9]; done)), ht⟩) (fun _ h => nomatch h) dX1_isMalformed_59
    · rw [b2i_z] at c_4
      rw [Bool.not_eq_false] at c_4
      refine lv_lload_n hx hb dX1_isMalformed_18 rfl (lv_at hl 0 rfl) ?_
      refine lv_ldc2 (v := 2) hx hb hown (hts (.constantLong RX1 160 2) (wa 309 (by decide +kernel) rfl)) dX1_isMalformed_19 ?_
      refine vp_callSi (W.runS (As := [.long en, .long 2]) (rest := []) ⟨hx, hb, hml, hown, hts⟩ (mtX1_has l en 2) (va_cwS 2 hts (gAll (mc1 (wa 305 (by decide +kernel) rfl) (mc1 (wa 306 (by decide +kernel) rfl) (mc1 (wa 15 (by decide +kernel) rfl) mc0))) (wa 307 (by decide +kernel) rfl) (by decide +kernel)) rfl rfl rfl (by decide +kernel) ⟨Nat.le_of_ble_eq_true rfl, Nat.le_of_ble_eq_true rfl⟩) preEq rfl rfl hl.1 rfl (lv_room (Nat.le_of_ble_eq_true rfl)) dX1_isMalformed_22 ⟨Nat.le_of_ble_eq_true rfl, Nat.le_of_ble_eq_true rfl⟩) (fun r_10 er_10 => ?_)
      have er_10 : r_10 = (b2i (k_has en 2)) := er_10
      subst er_10
      refine lv_if_eq (tgt := 54) hx hb dX1_isMalformed_25 (by decide) (fun c_11 => ?_) (fun c_11 => ?_)
      · rw [b2i_z] at c_11
        refine lv_iconst (v := 1) hx hb dX1_isMalformed_54 (by decide) ?_
        refine lv_goto (tgt := 59) hx hb dX1_isMalformed_55 (by decide) ?_
        exact W.zret (v := 1) hx hb hr rfl (fun t ht hW => ⟨1, rfl, (by first | rfl | (simp only [k_isMalformed, b2i, c_2, c_4, c_11, b2i, decide_true, decide_false, Bool.not_true, Bool.not_false, Bool.and_true, Bool.and_false, Bool.true_and, Bool.false_and, Bool.or_true, Bool.or_false, Bool.true_or, Bool.false_or, reduceIte, or_true, true_or, or_false, false_or, and_true, true_and, and_false, false_and, not_true_eq_false, not_false_eq_true, Bool.false_eq_true, eq_self]; done) | (simp [k_isMalformed, b2i, c_2, c_4, c_11]; done)), ht⟩) (fun _ h => nomatch h) dX1_isMalformed_59
      · rw [b2i_z] at c_11
        rw [Bool.not_eq_false] at c_11
        refine lv_lload_n hx hb dX1_isMalformed_28 rfl (lv_at hl 0 rfl) ?_
        refine lv_bipush (v := 54) hx hb dX1_isMalformed_29 (by decide) ?_
        refine lv_lushr (v := (k_ush en 54)) hx hb dX1_isMalformed_31 rfl ?_
        refine lv_lconst (v := 0) hx hb dX1_isMalformed_32 (by decide) ?_
        refine W.lcmp hx hb dX1_isMalformed_33 ?_
        refine lv_if_ne (tgt := 54) hx hb dX1_isMalformed_34 (by decide) (fun c_12 => ?_) (fun c_12 => ?_)
        · rw [lg_cmp_eq] at c_12
          refine lv_iconst (v := 1) hx hb dX1_isMalformed_54 (by decide) ?_
          refine lv_goto (tgt := 59) hx hb dX1_isMalformed_55 (by decide) ?_
          exact W.zret (v := 1) hx hb hr rfl (fun t ht hW => ⟨1, rfl, (by first | rfl | (simp only [k_isMalformed, b2i, c_2, c_4, c_11, c_12, b2i, decide_true, decide_false, Bool.not_true, Bool.not_false, Bool.and_true, Bool.and_false, Bool.true_and, Bool.false_and, Bool.or_true, Bool.or_false, Bool.true_or, Bool.false_or, reduceIte, or_true, true_or, or_false, false_or, and_true, true_and, and_false, false_and, not_true_eq_false, not_false_eq_true, Bool.false_eq_true, eq_self]; done) | (simp [k_isMalformed, b2i, c_2, c_4, c_11, c_12]; done)), ht⟩) (fun _ h => nomatch h) dX1_isMalformed_59
        · rw [lg_cmp_eq] at c_12
          refine lv_lload_n hx hb dX1_isMalformed_37 rfl (lv_at hl 0 rfl) ?_
          refine vp_callSi (W.runS (As := [.long en]) (rest := []) ⟨hx, hb, hml, hown, hts⟩ (mtX1_isLast l en) (va_cwS 1 hts (gAll (mc1 (wa 310 (by decide +kernel) rfl) (mc1 (wa 311 (by decide +kernel) rfl) (mc1 (wa 15 (by decide +kernel) rfl) mc0))) (wa 312 (by decide +kernel) rfl) (by decide +kernel)) rfl rfl rfl (by decide +kernel) ⟨Nat.le_of_ble_eq_true rfl, Nat.le_of_ble_eq_true rfl⟩) preEq rfl rfl hl.1 rfl (lv_room (Nat.le_of_ble_eq_true rfl)) dX1_isMalformed_38 ⟨Nat.le_of_ble_eq_true rfl, Nat.le_of_ble_eq_true rfl⟩) (fun r_13 er_13 => ?_)
          have er_13 : r_13 = (b2i (k_isLast en)) := er_13
          subst er_13
          refine lv_if_ne (tgt := 58) hx hb dX1_isMalformed_41 (by decide) (fun c_14 => ?_) (fun c_14 => ?_)
          · rw [b2i_z] at c_14
            rw [Bool.not_eq_false] at c_14
            refine lv_iconst (v := 0) hx hb dX1_isMalformed_58 (by decide) ?_
            exact W.zret (v := 0) hx hb hr rfl (fun t ht hW => ⟨0, rfl, (by first | rfl | (simp only [k_isMalformed, b2i, c_2, c_4, c_11, c_12, c_14, b2i, decide_true, decide_false, Bool.not_true, Bool.not_false, Bool.and_true, Bool.and_false, Bool.true_and, Bool.false_and, Bool.or_true, Bool.or_false, Bool.true_or, Bool.false_or, reduceIte, or_true, true_or, or_false, false_or, and_true, true_and, and_false, false_and, not_true_eq_false, not_false_eq_true, Bool.false_eq_true, eq_self]; done) | (simp [k_isMalformed, b2i, c_2, c_4, c_11, c_12, c_14]; done)), ht⟩) (fun _ h => nomatch h) dX1_isMalformed_59
          · rw [b2i_z] at c_14
            refine lv_lload_n hx hb dX1_isMalformed_44 rfl (lv_at hl 0 rfl) ?_
            refine lv_ldc2 (v := 208) hx hb hown (hts (.constantLong RX1 162 208) (wa 314 (by decide +kernel) rfl)) dX1_isMalformed_45 ?_
            refine vp_callSi (W.runS (As := [.long en, .long 208]) (rest := []) ⟨hx, hb, hml, hown, hts⟩ (mtX1_has l en 208) (va_cwS 2 hts (gAll (mc1 (wa 305 (by decide +kernel) rfl) (mc1 (wa 306 (by decide +kernel) rfl) (mc1 (wa 15 (by decide +kernel) rfl) mc0))) (wa 307 (by decide +kernel) rfl) (by decide +kernel)) rfl rfl rfl (by decide +kernel) ⟨Nat.le_of_ble_eq_true rfl, Nat.le_of_ble_eq_true rfl⟩) preEq rfl rfl hl.1 rfl (lv_room (Nat.le_of_ble_eq_true rfl)) dX1_isMalformed_48 ⟨Nat.le_of_ble_eq_true rfl, Nat.le_of_ble_eq_true rfl⟩) (fun r_15 er_15 => ?_)
            have er_15 : r_15 = (b2i (k_has en 208)) := er_15
            subst er_15
            refine lv_if_eq (tgt := 58) hx hb dX1_isMalformed_51 (by decide) (fun c_16 => ?_) (fun c_16 => ?_)
            · rw [b2i_z] at c_16
              refine lv_iconst (v := 0) hx hb dX1_isMalformed_58 (by decide) ?_
              exact W.zret (v := 0) hx hb hr rfl (fun t ht hW => ⟨0, rfl, (by first | rfl | (simp only [k_isMalformed, b2i, c_2, c_4, c_11, c_12, c_14, c_16, b2i, decide_true, decide_false, Bool.not_true, Bool.not_false, Bool.and_true, Bool.and_false, Bool.true_and, Bool.false_and, Bool.or_true, Bool.or_false, Bool.true_or, Bool.false_or, reduceIte, or_true, true_or, or_false, false_or, and_true, true_and, and_false, false_and, not_true_eq_false, not_false_eq_true, Bool.false_eq_true, eq_self]; done) | (simp [k_isMalformed, b2i, c_2, c_4, c_11, c_12, c_14, c_16]; done)), ht⟩) (fun _ h => nomatch h) dX1_isMalformed_59
            · rw [b2i_z] at c_16
              rw [Bool.not_eq_false] at c_16
              refine lv_iconst (v := 1) hx hb dX1_isMalformed_54 (by decide) ?_
              refine lv_goto (tgt := 59) hx hb dX1_isMalformed_55 (by decide) ?_
              exact W.zret (v := 1) hx hb hr rfl (fun t ht hW => ⟨1, rfl, (by first | rfl | (simp only [k_isMalformed, b2i, c_2, c_4, c_11, c_12, c_14, c_16, b2i, decide_true, decide_false, Bool.not_true, Bool.not_false, Bool.and_true, Bool.and_false, Bool.true_and, Bool.false_and, Bool.or_true, Bool.or_false, Bool.true_or, Bool.false_or, reduceIte, or_true, true_or, or_false, false_or, and_true, true_and, and_false, false_and, not_true_eq_false, not_false_eq_true, Bool.false_eq_true, eq_self]; done) | (simp [k_isMalformed, b2i, c_2, c_4, c_11, c_12, c_14, c_16]; done)), ht⟩) (fun _ h => nomatch h) dX1_isMalformed_59
set_option maxHeartbeats 4000000 in
set_option maxRecDepth 100000 in
theorem mtX1_target (l : Launch) (en : Int64) (ad : Int64) (d : Int32) : Met l yX1_target wsX1_target ({ frames := 1, cells := 0, slots := 0, locals := 21 }) (fun v _ => v = ([.long en, .long ad, .int d] : List Value).toArray) (vp_Sl (fun r => r = k_target en ad d)) 0 0 (fun _ => False) := by
  refine Met.ofW (cc := cX1_target) (maxL := 7) (ret := (some .long)) (by decide) rfl ?_
  intro p e s m args below meth c s₁ B hml hv
  have hv : args = ([.long en, .long ad, .int d] : List Value).toArray := hv
  subst hv
  have hx := B.exec
  have hb := B.bytes
  have hr := B.returns
  have hts := atoms_spec (ws := wsX1_target) B.pre
  have hown : s.vm.findClass RX1 = some m.cls := findClass_of_methodNamed B.named
  have hlocks := B.notSynchronized
  have hl := lv_entry ([.long en, .long ad, .int d]) (n := 7) (Nat.le_of_ble_eq_true rfl)
  rw [lg_entry_eq]
  generalize (lg_sl ([.long en, .long ad, .int d]) ++ List.replicate (7 - (lg_sl ([.long en, .long ad, .int d])).length) Slot.unset).toArray = ls at hl ⊢
  have hl : lv_has ls 7 [(0, .long en), (2, .long ad), (4, .int d)] := hl
  refine lv_lconst (v := 1) hx hb dX1_target_0 (by decide) ?_
  refine lv_iload hx hb dX1_target_1 (lv_at hl 2 rfl) ?_
  refine vp_callSi (W.runS (As := [.int d]) (rest := [.long 1]) ⟨hx, hb, hml, hown, hts⟩ (mtX1_shiftOf l d) (va_cwS 1 hts (gAll (mc1 (wa 283 (by decide +kernel) rfl) (mc1 (wa 284 (by decide +kernel) rfl) (mc1 (wa 15 (by decide +kernel) rfl) mc0))) (wa 285 (by decide +kernel) rfl) (by decide +kernel)) rfl rfl rfl (by decide +kernel) ⟨Nat.le_of_ble_eq_true rfl, Nat.le_of_ble_eq_true rfl⟩) preEq rfl rfl hl.1 rfl (lv_room (Nat.le_of_ble_eq_true rfl)) dX1_target_3 ⟨Nat.le_of_ble_eq_true rfl, Nat.le_of_ble_eq_true rfl⟩) (fun r_1 er_1 => ?_)
  have er_1 : r_1 = (k_shiftOf d) := er_1
  subst er_1
  refine lv_lshl (v := (k_shl 1 (k_shiftOf d))) hx hb dX1_target_6 rfl ?_
  refine lv_lconst (v := 1) hx hb dX1_target_7 (by decide) ?_
  refine lv_lsub hx hb dX1_target_8 ?_
  refine lv_lstore (lv' := [(5, .long ((k_shl 1 (k_shiftOf d)) - 1)), (0, .long en), (2, .long ad), (4, .int d)]) hx hb dX1_target_9 hl (by decide) rfl (fun ls hl => ?_)
  refine lv_lload_n hx hb dX1_target_11 rfl (lv_at hl 1 rfl) ?_
  refine vp_callSl (W.runS (As := [.long en]) (rest := []) ⟨hx, hb, hml, hown, hts⟩ (mtX1_pageNumber l en) (va_cwS 1 hts (gAll (mc1 (wa 319 (by decide +kernel) rfl) (mc1 (wa 320 (by decide +kernel) rfl) (mc1 (wa 15 (by decide +kernel) rfl) mc0))) (wa 321 (by decide +kernel) rfl) (by decide +kernel)) rfl rfl rfl (by decide +kernel) ⟨Nat.le_of_ble_eq_true rfl, Nat.le_of_ble_eq_true rfl⟩) preEq rfl rfl hl.1 rfl (lv_room (Nat.le_of_ble_eq_true rfl)) dX1_target_12 ⟨Nat.le_of_ble_eq_true rfl, Nat.le_of_ble_eq_true rfl⟩) (fun r_2 er_2 => ?_)
  have er_2 : r_2 = (k_pageNumber en) := er_2
  subst er_2
  refine lv_ldc2 (v := 4096) hx hb hown (hts (.constantLong RX1 90 4096) (wa 254 (by decide +kernel) rfl)) dX1_target_15 ?_
  refine lv_lmul hx hb dX1_target_18 ?_
  refine lv_lload_n hx hb dX1_target_19 rfl (lv_at hl 2 rfl) ?_
  refine lv_lload hx hb dX1_target_20 (lv_at hl 0 rfl) ?_
  refine lv_land hx hb dX1_target_22 ?_
  refine lv_lor hx hb dX1_target_23 ?_
  exact W.lret (v := (((k_pageNumber en) * 4096) ||| (ad &&& ((k_shl 1 (k_shiftOf d)) - 1)))) hx hb hr (fun t ht hW => ⟨(((k_pageNumber en) * 4096) ||| (ad &&& ((k_shl 1 (k_shiftOf d)) - 1))), rfl, (by first | rfl | (simp only [k_target, b2i, decide_true, decide_false, Bool.not_true, Bool.not_false, Bool.and_true, Bool.and_false, Bool.true_and, Bool.false_and, Bool.or_true, Bool.or_false, Bool.true_or, Bool.false_or, reduceIte, or_true, true_or, or_false, false_or, and_true, true_and, and_false, false_and, not_true_eq_false, not_false_eq_true, Bool.false_eq_true, eq_self]; done) | (simp [k_target]; done)), ht⟩) (fun _ h => nomatch h) dX1_target_24
