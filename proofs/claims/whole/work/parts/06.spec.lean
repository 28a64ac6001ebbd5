/-! The class's own functions, as numbers. -/
def b2i (b : Bool) : Int32 := if b = true then 1 else 0
theorem b2i_z (b : Bool) : (b2i b = 0) ↔ b = false := by cases b <;> decide
theorem b2i_t : b2i true = 1 := rfl
theorem b2i_f : b2i false = 0 := rfl
theorem nar_b2i (b : Bool) : narrow .boolean (.int (b2i b)) = .int (b2i b) := by cases b <;> rfl
theorem fit_b2i (b : Bool) : fits .boolean (.int (b2i b)) = true := by cases b <;> rfl
def k_ush (x : Int64) (y : Int32) : Int64 := (x.toUInt64 >>> (y.toInt64.toUInt64 &&& Int64.toUInt64 63)).toInt64
def k_shl (x : Int64) (y : Int32) : Int64 := x <<< (y.toInt64 &&& 63)
def k_shr (x : Int64) (y : Int32) : Int64 := x >>> (y.toInt64 &&& 63)
def k_isAccess (a : Int64) (ac md sz : Int32) : Bool :=
  (decide (ac = 0) || decide (ac = 1) || decide (ac = 2)) && (decide (md = 0) || decide (md = 1) || decide (md = 3)) &&
  (decide (sz = 1) || decide (sz = 2) || decide (sz = 4) || decide (sz = 8)) && !decide ((4096 : Int64) < (a &&& 4095) + Int32.toInt64 sz)
def k_isPhysical (a : Int64) : Bool := decide (k_ush a 56 = 0)
def k_sortOf (t : Int64) : Int32 := Int64.toInt32 (k_ush t 60)
def k_accessFault (ac : Int32) : Int64 := if ac = 0 then -1 else if ac = 1 then -5 else -7
def k_pageFault (ac : Int32) : Int64 := if ac = 0 then -12 else if ac = 1 then -13 else -15
def k_wordIndex (a : Int64) : Int32 :=
  if a - 2147483648 < 0 then -1 else if (65536 : Int64) ≤ a - 2147483648 then -1 else
  if (a - 2147483648) - (a - 2147483648) / 8 * 8 = 0 then Int64.toInt32 ((a - 2147483648) / 8) else -1
def k_shiftOf (d : Int32) : Int32 := 12 + 9 * d
def k_entryPlace (pg a : Int64) (d : Int32) : Int64 := pg * 4096 + (k_shr a (k_shiftOf d) &&& 511) * 8
def k_has (e b : Int64) : Bool := !decide (e &&& b = 0)
def k_pageNumber (e : Int64) : Int64 := k_ush e 10 &&& 17592186044415
def k_isLast (e : Int64) : Bool := k_has e 10
def k_isMalformed (e : Int64) : Bool := !k_has e 1 || (k_has e 4 && !k_has e 2) || !decide (k_ush e 54 = 0) || (!k_isLast e && k_has e 208)
def k_target (e a : Int64) (d : Int32) : Int64 := (k_pageNumber e * 4096) ||| (a &&& (k_shl 1 (k_shiftOf d) - 1))
def k_legalConfig (x : Int32) : Int32 := if (x &&& 159) &&& 1 = 0 then (x &&& 159) &&& (-3) else x &&& 159
def k_isLocked (c : Int32) : Bool := !decide (c &&& 128 = 0)
def k_kindOf (c : Int32) : Int32 := (c >>> ((3 : Int32) &&& 31)) &&& 3
def k_fixes (c : Int32) : Bool := k_isLocked c && decide (k_kindOf c = 1)
def k_permits (c ac md : Int32) : Bool :=
  if md = 3 ∧ k_isLocked c = false then true else !decide (c &&& (if ac = 0 then 4 else if ac = 1 then 1 else 2) = 0)
def k_startOf (c : Int32) (n b : Int64) : Int64 :=
  if k_kindOf c = 1 then 4 * b else if k_kindOf c = 2 then 4 * n else if k_kindOf c = 3 then 4 * (n &&& (n + 1)) else 0
def k_endOf (c : Int32) (n : Int64) : Int64 :=
  if k_kindOf c = 1 then 4 * n else if k_kindOf c = 2 then 4 * (n + 1) else if k_kindOf c = 3 then 4 * ((n ||| (n + 1)) + 1) else 0
/-- does the region (config c, number n, the number before b) cover one of the bytes first .. fin - 1 -/
def k_meets (c : Int32) (n b first fin : Int64) : Bool := !decide (k_endOf c n ≤ k_startOf c n b) && !decide (fin ≤ k_startOf c n b) && !decide (k_endOf c n ≤ first)
def k_holds (c : Int32) (n b first fin : Int64) (ac md : Int32) : Bool := !decide (first < k_startOf c n b) && !decide (k_endOf c n < fin) && k_permits c ac md
/-- from region i on, n regions more, b the number before -/
def k_letF (cf : Nat → Int32) (nu : Nat → Int64) (first fin : Int64) (ac md : Int32) : Nat → Nat → Int64 → Bool
  | 0, _, _ => decide (md = 3)
  | n + 1, i, b => if k_meets (cf i) (nu i) b first fin = true then k_holds (cf i) (nu i) b first fin ac md else k_letF cf nu first fin ac md n (i + 1) (nu i)
def k_let (cf : Nat → Int32) (nu : Nat → Int64) (first : Int64) (ac md sz : Int32) : Bool := k_letF cf nu first (first + Int32.toInt64 sz) ac md 8 0 0
def k_packF (cf : Nat → Int32) : Nat → Int64
  | 0 => 0
  | n + 1 => k_packF cf n ||| k_shl (Int32.toInt64 (cf n)) (8 * nI n)
def k_takeF (cf : Nat → Int32) (c : Int64) : Nat → (Nat → Int32)
  | 0 => cf
  | n + 1 => if k_isLocked (k_takeF cf c n n) = true then k_takeF cf c n else upd (k_takeF cf c n) n (k_legalConfig (Int64.toInt32 (k_ush c (8 * nI n))))
def k_isFixed (cf : Nat → Int32) (i : Nat) : Bool := decide (i + 1 < 8) && k_fixes (cf (i + 1))
def k_takeNumber (cf : Nat → Int32) (nu : Nat → Int64) (i : Nat) (v : Int64) : Nat → Int64 :=
  if k_isLocked (cf i) = true ∨ k_isFixed cf i = true then nu else vp_updL nu i (v &&& 18014398509481983)
def k_openMode (su : Bool) (e : Int64) (ac md : Int32) : Bool := if md = 0 then k_has e 16 else (!k_has e 16 || (su && !decide (ac = 0)))
def k_openAccess (mx : Bool) (e : Int64) (ac : Int32) : Bool := if ac = 0 then k_has e 8 else if ac = 2 then k_has e 4 else (k_has e 2 || (mx && k_has e 8))
def k_grants (su mx : Bool) (e : Int64) (ac md d : Int32) : Bool :=
  decide (k_pageNumber e &&& (k_shl 1 (9 * d) - 1) = 0) && k_openMode su e ac md && k_openAccess mx e ac
def k_marks (ac : Int32) : Int64 := if ac = 2 then 192 else 64
def k_mark (w : Nat → Int64) (cf : Nat → Int32) (nu : Nat → Int64) (pl en : Int64) (ac : Int32) : Bool × (Nat → Int64) :=
  if en &&& k_marks ac = k_marks ac then (true, w) else if k_let cf nu pl 2 1 8 = false then (false, w) else (true, vp_updL w (Int32.toNatClampNeg (k_wordIndex pl)) (en ||| k_marks ac))
def k_at (w : Nat → Int64) (pl : Int64) : Int64 := w (Int32.toNatClampNeg (k_wordIndex pl))
def k_last (w : Nat → Int64) (su mx : Bool) (cf : Nat → Int32) (nu : Nat → Int64) (a : Int64) (ac md : Int32) (n : Nat) (pl : Int64) : Int64 × (Nat → Int64) :=
  if k_grants su mx (k_at w pl) ac md (nI n) = false then (k_pageFault ac, w) else
  if (k_mark w cf nu pl (k_at w pl) ac).1 = true then (k_target (k_at w pl) a (nI n), (k_mark w cf nu pl (k_at w pl) ac).2) else (k_accessFault ac, (k_mark w cf nu pl (k_at w pl) ac).2)
def k_walkF (w : Nat → Int64) (su mx : Bool) (cf : Nat → Int32) (nu : Nat → Int64) (a : Int64) (ac md : Int32) : Nat → Int64 → Int64 × (Nat → Int64)
  | 0, _ => (k_pageFault ac, w)
  | n + 1, pg =>
    if k_wordIndex (k_entryPlace pg a (nI n)) = -1 ∨ k_let cf nu (k_entryPlace pg a (nI n)) 1 1 8 = false then (k_accessFault ac, w) else
    if k_isMalformed (k_at w (k_entryPlace pg a (nI n))) = true then (k_pageFault ac, w) else
    if k_isLast (k_at w (k_entryPlace pg a (nI n))) = true then k_last w su mx cf nu a ac md n (k_entryPlace pg a (nI n)) else
    k_walkF w su mx cf nu a ac md n (k_pageNumber (k_at w (k_entryPlace pg a (nI n))))
def k_above (a : Int64) (n : Int32) : Int64 := k_shr a (12 + 9 * n - 1)
def k_depths (t : Int64) : Nat := if k_sortOf t = 8 then 3 else 4
def k_translate (w : Nat → Int64) (t : Int64) (su mx : Bool) (cf : Nat → Int32) (nu : Nat → Int64) (a : Int64) (ac md : Int32) : Int64 × (Nat → Int64) :=
  if md = 3 ∨ k_sortOf t = 0 then (if k_isPhysical a = true then (a, w) else (k_accessFault ac, w)) else
  if k_above a (nI (k_depths t)) = 0 ∨ k_above a (nI (k_depths t)) = -1 then k_walkF w su mx cf nu a ac md (k_depths t) (t &&& 17592186044415) else (k_pageFault ac, w)
def k_find (w : Nat → Int64) (t : Int64) (su mx : Bool) (cf : Nat → Int32) (nu : Nat → Int64) (a : Int64) (ac md sz : Int32) : Int64 × (Nat → Int64) :=
  if ¬ 0 ≤ (k_translate w t su mx cf nu a ac md).1 then k_translate w t su mx cf nu a ac md else
  if k_let cf nu (k_translate w t su mx cf nu a ac md).1 ac md sz = true then k_translate w t su mx cf nu a ac md else (k_accessFault ac, (k_translate w t su mx cf nu a ac md).2)
