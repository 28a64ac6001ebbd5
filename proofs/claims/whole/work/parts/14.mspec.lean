/-! The reference's own functions, as numbers. -/
def m_isWord (a : Int64) : Bool := !decide (a < 2147483648) && !decide ((2147549184 : Int64) ≤ a) && decide (a - a / 8 * 8 = 0)
def m_cell (a : Int64) : Int32 := Int64.toInt32 ((a - 2147483648) / 8)
def m_bit (e : Int64) (k : Int32) : Bool := decide (k_ush e k &&& 1 = 1)
def m_isBroken (e : Int64) : Bool := !m_bit e 0 || (m_bit e 2 && !m_bit e 1) || !decide (k_ush e 54 = 0)
def m_isAccess (ac md sz : Int32) : Bool :=
  (decide (sz = 1) || decide (sz = 2) || decide (sz = 4) || decide (sz = 8)) && (!decide (ac < 0) && !decide (3 ≤ ac)) && (decide (md = 0) || decide (md = 1) || decide (md = 3))
def m_isWithin (a : Int64) (sz : Int32) : Bool := !decide ((4096 : Int64) < (a &&& 4095) + Int32.toInt64 sz)
def m_has (c b : Int32) : Bool := decide ((c >>> (b &&& 31)) &&& 1 = 1)
def m_refuses (su mx : Bool) (e : Int64) (ac md : Int32) : Bool :=
  if (decide (md = 0) && !m_bit e 4) = true then true else
  if (decide (md = 1) && (m_bit e 4 && (decide (ac = 0) || !su))) = true then true else
  if ac = 0 then !m_bit e 3 else if ac = 1 then (!m_bit e 1 && !(mx && m_bit e 3)) else !m_bit e 2
def m_packF (cf : Nat → Int32) : Nat → Int64
  | 0 => 0
  | n + 1 => 256 * m_packF cf n + Int32.toInt64 (cf (7 - n))
def m_legal (x : Int32) : Int32 := if (x &&& 159) &&& 3 = 2 then (x &&& 159) - 2 else x &&& 159
def m_bef (nu : Nat → Int64) (i : Nat) : Int64 := if i = 0 then 0 else nu (i - 1)
/-- how many of the first k bytes from a on lie in fr .. tt - 1 -/
def m_cnt (a fr tt : Int64) : Nat → Nat
  | 0 => 0
  | k + 1 => if a + Int32.toInt64 (nI k) < fr then m_cnt a fr tt k else if tt ≤ a + Int32.toInt64 (nI k) then m_cnt a fr tt k else m_cnt a fr tt k + 1
def okC (cf : Nat → Int32) : Prop := ∀ i, i < 8 → ∃ n : Nat, n < 256 ∧ cf i = nI n
def okN (nu : Nat → Int64) : Prop := ∀ i, i < 8 → ∃ n : Nat, n < 2 ^ 54 ∧ nu i = lN n
def okA (a : Int64) : Prop := ∃ n : Nat, n < 2 ^ 57 ∧ a = lN n
def okS (n : Nat) : Prop := n = 1 ∨ n = 2 ∨ n = 4 ∨ n = 8
def k_walk0 (w : Nat → Int64) (t : Int64) (su mx : Bool) (cf : Nat → Int32) (nu : Nat → Int64) (a : Int64) (ac md : Int32) : Int64 × (Nat → Int64) :=
  if k_above a (nI (k_depths t)) = 0 ∨ k_above a (nI (k_depths t)) = -1 then k_walkF w su mx cf nu a ac md (k_depths t) (t &&& 17592186044415) else (k_pageFault ac, w)
/-- the reference's find: what the class's is -/
def m_find (w : Nat → Int64) (t : Int64) (su mx : Bool) (cf : Nat → Int32) (nu : Nat → Int64) (a : Int64) (ac md sz : Int32) : Int64 × (Nat → Int64) := k_find w t su mx cf nu a ac md sz
abbrev wMD (cL cI : ClassId) (g0 gm gc gn : Nat) (cd : Int32) (w : Nat → Int64) (tb : Int64) (su mx : Bool) (cf : Nat → Int32) (nu : Nat → Int64) (fr tt : Int64) : va_W := [(g0, .inr (2, [.int cd, .ref gm, .long tb, .int (b2i su), .int (b2i mx), .ref gc, .ref gn, .long fr, .long tt])), (gm, .inl (cL, 8192, .inr (.inl w))), (gc, .inl (cI, 8, .inl cf)), (gn, .inl (cL, 8, .inr (.inl nu)))]
