/-! PURE 3: the reference's methods at a fresh object, and that both sides answer alike there. -/
def r_inb (v n : Int32) : Bool := if v < 0 then false else if n ≤ v then false else true
theorem r_in0 (x : Int32) : r_inb x 0 = false := by
  unfold r_inb
  split
  · rfl
  · rename_i h
    split
    · rfl
    · rename_i h2
      obtain ⟨j, hj, rfl⟩ := nI_of h
      exact absurd (nI_pos' hj) h2
theorem r_in_nat {x : Int32} {n : Nat} (h : r_inb x (nI n) = true) (hn : n < 2 ^ 31) : ∃ k : Nat, k < n ∧ x = nI k := by
  unfold r_inb at h
  split at h
  · cases h
  · rename_i h0
    split at h
    · cases h
    · rename_i h1
      obtain ⟨j, hj, rfl⟩ := nI_of h0
      refine ⟨j, ?_, rfl⟩
      rcases Nat.lt_or_ge j n with q | q
      · exact q
      · exact absurd (nI_le q hj) h1
def r_nm (e : Int32) : Int64 := if e = 0 then 6382692 else if e = 1 then 7566690 else if e = 2 then 7173484 else if e = 3 then 6580598 else if e = 4 then 7497069 else if e = 5 then 7563372 else if e = 6 then 7563378 else if e = 7 then 1970497650 else if e = 8 then 1652126821 else if e = 9 then 1667785074 else if e = 10 then 24948 else if e = 11 then 1667591276 else if e = 12 then 1936292453 else if e = 13 then 1667330932 else if e = 14 then 1952807028 else 6516080
def r_or (e a b : Int32) : Int64 :=
  if e = 0 then (a + b).toInt64 else if e = 1 then (a - b).toInt64 else if e = 2 then (a * b).toInt64
  else if e = 3 then (if b = 0 then 10000000000 else (a / b).toInt64)
  else if e = 4 then (if b = 0 then 10000000000 else (a - a / b * b).toInt64)
  else if e = 5 then (a <<< (b &&& 31)).toInt64 else if e = 6 then (a >>> (b &&& 31)).toInt64
  else if e = 7 then ((a.toUInt32 >>> (b.toUInt32 &&& Int32.toUInt32 31)).toInt32).toInt64
  else if e = 8 then (a.toInt8.toInt32).toInt64 else if e = 9 then ((a.toUInt32 % 65536).toInt32).toInt64
  else if e = 10 then (if a = 0 then 107 else if a = 1 then 105 else if a = 2 then 116 else 20000000000)
  else if e = 11 then (if r_inb b 3 = true then (70 + (10 * b)).toInt64 else 20000000000)
  else if e = 12 then (if 0 ≤ a then (if a ≤ 64 then a.toInt64 else 64) else 30000000000)
  else if e = 13 then (if a = b then a.toInt64 else 40000000000)
  else if e = 14 then (if a ≤ b then 50000000000 else 4)
  else (if b ≤ a then (if a ≤ b then 0 else 1) else -1)
def r_findL (x : Int64) : Nat → Nat → Int32
  | 0, _ => -1
  | n + 1, i => if r_nm (nI i) = x then nI i else r_findL x n (i + 1)
def r_find (x : Int64) : Int32 := r_findL (k_wz x) 16 0
def r_outcome (e a b : Int32) : Int64 := if r_inb e 16 = true then r_or e a b else -1000000000000
def r_fault (e s : Int32) : Int32 := if r_inb e 16 = true then (if r_inb s 5 = true then 1 else -1) else -1
def r_exclude (e : Int32) : Int32 := if r_inb e 16 = true then 1 else -1
def r_clear (w : Int32) : Int32 := if r_inb w 3 = true then 0 else -1
def r_enable (k : Int32) : Int32 := if k < 0 then -1 else if k ≤ 65535 then 0 else -1
def r_ledger (e : Int32) : Int32 := if r_inb e 16 = true then 0 else -1
def r_count (w : Int32) : Int32 := if r_inb w 10 = true then 0 else -1
def r_run (b : Int32) : Int32 := if b < 1 then -1 else if b ≤ 3 then 0 else -1
theorem r_out (j : Nat) (h : j < 8) : (0 : Int32) + ((0 >>> (nI j &&& 31)) &&& 1) = 0 := (by decide : ∀ j : Nat, j < 8 → (0 : Int32) + ((0 >>> (nI j &&& 31)) &&& 1) = 0) j h
