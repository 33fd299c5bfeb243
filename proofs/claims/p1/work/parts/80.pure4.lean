/-! PURE 4: at a fresh object the class and the reference answer alike. -/
theorem q_le {x : Int32} {a b : Nat} (h : b = a + 1) (hb : b < 2 ^ 31) : x ≤ nI a ↔ ¬ nI b ≤ x := by
  rw [Int32.le_iff_toInt_le, Int32.le_iff_toInt_le, nI_toInt hb, nI_toInt (by omega)]
  omega
theorem q_lt {x : Int32} {a : Nat} (ha : a < 2 ^ 31) : x < nI a ↔ ¬ nI a ≤ x := by
  rw [Int32.le_iff_toInt_le, Int32.lt_iff_toInt_lt, nI_toInt ha]
  omega
theorem q_cond {α : Type} {p q : Prop} [Decidable p] [Decidable q] (h : p ↔ q) {a b : α} : (if p then a else b) = if q then a else b := by
  by_cases hp : p
  · rw [if_pos hp, if_pos (h.mp hp)]
  · rw [if_neg hp, if_neg (fun z => hp (h.mpr z))]
theorem q_in {α : Type} {x n : Int32} {a b : α} : (if r_inb x n = true then a else b) = if x < 0 then b else if n ≤ x then b else a := by
  unfold r_inb
  by_cases h1 : x < 0
  · simp [h1]
  · by_cases h2 : n ≤ x
    · simp [h1, h2]
    · simp [h1, h2]
theorem q_ent (e : Int32) : k_isEntry e = r_inb e 16 := rfl
abbrev kF : kKit := k0_Kit
theorem q_fault (e s n : Int32) : (k_fault (k0_Kit.1, k0_Kit.2.2.2.2.2.2.2) e s n).2 = r_fault e s := by
  unfold k_fault r_fault
  rw [q_ent]
  by_cases h : r_inb e 16 = true
  · rw [if_pos h, if_pos h, q_in]
    by_cases h1 : s < 0
    · rw [if_pos h1, if_pos h1]
    · rw [if_neg h1, if_neg h1]
      by_cases h2 : s < 5
      · rw [if_pos h2, if_neg (show ¬ (5 : Int32) ≤ s from (q_lt (a := 5) (by decide)).mp h2)]; rfl
      · rw [if_neg h2, if_pos (show (5 : Int32) ≤ s from Decidable.of_not_not (fun z => h2 ((q_lt (a := 5) (by decide)).mpr z)))]
  · rw [if_neg h, if_neg h]
theorem q_exclude (e n : Int32) : (k_exclude (k0_Kit.2.1, k0_Kit.2.2.2.2.2.2.2) e n).2 = r_exclude e := by
  unfold k_exclude r_exclude
  rw [q_ent]
  by_cases h : r_inb e 16 = true
  · rw [if_pos h, if_pos h]; rfl
  · rw [if_neg h, if_neg h]
theorem q_clear (w : Int32) : (k_clear (k0_Kit.1, k0_Kit.2.1, k0_Kit.2.2.2.2.2.2.2) w).2 = r_clear w := by
  unfold k_clear r_clear
  rw [q_in]
  by_cases h1 : w < 0
  · rw [if_pos h1, if_pos h1]
  · rw [if_neg h1, if_neg h1]
    by_cases h2 : w ≤ 2
    · rw [if_pos h2, if_neg (show ¬ (3 : Int32) ≤ w from (q_le (a := 2) (b := 3) rfl (by decide)).mp h2)]
      by_cases h3 : w = 1
      · rw [if_pos h3]; by_cases h4 : w = 0
        · rw [if_pos h4]
        · rw [if_neg h4]
      · rw [if_neg h3]; by_cases h4 : w = 0
        · rw [if_pos h4]
        · rw [if_neg h4]
    · rw [if_neg h2, if_pos (show (3 : Int32) ≤ w from Decidable.of_not_not (fun z => h2 ((q_le (a := 2) (b := 3) rfl (by decide)).mpr z)))]
theorem q_enable (k : Int32) : (k_enable k0_Kit.2.2.2.2.2.2.2 k).2 = r_enable k := by
  unfold k_enable r_enable
  by_cases h1 : k < 0
  · rw [if_pos h1, if_pos h1]
  · rw [if_neg h1, if_neg h1]
    by_cases h2 : k ≤ 65535
    · rw [if_pos h2, if_pos h2]
    · rw [if_neg h2, if_neg h2]
theorem q_pk : ∀ i : Nat, i < 16 → k_pk (k_nm (nI i)) = r_nm (nI i) := by decide +kernel
theorem q_findL (x : Int64) : ∀ (n i : Nat), i + n ≤ 16 → k_findL x n i = r_findL x n i
  | 0, _, _ => rfl
  | n + 1, i, h => by
    unfold k_findL r_findL
    rw [q_pk i (by omega), q_findL x n (i + 1) (by omega)]
theorem q_find (x : Int64) : k_find x = r_find x := q_findL _ 16 0 (by decide)
theorem q_or (e a b : Int32) : kOr e a b = r_or e a b := by
  unfold kOr r_or
  have h10 : (if a < 0 then (20000000000 : Int64) else if a < 3 then (kChr 16 a.toNatClampNeg).toInt64 else 20000000000) = (if a = 0 then 107 else if a = 1 then 105 else if a = 2 then 116 else 20000000000) := by
    rcases ks_2 a with rfl | rfl | rfl | h
    · decide +kernel
    · decide +kernel
    · decide +kernel
    · obtain ⟨n0, n1, n2⟩ := kn_2 h
      rw [if_neg n0, if_neg n1, if_neg n2]
      by_cases h1 : a < 0
      · rw [if_pos h1]
      · rw [if_neg h1]
        have h3 : ¬ a < 3 := by
          rw [Int32.lt_iff_toInt_lt] at h1 ⊢
          have e3 : (3 : Int32).toInt = 3 := rfl
          have e0 : (0 : Int32).toInt = 0 := rfl
          omega
        rw [if_neg h3]
  have h11 : (if b < 0 then (20000000000 : Int64) else if b < 3 then (kCel b.toNatClampNeg).toInt64 else 20000000000) = (if r_inb b 3 = true then (70 + (10 * b)).toInt64 else 20000000000) := by
    rcases ks_2 b with rfl | rfl | rfl | h
    · decide +kernel
    · decide +kernel
    · decide +kernel
    · rw [q_in]
      by_cases h1 : b < 0
      · rw [if_pos h1, if_pos h1]
      · rw [if_neg h1, if_neg h1]
        have h3 : ¬ b < 3 := by
          rw [Int32.lt_iff_toInt_lt] at h1 ⊢
          have e3 : (3 : Int32).toInt = 3 := rfl
          have e0 : (0 : Int32).toInt = 0 := rfl
          omega
        rw [if_neg h3, if_pos (show (3 : Int32) ≤ b from Decidable.of_not_not (fun z => h3 ((q_lt (a := 3) (by decide)).mpr z)))]
  have h15 : (k_cmp a b).toInt64 = (if b ≤ a then (if a ≤ b then (0 : Int64) else 1) else -1) := by
    unfold k_cmp
    by_cases h1 : b ≤ a
    · rw [if_pos h1, if_pos h1]
      by_cases h2 : a = b
      · rw [if_pos h2, if_pos (by rw [h2]; exact Int32.le_refl b)]; rfl
      · rw [if_neg h2, if_neg (fun z => h2 (Int32.le_antisymm z h1))]; rfl
    · rw [if_neg h1, if_neg h1]; rfl
  rw [h10, h11, h15]
  rfl
theorem q_give (e a b : Int32) : k_give k0_Kit.1 e a b = r_or e a b := q_or e a b
theorem q_outcome (e a b : Int32) (mc : Bool) : k_outcome (k0_Kit.1, k0_Kit.2.2.2.2.2.2.2) e a b mc = r_outcome e a b := by
  unfold k_outcome r_outcome
  rw [q_ent]
  by_cases h : r_inb e 16 = true
  · rw [if_pos h, if_pos h]
    by_cases h2 : mc = true
    · rw [if_pos h2]; exact q_give e a b
    · rw [if_neg h2]; exact q_or e a b
  · rw [if_neg h, if_neg h]
theorem q_neg {i : Int32} (h : ¬ i < 0) : ¬ i < nI 0 := fun z => h z
theorem q_failure (i w : Int32) : k_failure (k0_Kit.2.2.2.2.1, k0_Kit.2.2.2.2.2.2.2) i w = -1000000000000 := by
  unfold k_failure
  by_cases h : i < 0
  · rw [if_pos h]
  · rw [if_neg h]
    exact if_neg (q_neg h)
theorem q_shrink (i w : Int32) : (k_shrink (k0_Kit.1, k0_Kit.2.2.2.2.1, k0_Kit.2.2.2.2.2.2) i w).2 = -1000000000000 := by
  unfold k_shrink
  by_cases h : i < 0
  · rw [if_pos h]
  · rw [if_neg h]
    rw [show (if i < nI (k0_Kit.1, k0_Kit.2.2.2.2.1, k0_Kit.2.2.2.2.2.2).2.1.2.2.2.2.2 then _ else _) = _ from if_neg (q_neg h)]
theorem q_ledger (e : Int32) : k_ledger (k0_Kit.2.2.2.1, k0_Kit.2.2.2.2.2.2.2) e = r_ledger e := by
  unfold k_ledger r_ledger
  rw [q_ent]
  by_cases h : r_inb e 16 = true
  · rw [if_pos h, if_pos h]; rfl
  · rw [if_neg h, if_neg h]
theorem q_letter (i : Int32) : k_at k0_Kit.2.2.2.2.2.1 i = 0 := by
  unfold k_at
  by_cases h : i < 0
  · rw [if_pos h]
  · rw [if_neg h]
    exact if_neg (q_neg h)
theorem q_count (w : Int32) : k_count (k0_Kit.1, k0_Kit.2.1, k0_Kit.2.2.1, k0_Kit.2.2.2.1, k0_Kit.2.2.2.2.2.1, k0_Kit.2.2.2.2.2.2.2) w = r_count w := by
  rcases ks_9 w with rfl | rfl | rfl | rfl | rfl | rfl | rfl | rfl | rfl | rfl | h
  · decide +kernel
  · decide +kernel
  · decide +kernel
  · decide +kernel
  · decide +kernel
  · decide +kernel
  · decide +kernel
  · decide +kernel
  · decide +kernel
  · decide +kernel
  · obtain ⟨n0, n1, n2, n3, n4, n5, n6, n7, n8, n9⟩ := kn_9 h
    unfold k_count r_count
    rw [if_neg n0, if_neg n1, if_neg n2, if_neg n3, if_neg n4, if_neg n5, if_neg n6, if_neg n7, if_neg n8, if_neg n9, q_in]
    by_cases h1 : w < 0
    · rw [if_pos h1]
    · rw [if_neg h1, if_pos]
      rw [Int32.lt_iff_toInt_lt] at h1
      rw [Int32.le_iff_toInt_le]
      have e3 : (10 : Int32).toInt = 10 := rfl
      have e0 : (0 : Int32).toInt = 0 := rfl
      omega
/-- a run without faults has no failure -/
theorem q_case {P : kVC} (h : P.1.2.2.2 = 0) (e pa pb : Nat) : (k_case P e pa pb).1 = P.1 ∧ (k_case P e pa pb).2.1.2.1 = P.2.1.2.1 := by
  have hg : k_give P.1 (nI e) (kLat pa) (kLat pb) = kOr (nI e) (kLat pa) (kLat pb) := by
    unfold k_give
    rw [h]
    rfl
  unfold k_case
  rw [if_pos hg]
  exact ⟨rfl, rfl⟩
theorem q_step {P : kVE} (h : P.1.2.2.2 = 0) (e pa pb : Nat) (pr : Bool) : (k_step P e pa pb pr).1 = P.1 ∧ (k_step P e pa pb pr).2.2.2.1.2.1 = P.2.2.2.1.2.1 := by
  have hc := q_case (P := (P.1, P.2.2.2)) h e pa pb
  unfold k_step
  split
  · exact ⟨rfl, rfl⟩
  · split
    · exact ⟨hc.1, hc.2⟩
    · split
      · exact ⟨rfl, rfl⟩
      · exact ⟨hc.1, hc.2⟩
theorem q_inL {e pa : Nat} {pr : Bool} : ∀ (n j : Nat) {P : kVE}, P.1.2.2.2 = 0 → (k_inL e pa pr n j P).1 = P.1 ∧ (k_inL e pa pr n j P).2.2.2.1.2.1 = P.2.2.2.1.2.1
  | 0, _, _, _ => ⟨rfl, rfl⟩
  | n + 1, j, P, h => by
    have hs := q_step h e pa j pr
    have hr := q_inL (e := e) (pa := pa) (pr := pr) n (j + 1) (P := k_step P e pa j pr) (by rw [hs.1]; exact h)
    unfold k_inL
    exact ⟨hr.1.trans hs.1, hr.2.trans hs.2⟩
theorem q_outL {e sz : Nat} {pr : Bool} : ∀ (n j : Nat) {P : kVE}, P.1.2.2.2 = 0 → (k_outL e sz pr n j P).1 = P.1 ∧ (k_outL e sz pr n j P).2.2.2.1.2.1 = P.2.2.2.1.2.1
  | 0, _, _, _ => ⟨rfl, rfl⟩
  | n + 1, j, P, h => by
    have hs := q_inL (e := e) (pa := j) (pr := pr) sz 0 h
    have hr := q_outL (e := e) (sz := sz) (pr := pr) n (j + 1) (P := k_inL e j pr sz 0 P) (by rw [hs.1]; exact h)
    unfold k_outL
    exact ⟨hr.1.trans hs.1, hr.2.trans hs.2⟩
theorem q_rstep {X : kVRun} (h : X.1.2.2.2 = 0) (i sz : Nat) (pr : Bool) : (k_rstep X i sz pr).1 = X.1 ∧ (k_rstep X i sz pr).2.2.2.1.2.1 = X.2.2.2.1.2.1 := by
  unfold k_rstep
  split
  · exact q_outL (e := i) (sz := sz) (pr := pr) sz 0 (P := (X.1, X.2.1, X.2.2.1, X.2.2.2.1, X.2.2.2.2.1, X.2.2.2.2.2.2)) h
  · exact ⟨rfl, rfl⟩
theorem q_runL {sz : Nat} {pr : Bool} : ∀ (n i : Nat) {X : kVRun}, X.1.2.2.2 = 0 → (k_runL sz pr n i X).2.2.2.1.2.1 = X.2.2.2.1.2.1
  | 0, _, _, _ => rfl
  | n + 1, i, X, h => by
    have hs := q_rstep h i sz pr
    have hr := q_runL (sz := sz) (pr := pr) n (i + 1) (X := k_rstep X i sz pr) (by rw [hs.1]; exact h)
    unfold k_runL
    exact hr.trans hs.2
theorem q_run (b : Int32) (pr : Bool) : (k_run (k0_Kit.1, k0_Kit.2.1, k0_Kit.2.2.1, k0_Kit.2.2.2.1, k0_Kit.2.2.2.2.1, k0_Kit.2.2.2.2.2.1, k0_Kit.2.2.2.2.2.2.2) b pr).2 = r_run b := by
  unfold k_run r_run
  by_cases h1 : b < 1
  · rw [if_pos h1, if_pos h1]
  · rw [if_neg h1, if_neg h1]
    by_cases h2 : b ≤ 3
    · rw [if_pos h2, if_pos h2]
      have hr := q_runL (sz := k_lsz b) (pr := pr) 16 0 (X := k_fgR (k0_Kit.1, k0_Kit.2.1, k0_Kit.2.2.1, k0_Kit.2.2.2.1, k0_Kit.2.2.2.2.1, k0_Kit.2.2.2.2.2.1, k0_Kit.2.2.2.2.2.2.2)) rfl
      have hz : ∀ X : kVRun, X.2.2.2.1.2.1 = (fun _ => 0) → (k_runZ X).2 = 0 := by
        intro X hX
        show k_sum X.2.2.2.1.2.1 = 0
        rw [hX]
        decide +kernel
      exact hz _ hr
    · rw [if_neg h2, if_neg h2]
theorem ks_11 (x : Int32) : x = 0 ∨ x = 1 ∨ x = 2 ∨ x = 3 ∨ x = 4 ∨ x = 5 ∨ x = 6 ∨ x = 7 ∨ x = 8 ∨ x = 9 ∨ x = 10 ∨ x = 11 ∨ (x.toInt < 0 ∨ 11 < x.toInt) := by
  rcases ks_gen x 11 (by decide) with ⟨k, hk, rfl⟩ | h
  · rcases (show k = 0 ∨ k = 1 ∨ k = 2 ∨ k = 3 ∨ k = 4 ∨ k = 5 ∨ k = 6 ∨ k = 7 ∨ k = 8 ∨ k = 9 ∨ k = 10 ∨ k = 11 by omega) with rfl | rfl | rfl | rfl | rfl | rfl | rfl | rfl | rfl | rfl | rfl | rfl
    · exact Or.inl rfl
    · exact Or.inr (Or.inl rfl)
    · exact Or.inr (Or.inr (Or.inl rfl))
    · exact Or.inr (Or.inr (Or.inr (Or.inl rfl)))
    · exact Or.inr (Or.inr (Or.inr (Or.inr (Or.inl rfl))))
    · exact Or.inr (Or.inr (Or.inr (Or.inr (Or.inr (Or.inl rfl)))))
    · exact Or.inr (Or.inr (Or.inr (Or.inr (Or.inr (Or.inr (Or.inl rfl))))))
    · exact Or.inr (Or.inr (Or.inr (Or.inr (Or.inr (Or.inr (Or.inr (Or.inl rfl)))))))
    · exact Or.inr (Or.inr (Or.inr (Or.inr (Or.inr (Or.inr (Or.inr (Or.inr (Or.inl rfl))))))))
    · exact Or.inr (Or.inr (Or.inr (Or.inr (Or.inr (Or.inr (Or.inr (Or.inr (Or.inr (Or.inl rfl)))))))))
    · exact Or.inr (Or.inr (Or.inr (Or.inr (Or.inr (Or.inr (Or.inr (Or.inr (Or.inr (Or.inr (Or.inl rfl))))))))))
    · exact Or.inr (Or.inr (Or.inr (Or.inr (Or.inr (Or.inr (Or.inr (Or.inr (Or.inr (Or.inr (Or.inr (Or.inl rfl)))))))))))
  · exact Or.inr (Or.inr (Or.inr (Or.inr (Or.inr (Or.inr (Or.inr (Or.inr (Or.inr (Or.inr (Or.inr (Or.inr (h))))))))))))
theorem kn_11 {x : Int32} (h : x.toInt < 0 ∨ 11 < x.toInt) : ¬ x = 0 ∧ ¬ x = 1 ∧ ¬ x = 2 ∧ ¬ x = 3 ∧ ¬ x = 4 ∧ ¬ x = 5 ∧ ¬ x = 6 ∧ ¬ x = 7 ∧ ¬ x = 8 ∧ ¬ x = 9 ∧ ¬ x = 10 ∧ ¬ x = 11 := by
  refine ⟨?_, ?_, ?_, ?_, ?_, ?_, ?_, ?_, ?_, ?_, ?_, ?_⟩ <;> (rintro rfl; revert h; decide)
theorem q_short {L : Nat} (h : L < 5) : nI L - 5 < 0 := (by decide : ∀ L : Nat, L < 5 → nI L - 5 < 0) L h
