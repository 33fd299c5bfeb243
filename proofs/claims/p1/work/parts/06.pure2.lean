/-! PURE 2: KitRunner's own methods, over views of its picture (the parts that a method reaches; then 'enabled' and 'runs'). -/
def k_fault (P : kVM) (e s n : Int32) : kVM × Int32 :=
  if k_isEntry e = true then (if s < 0 then (P, -1) else if s < 5 then (if (k_addFault P.1 e s n).2 = true then (((k_addFault P.1 e s n).1, P.2), nI (k_addFault P.1 e s n).1.2.2.2) else (((k_addFault P.1 e s n).1, P.2), -2)) else (P, -1)) else (P, -1)
def k_exclude (P : kVX) (e n : Int32) : kVX × Int32 :=
  if k_isEntry e = true then (if (k_addExc P.1 e n).2 = true then (((k_addExc P.1 e n).1, P.2), nI (k_addExc P.1 e n).1.2.2) else (((k_addExc P.1 e n).1, P.2), -2)) else (P, -1)
def k_clear (P : kVMX) (w : Int32) : kVMX × Int32 :=
  if w < 0 then (P, -1) else if w ≤ 2 then
    (if w = 1 then (if w = 0 then (P, 0) else ((P.1, k_rmExc P.2.1, P.2.2), 0))
     else (if w = 0 then ((k_rmFaults P.1, P.2), 0) else ((k_rmFaults P.1, k_rmExc P.2.1, P.2.2), 0)))
  else (P, -1)
def k_enable (P : kV0) (k : Int32) : kV0 × Int32 := if k < 0 then (P, -1) else if k ≤ 65535 then ((k, P.2), 0) else (P, -1)
def k_outcome (P : kVM) (e a b : Int32) (mc : Bool) : Int64 := if k_isEntry e = true then (if mc = true then k_give P.1 e a b else kOr e a b) else -1000000000000
def k_ledger (P : kVT) (e : Int32) : Int32 := if k_isEntry e = true then P.1.2.2.1 e.toNatClampNeg else -1
/-- run -/
def k_case (P : kVC) (e pa pb : Nat) : kVC :=
  if k_give P.1 (nI e) (kLat pa) (kLat pb) = kOr (nI e) (kLat pa) (kLat pb) then (P.1, k_noteT P.2.1 e (k_give P.1 (nI e) (kLat pa) (kLat pb)), P.2.2)
  else (P.1, k_noteF (k_noteT P.2.1 e (k_give P.1 (nI e) (kLat pa) (kLat pb))) e, k_keep P.2.2.1 (nI e) (nI pa) (nI pb) (kOr (nI e) (kLat pa) (kLat pb)) (k_give P.1 (nI e) (kLat pa) (kLat pb)), P.2.2.2)
def k_step (P : kVE) (e pa pb : Nat) (pr : Bool) : kVE :=
  if k_leave P.2.1 (nI e) (kLat pa) (kLat pb) = true then (P.1, P.2.1, P.2.2.1, k_noteLO P.2.2.2.1, P.2.2.2.2)
  else if (k_note P.2.2.1 e pa pb).2 = true then ((k_case (P.1, P.2.2.2) e pa pb).1, P.2.1, (k_note P.2.2.1 e pa pb).1, (k_case (P.1, P.2.2.2) e pa pb).2)
  else if pr = true then (P.1, P.2.1, (k_note P.2.2.1 e pa pb).1, P.2.2.2)
  else ((k_case (P.1, P.2.2.2) e pa pb).1, P.2.1, (k_note P.2.2.1 e pa pb).1, (k_case (P.1, P.2.2.2) e pa pb).2)
def k_inL (e pa : Nat) (pr : Bool) : Nat → Nat → kVE → kVE
  | 0, _, P => P
  | n + 1, j, P => k_inL e pa pr n (j + 1) (k_step P e pa j pr)
def k_outL (e sz : Nat) (pr : Bool) : Nat → Nat → kVE → kVE
  | 0, _, P => P
  | n + 1, i, P => k_outL e sz pr n (i + 1) (k_inL e i pr sz 0 P)
def k_runE (P : kVE) (e sz : Nat) (pr : Bool) : kVE := k_outL e sz pr sz 0 P
def k_okE (P : kVE) : Prop := P.1.2.2.2 ≤ 4 ∧ P.2.1.2.2 ≤ 6 ∧ P.2.2.2.2.1.2.2.2.2.2 ≤ 12
theorem k_keep_ok {P : kFL} {e pa pb : Int32} {fo gi : Int64} (h : P.2.2.2.2.2 ≤ 12) : (k_keep P e pa pb fo gi).2.2.2.2.2 ≤ 12 := by
  unfold k_keep
  split
  · dsimp only; omega
  · exact h
theorem k_case_ok {P : kVC} {e pa pb : Nat} (h : P.2.2.1.2.2.2.2.2 ≤ 12) : (k_case P e pa pb).1 = P.1 ∧ (k_case P e pa pb).2.2.1.2.2.2.2.2 ≤ 12 := by
  unfold k_case
  split
  · exact ⟨rfl, h⟩
  · exact ⟨rfl, k_keep_ok h⟩
theorem k_step_ok {P : kVE} {e pa pb : Nat} {pr : Bool} (h : k_okE P) : k_okE (k_step P e pa pb pr) := by
  obtain ⟨h1, h2, h3⟩ := h
  have hc := k_case_ok (P := (P.1, P.2.2.2)) (e := e) (pa := pa) (pb := pb) h3
  unfold k_step
  split
  · exact ⟨h1, h2, h3⟩
  · split
    · exact ⟨by dsimp only; rw [hc.1]; exact h1, h2, hc.2⟩
    · split
      · exact ⟨h1, h2, h3⟩
      · exact ⟨by dsimp only; rw [hc.1]; exact h1, h2, hc.2⟩
theorem k_inL_ok {e pa : Nat} {pr : Bool} : ∀ (n j : Nat) {P : kVE}, k_okE P → k_okE (k_inL e pa pr n j P)
  | 0, _, _, h => h
  | n + 1, j, _, h => k_inL_ok n (j + 1) (k_step_ok h)
theorem k_outL_ok {e sz : Nat} {pr : Bool} : ∀ (n j : Nat) {P : kVE}, k_okE P → k_okE (k_outL e sz pr n j P)
  | 0, _, _, h => h
  | n + 1, j, _, h => k_outL_ok n (j + 1) (k_inL_ok sz 0 h)
/-- shrinking -/
def k_mvA (P : kShr) (M : kMach) (e : Int32) : Nat → Nat → kShr × Bool
  | 0, _ => (P, false)
  | n + 1, i => if k_fails M e i P.2.1 = true then ((i, P.2), true) else k_mvA P M e n (i + 1)
def k_moveA (P : kShr) (M : kMach) (e : Int32) : kShr × Bool := k_mvA P M e P.1 0
def k_mvB (P : kShr) (M : kMach) (e : Int32) : Nat → Nat → kShr × Bool
  | 0, _ => (P, false)
  | n + 1, i => if k_fails M e P.1 i = true then ((P.1, i, P.2.2), true) else k_mvB P M e n (i + 1)
def k_moveB (P : kShr) (M : kMach) (e : Int32) : kShr × Bool := k_mvB P M e P.2.1 0
/-- texts: 0 .. 15 the names, 16 kit, 17 FAIL, 18 PASS -/
def k_nm (e : Int32) : Nat := if e = 0 then 0 else if e = 1 then 1 else if e = 2 then 2 else if e = 3 then 3 else if e = 4 then 4 else if e = 5 then 5 else if e = 6 then 6 else if e = 7 then 7 else if e = 8 then 8 else if e = 9 then 9 else if e = 10 then 10 else if e = 11 then 11 else if e = 12 then 12 else if e = 13 then 13 else if e = 14 then 14 else 15
theorem kTx_len (j : Nat) : (kTx j).length ≤ 5 := by
  by_cases hj : j < 19
  · have h2 : ∀ j, j < 19 → (kTx j).length ≤ 5 := by decide +kernel
    exact h2 j hj
  · have e : kTx j = [] := by
      unfold kTx
      rw [List.getD_eq_getElem?_getD, List.getElem?_eq_none (by simpa using Nat.not_lt.mp hj)]; rfl
    rw [e]; decide
theorem kChr_out {j i : Nat} (h : 5 ≤ i) : kChr j i = 0 := by
  unfold kChr
  rw [List.getD_eq_getElem?_getD, List.getElem?_eq_none (Nat.le_trans (kTx_len j) h)]; rfl
theorem kChr_far {j i : Nat} (h : 19 ≤ j) : kChr j i = 0 := by
  have e : kTx j = [] := by
    unfold kTx
    rw [List.getD_eq_getElem?_getD, List.getElem?_eq_none (by simpa using h)]; rfl
  unfold kChr
  rw [e]; rfl
theorem kChr_all (Pr : Int32 → Prop) (h0 : Pr 0) (h : ∀ j, j < 19 → ∀ i, i < 5 → Pr (kChr j i)) (j i : Nat) : Pr (kChr j i) := by
  by_cases hj : j < 19
  · by_cases hi : i < 5
    · exact h j hj i hi
    · rw [kChr_out (Nat.not_lt.mp hi)]; exact h0
  · rw [kChr_far (Nat.not_lt.mp hj)]; exact h0
theorem kChr_nar (j i : Nat) : vp_nar .char (kChr j i) = kChr j i := kChr_all (fun x => vp_nar .char x = x) (by decide +kernel) (by decide +kernel) j i
theorem kChr_nar2 (j i : Nat) : narrow .char (.int (kChr j i)) = .int (kChr j i) := kChr_all (fun x => narrow .char (.int x) = .int x) (by decide +kernel) (by decide +kernel) j i
theorem kChr_c (j i : Nat) : ((kChr j i &&& 255).toUInt32 % 65536).toInt32 = kChr j i := kChr_all (fun x => ((x &&& 255).toUInt32 % 65536).toInt32 = x) (by decide +kernel) (by decide +kernel) j i
def k_pkL (j : Nat) : Nat → Nat → Int64 → Int64
  | 0, _, a => a
  | n + 1, i, a => k_pkL j n (i + 1) (a <<< ((8 : Int32).toInt64 &&& 63) ||| (kChr j i).toInt64)
def k_pk (j : Nat) : Int64 := k_pkL j (kTx j).length 0 0
def k_sh (n : Nat) : Int32 := nI (8 * n) + (-8)
theorem k_sh_s (n : Nat) : k_sh (n + 1) + (-8) = k_sh n := by
  unfold k_sh
  rw [Nat.mul_add, ← nI_add, Int32.add_assoc (nI (8 * n)) (nI (8 * 1)) (-8), show nI (8 * 1) + -8 = 0 from by decide, Int32.add_zero]
def k_wzL (x : Int64) : Nat → Int64 → Int64
  | 0, a => a
  | n + 1, a => if (x.toUInt64 >>> ((k_sh (n + 1)).toInt64.toUInt64 &&& Int64.toUInt64 63)).toInt64 &&& 255 = 0 then k_wzL x n a else k_wzL x n (a <<< ((8 : Int32).toInt64 &&& 63) ||| ((x.toUInt64 >>> ((k_sh (n + 1)).toInt64.toUInt64 &&& Int64.toUInt64 63)).toInt64 &&& 255))
def k_wz (x : Int64) : Int64 := k_wzL x 8 0
def k_findL (x : Int64) : Nat → Nat → Int32
  | 0, _ => -1
  | n + 1, i => if k_pk (k_nm (nI i)) = x then nI i else k_findL x n (i + 1)
def k_find (x : Int64) : Int32 := k_findL (k_wz x) 16 0
theorem k_put_ok {P : kRep} {c : Int32} (h : P.2 ≤ 256) : (k_put P c).2 ≤ 256 := by
  unfold k_put
  split
  · exact h
  · dsimp only; omega
def k_ptL (j : Nat) : Nat → Nat → kRep → kRep
  | 0, _, P => P
  | n + 1, i, P => k_ptL j n (i + 1) (k_put P (kChr j i))
def k_pt (P : kRep) (j : Nat) : kRep := k_ptL j (kTx j).length 0 P
theorem k_isEntry_nat {x : Int32} (h : k_isEntry x = true) : ∃ k : Nat, k < 16 ∧ x = nI k := by
  unfold k_isEntry at h
  split at h
  · cases h
  · rename_i h0
    split at h
    · cases h
    · rename_i h1
      obtain ⟨j, hj, rfl⟩ := nI_of h0
      refine ⟨j, ?_, rfl⟩
      rcases Nat.lt_or_ge j 16 with q | q
      · exact q
      · exact absurd (nI_le (a := 16) (b := j) q hj) h1
theorem kin_nI {x : Int32} {n : Nat} (h : vp_in x n) (hn : n < 2 ^ 31) : x = nI x.toNatClampNeg ∧ x.toNatClampNeg < n := by
  obtain ⟨j, hj, rfl⟩ := vp_in_of h hn
  rw [nI_clamp (by omega)]
  exact ⟨rfl, hj⟩
def k_okF (P : kFL) : Prop := ∀ j : Nat, j < P.2.2.2.2.2 → vp_in (P.2.1 j) 12 ∧ vp_in (P.2.2.1 j) 12
def k_failure (P : kVF) (i w : Int32) : Int64 :=
  if i < 0 then -1000000000000 else if i < nI P.1.2.2.2.2.2 then
    (if w = 0 then (P.1.1 i.toNatClampNeg).toInt64 else if w = 1 then (kLat (P.1.2.1 i.toNatClampNeg).toNatClampNeg).toInt64 else if w = 2 then (kLat (P.1.2.2.1 i.toNatClampNeg).toNatClampNeg).toInt64
     else if w = 3 then P.1.2.2.2.1 i.toNatClampNeg else if w = 4 then P.1.2.2.2.2.1 i.toNatClampNeg else -1000000000000)
  else -1000000000000
/-- the view of count: Mach, Exc, PB, Tal, Rep, enabled, runs -/
def k_count (P : kVCt) (w : Int32) : Int32 :=
  if w = 0 then k_sum P.2.2.2.1.1 else if w = 1 then k_sum P.2.2.2.1.2.1 else if w = 2 then nI P.2.2.2.1.2.2.2 else if w = 3 then nI P.2.2.1.2.2.2 else if w = 4 then k_mall P.2.2.2.1.2.2.1
  else if w = 5 then nI P.2.2.2.2.1.2 else if w = 6 then (if k_sum P.2.2.2.1.2.1 ≤ 0 then 0 else 1) else if w = 7 then nI P.2.2.2.2.2.2 else if w = 8 then nI P.1.2.2.2 else if w = 9 then nI P.2.1.2.2 else -1
def k_dg (n u : Int32) : Int32 := ((48 + ((n / u) - (n / u) / 10 * 10)).toUInt32 % 65536).toInt32
def k_p100 (P : kRep) (n : Int32) : kRep := if 100 ≤ n then k_put P (k_dg n 100) else P
def k_p10 (P : kRep) (n : Int32) : kRep := if 10 ≤ n then k_put P (k_dg n 10) else P
def k_pn (P : kRep) (n : Int32) : kRep := k_put (k_p10 (k_p100 P n) n) (k_dg n 1)
theorem k_pn_ok {P : kRep} {n : Int32} (h : P.2 ≤ 256) : (k_pn P n).2 ≤ 256 := by
  unfold k_pn k_p10 k_p100
  apply k_put_ok
  split
  · apply k_put_ok
    split
    · exact k_put_ok h
    · exact h
  · split
    · exact k_put_ok h
    · exact h
theorem k_ptL_ok {j : Nat} : ∀ (n i : Nat) {P : kRep}, P.2 ≤ 256 → (k_ptL j n i P).2 ≤ 256
  | 0, _, _, h => h
  | n + 1, i, _, h => k_ptL_ok n (i + 1) (k_put_ok h)
theorem k_pt_ok {P : kRep} {j : Nat} (h : P.2 ≤ 256) : (k_pt P j).2 ≤ 256 := k_ptL_ok _ _ h
def k_line (T : kTal) (i : Nat) (R : kRep) : kRep := k_put (k_pn (k_put (k_pn (k_put (k_pt R (k_nm (nI i))) 32) (T.1 i)) 32) (T.2.1 i)) 10
theorem k_line_ok {T : kTal} {i : Nat} {R : kRep} (h : R.2 ≤ 256) : (k_line T i R).2 ≤ 256 := k_put_ok (k_pn_ok (k_put_ok (k_pn_ok (k_put_ok (k_pt_ok h)))))
def k_wrL (T : kTal) : Nat → Nat → kRep → kRep
  | 0, _, R => R
  | n + 1, i, R => if T.1 i ≤ 0 then k_wrL T n (i + 1) R else k_wrL T n (i + 1) (k_line T i R)
def k_wrE (T : kTal) (R : kRep) : kRep := if k_sum T.2.1 ≤ 0 then k_put (k_pt R 18) 10 else k_put (k_pt R 17) 10
def k_wr (P : kVW) : kVW := (P.1, k_wrE P.1 (k_wrL P.1 16 0 P.2.1), P.2.2)
theorem k_wrL_ok {T : kTal} : ∀ (n i : Nat) {R : kRep}, R.2 ≤ 256 → (k_wrL T n i R).2 ≤ 256
  | 0, _, _, h => h
  | n + 1, i, R, h => by
    unfold k_wrL
    split
    · exact k_wrL_ok n (i + 1) h
    · exact k_wrL_ok n (i + 1) (k_line_ok h)
theorem k_ite {c : Prop} [Decidable c] {a b n : Nat} (ha : a < n) (hb : b < n) : (if c then a else b) < n := by
  split
  · exact ha
  · exact hb
theorem k_nm_lt (e : Int32) : k_nm e < nTx := by
  unfold k_nm
  exact k_ite (by decide) (k_ite (by decide) (k_ite (by decide) (k_ite (by decide) (k_ite (by decide) (k_ite (by decide) (k_ite (by decide) (k_ite (by decide) (k_ite (by decide) (k_ite (by decide) (k_ite (by decide) (k_ite (by decide) (k_ite (by decide) (k_ite (by decide) (k_ite (by decide) (by decide)))))))))))))))
/-- run, whole -/
def k_fg (P : kVG) : kVG := (k_fgPB P.1, k_fgTal P.2.1, k_fgFL P.2.2.1, k_fgRep P.2.2.2.1, P.2.2.2.2)
def k_fgR (P : kVRun) : kVRun := (P.1, P.2.1, k_fg P.2.2)
def k_okR (X : kVRun) : Prop := k_okE (X.1, X.2.1, X.2.2.1, X.2.2.2.1, X.2.2.2.2.1, X.2.2.2.2.2.2) ∧ X.2.2.2.2.2.1.2 ≤ 256
theorem k_fgR_ok {P : kVRun} (h : k_okR P) : k_okR (k_fgR P) := ⟨⟨h.1.1, h.1.2.1, Nat.zero_le _⟩, Nat.zero_le _⟩
def k_rE (X : kVRun) (i sz : Nat) (pr : Bool) : kVE := k_runE (X.1, X.2.1, X.2.2.1, X.2.2.2.1, X.2.2.2.2.1, X.2.2.2.2.2.2) i sz pr
def k_rstep (X : kVRun) (i sz : Nat) (pr : Bool) : kVRun :=
  if X.2.2.2.2.2.2.1 >>> (nI i &&& 31) &&& 1 = 1 then ((k_rE X i sz pr).1, (k_rE X i sz pr).2.1, (k_rE X i sz pr).2.2.1, (k_rE X i sz pr).2.2.2.1, (k_rE X i sz pr).2.2.2.2.1, X.2.2.2.2.2.1, (k_rE X i sz pr).2.2.2.2.2) else X
theorem k_rstep_ok {X : kVRun} {i sz : Nat} {pr : Bool} (h : k_okR X) : k_okR (k_rstep X i sz pr) := by
  unfold k_rstep
  split
  · exact ⟨k_outL_ok (e := i) (sz := sz) (pr := pr) sz 0 h.1, h.2⟩
  · exact h
def k_runL (sz : Nat) (pr : Bool) : Nat → Nat → kVRun → kVRun
  | 0, _, X => X
  | n + 1, i, X => k_runL sz pr n (i + 1) (k_rstep X i sz pr)
def k_runZ (X : kVRun) : kVRun × Int32 :=
  ((X.1, X.2.1, X.2.2.1, (k_wr (X.2.2.2.1, X.2.2.2.2.2)).1, X.2.2.2.2.1, (k_wr (X.2.2.2.1, X.2.2.2.2.2)).2.1, (k_wr (X.2.2.2.1, X.2.2.2.2.2)).2.2.1, (k_wr (X.2.2.2.1, X.2.2.2.2.2)).2.2.2 + 1), k_sum (k_wr (X.2.2.2.1, X.2.2.2.2.2)).1.2.1)
def k_run (P : kVRun) (b : Int32) (pr : Bool) : kVRun × Int32 := if b < 1 then (P, -1) else if b ≤ 3 then k_runZ (k_runL (k_lsz b) pr 16 0 (k_fgR P)) else (P, -1)
theorem k_lsz_le (b : Int32) : k_lsz b ≤ 12 := by
  unfold k_lsz
  split
  · decide
  · split <;> decide
/-- shrinking, whole -/
theorem k_mvA_ok {P : kShr} {M : kMach} {e : Int32} : ∀ (n i : Nat), i + n = P.1 → P.1 < 12 → P.2.1 < 12 → (k_mvA P M e n i).1.1 < 12 ∧ (k_mvA P M e n i).1.2.1 < 12 ∧ (k_mvA P M e n i).1.2.2 = P.2.2
  | 0, _, _, h1, h2 => ⟨h1, h2, rfl⟩
  | n + 1, i, hi, h1, h2 => by
    unfold k_mvA
    split
    · exact ⟨by dsimp only; omega, h2, rfl⟩
    · exact k_mvA_ok n (i + 1) (by omega) h1 h2
theorem k_moveA_ok {P : kShr} {M : kMach} {e : Int32} (h1 : P.1 < 12) (h2 : P.2.1 < 12) : (k_moveA P M e).1.1 < 12 ∧ (k_moveA P M e).1.2.1 < 12 ∧ (k_moveA P M e).1.2.2 = P.2.2 := k_mvA_ok P.1 0 (by omega) h1 h2
theorem k_mvB_ok {P : kShr} {M : kMach} {e : Int32} : ∀ (n i : Nat), i + n = P.2.1 → P.1 < 12 → P.2.1 < 12 → (k_mvB P M e n i).1.1 < 12 ∧ (k_mvB P M e n i).1.2.1 < 12 ∧ (k_mvB P M e n i).1.2.2 = P.2.2
  | 0, _, _, h1, h2 => ⟨h1, h2, rfl⟩
  | n + 1, i, hi, h1, h2 => by
    unfold k_mvB
    split
    · exact ⟨h1, by dsimp only; omega, rfl⟩
    · exact k_mvB_ok n (i + 1) (by omega) h1 h2
theorem k_moveB_ok {P : kShr} {M : kMach} {e : Int32} (h1 : P.1 < 12) (h2 : P.2.1 < 12) : (k_moveB P M e).1.1 < 12 ∧ (k_moveB P M e).1.2.1 < 12 ∧ (k_moveB P M e).1.2.2 = P.2.2 := k_mvB_ok P.2.1 0 (by omega) h1 h2
def k_bump (P : kShr) : kShr := (P.1, P.2.1, P.2.2 + 1)
def k_redL (M : kMach) (e : Int32) : Nat → kShr → kShr
  | 0, P => P
  | n + 1, P => if (k_moveA P M e).2 = true then k_redL M e n (k_bump (k_moveA P M e).1) else if (k_moveB (k_moveA P M e).1 M e).2 = true then k_redL M e n (k_bump (k_moveB (k_moveA P M e).1 M e).1) else (k_moveB (k_moveA P M e).1 M e).1
def k_red (M : kMach) (e : Int32) (pa pb : Nat) : kShr := if k_fails M e pa pb = true then k_redL M e 24 (pa, pb, 0) else (pa, pb, 0)
theorem k_redL_ok {M : kMach} {e : Int32} : ∀ (n : Nat) {P : kShr}, P.1 < 12 → P.2.1 < 12 → (k_redL M e n P).1 < 12 ∧ (k_redL M e n P).2.1 < 12
  | 0, _, h1, h2 => ⟨h1, h2⟩
  | n + 1, P, h1, h2 => by
    have ha := k_moveA_ok (M := M) (e := e) h1 h2
    have hb := k_moveB_ok (M := M) (e := e) ha.1 ha.2.1
    unfold k_redL
    split
    · exact k_redL_ok n ha.1 ha.2.1
    · split
      · exact k_redL_ok n hb.1 hb.2.1
      · exact ⟨hb.1, hb.2.1⟩
theorem k_red_ok {M : kMach} {e : Int32} {pa pb : Nat} (h1 : pa < 12) (h2 : pb < 12) : (k_red M e pa pb).1 < 12 ∧ (k_red M e pa pb).2.1 < 12 := by
  unfold k_red
  split
  · exact k_redL_ok (P := (pa, pb, 0)) 24 h1 h2
  · exact ⟨h1, h2⟩
def k_shR (P : kVS) (i : Int32) : kShr := k_red P.1 (P.2.1.1 i.toNatClampNeg) (P.2.1.2.1 i.toNatClampNeg).toNatClampNeg (P.2.1.2.2.1 i.toNatClampNeg).toNatClampNeg
def k_shrink (P : kVS) (i w : Int32) : kVS × Int64 :=
  if i < 0 then (P, -1000000000000) else if i < nI P.2.1.2.2.2.2.2 then
    (if w = 0 then ((P.1, P.2.1, k_shR P i, P.2.2.2), (kLat (k_shR P i).1).toInt64) else if w = 1 then ((P.1, P.2.1, k_shR P i, P.2.2.2), (kLat (k_shR P i).2.1).toInt64) else if w = 2 then ((P.1, P.2.1, k_shR P i, P.2.2.2), (nI (k_shR P i).2.2).toInt64)
     else ((P.1, P.2.1, k_shR P i, P.2.2.2), -1000000000000))
  else (P, -1000000000000)
theorem k_sh_0 : k_sh 0 < 0 := by decide
theorem k_sh_p (n : Nat) (h : n < 8) : ¬ k_sh (n + 1) < 0 := by
  have : ∀ n, n < 8 → ¬ k_sh (n + 1) < 0 := by decide
  exact this n h
