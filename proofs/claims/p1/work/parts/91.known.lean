theorem k_known {args : Array Value} {s : State} (hts : ∀ w ∈ lw_tbl, w.before args s = true) : ∃ (dC : Nat → ClassId) (dI : Nat → Nat → Nat) (cI cJ cC cZ : ClassId), va_K (dC, dI) vwCl (kTy cI cJ cC cZ) s := by
  obtain ⟨c0, iS0, hKn0⟩ := u_known (C := "KitRunner") (T := T_KitRunner) (N := 9) (n := 9) hts (fun w h => wG_tbl (in_KitRunner w h)) (hts _ (wG_tbl wq_18))
  obtain ⟨c1, iS1, hKn1⟩ := u_known (C := "KitRunner$Machine") (T := T_K_Machine) (N := 4) (n := 4) hts (fun w h => wG_tbl (in_K_Machine w h)) (hts _ (wG_tbl wq_26))
  obtain ⟨c2, iS2, hKn2⟩ := u_known (C := "KitRunner$Exclusions") (T := T_K_Exclusions) (N := 3) (n := 3) hts (fun w h => wG_tbl (in_K_Exclusions w h)) (hts _ (wG_tbl wq_46))
  obtain ⟨c3, iS3, hKn3⟩ := u_known (C := "KitRunner$PairBook") (T := T_K_PairBook) (N := 4) (n := 4) hts (fun w h => wG_tbl (in_K_PairBook w h)) (hts _ (wG_tbl wq_62))
  obtain ⟨c4, iS4, hKn4⟩ := u_known (C := "KitRunner$Tally") (T := T_K_Tally) (N := 4) (n := 4) hts (fun w h => wG_tbl (in_K_Tally w h)) (hts _ (wG_tbl wq_81))
  obtain ⟨c5, iS5, hKn5⟩ := u_known (C := "KitRunner$FailureList") (T := T_K_FailureList) (N := 6) (n := 6) hts (fun w h => wG_tbl (in_K_FailureList w h)) (hts _ (wG_tbl wq_100))
  obtain ⟨c6, iS6, hKn6⟩ := u_known (C := "KitRunner$Report") (T := T_K_Report) (N := 2) (n := 2) hts (fun w h => wG_tbl (in_K_Report w h)) (hts _ (wG_tbl wq_126))
  obtain ⟨c7, iS7, hKn7⟩ := u_known (C := "KitRunner$Shrinker") (T := T_K_Shrinker) (N := 3) (n := 3) hts (fun w h => wG_tbl (in_K_Shrinker w h)) (hts _ (wG_tbl wq_140))
  obtain ⟨c8, iS8, hKn8⟩ := u_known (C := "KitRunnerModel") (T := T_RM) (N := 25) (n := 25) hts (fun w h => wG_tbl (in_RM w h)) (hts _ (wG_tbl wq_570))
  obtain ⟨cI, kcI, pcI, fcI, gcI, hcI⟩ := Cond.arrayClass_spec (hts _ (wG_tbl wq_44))
  obtain ⟨cJ, kcJ, pcJ, fcJ, gcJ, hcJ⟩ := Cond.arrayClass_spec (hts _ (wG_tbl wq_124))
  obtain ⟨cC, kcC, pcC, fcC, gcC, hcC⟩ := Cond.arrayClass_spec (hts _ (wG_tbl wq_138))
  obtain ⟨cZ, kcZ, pcZ, fcZ, gcZ, hcZ⟩ := Cond.arrayClass_spec (hts _ (wG_tbl wq_652))
  refine ⟨fun k => if k = 0 then c0 else if k = 1 then c1 else if k = 2 then c2 else if k = 3 then c3 else if k = 4 then c4 else if k = 5 then c5 else if k = 6 then c6 else if k = 7 then c7 else c8, fun k => if k = 0 then iS0 else if k = 1 then iS1 else if k = 2 then iS2 else if k = 3 then iS3 else if k = 4 then iS4 else if k = 5 then iS5 else if k = 6 then iS6 else if k = 7 then iS7 else iS8, cI, cJ, cC, cZ, fun k q hq => ?_, fun k q hq => ?_⟩
  · match k, hq with
    | 0, hq => cases hq; exact hKn0
    | 1, hq => cases hq; exact hKn1
    | 2, hq => cases hq; exact hKn2
    | 3, hq => cases hq; exact hKn3
    | 4, hq => cases hq; exact hKn4
    | 5, hq => cases hq; exact hKn5
    | 6, hq => cases hq; exact hKn6
    | 7, hq => cases hq; exact hKn7
    | 8, hq => cases hq; exact hKn8
    | k + 9, hq => simp [vwCl] at hq
  · match k, hq with
    | 0, hq => cases hq; exact ⟨fun n z => ⟨fun k h => (by cases h), kcI, gcI, pcI, hcI⟩, fcI⟩
    | 1, hq => cases hq; exact ⟨fun n z => ⟨fun k h => (by cases h), kcJ, gcJ, pcJ, hcJ⟩, fcJ⟩
    | 2, hq => cases hq; exact ⟨fun n z => ⟨fun k h => (by cases h), kcC, gcC, pcC, hcC⟩, fcC⟩
    | 3, hq => cases hq; exact ⟨fun n z => ⟨fun k h => (by cases h), kcZ, gcZ, pcZ, hcZ⟩, fcZ⟩
    | k + 4, hq => simp at hq
