set_option maxHeartbeats 4000000 in
set_option maxRecDepth 100000 in
theorem c_Tally_forget (l : Launch) (dC : Nat → ClassId) (dI : Nat → Nat → Nat) (cI cJ cC cZ : ClassId) (σ : kSg) (h h_0 h_1 h_2 : Nat) (P : kTal) : kC l y_K_Tally_forget ws_K_Tally_forget (kRm 1 0 0 23) (dC, dI) (kTy cI cJ cC cZ) σ (wTal cI cJ cC cZ h h_0 h_1 h_2 P) [.ref h] (kQv (dC, dI) (kTy cI cJ cC cZ) (fun _ : Unit => wTal cI cJ cC cZ h h_0 h_1 h_2 (k_fgTal P))) 0 0 := by
  refine kr_met (cc := prog_9_method_2_code) (maxL := 1) (ret := none) (by decide) rfl (Nat.le_of_ble_eq_true rfl) ?_
  intro p e s m args below meth c A Q hQ hx hb hr hml hts hown hlocks hnm hA hP hK hD hSt ls hl
  have hS : va_S A s.heap s.heap [] := va_S.rf
  have hown : s.vm.findClass "KitRunner$Tally" = some m.cls := hown
  have hl : lv_has ls 1 [(0, .ref h)] := hl
  have hP : va_P (dC, dI) vwCl [(h, .inr (4, [.ref h_0, .ref h_1, .ref h_2, .int (nI P.2.2.2)])), (h_0, .inl (cI, 16, .inl P.1)), (h_1, .inl (cI, 16, .inl P.2.1)), (h_2, .inl (cI, 16, .inl P.2.2.1))] s.heap := hP
  have hD : va_D A [(h, .inr (4, [.ref h_0, .ref h_1, .ref h_2, .int (nI P.2.2.2)])), (h_0, .inl (cI, 16, .inl P.1)), (h_1, .inl (cI, 16, .inl P.2.1)), (h_2, .inl (cI, 16, .inl P.2.2.1))] := hD
  have hf_9 := hts _ (List.mem_cons_of_mem _ wq_86)
  have hin_K_Tally := fun w (h : w ∈ u_ws "KitRunner$Tally" T_K_Tally 4) => List.mem_cons_of_mem (Cond.code y_K_Tally_forget prog_9_method_2_code 1 none) (in_K_Tally w h)
  have hini_Arrays := hts _ (List.mem_cons_of_mem _ wq_16)
  have hm_25 := hts _ (List.mem_cons_of_mem _ wq_369)
  have hs_25 := hts _ (List.mem_cons_of_mem _ wq_363)
  have hf_15 := hts _ (List.mem_cons_of_mem _ wq_87)
  have hf_18 := hts _ (List.mem_cons_of_mem _ wq_88)
  have hf_21 := hts _ (List.mem_cons_of_mem _ wq_89)
  refine lv_aload_n hx hb d_K_Tally_forget_0 rfl (lv_at hl 0 rfl) ?_
  refine va_get (D := (dC, dI)) (ci := 4) (v := .ref h_0) (C := "KitRunner$Tally") (T := T_K_Tally) (N := 4) hx hb hts hin_K_Tally hown hK hP 0 rfl rfl 0 (by decide) hf_9 (fun _ h9 => h9) rfl d_K_Tally_forget_1 ?_
  refine lv_iconst (v := 0) hx hb d_K_Tally_forget_4 (by decide) ?_
  have hpre_1 := kr_pre (wc := [(h_0, .inl (cI, 16, .inl P.1))]) (av := [.ref h_0, .int 0]) hK hP hD hS hA hSt [1] rfl (by decide)
  refine kj_v (wc := [(h_0, .inl (cI, 16, .inl P.1))]) (wr := [(h, .inr (4, [.ref h_0, .ref h_1, .ref h_2, .int (nI P.2.2.2)])), (h_1, .inl (cI, 16, .inl P.2.1)), (h_2, .inl (cI, 16, .inl P.2.2.1))]) (va_runS (As := [.ref h_0, .int 0]) (rest := []) ⟨hx, hb, hml, hown, hts⟩ (c_Arrays_fill l dC dI cI cJ cC cZ σ h_0 16 P.1 0 (by decide) _) ⟨(callB_of 2 hts (kg wq_364) rfl rfl rfl hini_Arrays hm_25 (by decide +kernel) ⟨Nat.le_of_ble_eq_true rfl, Nat.le_of_ble_eq_true rfl⟩), hs_25⟩ hpre_1 rfl rfl hl.1 rfl (lv_room (Nat.le_of_ble_eq_true rfl)) d_K_Tally_forget_5 ⟨Nat.le_of_ble_eq_true rfl, Nat.le_of_ble_eq_true rfl⟩) hP hD hS hA [1] [0, 2, 3] rfl rfl (by decide) (by decide) (fun _ H locs hP hD hS => ?_)
  have hP : va_P (dC, dI) vwCl [(h, .inr (4, [.ref h_0, .ref h_1, .ref h_2, .int (nI P.2.2.2)])), (h_1, .inl (cI, 16, .inl P.2.1)), (h_2, .inl (cI, 16, .inl P.2.2.1)), (h_0, .inl (cI, 16, .inl (fun _ => 0)))] H := hP
  have hD : va_D A [(h, .inr (4, [.ref h_0, .ref h_1, .ref h_2, .int (nI P.2.2.2)])), (h_1, .inl (cI, 16, .inl P.2.1)), (h_2, .inl (cI, 16, .inl P.2.2.1)), (h_0, .inl (cI, 16, .inl (fun _ => 0)))] := hD
  refine lv_aload_n hx hb d_K_Tally_forget_8 rfl (lv_at hl 0 rfl) ?_
  refine va_get (D := (dC, dI)) (ci := 4) (v := .ref h_1) (C := "KitRunner$Tally") (T := T_K_Tally) (N := 4) hx hb hts hin_K_Tally hown hK hP 0 rfl rfl 1 (by decide) hf_15 (fun _ h9 => h9) rfl d_K_Tally_forget_9 ?_
  refine lv_iconst (v := 0) hx hb d_K_Tally_forget_12 (by decide) ?_
  have hpre_2 := kr_pre (wc := [(h_1, .inl (cI, 16, .inl P.2.1))]) (av := [.ref h_1, .int 0]) hK hP hD hS hA hSt [1] rfl (by decide)
  refine kj_v (wc := [(h_1, .inl (cI, 16, .inl P.2.1))]) (wr := [(h, .inr (4, [.ref h_0, .ref h_1, .ref h_2, .int (nI P.2.2.2)])), (h_2, .inl (cI, 16, .inl P.2.2.1)), (h_0, .inl (cI, 16, .inl (fun _ => 0)))]) (va_runS (As := [.ref h_1, .int 0]) (rest := []) ⟨hx, hb, hml, hown, hts⟩ (c_Arrays_fill l dC dI cI cJ cC cZ σ h_1 16 P.2.1 0 (by decide) _) ⟨(callB_of 2 hts (kg wq_364) rfl rfl rfl hini_Arrays hm_25 (by decide +kernel) ⟨Nat.le_of_ble_eq_true rfl, Nat.le_of_ble_eq_true rfl⟩), hs_25⟩ hpre_2 rfl rfl hl.1 rfl (lv_room (Nat.le_of_ble_eq_true rfl)) d_K_Tally_forget_13 ⟨Nat.le_of_ble_eq_true rfl, Nat.le_of_ble_eq_true rfl⟩) hP hD hS hA [1] [0, 2, 3] rfl rfl (by decide) (by decide) (fun _ H locs hP hD hS => ?_)
  have hP : va_P (dC, dI) vwCl [(h, .inr (4, [.ref h_0, .ref h_1, .ref h_2, .int (nI P.2.2.2)])), (h_2, .inl (cI, 16, .inl P.2.2.1)), (h_0, .inl (cI, 16, .inl (fun _ => 0))), (h_1, .inl (cI, 16, .inl (fun _ => 0)))] H := hP
  have hD : va_D A [(h, .inr (4, [.ref h_0, .ref h_1, .ref h_2, .int (nI P.2.2.2)])), (h_2, .inl (cI, 16, .inl P.2.2.1)), (h_0, .inl (cI, 16, .inl (fun _ => 0))), (h_1, .inl (cI, 16, .inl (fun _ => 0)))] := hD
  refine lv_aload_n hx hb d_K_Tally_forget_16 rfl (lv_at hl 0 rfl) ?_
  refine va_get (D := (dC, dI)) (ci := 4) (v := .ref h_2) (C := "KitRunner$Tally") (T := T_K_Tally) (N := 4) hx hb hts hin_K_Tally hown hK hP 0 rfl rfl 2 (by decide) hf_18 (fun _ h9 => h9) rfl d_K_Tally_forget_17 ?_
  refine lv_iconst (v := 0) hx hb d_K_Tally_forget_20 (by decide) ?_
  have hpre_3 := kr_pre (wc := [(h_2, .inl (cI, 16, .inl P.2.2.1))]) (av := [.ref h_2, .int 0]) hK hP hD hS hA hSt [1] rfl (by decide)
  refine kj_v (wc := [(h_2, .inl (cI, 16, .inl P.2.2.1))]) (wr := [(h, .inr (4, [.ref h_0, .ref h_1, .ref h_2, .int (nI P.2.2.2)])), (h_0, .inl (cI, 16, .inl (fun _ => 0))), (h_1, .inl (cI, 16, .inl (fun _ => 0)))]) (va_runS (As := [.ref h_2, .int 0]) (rest := []) ⟨hx, hb, hml, hown, hts⟩ (c_Arrays_fill l dC dI cI cJ cC cZ σ h_2 16 P.2.2.1 0 (by decide) _) ⟨(callB_of 2 hts (kg wq_364) rfl rfl rfl hini_Arrays hm_25 (by decide +kernel) ⟨Nat.le_of_ble_eq_true rfl, Nat.le_of_ble_eq_true rfl⟩), hs_25⟩ hpre_3 rfl rfl hl.1 rfl (lv_room (Nat.le_of_ble_eq_true rfl)) d_K_Tally_forget_21 ⟨Nat.le_of_ble_eq_true rfl, Nat.le_of_ble_eq_true rfl⟩) hP hD hS hA [1] [0, 2, 3] rfl rfl (by decide) (by decide) (fun _ H locs hP hD hS => ?_)
  have hP : va_P (dC, dI) vwCl [(h, .inr (4, [.ref h_0, .ref h_1, .ref h_2, .int (nI P.2.2.2)])), (h_0, .inl (cI, 16, .inl (fun _ => 0))), (h_1, .inl (cI, 16, .inl (fun _ => 0))), (h_2, .inl (cI, 16, .inl (fun _ => 0)))] H := hP
  have hD : va_D A [(h, .inr (4, [.ref h_0, .ref h_1, .ref h_2, .int (nI P.2.2.2)])), (h_0, .inl (cI, 16, .inl (fun _ => 0))), (h_1, .inl (cI, 16, .inl (fun _ => 0))), (h_2, .inl (cI, 16, .inl (fun _ => 0)))] := hD
  refine lv_aload_n hx hb d_K_Tally_forget_24 rfl (lv_at hl 0 rfl) ?_
  refine lv_iconst (v := 0) hx hb d_K_Tally_forget_25 (by decide) ?_
  refine va_put (D := (dC, dI)) (ci := 4) (v := .int 0) (ty := .int) (C := "KitRunner$Tally") (T := T_K_Tally) (N := 4) hx hb hts hin_K_Tally ty_K_Tally ty_K_Tally_ok nm_K_Tally hown hK hP hD hS 0 rfl rfl 3 (by decide) hf_21 (fun _ h9 => h9) rfl (by decide +kernel) rfl rfl (Nat.le_of_ble_eq_true rfl) d_K_Tally_forget_26 (fun H locs hP hD hS => ?_)
  have hP : va_P (dC, dI) vwCl [(h, .inr (4, [.ref h_0, .ref h_1, .ref h_2, .int (nI 0)])), (h_0, .inl (cI, 16, .inl (fun _ => 0))), (h_1, .inl (cI, 16, .inl (fun _ => 0))), (h_2, .inl (cI, 16, .inl (fun _ => 0)))] H := hP
  have hD : va_D A [(h, .inr (4, [.ref h_0, .ref h_1, .ref h_2, .int (nI 0)])), (h_0, .inl (cI, 16, .inl (fun _ => 0))), (h_1, .inl (cI, 16, .inl (fun _ => 0))), (h_2, .inl (cI, 16, .inl (fun _ => 0)))] := hD
  have hpost : k_fgTal P = ((fun _ => 0), ((fun _ => 0), ((fun _ => 0), 0))) := by simp only [k_fgTal]
  have hP9 := hP.sub (ws' := [(h, .inr (4, [.ref h_0, .ref h_1, .ref h_2, .int (nI 0)])), (h_0, .inl (cI, 16, .inl (fun _ => 0))), (h_1, .inl (cI, 16, .inl (fun _ => 0))), (h_2, .inl (cI, 16, .inl (fun _ => 0)))]) [0, 1, 2, 3] rfl
  have hD9 := hD.sub (ws' := [(h, .inr (4, [.ref h_0, .ref h_1, .ref h_2, .int (nI 0)])), (h_0, .inl (cI, 16, .inl (fun _ => 0))), (h_1, .inl (cI, 16, .inl (fun _ => 0))), (h_2, .inl (cI, 16, .inl (fun _ => 0)))]) [0, 1, 2, 3] (by decide) rfl
  exact kr_vret hQ hx hb hr hlocks hK hP9 hD9 hS () (by show (wTal cI cJ cC cZ h h_0 h_1 h_2 (k_fgTal P) : va_W) = _; rw [hpost] <;> rfl) d_K_Tally_forget_29
set_option maxHeartbeats 4000000 in
set_option maxRecDepth 100000 in
theorem c_Report_at (l : Launch) (dC : Nat → ClassId) (dI : Nat → Nat → Nat) (cI cJ cC cZ : ClassId) (σ : kSg) (h h_0 : Nat) (P : kRep) (i0 : Int32) (hk : P.2 ≤ 256) : kC l y_K_Report_at ws_K_Report_at (kRm 0 0 0 0) (dC, dI) (kTy cI cJ cC cZ) σ (wRep cI cJ cC cZ h h_0 P) [.ref h, .int i0] (kQi (dC, dI) (kTy cI cJ cC cZ) (k_at P i0) (fun _ : Unit => wRep cI cJ cC cZ h h_0 P)) 0 0 := by
  refine kr_met (cc := prog_7_method_4_code) (maxL := 2) (ret := (some .int)) (by decide) rfl (Nat.le_of_ble_eq_true rfl) ?_
  intro p e s m args below meth c A Q hQ hx hb hr hml hts hown hlocks hnm hA hP hK hD hSt ls hl
  have hS : va_S A s.heap s.heap [] := va_S.rf
  have hown : s.vm.findClass "KitRunner$Report" = some m.cls := hown
  have hl : lv_has ls 2 [(0, .ref h), (1, .int i0)] := hl
  have hP : va_P (dC, dI) vwCl [(h, .inr (6, [.ref h_0, .int (nI P.2)])), (h_0, .inl (cC, 256, .inl P.1))] s.heap := hP
  have hD : va_D A [(h, .inr (6, [.ref h_0, .int (nI P.2)])), (h_0, .inl (cC, 256, .inl P.1))] := hD
  have hf_15 := hts _ (List.mem_cons_of_mem _ wq_132)
  have hin_K_Report := fun w (h : w ∈ u_ws "KitRunner$Report" T_K_Report 2) => List.mem_cons_of_mem (Cond.code y_K_Report_at prog_7_method_4_code 2 (some .int)) (in_K_Report w h)
  have hf_9 := hts _ (List.mem_cons_of_mem _ wq_131)
  refine lv_iload_n hx hb d_K_Report_at_0 rfl (lv_at hl 1 rfl) ?_
  refine lv_if_lt (tgt := 12) hx hb d_K_Report_at_1 (by decide) (fun c_1 => ?_) (fun c_1 => ?_)
  · skip
    refine lv_iconst (v := 0) hx hb d_K_Report_at_12 (by decide) ?_
    refine lv_goto (tgt := 22) hx hb d_K_Report_at_13 (by decide) ?_
    have hpost : k_at P i0 = 0 := by simp only [k_at, if_pos c_1]
    have hP9 := hP.sub (ws' := [(h, .inr (6, [.ref h_0, .int (nI P.2)])), (h_0, .inl (cC, 256, .inl P.1))]) [0, 1] rfl
    have hD9 := hD.sub (ws' := [(h, .inr (6, [.ref h_0, .int (nI P.2)])), (h_0, .inl (cC, 256, .inl P.1))]) [0, 1] (by decide) rfl
    exact kr_iret (v := 0) hQ hx hb hr hlocks hK hP9 hD9 hS (by rw [hpost] <;> rfl) () rfl d_K_Report_at_22
  · skip
    refine lv_iload_n hx hb d_K_Report_at_4 rfl (lv_at hl 1 rfl) ?_
    refine lv_aload_n hx hb d_K_Report_at_5 rfl (lv_at hl 0 rfl) ?_
    refine va_get (D := (dC, dI)) (ci := 6) (v := .int (nI P.2)) (C := "KitRunner$Report") (T := T_K_Report) (N := 2) hx hb hts hin_K_Report hown hK hP 0 rfl rfl 1 (by decide) hf_15 (fun _ h9 => h9) rfl d_K_Report_at_6 ?_
    refine lv_icmp_lt (tgt := 16) hx hb d_K_Report_at_9 (by decide) (fun c_2 => ?_) (fun c_2 => ?_)
    · skip
      obtain ⟨k0, hk0, hxk⟩ := ks_in c_1 c_2 (by omega)
      refine lv_aload_n hx hb d_K_Report_at_16 rfl (lv_at hl 0 rfl) ?_
      refine va_get (D := (dC, dI)) (ci := 6) (v := .ref h_0) (C := "KitRunner$Report") (T := T_K_Report) (N := 2) hx hb hts hin_K_Report hown hK hP 0 rfl rfl 0 (by decide) hf_9 (fun _ h9 => h9) rfl d_K_Report_at_17 ?_
      refine lv_iload_n hx hb d_K_Report_at_20 rfl (lv_at hl 1 rfl) ?_
      refine kr_topi (x := i0) (y := nI k0) hxk ?_
      refine kr_cald (k := k0) hx hb hK hP 1 2 rfl rfl (by omega) (by first | decide | omega) d_K_Report_at_21 ?_
      have hpost : k_at P i0 = P.1 k0 := by simp only [k_at, if_neg c_1, if_pos c_2]; rw [hxk, nI_clamp (by omega)]
      have hP9 := hP.sub (ws' := [(h, .inr (6, [.ref h_0, .int (nI P.2)])), (h_0, .inl (cC, 256, .inl P.1))]) [0, 1] rfl
      have hD9 := hD.sub (ws' := [(h, .inr (6, [.ref h_0, .int (nI P.2)])), (h_0, .inl (cC, 256, .inl P.1))]) [0, 1] (by decide) rfl
      exact kr_iret (v := (P.1 k0)) hQ hx hb hr hlocks hK hP9 hD9 hS (by rw [hpost] <;> rfl) () rfl d_K_Report_at_22
    · skip
      refine lv_iconst (v := 0) hx hb d_K_Report_at_12 (by decide) ?_
      refine lv_goto (tgt := 22) hx hb d_K_Report_at_13 (by decide) ?_
      have hpost : k_at P i0 = 0 := by simp only [k_at, if_neg c_1, if_neg c_2]
      have hP9 := hP.sub (ws' := [(h, .inr (6, [.ref h_0, .int (nI P.2)])), (h_0, .inl (cC, 256, .inl P.1))]) [0, 1] rfl
      have hD9 := hD.sub (ws' := [(h, .inr (6, [.ref h_0, .int (nI P.2)])), (h_0, .inl (cC, 256, .inl P.1))]) [0, 1] (by decide) rfl
      exact kr_iret (v := 0) hQ hx hb hr hlocks hK hP9 hD9 hS (by rw [hpost] <;> rfl) () rfl d_K_Report_at_22
set_option maxHeartbeats 4000000 in
set_option maxRecDepth 100000 in
theorem c_Mach_init (l : Launch) (dC : Nat → ClassId) (dI : Nat → Nat → Nat) (cI cJ cC cZ : ClassId) (σ : kSg) (h : Nat) : kC l y_K_Machine_init ws_K_Machine_init (kRm 1 3 12 20) (dC, dI) (kTy cI cJ cC cZ) σ ([(h, .inr (1, [.null, .null, .null, .int 0]))]) [.ref h] (kQv (dC, dI) (kTy cI cJ cC cZ) (fun u : Nat × Nat × Nat => wMach cI cJ cC cZ h u.1 u.2.1 u.2.2 k0_Mach)) 3 12 := by
  refine kr_met (cc := prog_5_method_1_code) (maxL := 1) (ret := none) (by decide) rfl (Nat.le_of_ble_eq_true rfl) ?_
  intro p e s m args below meth c A Q hQ hx hb hr hml hts hown hlocks hnm hA hP hK hD hSt ls hl
  have hS : va_S A s.heap s.heap [] := va_S.rf
  have hown : s.vm.findClass "KitRunner$Machine" = some m.cls := hown
  have hl : lv_has ls 1 [(0, .ref h)] := hl
  have hP : va_P (dC, dI) vwCl [(h, .inr (1, [.null, .null, .null, .int 0]))] s.heap := hP
  have hD : va_D A [(h, .inr (1, [.null, .null, .null, .int 0]))] := hD
  have ho1 := hts _ (List.mem_cons_of_mem _ wq_30)
  have ho2 := hts _ (List.mem_cons_of_mem _ wq_23)
  have ho3 := hts _ (List.mem_cons_of_mem _ wq_24)
  have ha_int := hts _ (List.mem_cons_of_mem _ wq_44)
  have hf_9 := hts _ (List.mem_cons_of_mem _ wq_31)
  have hin_K_Machine := fun w (h : w ∈ u_ws "KitRunner$Machine" T_K_Machine 4) => List.mem_cons_of_mem (Cond.code y_K_Machine_init prog_5_method_1_code 1 none) (in_K_Machine w h)
  have hf_15 := hts _ (List.mem_cons_of_mem _ wq_32)
  have hf_18 := hts _ (List.mem_cons_of_mem _ wq_33)
  have hf_21 := hts _ (List.mem_cons_of_mem _ wq_34)
  refine lv_aload_n hx hb d_K_Machine_init_0 rfl (lv_at hl 0 rfl) ?_
  refine W.objInit hx hb hown ho1 ho2 ho3 rfl (by rw [hml]; exact hl.1) rfl d_K_Machine_init_1 (Nat.le_of_ble_eq_true rfl) (Nat.le_of_ble_eq_true rfl) ?_
  refine W.eq (g2 := F0 m 4 ls []) rfl ?_
  refine lv_aload_n hx hb d_K_Machine_init_4 rfl (lv_at hl 0 rfl) ?_
  refine lv_iconst (v := 4) hx hb d_K_Machine_init_5 (by decide) ?_
  refine kr_newi (N := 4) hx hb ha_int hK hP hD hS hA 0 rfl (by decide) (by decide) (by decide) (Nat.le_of_ble_eq_true rfl) (Nat.le_of_ble_eq_true rfl) d_K_Machine_init_6 (fun q_1 H hP hD hS => ?_)
  refine W.cs (cells' := 1) (slots' := 4) rfl rfl ?_
  have hP : va_P (dC, dI) vwCl [(h, .inr (1, [.null, .null, .null, .int 0])), (q_1, .inl (cI, 4, .inl (fun _ => 0)))] H := hP
  have hD : va_D A [(h, .inr (1, [.null, .null, .null, .int 0])), (q_1, .inl (cI, 4, .inl (fun _ => 0)))] := hD
  refine va_putF (D := (dC, dI)) (ci := 1) (v := .ref q_1) (ty := .array .int) (C := "KitRunner$Machine") (T := T_K_Machine) (N := 4) hx hb hts hin_K_Machine ty_K_Machine ty_K_Machine_ok nm_K_Machine hown hK hP hD hS 0 rfl rfl 0 (by decide) hf_9 (fun _ h9 => h9) rfl hnm rfl (by decide +kernel) rfl rfl (Nat.le_of_ble_eq_true rfl) d_K_Machine_init_8 (fun H locs hP hD hS => ?_)
  have hP : va_P (dC, dI) vwCl [(h, .inr (1, [.ref q_1, .null, .null, .int 0])), (q_1, .inl (cI, 4, .inl (fun _ => 0)))] H := hP
  have hD : va_D A [(h, .inr (1, [.ref q_1, .null, .null, .int 0])), (q_1, .inl (cI, 4, .inl (fun _ => 0)))] := hD
  refine lv_aload_n hx hb d_K_Machine_init_11 rfl (lv_at hl 0 rfl) ?_
  refine lv_iconst (v := 4) hx hb d_K_Machine_init_12 (by decide) ?_
  refine kr_newi (N := 4) hx hb ha_int hK hP hD hS hA 0 rfl (by decide) (by decide) (by decide) (Nat.le_of_ble_eq_true rfl) (Nat.le_of_ble_eq_true rfl) d_K_Machine_init_13 (fun q_2 H hP hD hS => ?_)
  refine W.cs (cells' := 2) (slots' := 8) rfl rfl ?_
  have hP : va_P (dC, dI) vwCl [(h, .inr (1, [.ref q_1, .null, .null, .int 0])), (q_1, .inl (cI, 4, .inl (fun _ => 0))), (q_2, .inl (cI, 4, .inl (fun _ => 0)))] H := hP
  have hD : va_D A [(h, .inr (1, [.ref q_1, .null, .null, .int 0])), (q_1, .inl (cI, 4, .inl (fun _ => 0))), (q_2, .inl (cI, 4, .inl (fun _ => 0)))] := hD
  refine va_putF (D := (dC, dI)) (ci := 1) (v := .ref q_2) (ty := .array .int) (C := "KitRunner$Machine") (T := T_K_Machine) (N := 4) hx hb hts hin_K_Machine ty_K_Machine ty_K_Machine_ok nm_K_Machine hown hK hP hD hS 0 rfl rfl 1 (by decide) hf_15 (fun _ h9 => h9) rfl hnm rfl (by decide +kernel) rfl rfl (Nat.le_of_ble_eq_true rfl) d_K_Machine_init_15 (fun H locs hP hD hS => ?_)
  have hP : va_P (dC, dI) vwCl [(h, .inr (1, [.ref q_1, .ref q_2, .null, .int 0])), (q_1, .inl (cI, 4, .inl (fun _ => 0))), (q_2, .inl (cI, 4, .inl (fun _ => 0)))] H := hP
  have hD : va_D A [(h, .inr (1, [.ref q_1, .ref q_2, .null, .int 0])), (q_1, .inl (cI, 4, .inl (fun _ => 0))), (q_2, .inl (cI, 4, .inl (fun _ => 0)))] := hD
  refine lv_aload_n hx hb d_K_Machine_init_18 rfl (lv_at hl 0 rfl) ?_
  refine lv_iconst (v := 4) hx hb d_K_Machine_init_19 (by decide) ?_
  refine kr_newi (N := 4) hx hb ha_int hK hP hD hS hA 0 rfl (by decide) (by decide) (by decide) (Nat.le_of_ble_eq_true rfl) (Nat.le_of_ble_eq_true rfl) d_K_Machine_init_20 (fun q_3 H hP hD hS => ?_)
  refine W.cs (cells' := 3) (slots' := 12) rfl rfl ?_
  have hP : va_P (dC, dI) vwCl [(h, .inr (1, [.ref q_1, .ref q_2, .null, .int 0])), (q_1, .inl (cI, 4, .inl (fun _ => 0))), (q_2, .inl (cI, 4, .inl (fun _ => 0))), (q_3, .inl (cI, 4, .inl (fun _ => 0)))] H := hP
  have hD : va_D A [(h, .inr (1, [.ref q_1, .ref q_2, .null, .int 0])), (q_1, .inl (cI, 4, .inl (fun _ => 0))), (q_2, .inl (cI, 4, .inl (fun _ => 0))), (q_3, .inl (cI, 4, .inl (fun _ => 0)))] := hD
  refine va_putF (D := (dC, dI)) (ci := 1) (v := .ref q_3) (ty := .array .int) (C := "KitRunner$Machine") (T := T_K_Machine) (N := 4) hx hb hts hin_K_Machine ty_K_Machine ty_K_Machine_ok nm_K_Machine hown hK hP hD hS 0 rfl rfl 2 (by decide) hf_18 (fun _ h9 => h9) rfl hnm rfl (by decide +kernel) rfl rfl (Nat.le_of_ble_eq_true rfl) d_K_Machine_init_22 (fun H locs hP hD hS => ?_)
  have hP : va_P (dC, dI) vwCl [(h, .inr (1, [.ref q_1, .ref q_2, .ref q_3, .int 0])), (q_1, .inl (cI, 4, .inl (fun _ => 0))), (q_2, .inl (cI, 4, .inl (fun _ => 0))), (q_3, .inl (cI, 4, .inl (fun _ => 0)))] H := hP
  have hD : va_D A [(h, .inr (1, [.ref q_1, .ref q_2, .ref q_3, .int 0])), (q_1, .inl (cI, 4, .inl (fun _ => 0))), (q_2, .inl (cI, 4, .inl (fun _ => 0))), (q_3, .inl (cI, 4, .inl (fun _ => 0)))] := hD
  refine lv_aload_n hx hb d_K_Machine_init_25 rfl (lv_at hl 0 rfl) ?_
  refine lv_iconst (v := 0) hx hb d_K_Machine_init_26 (by decide) ?_
  refine va_put (D := (dC, dI)) (ci := 1) (v := .int 0) (ty := .int) (C := "KitRunner$Machine") (T := T_K_Machine) (N := 4) hx hb hts hin_K_Machine ty_K_Machine ty_K_Machine_ok nm_K_Machine hown hK hP hD hS 0 rfl rfl 3 (by decide) hf_21 (fun _ h9 => h9) rfl (by decide +kernel) rfl rfl (Nat.le_of_ble_eq_true rfl) d_K_Machine_init_27 (fun H locs hP hD hS => ?_)
  have hP : va_P (dC, dI) vwCl [(h, .inr (1, [.ref q_1, .ref q_2, .ref q_3, .int 0])), (q_1, .inl (cI, 4, .inl (fun _ => 0))), (q_2, .inl (cI, 4, .inl (fun _ => 0))), (q_3, .inl (cI, 4, .inl (fun _ => 0)))] H := hP
  have hD : va_D A [(h, .inr (1, [.ref q_1, .ref q_2, .ref q_3, .int 0])), (q_1, .inl (cI, 4, .inl (fun _ => 0))), (q_2, .inl (cI, 4, .inl (fun _ => 0))), (q_3, .inl (cI, 4, .inl (fun _ => 0)))] := hD
  have hP9 := hP.sub (ws' := [(h, .inr (1, [.ref q_1, .ref q_2, .ref q_3, .int 0])), (q_1, .inl (cI, 4, .inl (fun _ => 0))), (q_2, .inl (cI, 4, .inl (fun _ => 0))), (q_3, .inl (cI, 4, .inl (fun _ => 0)))]) [0, 1, 2, 3] rfl
  have hD9 := hD.sub (ws' := [(h, .inr (1, [.ref q_1, .ref q_2, .ref q_3, .int 0])), (q_1, .inl (cI, 4, .inl (fun _ => 0))), (q_2, .inl (cI, 4, .inl (fun _ => 0))), (q_3, .inl (cI, 4, .inl (fun _ => 0)))]) [0, 1, 2, 3] (by decide) rfl
  exact kr_vret hQ hx hb hr hlocks hK hP9 hD9 hS (q_1, q_2, q_3) rfl d_K_Machine_init_30
set_option maxHeartbeats 4000000 in
set_option maxRecDepth 100000 in
theorem c_Exc_init (l : Launch) (dC : Nat → ClassId) (dI : Nat → Nat → Nat) (cI cJ cC cZ : ClassId) (σ : kSg) (h : Nat) : kC l y_K_Exclusions_init ws_K_Exclusions_init (kRm 1 2 12 20) (dC, dI) (kTy cI cJ cC cZ) σ ([(h, .inr (2, [.null, .null, .int 0]))]) [.ref h] (kQv (dC, dI) (kTy cI cJ cC cZ) (fun u : Nat × Nat => wExc cI cJ cC cZ h u.1 u.2 k0_Exc)) 2 12 := by
  refine kr_met (cc := prog_3_method_1_code) (maxL := 1) (ret := none) (by decide) rfl (Nat.le_of_ble_eq_true rfl) ?_
  intro p e s m args below meth c A Q hQ hx hb hr hml hts hown hlocks hnm hA hP hK hD hSt ls hl
  have hS : va_S A s.heap s.heap [] := va_S.rf
  have hown : s.vm.findClass "KitRunner$Exclusions" = some m.cls := hown
  have hl : lv_has ls 1 [(0, .ref h)] := hl
  have hP : va_P (dC, dI) vwCl [(h, .inr (2, [.null, .null, .int 0]))] s.heap := hP
  have hD : va_D A [(h, .inr (2, [.null, .null, .int 0]))] := hD
  have ho1 := hts _ (List.mem_cons_of_mem _ wq_50)
  have ho2 := hts _ (List.mem_cons_of_mem _ wq_23)
  have ho3 := hts _ (List.mem_cons_of_mem _ wq_24)
  have ha_int := hts _ (List.mem_cons_of_mem _ wq_44)
  have hf_9 := hts _ (List.mem_cons_of_mem _ wq_51)
  have hin_K_Exclusions := fun w (h : w ∈ u_ws "KitRunner$Exclusions" T_K_Exclusions 3) => List.mem_cons_of_mem (Cond.code y_K_Exclusions_init prog_3_method_1_code 1 none) (in_K_Exclusions w h)
  have hf_15 := hts _ (List.mem_cons_of_mem _ wq_52)
  have hf_18 := hts _ (List.mem_cons_of_mem _ wq_53)
  refine lv_aload_n hx hb d_K_Exclusions_init_0 rfl (lv_at hl 0 rfl) ?_
  refine W.objInit hx hb hown ho1 ho2 ho3 rfl (by rw [hml]; exact hl.1) rfl d_K_Exclusions_init_1 (Nat.le_of_ble_eq_true rfl) (Nat.le_of_ble_eq_true rfl) ?_
  refine W.eq (g2 := F0 m 4 ls []) rfl ?_
  refine lv_aload_n hx hb d_K_Exclusions_init_4 rfl (lv_at hl 0 rfl) ?_
  refine lv_bipush (v := 6) hx hb d_K_Exclusions_init_5 (by decide) ?_
  refine kr_newi (N := 6) hx hb ha_int hK hP hD hS hA 0 rfl (by decide) (by decide) (by decide) (Nat.le_of_ble_eq_true rfl) (Nat.le_of_ble_eq_true rfl) d_K_Exclusions_init_7 (fun q_1 H hP hD hS => ?_)
  refine W.cs (cells' := 1) (slots' := 6) rfl rfl ?_
  have hP : va_P (dC, dI) vwCl [(h, .inr (2, [.null, .null, .int 0])), (q_1, .inl (cI, 6, .inl (fun _ => 0)))] H := hP
  have hD : va_D A [(h, .inr (2, [.null, .null, .int 0])), (q_1, .inl (cI, 6, .inl (fun _ => 0)))] := hD
  refine va_putF (D := (dC, dI)) (ci := 2) (v := .ref q_1) (ty := .array .int) (C := "KitRunner$Exclusions") (T := T_K_Exclusions) (N := 3) hx hb hts hin_K_Exclusions ty_K_Exclusions ty_K_Exclusions_ok nm_K_Exclusions hown hK hP hD hS 0 rfl rfl 0 (by decide) hf_9 (fun _ h9 => h9) rfl hnm rfl (by decide +kernel) rfl rfl (Nat.le_of_ble_eq_true rfl) d_K_Exclusions_init_9 (fun H locs hP hD hS => ?_)
  have hP : va_P (dC, dI) vwCl [(h, .inr (2, [.ref q_1, .null, .int 0])), (q_1, .inl (cI, 6, .inl (fun _ => 0)))] H := hP
  have hD : va_D A [(h, .inr (2, [.ref q_1, .null, .int 0])), (q_1, .inl (cI, 6, .inl (fun _ => 0)))] := hD
  refine lv_aload_n hx hb d_K_Exclusions_init_12 rfl (lv_at hl 0 rfl) ?_
  refine lv_bipush (v := 6) hx hb d_K_Exclusions_init_13 (by decide) ?_
  refine kr_newi (N := 6) hx hb ha_int hK hP hD hS hA 0 rfl (by decide) (by decide) (by decide) (Nat.le_of_ble_eq_true rfl) (Nat.le_of_ble_eq_true rfl) d_K_Exclusions_init_15 (fun q_2 H hP hD hS => ?_)
  refine W.cs (cells' := 2) (slots' := 12) rfl rfl ?_
  have hP : va_P (dC, dI) vwCl [(h, .inr (2, [.ref q_1, .null, .int 0])), (q_1, .inl (cI, 6, .inl (fun _ => 0))), (q_2, .inl (cI, 6, .inl (fun _ => 0)))] H := hP
  have hD : va_D A [(h, .inr (2, [.ref q_1, .null, .int 0])), (q_1, .inl (cI, 6, .inl (fun _ => 0))), (q_2, .inl (cI, 6, .inl (fun _ => 0)))] := hD
  refine va_putF (D := (dC, dI)) (ci := 2) (v := .ref q_2) (ty := .array .int) (C := "KitRunner$Exclusions") (T := T_K_Exclusions) (N := 3) hx hb hts hin_K_Exclusions ty_K_Exclusions ty_K_Exclusions_ok nm_K_Exclusions hown hK hP hD hS 0 rfl rfl 1 (by decide) hf_15 (fun _ h9 => h9) rfl hnm rfl (by decide +kernel) rfl rfl (Nat.le_of_ble_eq_true rfl) d_K_Exclusions_init_17 (fun H locs hP hD hS => ?_)
  have hP : va_P (dC, dI) vwCl [(h, .inr (2, [.ref q_1, .ref q_2, .int 0])), (q_1, .inl (cI, 6, .inl (fun _ => 0))), (q_2, .inl (cI, 6, .inl (fun _ => 0)))] H := hP
  have hD : va_D A [(h, .inr (2, [.ref q_1, .ref q_2, .int 0])), (q_1, .inl (cI, 6, .inl (fun _ => 0))), (q_2, .inl (cI, 6, .inl (fun _ => 0)))] := hD
  refine lv_aload_n hx hb d_K_Exclusions_init_20 rfl (lv_at hl 0 rfl) ?_
  refine lv_iconst (v := 0) hx hb d_K_Exclusions_init_21 (by decide) ?_
  refine va_put (D := (dC, dI)) (ci := 2) (v := .int 0) (ty := .int) (C := "KitRunner$Exclusions") (T := T_K_Exclusions) (N := 3) hx hb hts hin_K_Exclusions ty_K_Exclusions ty_K_Exclusions_ok nm_K_Exclusions hown hK hP hD hS 0 rfl rfl 2 (by decide) hf_18 (fun _ h9 => h9) rfl (by decide +kernel) rfl rfl (Nat.le_of_ble_eq_true rfl) d_K_Exclusions_init_22 (fun H locs hP hD hS => ?_)
  have hP : va_P (dC, dI) vwCl [(h, .inr (2, [.ref q_1, .ref q_2, .int 0])), (q_1, .inl (cI, 6, .inl (fun _ => 0))), (q_2, .inl (cI, 6, .inl (fun _ => 0)))] H := hP
  have hD : va_D A [(h, .inr (2, [.ref q_1, .ref q_2, .int 0])), (q_1, .inl (cI, 6, .inl (fun _ => 0))), (q_2, .inl (cI, 6, .inl (fun _ => 0)))] := hD
  have hP9 := hP.sub (ws' := [(h, .inr (2, [.ref q_1, .ref q_2, .int 0])), (q_1, .inl (cI, 6, .inl (fun _ => 0))), (q_2, .inl (cI, 6, .inl (fun _ => 0)))]) [0, 1, 2] rfl
  have hD9 := hD.sub (ws' := [(h, .inr (2, [.ref q_1, .ref q_2, .int 0])), (q_1, .inl (cI, 6, .inl (fun _ => 0))), (q_2, .inl (cI, 6, .inl (fun _ => 0)))]) [0, 1, 2] (by decide) rfl
  exact kr_vret hQ hx hb hr hlocks hK hP9 hD9 hS (q_1, q_2) rfl d_K_Exclusions_init_25
set_option maxHeartbeats 4000000 in
set_option maxRecDepth 100000 in
theorem c_PB_init (l : Launch) (dC : Nat → ClassId) (dI : Nat → Nat → Nat) (cI cJ cC cZ : ClassId) (σ : kSg) (h : Nat) : kC l y_K_PairBook_init ws_K_PairBook_init (kRm 1 3 44 20) (dC, dI) (kTy cI cJ cC cZ) σ ([(h, .inr (3, [.null, .null, .null, .int 0]))]) [.ref h] (kQv (dC, dI) (kTy cI cJ cC cZ) (fun u : Nat × Nat × Nat => wPB cI cJ cC cZ h u.1 u.2.1 u.2.2 k0_PB)) 3 44 := by
  refine kr_met (cc := prog_6_method_1_code) (maxL := 1) (ret := none) (by decide) rfl (Nat.le_of_ble_eq_true rfl) ?_
  intro p e s m args below meth c A Q hQ hx hb hr hml hts hown hlocks hnm hA hP hK hD hSt ls hl
  have hS : va_S A s.heap s.heap [] := va_S.rf
  have hown : s.vm.findClass "KitRunner$PairBook" = some m.cls := hown
  have hl : lv_has ls 1 [(0, .ref h)] := hl
  have hP : va_P (dC, dI) vwCl [(h, .inr (3, [.null, .null, .null, .int 0]))] s.heap := hP
  have hD : va_D A [(h, .inr (3, [.null, .null, .null, .int 0]))] := hD
  have ho1 := hts _ (List.mem_cons_of_mem _ wq_66)
  have ho2 := hts _ (List.mem_cons_of_mem _ wq_23)
  have ho3 := hts _ (List.mem_cons_of_mem _ wq_24)
  have ha_int := hts _ (List.mem_cons_of_mem _ wq_44)
  have hf_9 := hts _ (List.mem_cons_of_mem _ wq_67)
  have hin_K_PairBook := fun w (h : w ∈ u_ws "KitRunner$PairBook" T_K_PairBook 4) => List.mem_cons_of_mem (Cond.code y_K_PairBook_init prog_6_method_1_code 1 none) (in_K_PairBook w h)
  have hf_15 := hts _ (List.mem_cons_of_mem _ wq_68)
  have hf_18 := hts _ (List.mem_cons_of_mem _ wq_69)
  have hf_21 := hts _ (List.mem_cons_of_mem _ wq_70)
  refine lv_aload_n hx hb d_K_PairBook_init_0 rfl (lv_at hl 0 rfl) ?_
  refine W.objInit hx hb hown ho1 ho2 ho3 rfl (by rw [hml]; exact hl.1) rfl d_K_PairBook_init_1 (Nat.le_of_ble_eq_true rfl) (Nat.le_of_ble_eq_true rfl) ?_
  refine W.eq (g2 := F0 m 4 ls []) rfl ?_
  refine lv_aload_n hx hb d_K_PairBook_init_4 rfl (lv_at hl 0 rfl) ?_
  refine lv_bipush (v := 16) hx hb d_K_PairBook_init_5 (by decide) ?_
  refine kr_newi (N := 16) hx hb ha_int hK hP hD hS hA 0 rfl (by decide) (by decide) (by decide) (Nat.le_of_ble_eq_true rfl) (Nat.le_of_ble_eq_true rfl) d_K_PairBook_init_7 (fun q_1 H hP hD hS => ?_)
  refine W.cs (cells' := 1) (slots' := 16) rfl rfl ?_
  have hP : va_P (dC, dI) vwCl [(h, .inr (3, [.null, .null, .null, .int 0])), (q_1, .inl (cI, 16, .inl (fun _ => 0)))] H := hP
  have hD : va_D A [(h, .inr (3, [.null, .null, .null, .int 0])), (q_1, .inl (cI, 16, .inl (fun _ => 0)))] := hD
  refine va_putF (D := (dC, dI)) (ci := 3) (v := .ref q_1) (ty := .array .int) (C := "KitRunner$PairBook") (T := T_K_PairBook) (N := 4) hx hb hts hin_K_PairBook ty_K_PairBook ty_K_PairBook_ok nm_K_PairBook hown hK hP hD hS 0 rfl rfl 0 (by decide) hf_9 (fun _ h9 => h9) rfl hnm rfl (by decide +kernel) rfl rfl (Nat.le_of_ble_eq_true rfl) d_K_PairBook_init_9 (fun H locs hP hD hS => ?_)
  have hP : va_P (dC, dI) vwCl [(h, .inr (3, [.ref q_1, .null, .null, .int 0])), (q_1, .inl (cI, 16, .inl (fun _ => 0)))] H := hP
  have hD : va_D A [(h, .inr (3, [.ref q_1, .null, .null, .int 0])), (q_1, .inl (cI, 16, .inl (fun _ => 0)))] := hD
  refine lv_aload_n hx hb d_K_PairBook_init_12 rfl (lv_at hl 0 rfl) ?_
  refine lv_bipush (v := 16) hx hb d_K_PairBook_init_13 (by decide) ?_
  refine kr_newi (N := 16) hx hb ha_int hK hP hD hS hA 0 rfl (by decide) (by decide) (by decide) (Nat.le_of_ble_eq_true rfl) (Nat.le_of_ble_eq_true rfl) d_K_PairBook_init_15 (fun q_2 H hP hD hS => ?_)
  refine W.cs (cells' := 2) (slots' := 32) rfl rfl ?_
  have hP : va_P (dC, dI) vwCl [(h, .inr (3, [.ref q_1, .null, .null, .int 0])), (q_1, .inl (cI, 16, .inl (fun _ => 0))), (q_2, .inl (cI, 16, .inl (fun _ => 0)))] H := hP
  have hD : va_D A [(h, .inr (3, [.ref q_1, .null, .null, .int 0])), (q_1, .inl (cI, 16, .inl (fun _ => 0))), (q_2, .inl (cI, 16, .inl (fun _ => 0)))] := hD
  refine va_putF (D := (dC, dI)) (ci := 3) (v := .ref q_2) (ty := .array .int) (C := "KitRunner$PairBook") (T := T_K_PairBook) (N := 4) hx hb hts hin_K_PairBook ty_K_PairBook ty_K_PairBook_ok nm_K_PairBook hown hK hP hD hS 0 rfl rfl 1 (by decide) hf_15 (fun _ h9 => h9) rfl hnm rfl (by decide +kernel) rfl rfl (Nat.le_of_ble_eq_true rfl) d_K_PairBook_init_17 (fun H locs hP hD hS => ?_)
  have hP : va_P (dC, dI) vwCl [(h, .inr (3, [.ref q_1, .ref q_2, .null, .int 0])), (q_1, .inl (cI, 16, .inl (fun _ => 0))), (q_2, .inl (cI, 16, .inl (fun _ => 0)))] H := hP
  have hD : va_D A [(h, .inr (3, [.ref q_1, .ref q_2, .null, .int 0])), (q_1, .inl (cI, 16, .inl (fun _ => 0))), (q_2, .inl (cI, 16, .inl (fun _ => 0)))] := hD
  refine lv_aload_n hx hb d_K_PairBook_init_20 rfl (lv_at hl 0 rfl) ?_
  refine lv_bipush (v := 12) hx hb d_K_PairBook_init_21 (by decide) ?_
  refine kr_newi (N := 12) hx hb ha_int hK hP hD hS hA 0 rfl (by decide) (by decide) (by decide) (Nat.le_of_ble_eq_true rfl) (Nat.le_of_ble_eq_true rfl) d_K_PairBook_init_23 (fun q_3 H hP hD hS => ?_)
  refine W.cs (cells' := 3) (slots' := 44) rfl rfl ?_
  have hP : va_P (dC, dI) vwCl [(h, .inr (3, [.ref q_1, .ref q_2, .null, .int 0])), (q_1, .inl (cI, 16, .inl (fun _ => 0))), (q_2, .inl (cI, 16, .inl (fun _ => 0))), (q_3, .inl (cI, 12, .inl (fun _ => 0)))] H := hP
  have hD : va_D A [(h, .inr (3, [.ref q_1, .ref q_2, .null, .int 0])), (q_1, .inl (cI, 16, .inl (fun _ => 0))), (q_2, .inl (cI, 16, .inl (fun _ => 0))), (q_3, .inl (cI, 12, .inl (fun _ => 0)))] := hD
  refine va_putF (D := (dC, dI)) (ci := 3) (v := .ref q_3) (ty := .array .int) (C := "KitRunner$PairBook") (T := T_K_PairBook) (N := 4) hx hb hts hin_K_PairBook ty_K_PairBook ty_K_PairBook_ok nm_K_PairBook hown hK hP hD hS 0 rfl rfl 2 (by decide) hf_18 (fun _ h9 => h9) rfl hnm rfl (by decide +kernel) rfl rfl (Nat.le_of_ble_eq_true rfl) d_K_PairBook_init_25 (fun H locs hP hD hS => ?_)
  have hP : va_P (dC, dI) vwCl [(h, .inr (3, [.ref q_1, .ref q_2, .ref q_3, .int 0])), (q_1, .inl (cI, 16, .inl (fun _ => 0))), (q_2, .inl (cI, 16, .inl (fun _ => 0))), (q_3, .inl (cI, 12, .inl (fun _ => 0)))] H := hP
  have hD : va_D A [(h, .inr (3, [.ref q_1, .ref q_2, .ref q_3, .int 0])), (q_1, .inl (cI, 16, .inl (fun _ => 0))), (q_2, .inl (cI, 16, .inl (fun _ => 0))), (q_3, .inl (cI, 12, .inl (fun _ => 0)))] := hD
  refine lv_aload_n hx hb d_K_PairBook_init_28 rfl (lv_at hl 0 rfl) ?_
  refine lv_iconst (v := 0) hx hb d_K_PairBook_init_29 (by decide) ?_
  refine va_put (D := (dC, dI)) (ci := 3) (v := .int 0) (ty := .int) (C := "KitRunner$PairBook") (T := T_K_PairBook) (N := 4) hx hb hts hin_K_PairBook ty_K_PairBook ty_K_PairBook_ok nm_K_PairBook hown hK hP hD hS 0 rfl rfl 3 (by decide) hf_21 (fun _ h9 => h9) rfl (by decide +kernel) rfl rfl (Nat.le_of_ble_eq_true rfl) d_K_PairBook_init_30 (fun H locs hP hD hS => ?_)
  have hP : va_P (dC, dI) vwCl [(h, .inr (3, [.ref q_1, .ref q_2, .ref q_3, .int 0])), (q_1, .inl (cI, 16, .inl (fun _ => 0))), (q_2, .inl (cI, 16, .inl (fun _ => 0))), (q_3, .inl (cI, 12, .inl (fun _ => 0)))] H := hP
  have hD : va_D A [(h, .inr (3, [.ref q_1, .ref q_2, .ref q_3, .int 0])), (q_1, .inl (cI, 16, .inl (fun _ => 0))), (q_2, .inl (cI, 16, .inl (fun _ => 0))), (q_3, .inl (cI, 12, .inl (fun _ => 0)))] := hD
  have hP9 := hP.sub (ws' := [(h, .inr (3, [.ref q_1, .ref q_2, .ref q_3, .int 0])), (q_1, .inl (cI, 16, .inl (fun _ => 0))), (q_2, .inl (cI, 16, .inl (fun _ => 0))), (q_3, .inl (cI, 12, .inl (fun _ => 0)))]) [0, 1, 2, 3] rfl
  have hD9 := hD.sub (ws' := [(h, .inr (3, [.ref q_1, .ref q_2, .ref q_3, .int 0])), (q_1, .inl (cI, 16, .inl (fun _ => 0))), (q_2, .inl (cI, 16, .inl (fun _ => 0))), (q_3, .inl (cI, 12, .inl (fun _ => 0)))]) [0, 1, 2, 3] (by decide) rfl
  exact kr_vret hQ hx hb hr hlocks hK hP9 hD9 hS (q_1, q_2, q_3) rfl d_K_PairBook_init_33
set_option maxHeartbeats 4000000 in
set_option maxRecDepth 100000 in
theorem c_Tal_init (l : Launch) (dC : Nat → ClassId) (dI : Nat → Nat → Nat) (cI cJ cC cZ : ClassId) (σ : kSg) (h : Nat) : kC l y_K_Tally_init ws_K_Tally_init (kRm 1 3 48 20) (dC, dI) (kTy cI cJ cC cZ) σ ([(h, .inr (4, [.null, .null, .null, .int 0]))]) [.ref h] (kQv (dC, dI) (kTy cI cJ cC cZ) (fun u : Nat × Nat × Nat => wTal cI cJ cC cZ h u.1 u.2.1 u.2.2 k0_Tal)) 3 48 := by
  refine kr_met (cc := prog_9_method_1_code) (maxL := 1) (ret := none) (by decide) rfl (Nat.le_of_ble_eq_true rfl) ?_
  intro p e s m args below meth c A Q hQ hx hb hr hml hts hown hlocks hnm hA hP hK hD hSt ls hl
  have hS : va_S A s.heap s.heap [] := va_S.rf
  have hown : s.vm.findClass "KitRunner$Tally" = some m.cls := hown
  have hl : lv_has ls 1 [(0, .ref h)] := hl
  have hP : va_P (dC, dI) vwCl [(h, .inr (4, [.null, .null, .null, .int 0]))] s.heap := hP
  have hD : va_D A [(h, .inr (4, [.null, .null, .null, .int 0]))] := hD
  have ho1 := hts _ (List.mem_cons_of_mem _ wq_85)
  have ho2 := hts _ (List.mem_cons_of_mem _ wq_23)
  have ho3 := hts _ (List.mem_cons_of_mem _ wq_24)
  have ha_int := hts _ (List.mem_cons_of_mem _ wq_44)
  have hf_9 := hts _ (List.mem_cons_of_mem _ wq_86)
  have hin_K_Tally := fun w (h : w ∈ u_ws "KitRunner$Tally" T_K_Tally 4) => List.mem_cons_of_mem (Cond.code y_K_Tally_init prog_9_method_1_code 1 none) (in_K_Tally w h)
  have hf_15 := hts _ (List.mem_cons_of_mem _ wq_87)
  have hf_18 := hts _ (List.mem_cons_of_mem _ wq_88)
  have hf_21 := hts _ (List.mem_cons_of_mem _ wq_89)
  refine lv_aload_n hx hb d_K_Tally_init_0 rfl (lv_at hl 0 rfl) ?_
  refine W.objInit hx hb hown ho1 ho2 ho3 rfl (by rw [hml]; exact hl.1) rfl d_K_Tally_init_1 (Nat.le_of_ble_eq_true rfl) (Nat.le_of_ble_eq_true rfl) ?_
  refine W.eq (g2 := F0 m 4 ls []) rfl ?_
  refine lv_aload_n hx hb d_K_Tally_init_4 rfl (lv_at hl 0 rfl) ?_
  refine lv_bipush (v := 16) hx hb d_K_Tally_init_5 (by decide) ?_
  refine kr_newi (N := 16) hx hb ha_int hK hP hD hS hA 0 rfl (by decide) (by decide) (by decide) (Nat.le_of_ble_eq_true rfl) (Nat.le_of_ble_eq_true rfl) d_K_Tally_init_7 (fun q_1 H hP hD hS => ?_)
  refine W.cs (cells' := 1) (slots' := 16) rfl rfl ?_
  have hP : va_P (dC, dI) vwCl [(h, .inr (4, [.null, .null, .null, .int 0])), (q_1, .inl (cI, 16, .inl (fun _ => 0)))] H := hP
  have hD : va_D A [(h, .inr (4, [.null, .null, .null, .int 0])), (q_1, .inl (cI, 16, .inl (fun _ => 0)))] := hD
  refine va_putF (D := (dC, dI)) (ci := 4) (v := .ref q_1) (ty := .array .int) (C := "KitRunner$Tally") (T := T_K_Tally) (N := 4) hx hb hts hin_K_Tally ty_K_Tally ty_K_Tally_ok nm_K_Tally hown hK hP hD hS 0 rfl rfl 0 (by decide) hf_9 (fun _ h9 => h9) rfl hnm rfl (by decide +kernel) rfl rfl (Nat.le_of_ble_eq_true rfl) d_K_Tally_init_9 (fun H locs hP hD hS => ?_)
  have hP : va_P (dC, dI) vwCl [(h, .inr (4, [.ref q_1, .null, .null, .int 0])), (q_1, .inl (cI, 16, .inl (fun _ => 0)))] H := hP
  have hD : va_D A [(h, .inr (4, [.ref q_1, .null, .null, .int 0])), (q_1, .inl (cI, 16, .inl (fun _ => 0)))] := hD
  refine lv_aload_n hx hb d_K_Tally_init_12 rfl (lv_at hl 0 rfl) ?_
  refine lv_bipush (v := 16) hx hb d_K_Tally_init_13 (by decide) ?_
  refine kr_newi (N := 16) hx hb ha_int hK hP hD hS hA 0 rfl (by decide) (by decide) (by decide) (Nat.le_of_ble_eq_true rfl) (Nat.le_of_ble_eq_true rfl) d_K_Tally_init_15 (fun q_2 H hP hD hS => ?_)
  refine W.cs (cells' := 2) (slots' := 32) rfl rfl ?_
  have hP : va_P (dC, dI) vwCl [(h, .inr (4, [.ref q_1, .null, .null, .int 0])), (q_1, .inl (cI, 16, .inl (fun _ => 0))), (q_2, .inl (cI, 16, .inl (fun _ => 0)))] H := hP
  have hD : va_D A [(h, .inr (4, [.ref q_1, .null, .null, .int 0])), (q_1, .inl (cI, 16, .inl (fun _ => 0))), (q_2, .inl (cI, 16, .inl (fun _ => 0)))] := hD
  refine va_putF (D := (dC, dI)) (ci := 4) (v := .ref q_2) (ty := .array .int) (C := "KitRunner$Tally") (T := T_K_Tally) (N := 4) hx hb hts hin_K_Tally ty_K_Tally ty_K_Tally_ok nm_K_Tally hown hK hP hD hS 0 rfl rfl 1 (by decide) hf_15 (fun _ h9 => h9) rfl hnm rfl (by decide +kernel) rfl rfl (Nat.le_of_ble_eq_true rfl) d_K_Tally_init_17 (fun H locs hP hD hS => ?_)
  have hP : va_P (dC, dI) vwCl [(h, .inr (4, [.ref q_1, .ref q_2, .null, .int 0])), (q_1, .inl (cI, 16, .inl (fun _ => 0))), (q_2, .inl (cI, 16, .inl (fun _ => 0)))] H := hP
  have hD : va_D A [(h, .inr (4, [.ref q_1, .ref q_2, .null, .int 0])), (q_1, .inl (cI, 16, .inl (fun _ => 0))), (q_2, .inl (cI, 16, .inl (fun _ => 0)))] := hD
  refine lv_aload_n hx hb d_K_Tally_init_20 rfl (lv_at hl 0 rfl) ?_
  refine lv_bipush (v := 16) hx hb d_K_Tally_init_21 (by decide) ?_
  refine kr_newi (N := 16) hx hb ha_int hK hP hD hS hA 0 rfl (by decide) (by decide) (by decide) (Nat.le_of_ble_eq_true rfl) (Nat.le_of_ble_eq_true rfl) d_K_Tally_init_23 (fun q_3 H hP hD hS => ?_)
  refine W.cs (cells' := 3) (slots' := 48) rfl rfl ?_
  have hP : va_P (dC, dI) vwCl [(h, .inr (4, [.ref q_1, .ref q_2, .null, .int 0])), (q_1, .inl (cI, 16, .inl (fun _ => 0))), (q_2, .inl (cI, 16, .inl (fun _ => 0))), (q_3, .inl (cI, 16, .inl (fun _ => 0)))] H := hP
  have hD : va_D A [(h, .inr (4, [.ref q_1, .ref q_2, .null, .int 0])), (q_1, .inl (cI, 16, .inl (fun _ => 0))), (q_2, .inl (cI, 16, .inl (fun _ => 0))), (q_3, .inl (cI, 16, .inl (fun _ => 0)))] := hD
  refine va_putF (D := (dC, dI)) (ci := 4) (v := .ref q_3) (ty := .array .int) (C := "KitRunner$Tally") (T := T_K_Tally) (N := 4) hx hb hts hin_K_Tally ty_K_Tally ty_K_Tally_ok nm_K_Tally hown hK hP hD hS 0 rfl rfl 2 (by decide) hf_18 (fun _ h9 => h9) rfl hnm rfl (by decide +kernel) rfl rfl (Nat.le_of_ble_eq_true rfl) d_K_Tally_init_25 (fun H locs hP hD hS => ?_)
  have hP : va_P (dC, dI) vwCl [(h, .inr (4, [.ref q_1, .ref q_2, .ref q_3, .int 0])), (q_1, .inl (cI, 16, .inl (fun _ => 0))), (q_2, .inl (cI, 16, .inl (fun _ => 0))), (q_3, .inl (cI, 16, .inl (fun _ => 0)))] H := hP
  have hD : va_D A [(h, .inr (4, [.ref q_1, .ref q_2, .ref q_3, .int 0])), (q_1, .inl (cI, 16, .inl (fun _ => 0))), (q_2, .inl (cI, 16, .inl (fun _ => 0))), (q_3, .inl (cI, 16, .inl (fun _ => 0)))] := hD
  refine lv_aload_n hx hb d_K_Tally_init_28 rfl (lv_at hl 0 rfl) ?_
  refine lv_iconst (v := 0) hx hb d_K_Tally_init_29 (by decide) ?_
  refine va_put (D := (dC, dI)) (ci := 4) (v := .int 0) (ty := .int) (C := "KitRunner$Tally") (T := T_K_Tally) (N := 4) hx hb hts hin_K_Tally ty_K_Tally ty_K_Tally_ok nm_K_Tally hown hK hP hD hS 0 rfl rfl 3 (by decide) hf_21 (fun _ h9 => h9) rfl (by decide +kernel) rfl rfl (Nat.le_of_ble_eq_true rfl) d_K_Tally_init_30 (fun H locs hP hD hS => ?_)
  have hP : va_P (dC, dI) vwCl [(h, .inr (4, [.ref q_1, .ref q_2, .ref q_3, .int 0])), (q_1, .inl (cI, 16, .inl (fun _ => 0))), (q_2, .inl (cI, 16, .inl (fun _ => 0))), (q_3, .inl (cI, 16, .inl (fun _ => 0)))] H := hP
  have hD : va_D A [(h, .inr (4, [.ref q_1, .ref q_2, .ref q_3, .int 0])), (q_1, .inl (cI, 16, .inl (fun _ => 0))), (q_2, .inl (cI, 16, .inl (fun _ => 0))), (q_3, .inl (cI, 16, .inl (fun _ => 0)))] := hD
  have hP9 := hP.sub (ws' := [(h, .inr (4, [.ref q_1, .ref q_2, .ref q_3, .int 0])), (q_1, .inl (cI, 16, .inl (fun _ => 0))), (q_2, .inl (cI, 16, .inl (fun _ => 0))), (q_3, .inl (cI, 16, .inl (fun _ => 0)))]) [0, 1, 2, 3] rfl
  have hD9 := hD.sub (ws' := [(h, .inr (4, [.ref q_1, .ref q_2, .ref q_3, .int 0])), (q_1, .inl (cI, 16, .inl (fun _ => 0))), (q_2, .inl (cI, 16, .inl (fun _ => 0))), (q_3, .inl (cI, 16, .inl (fun _ => 0)))]) [0, 1, 2, 3] (by decide) rfl
  exact kr_vret hQ hx hb hr hlocks hK hP9 hD9 hS (q_1, q_2, q_3) rfl d_K_Tally_init_33
set_option maxHeartbeats 4000000 in
set_option maxRecDepth 100000 in
theorem c_FL_init (l : Launch) (dC : Nat → ClassId) (dI : Nat → Nat → Nat) (cI cJ cC cZ : ClassId) (σ : kSg) (h : Nat) : kC l y_K_FailureList_init ws_K_FailureList_init (kRm 1 5 60 20) (dC, dI) (kTy cI cJ cC cZ) σ ([(h, .inr (5, [.null, .null, .null, .null, .null, .int 0]))]) [.ref h] (kQv (dC, dI) (kTy cI cJ cC cZ) (fun u : Nat × Nat × Nat × Nat × Nat => wFL cI cJ cC cZ h u.1 u.2.1 u.2.2.1 u.2.2.2.1 u.2.2.2.2 k0_FL)) 5 60 := by
  refine kr_met (cc := prog_4_method_1_code) (maxL := 1) (ret := none) (by decide) rfl (Nat.le_of_ble_eq_true rfl) ?_
  intro p e s m args below meth c A Q hQ hx hb hr hml hts hown hlocks hnm hA hP hK hD hSt ls hl
  have hS : va_S A s.heap s.heap [] := va_S.rf
  have hown : s.vm.findClass "KitRunner$FailureList" = some m.cls := hown
  have hl : lv_has ls 1 [(0, .ref h)] := hl
  have hP : va_P (dC, dI) vwCl [(h, .inr (5, [.null, .null, .null, .null, .null, .int 0]))] s.heap := hP
  have hD : va_D A [(h, .inr (5, [.null, .null, .null, .null, .null, .int 0]))] := hD
  have ho1 := hts _ (List.mem_cons_of_mem _ wq_104)
  have ho2 := hts _ (List.mem_cons_of_mem _ wq_23)
  have ho3 := hts _ (List.mem_cons_of_mem _ wq_24)
  have ha_int := hts _ (List.mem_cons_of_mem _ wq_44)
  have hf_9 := hts _ (List.mem_cons_of_mem _ wq_105)
  have hin_K_FailureList := fun w (h : w ∈ u_ws "KitRunner$FailureList" T_K_FailureList 6) => List.mem_cons_of_mem (Cond.code y_K_FailureList_init prog_4_method_1_code 1 none) (in_K_FailureList w h)
  have hf_15 := hts _ (List.mem_cons_of_mem _ wq_106)
  have hf_18 := hts _ (List.mem_cons_of_mem _ wq_107)
  have ha_long := hts _ (List.mem_cons_of_mem _ wq_124)
  have hf_21 := hts _ (List.mem_cons_of_mem _ wq_108)
  have hf_25 := hts _ (List.mem_cons_of_mem _ wq_109)
  have hf_28 := hts _ (List.mem_cons_of_mem _ wq_110)
  refine lv_aload_n hx hb d_K_FailureList_init_0 rfl (lv_at hl 0 rfl) ?_
  refine W.objInit hx hb hown ho1 ho2 ho3 rfl (by rw [hml]; exact hl.1) rfl d_K_FailureList_init_1 (Nat.le_of_ble_eq_true rfl) (Nat.le_of_ble_eq_true rfl) ?_
  refine W.eq (g2 := F0 m 4 ls []) rfl ?_
  refine lv_aload_n hx hb d_K_FailureList_init_4 rfl (lv_at hl 0 rfl) ?_
  refine lv_bipush (v := 12) hx hb d_K_FailureList_init_5 (by decide) ?_
  refine kr_newi (N := 12) hx hb ha_int hK hP hD hS hA 0 rfl (by decide) (by decide) (by decide) (Nat.le_of_ble_eq_true rfl) (Nat.le_of_ble_eq_true rfl) d_K_FailureList_init_7 (fun q_1 H hP hD hS => ?_)
  refine W.cs (cells' := 1) (slots' := 12) rfl rfl ?_
  have hP : va_P (dC, dI) vwCl [(h, .inr (5, [.null, .null, .null, .null, .null, .int 0])), (q_1, .inl (cI, 12, .inl (fun _ => 0)))] H := hP
  have hD : va_D A [(h, .inr (5, [.null, .null, .null, .null, .null, .int 0])), (q_1, .inl (cI, 12, .inl (fun _ => 0)))] := hD
  refine va_putF (D := (dC, dI)) (ci := 5) (v := .ref q_1) (ty := .array .int) (C := "KitRunner$FailureList") (T := T_K_FailureList) (N := 6) hx hb hts hin_K_FailureList ty_K_FailureList ty_K_FailureList_ok nm_K_FailureList hown hK hP hD hS 0 rfl rfl 0 (by decide) hf_9 (fun _ h9 => h9) rfl hnm rfl (by decide +kernel) rfl rfl (Nat.le_of_ble_eq_true rfl) d_K_FailureList_init_9 (fun H locs hP hD hS => ?_)
  have hP : va_P (dC, dI) vwCl [(h, .inr (5, [.ref q_1, .null, .null, .null, .null, .int 0])), (q_1, .inl (cI, 12, .inl (fun _ => 0)))] H := hP
  have hD : va_D A [(h, .inr (5, [.ref q_1, .null, .null, .null, .null, .int 0])), (q_1, .inl (cI, 12, .inl (fun _ => 0)))] := hD
  refine lv_aload_n hx hb d_K_FailureList_init_12 rfl (lv_at hl 0 rfl) ?_
  refine lv_bipush (v := 12) hx hb d_K_FailureList_init_13 (by decide) ?_
  refine kr_newi (N := 12) hx hb ha_int hK hP hD hS hA 0 rfl (by decide) (by decide) (by decide) (Nat.le_of_ble_eq_true rfl) (Nat.le_of_ble_eq_true rfl) d_K_FailureList_init_15 (fun q_2 H hP hD hS => ?_)
  refine W.cs (cells' := 2) (slots' := 24) rfl rfl ?_
  have hP : va_P (dC, dI) vwCl [(h, .inr (5, [.ref q_1, .null, .null, .null, .null, .int 0])), (q_1, .inl (cI, 12, .inl (fun _ => 0))), (q_2, .inl (cI, 12, .inl (fun _ => 0)))] H := hP
  have hD : va_D A [(h, .inr (5, [.ref q_1, .null, .null, .null, .null, .int 0])), (q_1, .inl (cI, 12, .inl (fun _ => 0))), (q_2, .inl (cI, 12, .inl (fun _ => 0)))] := hD
  refine va_putF (D := (dC, dI)) (ci := 5) (v := .ref q_2) (ty := .array .int) (C := "KitRunner$FailureList") (T := T_K_FailureList) (N := 6) hx hb hts hin_K_FailureList ty_K_FailureList ty_K_FailureList_ok nm_K_FailureList hown hK hP hD hS 0 rfl rfl 1 (by decide) hf_15 (fun _ h9 => h9) rfl hnm rfl (by decide +kernel) rfl rfl (Nat.le_of_ble_eq_true rfl) d_K_FailureList_init_17 (fun H locs hP hD hS => ?_)
  have hP : va_P (dC, dI) vwCl [(h, .inr (5, [.ref q_1, .ref q_2, .null, .null, .null, .int 0])), (q_1, .inl (cI, 12, .inl (fun _ => 0))), (q_2, .inl (cI, 12, .inl (fun _ => 0)))] H := hP
  have hD : va_D A [(h, .inr (5, [.ref q_1, .ref q_2, .null, .null, .null, .int 0])), (q_1, .inl (cI, 12, .inl (fun _ => 0))), (q_2, .inl (cI, 12, .inl (fun _ => 0)))] := hD
  refine lv_aload_n hx hb d_K_FailureList_init_20 rfl (lv_at hl 0 rfl) ?_
  refine lv_bipush (v := 12) hx hb d_K_FailureList_init_21 (by decide) ?_
  refine kr_newi (N := 12) hx hb ha_int hK hP hD hS hA 0 rfl (by decide) (by decide) (by decide) (Nat.le_of_ble_eq_true rfl) (Nat.le_of_ble_eq_true rfl) d_K_FailureList_init_23 (fun q_3 H hP hD hS => ?_)
  refine W.cs (cells' := 3) (slots' := 36) rfl rfl ?_
  have hP : va_P (dC, dI) vwCl [(h, .inr (5, [.ref q_1, .ref q_2, .null, .null, .null, .int 0])), (q_1, .inl (cI, 12, .inl (fun _ => 0))), (q_2, .inl (cI, 12, .inl (fun _ => 0))), (q_3, .inl (cI, 12, .inl (fun _ => 0)))] H := hP
  have hD : va_D A [(h, .inr (5, [.ref q_1, .ref q_2, .null, .null, .null, .int 0])), (q_1, .inl (cI, 12, .inl (fun _ => 0))), (q_2, .inl (cI, 12, .inl (fun _ => 0))), (q_3, .inl (cI, 12, .inl (fun _ => 0)))] := hD
  refine va_putF (D := (dC, dI)) (ci := 5) (v := .ref q_3) (ty := .array .int) (C := "KitRunner$FailureList") (T := T_K_FailureList) (N := 6) hx hb hts hin_K_FailureList ty_K_FailureList ty_K_FailureList_ok nm_K_FailureList hown hK hP hD hS 0 rfl rfl 2 (by decide) hf_18 (fun _ h9 => h9) rfl hnm rfl (by decide +kernel) rfl rfl (Nat.le_of_ble_eq_true rfl) d_K_FailureList_init_25 (fun H locs hP hD hS => ?_)
  have hP : va_P (dC, dI) vwCl [(h, .inr (5, [.ref q_1, .ref q_2, .ref q_3, .null, .null, .int 0])), (q_1, .inl (cI, 12, .inl (fun _ => 0))), (q_2, .inl (cI, 12, .inl (fun _ => 0))), (q_3, .inl (cI, 12, .inl (fun _ => 0)))] H := hP
  have hD : va_D A [(h, .inr (5, [.ref q_1, .ref q_2, .ref q_3, .null, .null, .int 0])), (q_1, .inl (cI, 12, .inl (fun _ => 0))), (q_2, .inl (cI, 12, .inl (fun _ => 0))), (q_3, .inl (cI, 12, .inl (fun _ => 0)))] := hD
  refine lv_aload_n hx hb d_K_FailureList_init_28 rfl (lv_at hl 0 rfl) ?_
  refine lv_bipush (v := 12) hx hb d_K_FailureList_init_29 (by decide) ?_
  refine kr_newl (N := 12) hx hb ha_long hK hP hD hS hA 1 rfl (by decide) (by decide) (by decide) (Nat.le_of_ble_eq_true rfl) (Nat.le_of_ble_eq_true rfl) d_K_FailureList_init_31 (fun q_4 H hP hD hS => ?_)
  refine W.cs (cells' := 4) (slots' := 48) rfl rfl ?_
  have hP : va_P (dC, dI) vwCl [(h, .inr (5, [.ref q_1, .ref q_2, .ref q_3, .null, .null, .int 0])), (q_1, .inl (cI, 12, .inl (fun _ => 0))), (q_2, .inl (cI, 12, .inl (fun _ => 0))), (q_3, .inl (cI, 12, .inl (fun _ => 0))), (q_4, .inl (cJ, 12, .inr (.inl (fun _ => 0))))] H := hP
  have hD : va_D A [(h, .inr (5, [.ref q_1, .ref q_2, .ref q_3, .null, .null, .int 0])), (q_1, .inl (cI, 12, .inl (fun _ => 0))), (q_2, .inl (cI, 12, .inl (fun _ => 0))), (q_3, .inl (cI, 12, .inl (fun _ => 0))), (q_4, .inl (cJ, 12, .inr (.inl (fun _ => 0))))] := hD
  refine va_putF (D := (dC, dI)) (ci := 5) (v := .ref q_4) (ty := .array .long) (C := "KitRunner$FailureList") (T := T_K_FailureList) (N := 6) hx hb hts hin_K_FailureList ty_K_FailureList ty_K_FailureList_ok nm_K_FailureList hown hK hP hD hS 0 rfl rfl 3 (by decide) hf_21 (fun _ h9 => h9) rfl hnm rfl (by decide +kernel) rfl rfl (Nat.le_of_ble_eq_true rfl) d_K_FailureList_init_33 (fun H locs hP hD hS => ?_)
  have hP : va_P (dC, dI) vwCl [(h, .inr (5, [.ref q_1, .ref q_2, .ref q_3, .ref q_4, .null, .int 0])), (q_1, .inl (cI, 12, .inl (fun _ => 0))), (q_2, .inl (cI, 12, .inl (fun _ => 0))), (q_3, .inl (cI, 12, .inl (fun _ => 0))), (q_4, .inl (cJ, 12, .inr (.inl (fun _ => 0))))] H := hP
  have hD : va_D A [(h, .inr (5, [.ref q_1, .ref q_2, .ref q_3, .ref q_4, .null, .int 0])), (q_1, .inl (cI, 12, .inl (fun _ => 0))), (q_2, .inl (cI, 12, .inl (fun _ => 0))), (q_3, .inl (cI, 12, .inl (fun _ => 0))), (q_4, .inl (cJ, 12, .inr (.inl (fun _ => 0))))] := hD
  refine lv_aload_n hx hb d_K_FailureList_init_36 rfl (lv_at hl 0 rfl) ?_
  refine lv_bipush (v := 12) hx hb d_K_FailureList_init_37 (by decide) ?_
  refine kr_newl (N := 12) hx hb ha_long hK hP hD hS hA 1 rfl (by decide) (by decide) (by decide) (Nat.le_of_ble_eq_true rfl) (Nat.le_of_ble_eq_true rfl) d_K_FailureList_init_39 (fun q_5 H hP hD hS => ?_)
  refine W.cs (cells' := 5) (slots' := 60) rfl rfl ?_
  have hP : va_P (dC, dI) vwCl [(h, .inr (5, [.ref q_1, .ref q_2, .ref q_3, .ref q_4, .null, .int 0])), (q_1, .inl (cI, 12, .inl (fun _ => 0))), (q_2, .inl (cI, 12, .inl (fun _ => 0))), (q_3, .inl (cI, 12, .inl (fun _ => 0))), (q_4, .inl (cJ, 12, .inr (.inl (fun _ => 0)))), (q_5, .inl (cJ, 12, .inr (.inl (fun _ => 0))))] H := hP
  have hD : va_D A [(h, .inr (5, [.ref q_1, .ref q_2, .ref q_3, .ref q_4, .null, .int 0])), (q_1, .inl (cI, 12, .inl (fun _ => 0))), (q_2, .inl (cI, 12, .inl (fun _ => 0))), (q_3, .inl (cI, 12, .inl (fun _ => 0))), (q_4, .inl (cJ, 12, .inr (.inl (fun _ => 0)))), (q_5, .inl (cJ, 12, .inr (.inl (fun _ => 0))))] := hD
  refine va_putF (D := (dC, dI)) (ci := 5) (v := .ref q_5) (ty := .array .long) (C := "KitRunner$FailureList") (T := T_K_FailureList) (N := 6) hx hb hts hin_K_FailureList ty_K_FailureList ty_K_FailureList_ok nm_K_FailureList hown hK hP hD hS 0 rfl rfl 4 (by decide) hf_25 (fun _ h9 => h9) rfl hnm rfl (by decide +kernel) rfl rfl (Nat.le_of_ble_eq_true rfl) d_K_FailureList_init_41 (fun H locs hP hD hS => ?_)
  have hP : va_P (dC, dI) vwCl [(h, .inr (5, [.ref q_1, .ref q_2, .ref q_3, .ref q_4, .ref q_5, .int 0])), (q_1, .inl (cI, 12, .inl (fun _ => 0))), (q_2, .inl (cI, 12, .inl (fun _ => 0))), (q_3, .inl (cI, 12, .inl (fun _ => 0))), (q_4, .inl (cJ, 12, .inr (.inl (fun _ => 0)))), (q_5, .inl (cJ, 12, .inr (.inl (fun _ => 0))))] H := hP
  have hD : va_D A [(h, .inr (5, [.ref q_1, .ref q_2, .ref q_3, .ref q_4, .ref q_5, .int 0])), (q_1, .inl (cI, 12, .inl (fun _ => 0))), (q_2, .inl (cI, 12, .inl (fun _ => 0))), (q_3, .inl (cI, 12, .inl (fun _ => 0))), (q_4, .inl (cJ, 12, .inr (.inl (fun _ => 0)))), (q_5, .inl (cJ, 12, .inr (.inl (fun _ => 0))))] := hD
  refine lv_aload_n hx hb d_K_FailureList_init_44 rfl (lv_at hl 0 rfl) ?_
  refine lv_iconst (v := 0) hx hb d_K_FailureList_init_45 (by decide) ?_
  refine va_put (D := (dC, dI)) (ci := 5) (v := .int 0) (ty := .int) (C := "KitRunner$FailureList") (T := T_K_FailureList) (N := 6) hx hb hts hin_K_FailureList ty_K_FailureList ty_K_FailureList_ok nm_K_FailureList hown hK hP hD hS 0 rfl rfl 5 (by decide) hf_28 (fun _ h9 => h9) rfl (by decide +kernel) rfl rfl (Nat.le_of_ble_eq_true rfl) d_K_FailureList_init_46 (fun H locs hP hD hS => ?_)
  have hP : va_P (dC, dI) vwCl [(h, .inr (5, [.ref q_1, .ref q_2, .ref q_3, .ref q_4, .ref q_5, .int 0])), (q_1, .inl (cI, 12, .inl (fun _ => 0))), (q_2, .inl (cI, 12, .inl (fun _ => 0))), (q_3, .inl (cI, 12, .inl (fun _ => 0))), (q_4, .inl (cJ, 12, .inr (.inl (fun _ => 0)))), (q_5, .inl (cJ, 12, .inr (.inl (fun _ => 0))))] H := hP
  have hD : va_D A [(h, .inr (5, [.ref q_1, .ref q_2, .ref q_3, .ref q_4, .ref q_5, .int 0])), (q_1, .inl (cI, 12, .inl (fun _ => 0))), (q_2, .inl (cI, 12, .inl (fun _ => 0))), (q_3, .inl (cI, 12, .inl (fun _ => 0))), (q_4, .inl (cJ, 12, .inr (.inl (fun _ => 0)))), (q_5, .inl (cJ, 12, .inr (.inl (fun _ => 0))))] := hD
  have hP9 := hP.sub (ws' := [(h, .inr (5, [.ref q_1, .ref q_2, .ref q_3, .ref q_4, .ref q_5, .int 0])), (q_1, .inl (cI, 12, .inl (fun _ => 0))), (q_2, .inl (cI, 12, .inl (fun _ => 0))), (q_3, .inl (cI, 12, .inl (fun _ => 0))), (q_4, .inl (cJ, 12, .inr (.inl (fun _ => 0)))), (q_5, .inl (cJ, 12, .inr (.inl (fun _ => 0))))]) [0, 1, 2, 3, 4, 5] rfl
  have hD9 := hD.sub (ws' := [(h, .inr (5, [.ref q_1, .ref q_2, .ref q_3, .ref q_4, .ref q_5, .int 0])), (q_1, .inl (cI, 12, .inl (fun _ => 0))), (q_2, .inl (cI, 12, .inl (fun _ => 0))), (q_3, .inl (cI, 12, .inl (fun _ => 0))), (q_4, .inl (cJ, 12, .inr (.inl (fun _ => 0)))), (q_5, .inl (cJ, 12, .inr (.inl (fun _ => 0))))]) [0, 1, 2, 3, 4, 5] (by decide) rfl
  exact kr_vret hQ hx hb hr hlocks hK hP9 hD9 hS (q_1, q_2, q_3, q_4, q_5) rfl d_K_FailureList_init_49
set_option maxHeartbeats 4000000 in
set_option maxRecDepth 100000 in
theorem c_Rep_init (l : Launch) (dC : Nat → ClassId) (dI : Nat → Nat → Nat) (cI cJ cC cZ : ClassId) (σ : kSg) (h : Nat) : kC l y_K_Report_init ws_K_Report_init (kRm 1 1 256 20) (dC, dI) (kTy cI cJ cC cZ) σ ([(h, .inr (6, [.null, .int 0]))]) [.ref h] (kQv (dC, dI) (kTy cI cJ cC cZ) (fun u : Nat => wRep cI cJ cC cZ h u k0_Rep)) 1 256 := by
  refine kr_met (cc := prog_7_method_1_code) (maxL := 1) (ret := none) (by decide) rfl (Nat.le_of_ble_eq_true rfl) ?_
  intro p e s m args below meth c A Q hQ hx hb hr hml hts hown hlocks hnm hA hP hK hD hSt ls hl
  have hS : va_S A s.heap s.heap [] := va_S.rf
  have hown : s.vm.findClass "KitRunner$Report" = some m.cls := hown
  have hl : lv_has ls 1 [(0, .ref h)] := hl
  have hP : va_P (dC, dI) vwCl [(h, .inr (6, [.null, .int 0]))] s.heap := hP
  have hD : va_D A [(h, .inr (6, [.null, .int 0]))] := hD
  have ho1 := hts _ (List.mem_cons_of_mem _ wq_130)
  have ho2 := hts _ (List.mem_cons_of_mem _ wq_23)
  have ho3 := hts _ (List.mem_cons_of_mem _ wq_24)
  have ha_char := hts _ (List.mem_cons_of_mem _ wq_138)
  have hf_9 := hts _ (List.mem_cons_of_mem _ wq_131)
  have hin_K_Report := fun w (h : w ∈ u_ws "KitRunner$Report" T_K_Report 2) => List.mem_cons_of_mem (Cond.code y_K_Report_init prog_7_method_1_code 1 none) (in_K_Report w h)
  have hf_15 := hts _ (List.mem_cons_of_mem _ wq_132)
  refine lv_aload_n hx hb d_K_Report_init_0 rfl (lv_at hl 0 rfl) ?_
  refine W.objInit hx hb hown ho1 ho2 ho3 rfl (by rw [hml]; exact hl.1) rfl d_K_Report_init_1 (Nat.le_of_ble_eq_true rfl) (Nat.le_of_ble_eq_true rfl) ?_
  refine W.eq (g2 := F0 m 4 ls []) rfl ?_
  refine lv_aload_n hx hb d_K_Report_init_4 rfl (lv_at hl 0 rfl) ?_
  refine lv_sipush (v := 256) hx hb d_K_Report_init_5 (by decide) ?_
  refine kr_newc (N := 256) hx hb ha_char hK hP hD hS hA 2 rfl (by decide) (by decide) (by decide) (Nat.le_of_ble_eq_true rfl) (Nat.le_of_ble_eq_true rfl) d_K_Report_init_8 (fun q_1 H hP hD hS => ?_)
  refine W.cs (cells' := 1) (slots' := 256) rfl rfl ?_
  have hP : va_P (dC, dI) vwCl [(h, .inr (6, [.null, .int 0])), (q_1, .inl (cC, 256, .inl (fun _ => 0)))] H := hP
  have hD : va_D A [(h, .inr (6, [.null, .int 0])), (q_1, .inl (cC, 256, .inl (fun _ => 0)))] := hD
  refine va_putF (D := (dC, dI)) (ci := 6) (v := .ref q_1) (ty := .array .char) (C := "KitRunner$Report") (T := T_K_Report) (N := 2) hx hb hts hin_K_Report ty_K_Report ty_K_Report_ok nm_K_Report hown hK hP hD hS 0 rfl rfl 0 (by decide) hf_9 (fun _ h9 => h9) rfl hnm rfl (by decide +kernel) rfl rfl (Nat.le_of_ble_eq_true rfl) d_K_Report_init_10 (fun H locs hP hD hS => ?_)
  have hP : va_P (dC, dI) vwCl [(h, .inr (6, [.ref q_1, .int 0])), (q_1, .inl (cC, 256, .inl (fun _ => 0)))] H := hP
  have hD : va_D A [(h, .inr (6, [.ref q_1, .int 0])), (q_1, .inl (cC, 256, .inl (fun _ => 0)))] := hD
  refine lv_aload_n hx hb d_K_Report_init_13 rfl (lv_at hl 0 rfl) ?_
  refine lv_iconst (v := 0) hx hb d_K_Report_init_14 (by decide) ?_
  refine va_put (D := (dC, dI)) (ci := 6) (v := .int 0) (ty := .int) (C := "KitRunner$Report") (T := T_K_Report) (N := 2) hx hb hts hin_K_Report ty_K_Report ty_K_Report_ok nm_K_Report hown hK hP hD hS 0 rfl rfl 1 (by decide) hf_15 (fun _ h9 => h9) rfl (by decide +kernel) rfl rfl (Nat.le_of_ble_eq_true rfl) d_K_Report_init_15 (fun H locs hP hD hS => ?_)
  have hP : va_P (dC, dI) vwCl [(h, .inr (6, [.ref q_1, .int 0])), (q_1, .inl (cC, 256, .inl (fun _ => 0)))] H := hP
  have hD : va_D A [(h, .inr (6, [.ref q_1, .int 0])), (q_1, .inl (cC, 256, .inl (fun _ => 0)))] := hD
  have hP9 := hP.sub (ws' := [(h, .inr (6, [.ref q_1, .int 0])), (q_1, .inl (cC, 256, .inl (fun _ => 0)))]) [0, 1] rfl
  have hD9 := hD.sub (ws' := [(h, .inr (6, [.ref q_1, .int 0])), (q_1, .inl (cC, 256, .inl (fun _ => 0)))]) [0, 1] (by decide) rfl
  exact kr_vret hQ hx hb hr hlocks hK hP9 hD9 hS q_1 rfl d_K_Report_init_18
