set_option maxHeartbeats 4000000 in
set_option maxRecDepth 100000 in
theorem rc_outcome (l : Launch) (dC : Nat → ClassId) (dI : Nat → Nat → Nat) (cI cJ cC cZ : ClassId) (σ : kSg) (g g_0 g_1 g_2 g_3 g_4 g_9 g_10 g_11 g_12 g_13 g_14 g_19 g_20 g_21 : Nat) (e0 : Int32) (a0 : Int32) (b0 : Int32) (mc0 : Bool) : kC l y_RM_outcome ws_RM_outcome (kRm 3 0 0 72) (dC, dI) (kTy cI cJ cC cZ) σ ([(g, .inr (8, [.ref g_0, .ref g_1, .ref g_2, .ref g_3, .ref g_4, .int 0, .int 0, .int 65535, .int 0, .ref g_9, .ref g_10, .ref g_11, .ref g_12, .ref g_13, .ref g_14, .int 0, .int 0, .int 0, .int 0, .ref g_19, .ref g_20, .ref g_21, .int 0, .int 0, .int 0]))]) [.ref g, .int e0, .int a0, .int b0, .int (kb mc0)] (kQl (dC, dI) (kTy cI cJ cC cZ) (r_outcome e0 a0 b0) (fun _ : Unit => [])) 0 0 := by
  refine kr_met (cc := prog_12_method_13_code) (maxL := 5) (ret := (some .long)) (by decide) rfl (Nat.le_of_ble_eq_true rfl) ?_
  intro p e s m args below meth c A Q hQ hx hb hr hml hts hown hlocks hnm hA hP hK hD hSt ls hl
  have hS : va_S A s.heap s.heap [] := va_S.rf
  have hown : s.vm.findClass "KitRunnerModel" = some m.cls := hown
  have hl : lv_has ls 5 [(0, .ref g), (1, .int e0), (2, .int a0), (3, .int b0), (4, .int (kb mc0))] := hl
  have hP : va_P (dC, dI) vwCl [(g, .inr (8, [.ref g_0, .ref g_1, .ref g_2, .ref g_3, .ref g_4, .int 0, .int 0, .int 65535, .int 0, .ref g_9, .ref g_10, .ref g_11, .ref g_12, .ref g_13, .ref g_14, .int 0, .int 0, .int 0, .int 0, .ref g_19, .ref g_20, .ref g_21, .int 0, .int 0, .int 0]))] s.heap := hP
  have hD : va_D A [(g, .inr (8, [.ref g_0, .ref g_1, .ref g_2, .ref g_3, .ref g_4, .int 0, .int 0, .int 65535, .int 0, .ref g_9, .ref g_10, .ref g_11, .ref g_12, .ref g_13, .ref g_14, .int 0, .int 0, .int 0, .int 0, .ref g_19, .ref g_20, .ref g_21, .int 0, .int 0, .int 0]))] := hD
  have hini_RM := hts _ (List.mem_cons_of_mem _ wq_9)
  have hm_94 := hts _ (List.mem_cons_of_mem _ wq_657)
  have hs_94 := hts _ (List.mem_cons_of_mem _ wq_658)
  have hm_132 := hts _ (List.mem_cons_of_mem _ wq_705)
  have hs_132 := hts _ (List.mem_cons_of_mem _ wq_706)
  have hm_142 := hts _ (List.mem_cons_of_mem _ wq_701)
  have hi_142 := hts _ (List.mem_cons_of_mem _ wq_703)
  have hv_142 := hts _ (List.mem_cons_of_mem _ sq_7)
  have hk_140 := hts _ (List.mem_cons_of_mem _ wq_700)
  refine lv_iload_n hx hb d_RM_outcome_0 rfl (lv_at hl 1 rfl) ?_
  refine lv_bipush (v := 16) hx hb d_RM_outcome_1 (by decide) ?_
  have hpre_1 := kr_pre (wc := []) (av := [.int e0, .int 16]) hK hP hD hS hA hSt [] rfl (by decide)
  refine kj_i (wc := []) (wr := [(g, .inr (8, [.ref g_0, .ref g_1, .ref g_2, .ref g_3, .ref g_4, .int 0, .int 0, .int 65535, .int 0, .ref g_9, .ref g_10, .ref g_11, .ref g_12, .ref g_13, .ref g_14, .int 0, .int 0, .int 0, .int 0, .ref g_19, .ref g_20, .ref g_21, .int 0, .int 0, .int 0]))]) (va_runS (As := [.int e0, .int 16]) (rest := []) ⟨hx, hb, hml, hown, hts⟩ (rc_in l dC dI cI cJ cC cZ σ e0 16 _) ⟨(callB_of 2 hts (kg wq_659) rfl rfl rfl hini_RM hm_94 (by decide +kernel) ⟨Nat.le_of_ble_eq_true rfl, Nat.le_of_ble_eq_true rfl⟩), hs_94⟩ hpre_1 rfl rfl hl.1 rfl (lv_room (Nat.le_of_ble_eq_true rfl)) d_RM_outcome_3 ⟨Nat.le_of_ble_eq_true rfl, Nat.le_of_ble_eq_true rfl⟩) hP hD hS hA [] [0] rfl rfl (by decide) (by decide) (fun _ H locs hP hD hS => ?_)
  have hP : va_P (dC, dI) vwCl [(g, .inr (8, [.ref g_0, .ref g_1, .ref g_2, .ref g_3, .ref g_4, .int 0, .int 0, .int 65535, .int 0, .ref g_9, .ref g_10, .ref g_11, .ref g_12, .ref g_13, .ref g_14, .int 0, .int 0, .int 0, .int 0, .ref g_19, .ref g_20, .ref g_21, .int 0, .int 0, .int 0]))] H := hP
  have hD : va_D A [(g, .inr (8, [.ref g_0, .ref g_1, .ref g_2, .ref g_3, .ref g_4, .int 0, .int 0, .int 65535, .int 0, .ref g_9, .ref g_10, .ref g_11, .ref g_12, .ref g_13, .ref g_14, .int 0, .int 0, .int 0, .int 0, .ref g_19, .ref g_20, .ref g_21, .int 0, .int 0, .int 0]))] := hD
  refine lv_if_ne (tgt := 13) hx hb d_RM_outcome_6 (by decide) (fun c_2 => ?_) (fun c_2 => ?_)
  · skip
    have c_2 : (r_inb e0 16) = true := kb_n.mp c_2
    refine lv_iload hx hb d_RM_outcome_13 (lv_at hl 4 rfl) ?_
    refine lv_if_eq (tgt := 28) hx hb d_RM_outcome_15 (by decide) (fun c_3 => ?_) (fun c_3 => ?_)
    · skip
      have c_3 : mc0 = false := kb_0.mp c_3
      refine lv_iload_n hx hb d_RM_outcome_28 rfl (lv_at hl 1 rfl) ?_
      refine lv_iload_n hx hb d_RM_outcome_29 rfl (lv_at hl 2 rfl) ?_
      refine lv_iload_n hx hb d_RM_outcome_30 rfl (lv_at hl 3 rfl) ?_
      have hpre_4 := kr_pre (wc := []) (av := [.int e0, .int a0, .int b0]) hK hP hD hS hA hSt [] rfl (by decide)
      refine kj_l (wc := []) (wr := [(g, .inr (8, [.ref g_0, .ref g_1, .ref g_2, .ref g_3, .ref g_4, .int 0, .int 0, .int 65535, .int 0, .ref g_9, .ref g_10, .ref g_11, .ref g_12, .ref g_13, .ref g_14, .int 0, .int 0, .int 0, .int 0, .ref g_19, .ref g_20, .ref g_21, .int 0, .int 0, .int 0]))]) (va_runS (As := [.int e0, .int a0, .int b0]) (rest := []) ⟨hx, hb, hml, hown, hts⟩ (rc_foretold l dC dI cI cJ cC cZ σ e0 a0 b0 _) ⟨(callB_of 3 hts (kg wq_707) rfl rfl rfl hini_RM hm_132 (by decide +kernel) ⟨Nat.le_of_ble_eq_true rfl, Nat.le_of_ble_eq_true rfl⟩), hs_132⟩ hpre_4 rfl rfl hl.1 rfl (lv_room (Nat.le_of_ble_eq_true rfl)) d_RM_outcome_31 ⟨Nat.le_of_ble_eq_true rfl, Nat.le_of_ble_eq_true rfl⟩) hP hD hS hA [] [0] rfl rfl (by decide) (by decide) (fun _ H locs hP hD hS => ?_)
      have hP : va_P (dC, dI) vwCl [(g, .inr (8, [.ref g_0, .ref g_1, .ref g_2, .ref g_3, .ref g_4, .int 0, .int 0, .int 65535, .int 0, .ref g_9, .ref g_10, .ref g_11, .ref g_12, .ref g_13, .ref g_14, .int 0, .int 0, .int 0, .int 0, .ref g_19, .ref g_20, .ref g_21, .int 0, .int 0, .int 0]))] H := hP
      have hD : va_D A [(g, .inr (8, [.ref g_0, .ref g_1, .ref g_2, .ref g_3, .ref g_4, .int 0, .int 0, .int 65535, .int 0, .ref g_9, .ref g_10, .ref g_11, .ref g_12, .ref g_13, .ref g_14, .int 0, .int 0, .int 0, .int 0, .ref g_19, .ref g_20, .ref g_21, .int 0, .int 0, .int 0]))] := hD
      have hpost : r_outcome e0 a0 b0 = r_or e0 a0 b0 := by simp only [r_outcome, if_pos c_2, if_neg (k_bf c_3)]
      have hP9 := hP.sub (ws' := []) [] rfl
      have hD9 := hD.sub (ws' := []) [] (by decide) rfl
      exact kr_lret (v := (r_or e0 a0 b0)) hQ hx hb hr hlocks hK hP9 hD9 hS (by rw [hpost] <;> rfl) () rfl d_RM_outcome_34
    · skip
      have c_3 : mc0 = true := kb_n.mp c_3
      refine lv_aload_n hx hb d_RM_outcome_18 rfl (lv_at hl 0 rfl) ?_
      refine lv_iload_n hx hb d_RM_outcome_19 rfl (lv_at hl 1 rfl) ?_
      refine lv_iload_n hx hb d_RM_outcome_20 rfl (lv_at hl 2 rfl) ?_
      refine lv_iload_n hx hb d_RM_outcome_21 rfl (lv_at hl 3 rfl) ?_
      have hpre_5 := kr_pre (wc := [(g, .inr (8, [.ref g_0, .ref g_1, .ref g_2, .ref g_3, .ref g_4, .int 0, .int 0, .int 65535, .int 0, .ref g_9, .ref g_10, .ref g_11, .ref g_12, .ref g_13, .ref g_14, .int 0, .int 0, .int 0, .int 0, .ref g_19, .ref g_20, .ref g_21, .int 0, .int 0, .int 0]))]) (av := [.ref g, .int e0, .int a0, .int b0]) hK hP hD hS hA hSt [0] rfl (by decide)
      refine kj_l (wc := [(g, .inr (8, [.ref g_0, .ref g_1, .ref g_2, .ref g_3, .ref g_4, .int 0, .int 0, .int 65535, .int 0, .ref g_9, .ref g_10, .ref g_11, .ref g_12, .ref g_13, .ref g_14, .int 0, .int 0, .int 0, .int 0, .ref g_19, .ref g_20, .ref g_21, .int 0, .int 0, .int 0]))]) (wr := []) (va_runV (As := [.int e0, .int a0, .int b0]) (rest := []) ⟨hx, hb, hml, hown, hts⟩ (rc_given l dC dI cI cJ cC cZ σ g g_0 g_1 g_2 g_3 g_4 g_9 g_10 g_11 g_12 g_13 g_14 g_19 g_20 g_21 0 0 0 0 e0 a0 b0 _) ⟨(callB_of 3 hts (kg wq_704) rfl rfl rfl hini_RM hm_142 (by decide +kernel) ⟨Nat.le_of_ble_eq_true rfl, Nat.le_of_ble_eq_true rfl⟩), hi_142, hv_142⟩ ⟨hpre_5.1, (va_recv hK hP (ci := 8) (q0 := 0) rfl rfl), hpre_5.2⟩ rfl rfl hl.1 rfl (lv_room (Nat.le_of_ble_eq_true rfl)) d_RM_outcome_22 ⟨Nat.le_of_ble_eq_true rfl, Nat.le_of_ble_eq_true rfl⟩) hP hD hS hA [0] [] rfl rfl (by decide) (by decide) (fun _ H locs hP hD hS => ?_)
      have hP : va_P (dC, dI) vwCl [(g, .inr (8, [.ref g_0, .ref g_1, .ref g_2, .ref g_3, .ref g_4, .int 0, .int 0, .int 65535, .int 0, .ref g_9, .ref g_10, .ref g_11, .ref g_12, .ref g_13, .ref g_14, .int 0, .int 0, .int 0, .int 0, .ref g_19, .ref g_20, .ref g_21, .int 0, .int 0, .int 0]))] H := hP
      have hD : va_D A [(g, .inr (8, [.ref g_0, .ref g_1, .ref g_2, .ref g_3, .ref g_4, .int 0, .int 0, .int 65535, .int 0, .ref g_9, .ref g_10, .ref g_11, .ref g_12, .ref g_13, .ref g_14, .int 0, .int 0, .int 0, .int 0, .ref g_19, .ref g_20, .ref g_21, .int 0, .int 0, .int 0]))] := hD
      refine lv_goto (tgt := 34) hx hb d_RM_outcome_25 (by decide) ?_
      have hpost : r_outcome e0 a0 b0 = r_or e0 a0 b0 := by simp only [r_outcome, if_pos c_2, if_pos c_3]
      have hP9 := hP.sub (ws' := []) [] rfl
      have hD9 := hD.sub (ws' := []) [] (by decide) rfl
      exact kr_lret (v := (r_or e0 a0 b0)) hQ hx hb hr hlocks hK hP9 hD9 hS (by rw [hpost] <;> rfl) () rfl d_RM_outcome_34
  · skip
    have c_2 : (r_inb e0 16) = false := kb_0.mp c_2
    refine lv_ldc2 (v := (-1000000000000)) hx hb hown hk_140 d_RM_outcome_9 ?_
    have hpost : r_outcome e0 a0 b0 = -1000000000000 := by simp only [r_outcome, if_neg (k_bf c_2)]
    have hP9 := hP.sub (ws' := []) [] rfl
    have hD9 := hD.sub (ws' := []) [] (by decide) rfl
    exact kr_lret (v := (-1000000000000)) hQ hx hb hr hlocks hK hP9 hD9 hS (by rw [hpost] <;> rfl) () rfl d_RM_outcome_12
set_option maxHeartbeats 4000000 in
set_option maxRecDepth 100000 in
theorem rc_fault (l : Launch) (dC : Nat → ClassId) (dI : Nat → Nat → Nat) (cI cJ cC cZ : ClassId) (σ : kSg) (g g_0 g_1 g_2 g_3 g_4 g_9 g_10 g_11 g_12 g_13 g_14 g_19 g_20 g_21 : Nat) (e0 : Int32) (s0 : Int32) (n0 : Int32) : kC l y_RM_fault ws_RM_fault (kRm 1 0 0 21) (dC, dI) (kTy cI cJ cC cZ) σ ([(g, .inr (8, [.ref g_0, .ref g_1, .ref g_2, .ref g_3, .ref g_4, .int 0, .int 0, .int 65535, .int 0, .ref g_9, .ref g_10, .ref g_11, .ref g_12, .ref g_13, .ref g_14, .int 0, .int 0, .int 0, .int 0, .ref g_19, .ref g_20, .ref g_21, .int 0, .int 0, .int 0])), (g_0, .inl (cI, 4, .inl (fun _ => 0))), (g_1, .inl (cI, 4, .inl (fun _ => 0))), (g_2, .inl (cI, 4, .inl (fun _ => 0)))]) [.ref g, .int e0, .int s0, .int n0] (kQi (dC, dI) (kTy cI cJ cC cZ) (r_fault e0 s0) (fun _ : Unit => [])) 0 0 := by
  refine kr_met (cc := prog_12_method_5_code) (maxL := 4) (ret := (some .int)) (by decide) rfl (Nat.le_of_ble_eq_true rfl) ?_
  intro p e s m args below meth c A Q hQ hx hb hr hml hts hown hlocks hnm hA hP hK hD hSt ls hl
  have hS : va_S A s.heap s.heap [] := va_S.rf
  have hown : s.vm.findClass "KitRunnerModel" = some m.cls := hown
  have hl : lv_has ls 4 [(0, .ref g), (1, .int e0), (2, .int s0), (3, .int n0)] := hl
  have hP : va_P (dC, dI) vwCl [(g, .inr (8, [.ref g_0, .ref g_1, .ref g_2, .ref g_3, .ref g_4, .int 0, .int 0, .int 65535, .int 0, .ref g_9, .ref g_10, .ref g_11, .ref g_12, .ref g_13, .ref g_14, .int 0, .int 0, .int 0, .int 0, .ref g_19, .ref g_20, .ref g_21, .int 0, .int 0, .int 0])), (g_0, .inl (cI, 4, .inl (fun _ => 0))), (g_1, .inl (cI, 4, .inl (fun _ => 0))), (g_2, .inl (cI, 4, .inl (fun _ => 0)))] s.heap := hP
  have hD : va_D A [(g, .inr (8, [.ref g_0, .ref g_1, .ref g_2, .ref g_3, .ref g_4, .int 0, .int 0, .int 65535, .int 0, .ref g_9, .ref g_10, .ref g_11, .ref g_12, .ref g_13, .ref g_14, .int 0, .int 0, .int 0, .int 0, .ref g_19, .ref g_20, .ref g_21, .int 0, .int 0, .int 0])), (g_0, .inl (cI, 4, .inl (fun _ => 0))), (g_1, .inl (cI, 4, .inl (fun _ => 0))), (g_2, .inl (cI, 4, .inl (fun _ => 0)))] := hD
  have hini_RM := hts _ (List.mem_cons_of_mem _ wq_9)
  have hm_94 := hts _ (List.mem_cons_of_mem _ wq_657)
  have hs_94 := hts _ (List.mem_cons_of_mem _ wq_658)
  have hf_98 := hts _ (List.mem_cons_of_mem _ wq_581)
  have hin_RM := fun w (h : w ∈ u_ws "KitRunnerModel" T_RM 25) => List.mem_cons_of_mem (Cond.code y_RM_fault prog_12_method_5_code 4 (some .int)) (in_RM w h)
  have hf_7 := hts _ (List.mem_cons_of_mem _ wq_576)
  have hf_13 := hts _ (List.mem_cons_of_mem _ wq_577)
  have hf_16 := hts _ (List.mem_cons_of_mem _ wq_578)
  refine lv_iload_n hx hb d_RM_fault_0 rfl (lv_at hl 1 rfl) ?_
  refine lv_bipush (v := 16) hx hb d_RM_fault_1 (by decide) ?_
  have hpre_1 := kr_pre (wc := []) (av := [.int e0, .int 16]) hK hP hD hS hA hSt [] rfl (by decide)
  refine kj_i (wc := []) (wr := [(g, .inr (8, [.ref g_0, .ref g_1, .ref g_2, .ref g_3, .ref g_4, .int 0, .int 0, .int 65535, .int 0, .ref g_9, .ref g_10, .ref g_11, .ref g_12, .ref g_13, .ref g_14, .int 0, .int 0, .int 0, .int 0, .ref g_19, .ref g_20, .ref g_21, .int 0, .int 0, .int 0])), (g_0, .inl (cI, 4, .inl (fun _ => 0))), (g_1, .inl (cI, 4, .inl (fun _ => 0))), (g_2, .inl (cI, 4, .inl (fun _ => 0)))]) (va_runS (As := [.int e0, .int 16]) (rest := []) ⟨hx, hb, hml, hown, hts⟩ (rc_in l dC dI cI cJ cC cZ σ e0 16 _) ⟨(callB_of 2 hts (kg wq_659) rfl rfl rfl hini_RM hm_94 (by decide +kernel) ⟨Nat.le_of_ble_eq_true rfl, Nat.le_of_ble_eq_true rfl⟩), hs_94⟩ hpre_1 rfl rfl hl.1 rfl (lv_room (Nat.le_of_ble_eq_true rfl)) d_RM_fault_3 ⟨Nat.le_of_ble_eq_true rfl, Nat.le_of_ble_eq_true rfl⟩) hP hD hS hA [] [0, 1, 2, 3] rfl rfl (by decide) (by decide) (fun _ H locs hP hD hS => ?_)
  have hP : va_P (dC, dI) vwCl [(g, .inr (8, [.ref g_0, .ref g_1, .ref g_2, .ref g_3, .ref g_4, .int 0, .int 0, .int 65535, .int 0, .ref g_9, .ref g_10, .ref g_11, .ref g_12, .ref g_13, .ref g_14, .int 0, .int 0, .int 0, .int 0, .ref g_19, .ref g_20, .ref g_21, .int 0, .int 0, .int 0])), (g_0, .inl (cI, 4, .inl (fun _ => 0))), (g_1, .inl (cI, 4, .inl (fun _ => 0))), (g_2, .inl (cI, 4, .inl (fun _ => 0)))] H := hP
  have hD : va_D A [(g, .inr (8, [.ref g_0, .ref g_1, .ref g_2, .ref g_3, .ref g_4, .int 0, .int 0, .int 65535, .int 0, .ref g_9, .ref g_10, .ref g_11, .ref g_12, .ref g_13, .ref g_14, .int 0, .int 0, .int 0, .int 0, .ref g_19, .ref g_20, .ref g_21, .int 0, .int 0, .int 0])), (g_0, .inl (cI, 4, .inl (fun _ => 0))), (g_1, .inl (cI, 4, .inl (fun _ => 0))), (g_2, .inl (cI, 4, .inl (fun _ => 0)))] := hD
  refine lv_if_eq (tgt := 17) hx hb d_RM_fault_6 (by decide) (fun c_2 => ?_) (fun c_2 => ?_)
  · skip
    have c_2 : (r_inb e0 16) = false := kb_0.mp c_2
    refine lv_iconst (v := (-1)) hx hb d_RM_fault_17 (by decide) ?_
    have hpost : r_fault e0 s0 = -1 := by simp only [r_fault, if_neg (k_bf c_2)]
    have hP9 := hP.sub (ws' := []) [] rfl
    have hD9 := hD.sub (ws' := []) [] (by decide) rfl
    exact kr_iret (v := (-1)) hQ hx hb hr hlocks hK hP9 hD9 hS (by rw [hpost] <;> rfl) () rfl d_RM_fault_18
  · skip
    have c_2 : (r_inb e0 16) = true := kb_n.mp c_2
    refine lv_iload_n hx hb d_RM_fault_9 rfl (lv_at hl 2 rfl) ?_
    refine lv_iconst (v := 5) hx hb d_RM_fault_10 (by decide) ?_
    have hpre_3 := kr_pre (wc := []) (av := [.int s0, .int 5]) hK hP hD hS hA hSt [] rfl (by decide)
    refine kj_i (wc := []) (wr := [(g, .inr (8, [.ref g_0, .ref g_1, .ref g_2, .ref g_3, .ref g_4, .int 0, .int 0, .int 65535, .int 0, .ref g_9, .ref g_10, .ref g_11, .ref g_12, .ref g_13, .ref g_14, .int 0, .int 0, .int 0, .int 0, .ref g_19, .ref g_20, .ref g_21, .int 0, .int 0, .int 0])), (g_0, .inl (cI, 4, .inl (fun _ => 0))), (g_1, .inl (cI, 4, .inl (fun _ => 0))), (g_2, .inl (cI, 4, .inl (fun _ => 0)))]) (va_runS (As := [.int s0, .int 5]) (rest := []) ⟨hx, hb, hml, hown, hts⟩ (rc_in l dC dI cI cJ cC cZ σ s0 5 _) ⟨(callB_of 2 hts (kg wq_659) rfl rfl rfl hini_RM hm_94 (by decide +kernel) ⟨Nat.le_of_ble_eq_true rfl, Nat.le_of_ble_eq_true rfl⟩), hs_94⟩ hpre_3 rfl rfl hl.1 rfl (lv_room (Nat.le_of_ble_eq_true rfl)) d_RM_fault_11 ⟨Nat.le_of_ble_eq_true rfl, Nat.le_of_ble_eq_true rfl⟩) hP hD hS hA [] [0, 1, 2, 3] rfl rfl (by decide) (by decide) (fun _ H locs hP hD hS => ?_)
    have hP : va_P (dC, dI) vwCl [(g, .inr (8, [.ref g_0, .ref g_1, .ref g_2, .ref g_3, .ref g_4, .int 0, .int 0, .int 65535, .int 0, .ref g_9, .ref g_10, .ref g_11, .ref g_12, .ref g_13, .ref g_14, .int 0, .int 0, .int 0, .int 0, .ref g_19, .ref g_20, .ref g_21, .int 0, .int 0, .int 0])), (g_0, .inl (cI, 4, .inl (fun _ => 0))), (g_1, .inl (cI, 4, .inl (fun _ => 0))), (g_2, .inl (cI, 4, .inl (fun _ => 0)))] H := hP
    have hD : va_D A [(g, .inr (8, [.ref g_0, .ref g_1, .ref g_2, .ref g_3, .ref g_4, .int 0, .int 0, .int 65535, .int 0, .ref g_9, .ref g_10, .ref g_11, .ref g_12, .ref g_13, .ref g_14, .int 0, .int 0, .int 0, .int 0, .ref g_19, .ref g_20, .ref g_21, .int 0, .int 0, .int 0])), (g_0, .inl (cI, 4, .inl (fun _ => 0))), (g_1, .inl (cI, 4, .inl (fun _ => 0))), (g_2, .inl (cI, 4, .inl (fun _ => 0)))] := hD
    refine lv_if_ne (tgt := 19) hx hb d_RM_fault_14 (by decide) (fun c_4 => ?_) (fun c_4 => ?_)
    · skip
      have c_4 : (r_inb s0 5) = true := kb_n.mp c_4
      refine lv_aload_n hx hb d_RM_fault_19 rfl (lv_at hl 0 rfl) ?_
      refine va_get (D := (dC, dI)) (ci := 8) (v := .int 0) (C := "KitRunnerModel") (T := T_RM) (N := 25) hx hb hts hin_RM hown hK hP 0 rfl rfl 5 (by decide) hf_98 (fun _ h9 => h9) rfl d_RM_fault_20 ?_
      refine lv_iconst (v := 4) hx hb d_RM_fault_23 (by decide) ?_
      refine lv_icmp_ne (tgt := 30) hx hb d_RM_fault_24 (by decide) (fun c_5 => ?_) (fun c_5 => ?_)
      · skip
        have c_5 : ¬ 0 = 4 := fun h9 => c_5 ((nI_eq (a := 0) (b := 4) (by omega) (by omega)).mpr h9)
        refine lv_aload_n hx hb d_RM_fault_30 rfl (lv_at hl 0 rfl) ?_
        refine va_get (D := (dC, dI)) (ci := 8) (v := .ref g_0) (C := "KitRunnerModel") (T := T_RM) (N := 25) hx hb hts hin_RM hown hK hP 0 rfl rfl 0 (by decide) hf_7 (fun _ h9 => h9) rfl d_RM_fault_31 ?_
        refine lv_aload_n hx hb d_RM_fault_34 rfl (lv_at hl 0 rfl) ?_
        refine va_get (D := (dC, dI)) (ci := 8) (v := .int 0) (C := "KitRunnerModel") (T := T_RM) (N := 25) hx hb hts hin_RM hown hK hP 0 rfl rfl 5 (by decide) hf_98 (fun _ h9 => h9) rfl d_RM_fault_35 ?_
        refine lv_iload_n hx hb d_RM_fault_38 rfl (lv_at hl 1 rfl) ?_
        refine kr_iast (k := 0) hx hb hK hP hD hS 1 0 rfl rfl (by omega) (by first | decide | omega) d_RM_fault_39 (fun H locs hP hD hS => ?_)
        have hP : va_P (dC, dI) vwCl [(g, .inr (8, [.ref g_0, .ref g_1, .ref g_2, .ref g_3, .ref g_4, .int 0, .int 0, .int 65535, .int 0, .ref g_9, .ref g_10, .ref g_11, .ref g_12, .ref g_13, .ref g_14, .int 0, .int 0, .int 0, .int 0, .ref g_19, .ref g_20, .ref g_21, .int 0, .int 0, .int 0])), (g_0, .inl (cI, 4, .inl (upd (fun _ => 0) 0 e0))), (g_1, .inl (cI, 4, .inl (fun _ => 0))), (g_2, .inl (cI, 4, .inl (fun _ => 0)))] H := hP
        have hD : va_D A [(g, .inr (8, [.ref g_0, .ref g_1, .ref g_2, .ref g_3, .ref g_4, .int 0, .int 0, .int 65535, .int 0, .ref g_9, .ref g_10, .ref g_11, .ref g_12, .ref g_13, .ref g_14, .int 0, .int 0, .int 0, .int 0, .ref g_19, .ref g_20, .ref g_21, .int 0, .int 0, .int 0])), (g_0, .inl (cI, 4, .inl (upd (fun _ => 0) 0 e0))), (g_1, .inl (cI, 4, .inl (fun _ => 0))), (g_2, .inl (cI, 4, .inl (fun _ => 0)))] := hD
        refine lv_aload_n hx hb d_RM_fault_40 rfl (lv_at hl 0 rfl) ?_
        refine va_get (D := (dC, dI)) (ci := 8) (v := .ref g_1) (C := "KitRunnerModel") (T := T_RM) (N := 25) hx hb hts hin_RM hown hK hP 0 rfl rfl 1 (by decide) hf_13 (fun _ h9 => h9) rfl d_RM_fault_41 ?_
        refine lv_aload_n hx hb d_RM_fault_44 rfl (lv_at hl 0 rfl) ?_
        refine va_get (D := (dC, dI)) (ci := 8) (v := .int 0) (C := "KitRunnerModel") (T := T_RM) (N := 25) hx hb hts hin_RM hown hK hP 0 rfl rfl 5 (by decide) hf_98 (fun _ h9 => h9) rfl d_RM_fault_45 ?_
        refine lv_iload_n hx hb d_RM_fault_48 rfl (lv_at hl 2 rfl) ?_
        refine kr_iast (k := 0) hx hb hK hP hD hS 2 0 rfl rfl (by omega) (by first | decide | omega) d_RM_fault_49 (fun H locs hP hD hS => ?_)
        have hP : va_P (dC, dI) vwCl [(g, .inr (8, [.ref g_0, .ref g_1, .ref g_2, .ref g_3, .ref g_4, .int 0, .int 0, .int 65535, .int 0, .ref g_9, .ref g_10, .ref g_11, .ref g_12, .ref g_13, .ref g_14, .int 0, .int 0, .int 0, .int 0, .ref g_19, .ref g_20, .ref g_21, .int 0, .int 0, .int 0])), (g_0, .inl (cI, 4, .inl (upd (fun _ => 0) 0 e0))), (g_1, .inl (cI, 4, .inl (upd (fun _ => 0) 0 s0))), (g_2, .inl (cI, 4, .inl (fun _ => 0)))] H := hP
        have hD : va_D A [(g, .inr (8, [.ref g_0, .ref g_1, .ref g_2, .ref g_3, .ref g_4, .int 0, .int 0, .int 65535, .int 0, .ref g_9, .ref g_10, .ref g_11, .ref g_12, .ref g_13, .ref g_14, .int 0, .int 0, .int 0, .int 0, .ref g_19, .ref g_20, .ref g_21, .int 0, .int 0, .int 0])), (g_0, .inl (cI, 4, .inl (upd (fun _ => 0) 0 e0))), (g_1, .inl (cI, 4, .inl (upd (fun _ => 0) 0 s0))), (g_2, .inl (cI, 4, .inl (fun _ => 0)))] := hD
        refine lv_aload_n hx hb d_RM_fault_50 rfl (lv_at hl 0 rfl) ?_
        refine va_get (D := (dC, dI)) (ci := 8) (v := .ref g_2) (C := "KitRunnerModel") (T := T_RM) (N := 25) hx hb hts hin_RM hown hK hP 0 rfl rfl 2 (by decide) hf_16 (fun _ h9 => h9) rfl d_RM_fault_51 ?_
        refine lv_aload_n hx hb d_RM_fault_54 rfl (lv_at hl 0 rfl) ?_
        refine va_get (D := (dC, dI)) (ci := 8) (v := .int 0) (C := "KitRunnerModel") (T := T_RM) (N := 25) hx hb hts hin_RM hown hK hP 0 rfl rfl 5 (by decide) hf_98 (fun _ h9 => h9) rfl d_RM_fault_55 ?_
        refine lv_iload_n hx hb d_RM_fault_58 rfl (lv_at hl 3 rfl) ?_
        refine kr_iast (k := 0) hx hb hK hP hD hS 3 0 rfl rfl (by omega) (by first | decide | omega) d_RM_fault_59 (fun H locs hP hD hS => ?_)
        have hP : va_P (dC, dI) vwCl [(g, .inr (8, [.ref g_0, .ref g_1, .ref g_2, .ref g_3, .ref g_4, .int 0, .int 0, .int 65535, .int 0, .ref g_9, .ref g_10, .ref g_11, .ref g_12, .ref g_13, .ref g_14, .int 0, .int 0, .int 0, .int 0, .ref g_19, .ref g_20, .ref g_21, .int 0, .int 0, .int 0])), (g_0, .inl (cI, 4, .inl (upd (fun _ => 0) 0 e0))), (g_1, .inl (cI, 4, .inl (upd (fun _ => 0) 0 s0))), (g_2, .inl (cI, 4, .inl (upd (fun _ => 0) 0 n0)))] H := hP
        have hD : va_D A [(g, .inr (8, [.ref g_0, .ref g_1, .ref g_2, .ref g_3, .ref g_4, .int 0, .int 0, .int 65535, .int 0, .ref g_9, .ref g_10, .ref g_11, .ref g_12, .ref g_13, .ref g_14, .int 0, .int 0, .int 0, .int 0, .ref g_19, .ref g_20, .ref g_21, .int 0, .int 0, .int 0])), (g_0, .inl (cI, 4, .inl (upd (fun _ => 0) 0 e0))), (g_1, .inl (cI, 4, .inl (upd (fun _ => 0) 0 s0))), (g_2, .inl (cI, 4, .inl (upd (fun _ => 0) 0 n0)))] := hD
        refine lv_aload_n hx hb d_RM_fault_60 rfl (lv_at hl 0 rfl) ?_
        refine lv_dup hx hb d_RM_fault_61 rfl ?_
        refine va_get (D := (dC, dI)) (ci := 8) (v := .int 0) (C := "KitRunnerModel") (T := T_RM) (N := 25) hx hb hts hin_RM hown hK hP 0 rfl rfl 5 (by decide) hf_98 (fun _ h9 => h9) rfl d_RM_fault_62 ?_
        refine lv_iconst (v := 1) hx hb d_RM_fault_65 (by decide) ?_
        refine lv_iadd hx hb d_RM_fault_66 ?_
        refine kr_topi (x := (0 + 1 : Int32)) (y := 1) (by decide) ?_
        refine va_put (D := (dC, dI)) (ci := 8) (v := .int 1) (ty := .int) (C := "KitRunnerModel") (T := T_RM) (N := 25) hx hb hts hin_RM ty_RM ty_RM_ok nm_RM hown hK hP hD hS 0 rfl rfl 5 (by decide) hf_98 (fun _ h9 => h9) rfl (by decide +kernel) rfl rfl (Nat.le_of_ble_eq_true rfl) d_RM_fault_67 (fun H locs hP hD hS => ?_)
        have hP : va_P (dC, dI) vwCl [(g, .inr (8, [.ref g_0, .ref g_1, .ref g_2, .ref g_3, .ref g_4, .int 1, .int 0, .int 65535, .int 0, .ref g_9, .ref g_10, .ref g_11, .ref g_12, .ref g_13, .ref g_14, .int 0, .int 0, .int 0, .int 0, .ref g_19, .ref g_20, .ref g_21, .int 0, .int 0, .int 0])), (g_0, .inl (cI, 4, .inl (upd (fun _ => 0) 0 e0))), (g_1, .inl (cI, 4, .inl (upd (fun _ => 0) 0 s0))), (g_2, .inl (cI, 4, .inl (upd (fun _ => 0) 0 n0)))] H := hP
        have hD : va_D A [(g, .inr (8, [.ref g_0, .ref g_1, .ref g_2, .ref g_3, .ref g_4, .int 1, .int 0, .int 65535, .int 0, .ref g_9, .ref g_10, .ref g_11, .ref g_12, .ref g_13, .ref g_14, .int 0, .int 0, .int 0, .int 0, .ref g_19, .ref g_20, .ref g_21, .int 0, .int 0, .int 0])), (g_0, .inl (cI, 4, .inl (upd (fun _ => 0) 0 e0))), (g_1, .inl (cI, 4, .inl (upd (fun _ => 0) 0 s0))), (g_2, .inl (cI, 4, .inl (upd (fun _ => 0) 0 n0)))] := hD
        refine lv_aload_n hx hb d_RM_fault_70 rfl (lv_at hl 0 rfl) ?_
        refine va_get (D := (dC, dI)) (ci := 8) (v := .int 1) (C := "KitRunnerModel") (T := T_RM) (N := 25) hx hb hts hin_RM hown hK hP 0 rfl rfl 5 (by decide) hf_98 (fun _ h9 => h9) rfl d_RM_fault_71 ?_
        have hpost : r_fault e0 s0 = 1 := by simp only [r_fault, if_pos c_2, if_pos c_4]
        have hP9 := hP.sub (ws' := []) [] rfl
        have hD9 := hD.sub (ws' := []) [] (by decide) rfl
        exact kr_iret (v := 1) hQ hx hb hr hlocks hK hP9 hD9 hS (by rw [hpost] <;> rfl) () rfl d_RM_fault_74
      · skip
        exact absurd c_5 (by decide)
    · skip
      have c_4 : (r_inb s0 5) = false := kb_0.mp c_4
      refine lv_iconst (v := (-1)) hx hb d_RM_fault_17 (by decide) ?_
      have hpost : r_fault e0 s0 = -1 := by simp only [r_fault, if_pos c_2, if_neg (k_bf c_4)]
      have hP9 := hP.sub (ws' := []) [] rfl
      have hD9 := hD.sub (ws' := []) [] (by decide) rfl
      exact kr_iret (v := (-1)) hQ hx hb hr hlocks hK hP9 hD9 hS (by rw [hpost] <;> rfl) () rfl d_RM_fault_18
set_option maxHeartbeats 4000000 in
set_option maxRecDepth 100000 in
theorem rc_exclude (l : Launch) (dC : Nat → ClassId) (dI : Nat → Nat → Nat) (cI cJ cC cZ : ClassId) (σ : kSg) (g g_0 g_1 g_2 g_3 g_4 g_9 g_10 g_11 g_12 g_13 g_14 g_19 g_20 g_21 : Nat) (e0 : Int32) (n0 : Int32) : kC l y_RM_exclude ws_RM_exclude (kRm 1 0 0 21) (dC, dI) (kTy cI cJ cC cZ) σ ([(g, .inr (8, [.ref g_0, .ref g_1, .ref g_2, .ref g_3, .ref g_4, .int 0, .int 0, .int 65535, .int 0, .ref g_9, .ref g_10, .ref g_11, .ref g_12, .ref g_13, .ref g_14, .int 0, .int 0, .int 0, .int 0, .ref g_19, .ref g_20, .ref g_21, .int 0, .int 0, .int 0])), (g_3, .inl (cI, 6, .inl (fun _ => 0))), (g_4, .inl (cI, 6, .inl (fun _ => 0)))]) [.ref g, .int e0, .int n0] (kQi (dC, dI) (kTy cI cJ cC cZ) (r_exclude e0) (fun _ : Unit => [])) 0 0 := by
  refine kr_met (cc := prog_12_method_6_code) (maxL := 3) (ret := (some .int)) (by decide) rfl (Nat.le_of_ble_eq_true rfl) ?_
  intro p e s m args below meth c A Q hQ hx hb hr hml hts hown hlocks hnm hA hP hK hD hSt ls hl
  have hS : va_S A s.heap s.heap [] := va_S.rf
  have hown : s.vm.findClass "KitRunnerModel" = some m.cls := hown
  have hl : lv_has ls 3 [(0, .ref g), (1, .int e0), (2, .int n0)] := hl
  have hP : va_P (dC, dI) vwCl [(g, .inr (8, [.ref g_0, .ref g_1, .ref g_2, .ref g_3, .ref g_4, .int 0, .int 0, .int 65535, .int 0, .ref g_9, .ref g_10, .ref g_11, .ref g_12, .ref g_13, .ref g_14, .int 0, .int 0, .int 0, .int 0, .ref g_19, .ref g_20, .ref g_21, .int 0, .int 0, .int 0])), (g_3, .inl (cI, 6, .inl (fun _ => 0))), (g_4, .inl (cI, 6, .inl (fun _ => 0)))] s.heap := hP
  have hD : va_D A [(g, .inr (8, [.ref g_0, .ref g_1, .ref g_2, .ref g_3, .ref g_4, .int 0, .int 0, .int 65535, .int 0, .ref g_9, .ref g_10, .ref g_11, .ref g_12, .ref g_13, .ref g_14, .int 0, .int 0, .int 0, .int 0, .ref g_19, .ref g_20, .ref g_21, .int 0, .int 0, .int 0])), (g_3, .inl (cI, 6, .inl (fun _ => 0))), (g_4, .inl (cI, 6, .inl (fun _ => 0)))] := hD
  have hini_RM := hts _ (List.mem_cons_of_mem _ wq_9)
  have hm_94 := hts _ (List.mem_cons_of_mem _ wq_657)
  have hs_94 := hts _ (List.mem_cons_of_mem _ wq_658)
  have hf_101 := hts _ (List.mem_cons_of_mem _ wq_582)
  have hin_RM := fun w (h : w ∈ u_ws "KitRunnerModel" T_RM 25) => List.mem_cons_of_mem (Cond.code y_RM_exclude prog_12_method_6_code 3 (some .int)) (in_RM w h)
  have hf_19 := hts _ (List.mem_cons_of_mem _ wq_579)
  have hf_22 := hts _ (List.mem_cons_of_mem _ wq_580)
  refine lv_iload_n hx hb d_RM_exclude_0 rfl (lv_at hl 1 rfl) ?_
  refine lv_bipush (v := 16) hx hb d_RM_exclude_1 (by decide) ?_
  have hpre_1 := kr_pre (wc := []) (av := [.int e0, .int 16]) hK hP hD hS hA hSt [] rfl (by decide)
  refine kj_i (wc := []) (wr := [(g, .inr (8, [.ref g_0, .ref g_1, .ref g_2, .ref g_3, .ref g_4, .int 0, .int 0, .int 65535, .int 0, .ref g_9, .ref g_10, .ref g_11, .ref g_12, .ref g_13, .ref g_14, .int 0, .int 0, .int 0, .int 0, .ref g_19, .ref g_20, .ref g_21, .int 0, .int 0, .int 0])), (g_3, .inl (cI, 6, .inl (fun _ => 0))), (g_4, .inl (cI, 6, .inl (fun _ => 0)))]) (va_runS (As := [.int e0, .int 16]) (rest := []) ⟨hx, hb, hml, hown, hts⟩ (rc_in l dC dI cI cJ cC cZ σ e0 16 _) ⟨(callB_of 2 hts (kg wq_659) rfl rfl rfl hini_RM hm_94 (by decide +kernel) ⟨Nat.le_of_ble_eq_true rfl, Nat.le_of_ble_eq_true rfl⟩), hs_94⟩ hpre_1 rfl rfl hl.1 rfl (lv_room (Nat.le_of_ble_eq_true rfl)) d_RM_exclude_3 ⟨Nat.le_of_ble_eq_true rfl, Nat.le_of_ble_eq_true rfl⟩) hP hD hS hA [] [0, 1, 2] rfl rfl (by decide) (by decide) (fun _ H locs hP hD hS => ?_)
  have hP : va_P (dC, dI) vwCl [(g, .inr (8, [.ref g_0, .ref g_1, .ref g_2, .ref g_3, .ref g_4, .int 0, .int 0, .int 65535, .int 0, .ref g_9, .ref g_10, .ref g_11, .ref g_12, .ref g_13, .ref g_14, .int 0, .int 0, .int 0, .int 0, .ref g_19, .ref g_20, .ref g_21, .int 0, .int 0, .int 0])), (g_3, .inl (cI, 6, .inl (fun _ => 0))), (g_4, .inl (cI, 6, .inl (fun _ => 0)))] H := hP
  have hD : va_D A [(g, .inr (8, [.ref g_0, .ref g_1, .ref g_2, .ref g_3, .ref g_4, .int 0, .int 0, .int 65535, .int 0, .ref g_9, .ref g_10, .ref g_11, .ref g_12, .ref g_13, .ref g_14, .int 0, .int 0, .int 0, .int 0, .ref g_19, .ref g_20, .ref g_21, .int 0, .int 0, .int 0])), (g_3, .inl (cI, 6, .inl (fun _ => 0))), (g_4, .inl (cI, 6, .inl (fun _ => 0)))] := hD
  refine lv_if_ne (tgt := 11) hx hb d_RM_exclude_6 (by decide) (fun c_2 => ?_) (fun c_2 => ?_)
  · skip
    have c_2 : (r_inb e0 16) = true := kb_n.mp c_2
    refine lv_aload_n hx hb d_RM_exclude_11 rfl (lv_at hl 0 rfl) ?_
    refine va_get (D := (dC, dI)) (ci := 8) (v := .int 0) (C := "KitRunnerModel") (T := T_RM) (N := 25) hx hb hts hin_RM hown hK hP 0 rfl rfl 6 (by decide) hf_101 (fun _ h9 => h9) rfl d_RM_exclude_12 ?_
    refine lv_bipush (v := 6) hx hb d_RM_exclude_15 (by decide) ?_
    refine lv_icmp_ne (tgt := 23) hx hb d_RM_exclude_17 (by decide) (fun c_3 => ?_) (fun c_3 => ?_)
    · skip
      have c_3 : ¬ 0 = 6 := fun h9 => c_3 ((nI_eq (a := 0) (b := 6) (by omega) (by omega)).mpr h9)
      refine lv_aload_n hx hb d_RM_exclude_23 rfl (lv_at hl 0 rfl) ?_
      refine va_get (D := (dC, dI)) (ci := 8) (v := .ref g_3) (C := "KitRunnerModel") (T := T_RM) (N := 25) hx hb hts hin_RM hown hK hP 0 rfl rfl 3 (by decide) hf_19 (fun _ h9 => h9) rfl d_RM_exclude_24 ?_
      refine lv_aload_n hx hb d_RM_exclude_27 rfl (lv_at hl 0 rfl) ?_
      refine va_get (D := (dC, dI)) (ci := 8) (v := .int 0) (C := "KitRunnerModel") (T := T_RM) (N := 25) hx hb hts hin_RM hown hK hP 0 rfl rfl 6 (by decide) hf_101 (fun _ h9 => h9) rfl d_RM_exclude_28 ?_
      refine lv_iload_n hx hb d_RM_exclude_31 rfl (lv_at hl 1 rfl) ?_
      refine kr_iast (k := 0) hx hb hK hP hD hS 1 0 rfl rfl (by omega) (by first | decide | omega) d_RM_exclude_32 (fun H locs hP hD hS => ?_)
      have hP : va_P (dC, dI) vwCl [(g, .inr (8, [.ref g_0, .ref g_1, .ref g_2, .ref g_3, .ref g_4, .int 0, .int 0, .int 65535, .int 0, .ref g_9, .ref g_10, .ref g_11, .ref g_12, .ref g_13, .ref g_14, .int 0, .int 0, .int 0, .int 0, .ref g_19, .ref g_20, .ref g_21, .int 0, .int 0, .int 0])), (g_3, .inl (cI, 6, .inl (upd (fun _ => 0) 0 e0))), (g_4, .inl (cI, 6, .inl (fun _ => 0)))] H := hP
      have hD : va_D A [(g, .inr (8, [.ref g_0, .ref g_1, .ref g_2, .ref g_3, .ref g_4, .int 0, .int 0, .int 65535, .int 0, .ref g_9, .ref g_10, .ref g_11, .ref g_12, .ref g_13, .ref g_14, .int 0, .int 0, .int 0, .int 0, .ref g_19, .ref g_20, .ref g_21, .int 0, .int 0, .int 0])), (g_3, .inl (cI, 6, .inl (upd (fun _ => 0) 0 e0))), (g_4, .inl (cI, 6, .inl (fun _ => 0)))] := hD
      refine lv_aload_n hx hb d_RM_exclude_33 rfl (lv_at hl 0 rfl) ?_
      refine va_get (D := (dC, dI)) (ci := 8) (v := .ref g_4) (C := "KitRunnerModel") (T := T_RM) (N := 25) hx hb hts hin_RM hown hK hP 0 rfl rfl 4 (by decide) hf_22 (fun _ h9 => h9) rfl d_RM_exclude_34 ?_
      refine lv_aload_n hx hb d_RM_exclude_37 rfl (lv_at hl 0 rfl) ?_
      refine va_get (D := (dC, dI)) (ci := 8) (v := .int 0) (C := "KitRunnerModel") (T := T_RM) (N := 25) hx hb hts hin_RM hown hK hP 0 rfl rfl 6 (by decide) hf_101 (fun _ h9 => h9) rfl d_RM_exclude_38 ?_
      refine lv_iload_n hx hb d_RM_exclude_41 rfl (lv_at hl 2 rfl) ?_
      refine kr_iast (k := 0) hx hb hK hP hD hS 2 0 rfl rfl (by omega) (by first | decide | omega) d_RM_exclude_42 (fun H locs hP hD hS => ?_)
      have hP : va_P (dC, dI) vwCl [(g, .inr (8, [.ref g_0, .ref g_1, .ref g_2, .ref g_3, .ref g_4, .int 0, .int 0, .int 65535, .int 0, .ref g_9, .ref g_10, .ref g_11, .ref g_12, .ref g_13, .ref g_14, .int 0, .int 0, .int 0, .int 0, .ref g_19, .ref g_20, .ref g_21, .int 0, .int 0, .int 0])), (g_3, .inl (cI, 6, .inl (upd (fun _ => 0) 0 e0))), (g_4, .inl (cI, 6, .inl (upd (fun _ => 0) 0 n0)))] H := hP
      have hD : va_D A [(g, .inr (8, [.ref g_0, .ref g_1, .ref g_2, .ref g_3, .ref g_4, .int 0, .int 0, .int 65535, .int 0, .ref g_9, .ref g_10, .ref g_11, .ref g_12, .ref g_13, .ref g_14, .int 0, .int 0, .int 0, .int 0, .ref g_19, .ref g_20, .ref g_21, .int 0, .int 0, .int 0])), (g_3, .inl (cI, 6, .inl (upd (fun _ => 0) 0 e0))), (g_4, .inl (cI, 6, .inl (upd (fun _ => 0) 0 n0)))] := hD
      refine lv_aload_n hx hb d_RM_exclude_43 rfl (lv_at hl 0 rfl) ?_
      refine lv_dup hx hb d_RM_exclude_44 rfl ?_
      refine va_get (D := (dC, dI)) (ci := 8) (v := .int 0) (C := "KitRunnerModel") (T := T_RM) (N := 25) hx hb hts hin_RM hown hK hP 0 rfl rfl 6 (by decide) hf_101 (fun _ h9 => h9) rfl d_RM_exclude_45 ?_
      refine lv_iconst (v := 1) hx hb d_RM_exclude_48 (by decide) ?_
      refine lv_iadd hx hb d_RM_exclude_49 ?_
      refine kr_topi (x := (0 + 1 : Int32)) (y := 1) (by decide) ?_
      refine va_put (D := (dC, dI)) (ci := 8) (v := .int 1) (ty := .int) (C := "KitRunnerModel") (T := T_RM) (N := 25) hx hb hts hin_RM ty_RM ty_RM_ok nm_RM hown hK hP hD hS 0 rfl rfl 6 (by decide) hf_101 (fun _ h9 => h9) rfl (by decide +kernel) rfl rfl (Nat.le_of_ble_eq_true rfl) d_RM_exclude_50 (fun H locs hP hD hS => ?_)
      have hP : va_P (dC, dI) vwCl [(g, .inr (8, [.ref g_0, .ref g_1, .ref g_2, .ref g_3, .ref g_4, .int 0, .int 1, .int 65535, .int 0, .ref g_9, .ref g_10, .ref g_11, .ref g_12, .ref g_13, .ref g_14, .int 0, .int 0, .int 0, .int 0, .ref g_19, .ref g_20, .ref g_21, .int 0, .int 0, .int 0])), (g_3, .inl (cI, 6, .inl (upd (fun _ => 0) 0 e0))), (g_4, .inl (cI, 6, .inl (upd (fun _ => 0) 0 n0)))] H := hP
      have hD : va_D A [(g, .inr (8, [.ref g_0, .ref g_1, .ref g_2, .ref g_3, .ref g_4, .int 0, .int 1, .int 65535, .int 0, .ref g_9, .ref g_10, .ref g_11, .ref g_12, .ref g_13, .ref g_14, .int 0, .int 0, .int 0, .int 0, .ref g_19, .ref g_20, .ref g_21, .int 0, .int 0, .int 0])), (g_3, .inl (cI, 6, .inl (upd (fun _ => 0) 0 e0))), (g_4, .inl (cI, 6, .inl (upd (fun _ => 0) 0 n0)))] := hD
      refine lv_aload_n hx hb d_RM_exclude_53 rfl (lv_at hl 0 rfl) ?_
      refine va_get (D := (dC, dI)) (ci := 8) (v := .int 1) (C := "KitRunnerModel") (T := T_RM) (N := 25) hx hb hts hin_RM hown hK hP 0 rfl rfl 6 (by decide) hf_101 (fun _ h9 => h9) rfl d_RM_exclude_54 ?_
      have hpost : r_exclude e0 = 1 := by simp only [r_exclude, if_pos c_2]
      have hP9 := hP.sub (ws' := []) [] rfl
      have hD9 := hD.sub (ws' := []) [] (by decide) rfl
      exact kr_iret (v := 1) hQ hx hb hr hlocks hK hP9 hD9 hS (by rw [hpost] <;> rfl) () rfl d_RM_exclude_57
    · skip
      exact absurd c_3 (by decide)
  · skip
    have c_2 : (r_inb e0 16) = false := kb_0.mp c_2
    refine lv_iconst (v := (-1)) hx hb d_RM_exclude_9 (by decide) ?_
    have hpost : r_exclude e0 = -1 := by simp only [r_exclude, if_neg (k_bf c_2)]
    have hP9 := hP.sub (ws' := []) [] rfl
    have hD9 := hD.sub (ws' := []) [] (by decide) rfl
    exact kr_iret (v := (-1)) hQ hx hb hr hlocks hK hP9 hD9 hS (by rw [hpost] <;> rfl) () rfl d_RM_exclude_10
set_option maxHeartbeats 4000000 in
set_option maxRecDepth 100000 in
theorem rc_clear (l : Launch) (dC : Nat → ClassId) (dI : Nat → Nat → Nat) (cI cJ cC cZ : ClassId) (σ : kSg) (g g_0 g_1 g_2 g_3 g_4 g_9 g_10 g_11 g_12 g_13 g_14 g_19 g_20 g_21 : Nat) (w0 : Int32) : kC l y_RM_clear ws_RM_clear (kRm 1 0 0 21) (dC, dI) (kTy cI cJ cC cZ) σ ([(g, .inr (8, [.ref g_0, .ref g_1, .ref g_2, .ref g_3, .ref g_4, .int 0, .int 0, .int 65535, .int 0, .ref g_9, .ref g_10, .ref g_11, .ref g_12, .ref g_13, .ref g_14, .int 0, .int 0, .int 0, .int 0, .ref g_19, .ref g_20, .ref g_21, .int 0, .int 0, .int 0]))]) [.ref g, .int w0] (kQi (dC, dI) (kTy cI cJ cC cZ) (r_clear w0) (fun _ : Unit => [])) 0 0 := by
  refine kr_met (cc := prog_12_method_7_code) (maxL := 2) (ret := (some .int)) (by decide) rfl (Nat.le_of_ble_eq_true rfl) ?_
  intro p e s m args below meth c A Q hQ hx hb hr hml hts hown hlocks hnm hA hP hK hD hSt ls hl
  have hS : va_S A s.heap s.heap [] := va_S.rf
  have hown : s.vm.findClass "KitRunnerModel" = some m.cls := hown
  have hl : lv_has ls 2 [(0, .ref g), (1, .int w0)] := hl
  have hP : va_P (dC, dI) vwCl [(g, .inr (8, [.ref g_0, .ref g_1, .ref g_2, .ref g_3, .ref g_4, .int 0, .int 0, .int 65535, .int 0, .ref g_9, .ref g_10, .ref g_11, .ref g_12, .ref g_13, .ref g_14, .int 0, .int 0, .int 0, .int 0, .ref g_19, .ref g_20, .ref g_21, .int 0, .int 0, .int 0]))] s.heap := hP
  have hD : va_D A [(g, .inr (8, [.ref g_0, .ref g_1, .ref g_2, .ref g_3, .ref g_4, .int 0, .int 0, .int 65535, .int 0, .ref g_9, .ref g_10, .ref g_11, .ref g_12, .ref g_13, .ref g_14, .int 0, .int 0, .int 0, .int 0, .ref g_19, .ref g_20, .ref g_21, .int 0, .int 0, .int 0]))] := hD
  have hini_RM := hts _ (List.mem_cons_of_mem _ wq_9)
  have hm_94 := hts _ (List.mem_cons_of_mem _ wq_657)
  have hs_94 := hts _ (List.mem_cons_of_mem _ wq_658)
  have hf_101 := hts _ (List.mem_cons_of_mem _ wq_582)
  have hin_RM := fun w (h : w ∈ u_ws "KitRunnerModel" T_RM 25) => List.mem_cons_of_mem (Cond.code y_RM_clear prog_12_method_7_code 2 (some .int)) (in_RM w h)
  have hf_98 := hts _ (List.mem_cons_of_mem _ wq_581)
  refine lv_iload_n hx hb d_RM_clear_0 rfl (lv_at hl 1 rfl) ?_
  refine lv_iconst (v := 3) hx hb d_RM_clear_1 (by decide) ?_
  have hpre_1 := kr_pre (wc := []) (av := [.int w0, .int 3]) hK hP hD hS hA hSt [] rfl (by decide)
  refine kj_i (wc := []) (wr := [(g, .inr (8, [.ref g_0, .ref g_1, .ref g_2, .ref g_3, .ref g_4, .int 0, .int 0, .int 65535, .int 0, .ref g_9, .ref g_10, .ref g_11, .ref g_12, .ref g_13, .ref g_14, .int 0, .int 0, .int 0, .int 0, .ref g_19, .ref g_20, .ref g_21, .int 0, .int 0, .int 0]))]) (va_runS (As := [.int w0, .int 3]) (rest := []) ⟨hx, hb, hml, hown, hts⟩ (rc_in l dC dI cI cJ cC cZ σ w0 3 _) ⟨(callB_of 2 hts (kg wq_659) rfl rfl rfl hini_RM hm_94 (by decide +kernel) ⟨Nat.le_of_ble_eq_true rfl, Nat.le_of_ble_eq_true rfl⟩), hs_94⟩ hpre_1 rfl rfl hl.1 rfl (lv_room (Nat.le_of_ble_eq_true rfl)) d_RM_clear_2 ⟨Nat.le_of_ble_eq_true rfl, Nat.le_of_ble_eq_true rfl⟩) hP hD hS hA [] [0] rfl rfl (by decide) (by decide) (fun _ H locs hP hD hS => ?_)
  have hP : va_P (dC, dI) vwCl [(g, .inr (8, [.ref g_0, .ref g_1, .ref g_2, .ref g_3, .ref g_4, .int 0, .int 0, .int 65535, .int 0, .ref g_9, .ref g_10, .ref g_11, .ref g_12, .ref g_13, .ref g_14, .int 0, .int 0, .int 0, .int 0, .ref g_19, .ref g_20, .ref g_21, .int 0, .int 0, .int 0]))] H := hP
  have hD : va_D A [(g, .inr (8, [.ref g_0, .ref g_1, .ref g_2, .ref g_3, .ref g_4, .int 0, .int 0, .int 65535, .int 0, .ref g_9, .ref g_10, .ref g_11, .ref g_12, .ref g_13, .ref g_14, .int 0, .int 0, .int 0, .int 0, .ref g_19, .ref g_20, .ref g_21, .int 0, .int 0, .int 0]))] := hD
  refine lv_if_ne (tgt := 10) hx hb d_RM_clear_5 (by decide) (fun c_2 => ?_) (fun c_2 => ?_)
  · skip
    have c_2 : (r_inb w0 3) = true := kb_n.mp c_2
    refine lv_iload_n hx hb d_RM_clear_10 rfl (lv_at hl 1 rfl) ?_
    refine lv_iconst (v := 1) hx hb d_RM_clear_11 (by decide) ?_
    refine lv_icmp_eq (tgt := 20) hx hb d_RM_clear_12 (by decide) (fun c_3 => ?_) (fun c_3 => ?_)
    · skip
      refine lv_iload_n hx hb d_RM_clear_20 rfl (lv_at hl 1 rfl) ?_
      refine lv_if_eq (tgt := 29) hx hb d_RM_clear_21 (by decide) (fun c_4 => ?_) (fun c_4 => ?_)
      · skip
        refine lv_iconst (v := 0) hx hb d_RM_clear_29 (by decide) ?_
        have hpost : r_clear w0 = 0 := by simp only [r_clear, if_pos c_2, if_pos c_3, if_pos c_4]
        have hP9 := hP.sub (ws' := []) [] rfl
        have hD9 := hD.sub (ws' := []) [] (by decide) rfl
        exact kr_iret (v := 0) hQ hx hb hr hlocks hK hP9 hD9 hS (by rw [hpost] <;> rfl) () rfl d_RM_clear_30
      · skip
        refine lv_aload_n hx hb d_RM_clear_24 rfl (lv_at hl 0 rfl) ?_
        refine lv_iconst (v := 0) hx hb d_RM_clear_25 (by decide) ?_
        refine va_put (D := (dC, dI)) (ci := 8) (v := .int 0) (ty := .int) (C := "KitRunnerModel") (T := T_RM) (N := 25) hx hb hts hin_RM ty_RM ty_RM_ok nm_RM hown hK hP hD hS 0 rfl rfl 6 (by decide) hf_101 (fun _ h9 => h9) rfl (by decide +kernel) rfl rfl (Nat.le_of_ble_eq_true rfl) d_RM_clear_26 (fun H locs hP hD hS => ?_)
        have hP : va_P (dC, dI) vwCl [(g, .inr (8, [.ref g_0, .ref g_1, .ref g_2, .ref g_3, .ref g_4, .int 0, .int 0, .int 65535, .int 0, .ref g_9, .ref g_10, .ref g_11, .ref g_12, .ref g_13, .ref g_14, .int 0, .int 0, .int 0, .int 0, .ref g_19, .ref g_20, .ref g_21, .int 0, .int 0, .int 0]))] H := hP
        have hD : va_D A [(g, .inr (8, [.ref g_0, .ref g_1, .ref g_2, .ref g_3, .ref g_4, .int 0, .int 0, .int 65535, .int 0, .ref g_9, .ref g_10, .ref g_11, .ref g_12, .ref g_13, .ref g_14, .int 0, .int 0, .int 0, .int 0, .ref g_19, .ref g_20, .ref g_21, .int 0, .int 0, .int 0]))] := hD
        refine lv_iconst (v := 0) hx hb d_RM_clear_29 (by decide) ?_
        have hpost : r_clear w0 = 0 := by simp only [r_clear, if_pos c_2, if_pos c_3, if_neg c_4]
        have hP9 := hP.sub (ws' := []) [] rfl
        have hD9 := hD.sub (ws' := []) [] (by decide) rfl
        exact kr_iret (v := 0) hQ hx hb hr hlocks hK hP9 hD9 hS (by rw [hpost] <;> rfl) () rfl d_RM_clear_30
    · skip
      refine lv_aload_n hx hb d_RM_clear_15 rfl (lv_at hl 0 rfl) ?_
      refine lv_iconst (v := 0) hx hb d_RM_clear_16 (by decide) ?_
      refine va_put (D := (dC, dI)) (ci := 8) (v := .int 0) (ty := .int) (C := "KitRunnerModel") (T := T_RM) (N := 25) hx hb hts hin_RM ty_RM ty_RM_ok nm_RM hown hK hP hD hS 0 rfl rfl 5 (by decide) hf_98 (fun _ h9 => h9) rfl (by decide +kernel) rfl rfl (Nat.le_of_ble_eq_true rfl) d_RM_clear_17 (fun H locs hP hD hS => ?_)
      have hP : va_P (dC, dI) vwCl [(g, .inr (8, [.ref g_0, .ref g_1, .ref g_2, .ref g_3, .ref g_4, .int 0, .int 0, .int 65535, .int 0, .ref g_9, .ref g_10, .ref g_11, .ref g_12, .ref g_13, .ref g_14, .int 0, .int 0, .int 0, .int 0, .ref g_19, .ref g_20, .ref g_21, .int 0, .int 0, .int 0]))] H := hP
      have hD : va_D A [(g, .inr (8, [.ref g_0, .ref g_1, .ref g_2, .ref g_3, .ref g_4, .int 0, .int 0, .int 65535, .int 0, .ref g_9, .ref g_10, .ref g_11, .ref g_12, .ref g_13, .ref g_14, .int 0, .int 0, .int 0, .int 0, .ref g_19, .ref g_20, .ref g_21, .int 0, .int 0, .int 0]))] := hD
      refine lv_iload_n hx hb d_RM_clear_20 rfl (lv_at hl 1 rfl) ?_
      refine lv_if_eq (tgt := 29) hx hb d_RM_clear_21 (by decide) (fun c_5 => ?_) (fun c_5 => ?_)
      · skip
        refine lv_iconst (v := 0) hx hb d_RM_clear_29 (by decide) ?_
        have hpost : r_clear w0 = 0 := by simp only [r_clear, if_pos c_2, if_neg c_3, if_pos c_5]
        have hP9 := hP.sub (ws' := []) [] rfl
        have hD9 := hD.sub (ws' := []) [] (by decide) rfl
        exact kr_iret (v := 0) hQ hx hb hr hlocks hK hP9 hD9 hS (by rw [hpost] <;> rfl) () rfl d_RM_clear_30
      · skip
        refine lv_aload_n hx hb d_RM_clear_24 rfl (lv_at hl 0 rfl) ?_
        refine lv_iconst (v := 0) hx hb d_RM_clear_25 (by decide) ?_
        refine va_put (D := (dC, dI)) (ci := 8) (v := .int 0) (ty := .int) (C := "KitRunnerModel") (T := T_RM) (N := 25) hx hb hts hin_RM ty_RM ty_RM_ok nm_RM hown hK hP hD hS 0 rfl rfl 6 (by decide) hf_101 (fun _ h9 => h9) rfl (by decide +kernel) rfl rfl (Nat.le_of_ble_eq_true rfl) d_RM_clear_26 (fun H locs hP hD hS => ?_)
        have hP : va_P (dC, dI) vwCl [(g, .inr (8, [.ref g_0, .ref g_1, .ref g_2, .ref g_3, .ref g_4, .int 0, .int 0, .int 65535, .int 0, .ref g_9, .ref g_10, .ref g_11, .ref g_12, .ref g_13, .ref g_14, .int 0, .int 0, .int 0, .int 0, .ref g_19, .ref g_20, .ref g_21, .int 0, .int 0, .int 0]))] H := hP
        have hD : va_D A [(g, .inr (8, [.ref g_0, .ref g_1, .ref g_2, .ref g_3, .ref g_4, .int 0, .int 0, .int 65535, .int 0, .ref g_9, .ref g_10, .ref g_11, .ref g_12, .ref g_13, .ref g_14, .int 0, .int 0, .int 0, .int 0, .ref g_19, .ref g_20, .ref g_21, .int 0, .int 0, .int 0]))] := hD
        refine lv_iconst (v := 0) hx hb d_RM_clear_29 (by decide) ?_
        have hpost : r_clear w0 = 0 := by simp only [r_clear, if_pos c_2, if_neg c_3, if_neg c_5]
        have hP9 := hP.sub (ws' := []) [] rfl
        have hD9 := hD.sub (ws' := []) [] (by decide) rfl
        exact kr_iret (v := 0) hQ hx hb hr hlocks hK hP9 hD9 hS (by rw [hpost] <;> rfl) () rfl d_RM_clear_30
  · skip
    have c_2 : (r_inb w0 3) = false := kb_0.mp c_2
    refine lv_iconst (v := (-1)) hx hb d_RM_clear_8 (by decide) ?_
    have hpost : r_clear w0 = -1 := by simp only [r_clear, if_neg (k_bf c_2)]
    have hP9 := hP.sub (ws' := []) [] rfl
    have hD9 := hD.sub (ws' := []) [] (by decide) rfl
    exact kr_iret (v := (-1)) hQ hx hb hr hlocks hK hP9 hD9 hS (by rw [hpost] <;> rfl) () rfl d_RM_clear_9
set_option maxHeartbeats 4000000 in
set_option maxRecDepth 100000 in
theorem rc_enable (l : Launch) (dC : Nat → ClassId) (dI : Nat → Nat → Nat) (cI cJ cC cZ : ClassId) (σ : kSg) (g g_0 g_1 g_2 g_3 g_4 g_9 g_10 g_11 g_12 g_13 g_14 g_19 g_20 g_21 : Nat) (k0 : Int32) : kC l y_RM_enable ws_RM_enable (kRm 0 0 0 0) (dC, dI) (kTy cI cJ cC cZ) σ ([(g, .inr (8, [.ref g_0, .ref g_1, .ref g_2, .ref g_3, .ref g_4, .int 0, .int 0, .int 65535, .int 0, .ref g_9, .ref g_10, .ref g_11, .ref g_12, .ref g_13, .ref g_14, .int 0, .int 0, .int 0, .int 0, .ref g_19, .ref g_20, .ref g_21, .int 0, .int 0, .int 0]))]) [.ref g, .int k0] (kQi (dC, dI) (kTy cI cJ cC cZ) (r_enable k0) (fun _ : Unit => [])) 0 0 := by
  refine kr_met (cc := prog_12_method_8_code) (maxL := 2) (ret := (some .int)) (by decide) rfl (Nat.le_of_ble_eq_true rfl) ?_
  intro p e s m args below meth c A Q hQ hx hb hr hml hts hown hlocks hnm hA hP hK hD hSt ls hl
  have hS : va_S A s.heap s.heap [] := va_S.rf
  have hown : s.vm.findClass "KitRunnerModel" = some m.cls := hown
  have hl : lv_has ls 2 [(0, .ref g), (1, .int k0)] := hl
  have hP : va_P (dC, dI) vwCl [(g, .inr (8, [.ref g_0, .ref g_1, .ref g_2, .ref g_3, .ref g_4, .int 0, .int 0, .int 65535, .int 0, .ref g_9, .ref g_10, .ref g_11, .ref g_12, .ref g_13, .ref g_14, .int 0, .int 0, .int 0, .int 0, .ref g_19, .ref g_20, .ref g_21, .int 0, .int 0, .int 0]))] s.heap := hP
  have hD : va_D A [(g, .inr (8, [.ref g_0, .ref g_1, .ref g_2, .ref g_3, .ref g_4, .int 0, .int 0, .int 65535, .int 0, .ref g_9, .ref g_10, .ref g_11, .ref g_12, .ref g_13, .ref g_14, .int 0, .int 0, .int 0, .int 0, .ref g_19, .ref g_20, .ref g_21, .int 0, .int 0, .int 0]))] := hD
  have hk_25 := hts _ (List.mem_cons_of_mem _ wq_575)
  have hf_26 := hts _ (List.mem_cons_of_mem _ wq_583)
  have hin_RM := fun w (h : w ∈ u_ws "KitRunnerModel" T_RM 25) => List.mem_cons_of_mem (Cond.code y_RM_enable prog_12_method_8_code 2 (some .int)) (in_RM w h)
  refine lv_iload_n hx hb d_RM_enable_0 rfl (lv_at hl 1 rfl) ?_
  refine lv_if_lt (tgt := 10) hx hb d_RM_enable_1 (by decide) (fun c_1 => ?_) (fun c_1 => ?_)
  · skip
    refine lv_iconst (v := (-1)) hx hb d_RM_enable_10 (by decide) ?_
    have hpost : r_enable k0 = -1 := by simp only [r_enable, if_pos c_1]
    have hP9 := hP.sub (ws' := []) [] rfl
    have hD9 := hD.sub (ws' := []) [] (by decide) rfl
    exact kr_iret (v := (-1)) hQ hx hb hr hlocks hK hP9 hD9 hS (by rw [hpost] <;> rfl) () rfl d_RM_enable_11
  · skip
    refine lv_iload_n hx hb d_RM_enable_4 rfl (lv_at hl 1 rfl) ?_
    refine lv_ldc (v := 65535) hx hb hown hk_25 d_RM_enable_5 ?_
    refine lv_icmp_le (tgt := 12) hx hb d_RM_enable_7 (by decide) (fun c_2 => ?_) (fun c_2 => ?_)
    · skip
      refine lv_aload_n hx hb d_RM_enable_12 rfl (lv_at hl 0 rfl) ?_
      refine lv_iload_n hx hb d_RM_enable_13 rfl (lv_at hl 1 rfl) ?_
      refine va_put (D := (dC, dI)) (ci := 8) (v := .int k0) (ty := .int) (C := "KitRunnerModel") (T := T_RM) (N := 25) hx hb hts hin_RM ty_RM ty_RM_ok nm_RM hown hK hP hD hS 0 rfl rfl 7 (by decide) hf_26 (fun _ h9 => h9) rfl (by decide +kernel) rfl rfl (Nat.le_of_ble_eq_true rfl) d_RM_enable_14 (fun H locs hP hD hS => ?_)
      have hP : va_P (dC, dI) vwCl [(g, .inr (8, [.ref g_0, .ref g_1, .ref g_2, .ref g_3, .ref g_4, .int 0, .int 0, .int k0, .int 0, .ref g_9, .ref g_10, .ref g_11, .ref g_12, .ref g_13, .ref g_14, .int 0, .int 0, .int 0, .int 0, .ref g_19, .ref g_20, .ref g_21, .int 0, .int 0, .int 0]))] H := hP
      have hD : va_D A [(g, .inr (8, [.ref g_0, .ref g_1, .ref g_2, .ref g_3, .ref g_4, .int 0, .int 0, .int k0, .int 0, .ref g_9, .ref g_10, .ref g_11, .ref g_12, .ref g_13, .ref g_14, .int 0, .int 0, .int 0, .int 0, .ref g_19, .ref g_20, .ref g_21, .int 0, .int 0, .int 0]))] := hD
      refine lv_iconst (v := 0) hx hb d_RM_enable_17 (by decide) ?_
      have hpost : r_enable k0 = 0 := by simp only [r_enable, if_neg c_1, if_pos c_2]
      have hP9 := hP.sub (ws' := []) [] rfl
      have hD9 := hD.sub (ws' := []) [] (by decide) rfl
      exact kr_iret (v := 0) hQ hx hb hr hlocks hK hP9 hD9 hS (by rw [hpost] <;> rfl) () rfl d_RM_enable_18
    · skip
      refine lv_iconst (v := (-1)) hx hb d_RM_enable_10 (by decide) ?_
      have hpost : r_enable k0 = -1 := by simp only [r_enable, if_neg c_1, if_neg c_2]
      have hP9 := hP.sub (ws' := []) [] rfl
      have hD9 := hD.sub (ws' := []) [] (by decide) rfl
      exact kr_iret (v := (-1)) hQ hx hb hr hlocks hK hP9 hD9 hS (by rw [hpost] <;> rfl) () rfl d_RM_enable_11
set_option maxHeartbeats 4000000 in
set_option maxRecDepth 100000 in
theorem rc_failure (l : Launch) (dC : Nat → ClassId) (dI : Nat → Nat → Nat) (cI cJ cC cZ : ClassId) (σ : kSg) (g g_0 g_1 g_2 g_3 g_4 g_9 g_10 g_11 g_12 g_13 g_14 g_19 g_20 g_21 : Nat) (i0 : Int32) (w0 : Int32) : kC l y_RM_failure ws_RM_failure (kRm 1 0 0 21) (dC, dI) (kTy cI cJ cC cZ) σ ([(g, .inr (8, [.ref g_0, .ref g_1, .ref g_2, .ref g_3, .ref g_4, .int 0, .int 0, .int 65535, .int 0, .ref g_9, .ref g_10, .ref g_11, .ref g_12, .ref g_13, .ref g_14, .int 0, .int 0, .int 0, .int 0, .ref g_19, .ref g_20, .ref g_21, .int 0, .int 0, .int 0]))]) [.ref g, .int i0, .int w0] (kQl (dC, dI) (kTy cI cJ cC cZ) (-1000000000000) (fun _ : Unit => [])) 0 0 := by
  refine kr_met (cc := prog_12_method_17_code) (maxL := 3) (ret := (some .long)) (by decide) rfl (Nat.le_of_ble_eq_true rfl) ?_
  intro p e s m args below meth c A Q hQ hx hb hr hml hts hown hlocks hnm hA hP hK hD hSt ls hl
  have hS : va_S A s.heap s.heap [] := va_S.rf
  have hown : s.vm.findClass "KitRunnerModel" = some m.cls := hown
  have hl : lv_has ls 3 [(0, .ref g), (1, .int i0), (2, .int w0)] := hl
  have hP : va_P (dC, dI) vwCl [(g, .inr (8, [.ref g_0, .ref g_1, .ref g_2, .ref g_3, .ref g_4, .int 0, .int 0, .int 65535, .int 0, .ref g_9, .ref g_10, .ref g_11, .ref g_12, .ref g_13, .ref g_14, .int 0, .int 0, .int 0, .int 0, .ref g_19, .ref g_20, .ref g_21, .int 0, .int 0, .int 0]))] s.heap := hP
  have hD : va_D A [(g, .inr (8, [.ref g_0, .ref g_1, .ref g_2, .ref g_3, .ref g_4, .int 0, .int 0, .int 65535, .int 0, .ref g_9, .ref g_10, .ref g_11, .ref g_12, .ref g_13, .ref g_14, .int 0, .int 0, .int 0, .int 0, .ref g_19, .ref g_20, .ref g_21, .int 0, .int 0, .int 0]))] := hD
  have hf_155 := hts _ (List.mem_cons_of_mem _ wq_592)
  have hin_RM := fun w (h : w ∈ u_ws "KitRunnerModel" T_RM 25) => List.mem_cons_of_mem (Cond.code y_RM_failure prog_12_method_17_code 3 (some .long)) (in_RM w h)
  have hini_RM := hts _ (List.mem_cons_of_mem _ wq_9)
  have hm_94 := hts _ (List.mem_cons_of_mem _ wq_657)
  have hs_94 := hts _ (List.mem_cons_of_mem _ wq_658)
  have hk_140 := hts _ (List.mem_cons_of_mem _ wq_700)
  refine lv_iload_n hx hb d_RM_failure_0 rfl (lv_at hl 1 rfl) ?_
  refine lv_aload_n hx hb d_RM_failure_1 rfl (lv_at hl 0 rfl) ?_
  refine va_get (D := (dC, dI)) (ci := 8) (v := .int 0) (C := "KitRunnerModel") (T := T_RM) (N := 25) hx hb hts hin_RM hown hK hP 0 rfl rfl 16 (by decide) hf_155 (fun _ h9 => h9) rfl d_RM_failure_2 ?_
  refine lv_bipush (v := 12) hx hb d_RM_failure_5 (by decide) ?_
  refine lv_icmp_ge (tgt := 17) hx hb d_RM_failure_7 (by decide) (fun c_1 => ?_) (fun c_1 => ?_)
  · skip
    exact absurd c_1 (by decide)
  · skip
    have c_1 : ¬ 12 ≤ 0 := fun h9 => c_1 ((nI_leI (a := 12) (b := 0) (by omega) (by omega)).mpr h9)
    refine lv_aload_n hx hb d_RM_failure_10 rfl (lv_at hl 0 rfl) ?_
    refine va_get (D := (dC, dI)) (ci := 8) (v := .int 0) (C := "KitRunnerModel") (T := T_RM) (N := 25) hx hb hts hin_RM hown hK hP 0 rfl rfl 16 (by decide) hf_155 (fun _ h9 => h9) rfl d_RM_failure_11 ?_
    refine lv_goto (tgt := 19) hx hb d_RM_failure_14 (by decide) ?_
    have hpre_2 := kr_pre (wc := []) (av := [.int i0, .int 0]) hK hP hD hS hA hSt [] rfl (by decide)
    refine kj_i (wc := []) (wr := [(g, .inr (8, [.ref g_0, .ref g_1, .ref g_2, .ref g_3, .ref g_4, .int 0, .int 0, .int 65535, .int 0, .ref g_9, .ref g_10, .ref g_11, .ref g_12, .ref g_13, .ref g_14, .int 0, .int 0, .int 0, .int 0, .ref g_19, .ref g_20, .ref g_21, .int 0, .int 0, .int 0]))]) (va_runS (As := [.int i0, .int 0]) (rest := []) ⟨hx, hb, hml, hown, hts⟩ (rc_in l dC dI cI cJ cC cZ σ i0 0 _) ⟨(callB_of 2 hts (kg wq_659) rfl rfl rfl hini_RM hm_94 (by decide +kernel) ⟨Nat.le_of_ble_eq_true rfl, Nat.le_of_ble_eq_true rfl⟩), hs_94⟩ hpre_2 rfl rfl hl.1 rfl (lv_room (Nat.le_of_ble_eq_true rfl)) d_RM_failure_19 ⟨Nat.le_of_ble_eq_true rfl, Nat.le_of_ble_eq_true rfl⟩) hP hD hS hA [] [0] rfl rfl (by decide) (by decide) (fun _ H locs hP hD hS => ?_)
    have hP : va_P (dC, dI) vwCl [(g, .inr (8, [.ref g_0, .ref g_1, .ref g_2, .ref g_3, .ref g_4, .int 0, .int 0, .int 65535, .int 0, .ref g_9, .ref g_10, .ref g_11, .ref g_12, .ref g_13, .ref g_14, .int 0, .int 0, .int 0, .int 0, .ref g_19, .ref g_20, .ref g_21, .int 0, .int 0, .int 0]))] H := hP
    have hD : va_D A [(g, .inr (8, [.ref g_0, .ref g_1, .ref g_2, .ref g_3, .ref g_4, .int 0, .int 0, .int 65535, .int 0, .ref g_9, .ref g_10, .ref g_11, .ref g_12, .ref g_13, .ref g_14, .int 0, .int 0, .int 0, .int 0, .ref g_19, .ref g_20, .ref g_21, .int 0, .int 0, .int 0]))] := hD
    refine lv_if_eq (tgt := 33) hx hb d_RM_failure_22 (by decide) (fun c_3 => ?_) (fun c_3 => ?_)
    · skip
      have c_3 : (r_inb i0 0) = false := kb_0.mp c_3
      refine lv_ldc2 (v := (-1000000000000)) hx hb hown hk_140 d_RM_failure_33 ?_
      have hP9 := hP.sub (ws' := []) [] rfl
      have hD9 := hD.sub (ws' := []) [] (by decide) rfl
      exact kr_lret (v := (-1000000000000)) hQ hx hb hr hlocks hK hP9 hD9 hS rfl () rfl d_RM_failure_36
    · skip
      have c_3 : (r_inb i0 0) = true := kb_n.mp c_3
      exact absurd c_3 (by rw [r_in0]; decide)
set_option maxHeartbeats 4000000 in
set_option maxRecDepth 100000 in
theorem rc_shrink (l : Launch) (dC : Nat → ClassId) (dI : Nat → Nat → Nat) (cI cJ cC cZ : ClassId) (σ : kSg) (g g_0 g_1 g_2 g_3 g_4 g_9 g_10 g_11 g_12 g_13 g_14 g_19 g_20 g_21 : Nat) (i0 : Int32) (w0 : Int32) : kC l y_RM_shrink ws_RM_shrink (kRm 1 0 0 21) (dC, dI) (kTy cI cJ cC cZ) σ ([(g, .inr (8, [.ref g_0, .ref g_1, .ref g_2, .ref g_3, .ref g_4, .int 0, .int 0, .int 65535, .int 0, .ref g_9, .ref g_10, .ref g_11, .ref g_12, .ref g_13, .ref g_14, .int 0, .int 0, .int 0, .int 0, .ref g_19, .ref g_20, .ref g_21, .int 0, .int 0, .int 0]))]) [.ref g, .int i0, .int w0] (kQl (dC, dI) (kTy cI cJ cC cZ) (-1000000000000) (fun _ : Unit => [])) 0 0 := by
  refine kr_met (cc := prog_12_method_21_code) (maxL := 5) (ret := (some .long)) (by decide) rfl (Nat.le_of_ble_eq_true rfl) ?_
  intro p e s m args below meth c A Q hQ hx hb hr hml hts hown hlocks hnm hA hP hK hD hSt ls hl
  have hS : va_S A s.heap s.heap [] := va_S.rf
  have hown : s.vm.findClass "KitRunnerModel" = some m.cls := hown
  have hl : lv_has ls 5 [(0, .ref g), (1, .int i0), (2, .int w0)] := hl
  have hP : va_P (dC, dI) vwCl [(g, .inr (8, [.ref g_0, .ref g_1, .ref g_2, .ref g_3, .ref g_4, .int 0, .int 0, .int 65535, .int 0, .ref g_9, .ref g_10, .ref g_11, .ref g_12, .ref g_13, .ref g_14, .int 0, .int 0, .int 0, .int 0, .ref g_19, .ref g_20, .ref g_21, .int 0, .int 0, .int 0]))] s.heap := hP
  have hD : va_D A [(g, .inr (8, [.ref g_0, .ref g_1, .ref g_2, .ref g_3, .ref g_4, .int 0, .int 0, .int 65535, .int 0, .ref g_9, .ref g_10, .ref g_11, .ref g_12, .ref g_13, .ref g_14, .int 0, .int 0, .int 0, .int 0, .ref g_19, .ref g_20, .ref g_21, .int 0, .int 0, .int 0]))] := hD
  have hf_155 := hts _ (List.mem_cons_of_mem _ wq_592)
  have hin_RM := fun w (h : w ∈ u_ws "KitRunnerModel" T_RM 25) => List.mem_cons_of_mem (Cond.code y_RM_shrink prog_12_method_21_code 5 (some .long)) (in_RM w h)
  have hini_RM := hts _ (List.mem_cons_of_mem _ wq_9)
  have hm_94 := hts _ (List.mem_cons_of_mem _ wq_657)
  have hs_94 := hts _ (List.mem_cons_of_mem _ wq_658)
  have hk_140 := hts _ (List.mem_cons_of_mem _ wq_700)
  refine lv_iload_n hx hb d_RM_shrink_0 rfl (lv_at hl 1 rfl) ?_
  refine lv_aload_n hx hb d_RM_shrink_1 rfl (lv_at hl 0 rfl) ?_
  refine va_get (D := (dC, dI)) (ci := 8) (v := .int 0) (C := "KitRunnerModel") (T := T_RM) (N := 25) hx hb hts hin_RM hown hK hP 0 rfl rfl 16 (by decide) hf_155 (fun _ h9 => h9) rfl d_RM_shrink_2 ?_
  refine lv_bipush (v := 12) hx hb d_RM_shrink_5 (by decide) ?_
  refine lv_icmp_ge (tgt := 17) hx hb d_RM_shrink_7 (by decide) (fun c_1 => ?_) (fun c_1 => ?_)
  · skip
    exact absurd c_1 (by decide)
  · skip
    have c_1 : ¬ 12 ≤ 0 := fun h9 => c_1 ((nI_leI (a := 12) (b := 0) (by omega) (by omega)).mpr h9)
    refine lv_aload_n hx hb d_RM_shrink_10 rfl (lv_at hl 0 rfl) ?_
    refine va_get (D := (dC, dI)) (ci := 8) (v := .int 0) (C := "KitRunnerModel") (T := T_RM) (N := 25) hx hb hts hin_RM hown hK hP 0 rfl rfl 16 (by decide) hf_155 (fun _ h9 => h9) rfl d_RM_shrink_11 ?_
    refine lv_goto (tgt := 19) hx hb d_RM_shrink_14 (by decide) ?_
    have hpre_2 := kr_pre (wc := []) (av := [.int i0, .int 0]) hK hP hD hS hA hSt [] rfl (by decide)
    refine kj_i (wc := []) (wr := [(g, .inr (8, [.ref g_0, .ref g_1, .ref g_2, .ref g_3, .ref g_4, .int 0, .int 0, .int 65535, .int 0, .ref g_9, .ref g_10, .ref g_11, .ref g_12, .ref g_13, .ref g_14, .int 0, .int 0, .int 0, .int 0, .ref g_19, .ref g_20, .ref g_21, .int 0, .int 0, .int 0]))]) (va_runS (As := [.int i0, .int 0]) (rest := []) ⟨hx, hb, hml, hown, hts⟩ (rc_in l dC dI cI cJ cC cZ σ i0 0 _) ⟨(callB_of 2 hts (kg wq_659) rfl rfl rfl hini_RM hm_94 (by decide +kernel) ⟨Nat.le_of_ble_eq_true rfl, Nat.le_of_ble_eq_true rfl⟩), hs_94⟩ hpre_2 rfl rfl hl.1 rfl (lv_room (Nat.le_of_ble_eq_true rfl)) d_RM_shrink_19 ⟨Nat.le_of_ble_eq_true rfl, Nat.le_of_ble_eq_true rfl⟩) hP hD hS hA [] [0] rfl rfl (by decide) (by decide) (fun _ H locs hP hD hS => ?_)
    have hP : va_P (dC, dI) vwCl [(g, .inr (8, [.ref g_0, .ref g_1, .ref g_2, .ref g_3, .ref g_4, .int 0, .int 0, .int 65535, .int 0, .ref g_9, .ref g_10, .ref g_11, .ref g_12, .ref g_13, .ref g_14, .int 0, .int 0, .int 0, .int 0, .ref g_19, .ref g_20, .ref g_21, .int 0, .int 0, .int 0]))] H := hP
    have hD : va_D A [(g, .inr (8, [.ref g_0, .ref g_1, .ref g_2, .ref g_3, .ref g_4, .int 0, .int 0, .int 65535, .int 0, .ref g_9, .ref g_10, .ref g_11, .ref g_12, .ref g_13, .ref g_14, .int 0, .int 0, .int 0, .int 0, .ref g_19, .ref g_20, .ref g_21, .int 0, .int 0, .int 0]))] := hD
    refine lv_if_eq (tgt := 33) hx hb d_RM_shrink_22 (by decide) (fun c_3 => ?_) (fun c_3 => ?_)
    · skip
      have c_3 : (r_inb i0 0) = false := kb_0.mp c_3
      refine lv_ldc2 (v := (-1000000000000)) hx hb hown hk_140 d_RM_shrink_33 ?_
      have hP9 := hP.sub (ws' := []) [] rfl
      have hD9 := hD.sub (ws' := []) [] (by decide) rfl
      exact kr_lret (v := (-1000000000000)) hQ hx hb hr hlocks hK hP9 hD9 hS rfl () rfl d_RM_shrink_36
    · skip
      have c_3 : (r_inb i0 0) = true := kb_n.mp c_3
      exact absurd c_3 (by rw [r_in0]; decide)
