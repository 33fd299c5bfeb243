set_option maxHeartbeats 4000000 in
set_option maxRecDepth 100000 in
theorem rc_ledger (l : Launch) (dC : Nat → ClassId) (dI : Nat → Nat → Nat) (cI cJ cC cZ : ClassId) (σ : kSg) (g g_0 g_1 g_2 g_3 g_4 g_9 g_10 g_11 g_12 g_13 g_14 g_19 g_20 g_21 : Nat) (e0 : Int32) : kC l y_RM_ledger ws_RM_ledger (kRm 1 0 0 21) (dC, dI) (kTy cI cJ cC cZ) σ ([(g, .inr (8, [.ref g_0, .ref g_1, .ref g_2, .ref g_3, .ref g_4, .int 0, .int 0, .int 65535, .int 0, .ref g_9, .ref g_10, .ref g_11, .ref g_12, .ref g_13, .ref g_14, .int 0, .int 0, .int 0, .int 0, .ref g_19, .ref g_20, .ref g_21, .int 0, .int 0, .int 0])), (g_11, .inl (cI, 16, .inl (fun _ => 0)))]) [.ref g, .int e0] (kQi (dC, dI) (kTy cI cJ cC cZ) (r_ledger e0) (fun _ : Unit => [])) 0 0 := by
  refine kr_met (cc := prog_12_method_22_code) (maxL := 2) (ret := (some .int)) (by decide) rfl (Nat.le_of_ble_eq_true rfl) ?_
  intro p e s m args below meth c A Q hQ hx hb hr hml hts hown hlocks hnm hA hP hK hD hSt ls hl
  have hS : va_S A s.heap s.heap [] := va_S.rf
  have hown : s.vm.findClass "KitRunnerModel" = some m.cls := hown
  have hl : lv_has ls 2 [(0, .ref g), (1, .int e0)] := hl
  have hP : va_P (dC, dI) vwCl [(g, .inr (8, [.ref g_0, .ref g_1, .ref g_2, .ref g_3, .ref g_4, .int 0, .int 0, .int 65535, .int 0, .ref g_9, .ref g_10, .ref g_11, .ref g_12, .ref g_13, .ref g_14, .int 0, .int 0, .int 0, .int 0, .ref g_19, .ref g_20, .ref g_21, .int 0, .int 0, .int 0])), (g_11, .inl (cI, 16, .inl (fun _ => 0)))] s.heap := hP
  have hD : va_D A [(g, .inr (8, [.ref g_0, .ref g_1, .ref g_2, .ref g_3, .ref g_4, .int 0, .int 0, .int 65535, .int 0, .ref g_9, .ref g_10, .ref g_11, .ref g_12, .ref g_13, .ref g_14, .int 0, .int 0, .int 0, .int 0, .ref g_19, .ref g_20, .ref g_21, .int 0, .int 0, .int 0])), (g_11, .inl (cI, 16, .inl (fun _ => 0)))] := hD
  have hini_RM := hts _ (List.mem_cons_of_mem _ wq_9)
  have hm_94 := hts _ (List.mem_cons_of_mem _ wq_657)
  have hs_94 := hts _ (List.mem_cons_of_mem _ wq_658)
  have hf_36 := hts _ (List.mem_cons_of_mem _ wq_587)
  have hin_RM := fun w (h : w ∈ u_ws "KitRunnerModel" T_RM 25) => List.mem_cons_of_mem (Cond.code y_RM_ledger prog_12_method_22_code 2 (some .int)) (in_RM w h)
  refine lv_iload_n hx hb d_RM_ledger_0 rfl (lv_at hl 1 rfl) ?_
  refine lv_bipush (v := 16) hx hb d_RM_ledger_1 (by decide) ?_
  have hpre_1 := kr_pre (wc := []) (av := [.int e0, .int 16]) hK hP hD hS hA hSt [] rfl (by decide)
  refine kj_i (wc := []) (wr := [(g, .inr (8, [.ref g_0, .ref g_1, .ref g_2, .ref g_3, .ref g_4, .int 0, .int 0, .int 65535, .int 0, .ref g_9, .ref g_10, .ref g_11, .ref g_12, .ref g_13, .ref g_14, .int 0, .int 0, .int 0, .int 0, .ref g_19, .ref g_20, .ref g_21, .int 0, .int 0, .int 0])), (g_11, .inl (cI, 16, .inl (fun _ => 0)))]) (va_runS (As := [.int e0, .int 16]) (rest := []) ⟨hx, hb, hml, hown, hts⟩ (rc_in l dC dI cI cJ cC cZ σ e0 16 _) ⟨(callB_of 2 hts (kg wq_659) rfl rfl rfl hini_RM hm_94 (by decide +kernel) ⟨Nat.le_of_ble_eq_true rfl, Nat.le_of_ble_eq_true rfl⟩), hs_94⟩ hpre_1 rfl rfl hl.1 rfl (lv_room (Nat.le_of_ble_eq_true rfl)) d_RM_ledger_3 ⟨Nat.le_of_ble_eq_true rfl, Nat.le_of_ble_eq_true rfl⟩) hP hD hS hA [] [0, 1] rfl rfl (by decide) (by decide) (fun _ H locs hP hD hS => ?_)
  have hP : va_P (dC, dI) vwCl [(g, .inr (8, [.ref g_0, .ref g_1, .ref g_2, .ref g_3, .ref g_4, .int 0, .int 0, .int 65535, .int 0, .ref g_9, .ref g_10, .ref g_11, .ref g_12, .ref g_13, .ref g_14, .int 0, .int 0, .int 0, .int 0, .ref g_19, .ref g_20, .ref g_21, .int 0, .int 0, .int 0])), (g_11, .inl (cI, 16, .inl (fun _ => 0)))] H := hP
  have hD : va_D A [(g, .inr (8, [.ref g_0, .ref g_1, .ref g_2, .ref g_3, .ref g_4, .int 0, .int 0, .int 65535, .int 0, .ref g_9, .ref g_10, .ref g_11, .ref g_12, .ref g_13, .ref g_14, .int 0, .int 0, .int 0, .int 0, .ref g_19, .ref g_20, .ref g_21, .int 0, .int 0, .int 0])), (g_11, .inl (cI, 16, .inl (fun _ => 0)))] := hD
  refine lv_if_eq (tgt := 18) hx hb d_RM_ledger_6 (by decide) (fun c_2 => ?_) (fun c_2 => ?_)
  · skip
    have c_2 : (r_inb e0 16) = false := kb_0.mp c_2
    refine lv_iconst (v := (-1)) hx hb d_RM_ledger_18 (by decide) ?_
    have hpost : r_ledger e0 = -1 := by simp only [r_ledger, if_neg (k_bf c_2)]
    have hP9 := hP.sub (ws' := []) [] rfl
    have hD9 := hD.sub (ws' := []) [] (by decide) rfl
    exact kr_iret (v := (-1)) hQ hx hb hr hlocks hK hP9 hD9 hS (by rw [hpost] <;> rfl) () rfl d_RM_ledger_19
  · skip
    have c_2 : (r_inb e0 16) = true := kb_n.mp c_2
    obtain ⟨k0, hk0, hxk⟩ := r_in_nat (n := 16) c_2 (by decide)
    refine lv_aload_n hx hb d_RM_ledger_9 rfl (lv_at hl 0 rfl) ?_
    refine va_get (D := (dC, dI)) (ci := 8) (v := .ref g_11) (C := "KitRunnerModel") (T := T_RM) (N := 25) hx hb hts hin_RM hown hK hP 0 rfl rfl 11 (by decide) hf_36 (fun _ h9 => h9) rfl d_RM_ledger_10 ?_
    refine lv_iload_n hx hb d_RM_ledger_13 rfl (lv_at hl 1 rfl) ?_
    refine kr_topi (x := e0) (y := nI k0) hxk ?_
    refine kr_iald (k := k0) hx hb hK hP 1 0 rfl rfl (by omega) (by first | decide | omega) d_RM_ledger_14 ?_
    refine lv_goto (tgt := 19) hx hb d_RM_ledger_15 (by decide) ?_
    have hpost : r_ledger e0 = (fun _ => 0) k0 := by simp only [r_ledger, if_pos c_2]
    have hP9 := hP.sub (ws' := []) [] rfl
    have hD9 := hD.sub (ws' := []) [] (by decide) rfl
    exact kr_iret (v := ((fun _ => 0) k0)) hQ hx hb hr hlocks hK hP9 hD9 hS (by rw [hpost] <;> rfl) () rfl d_RM_ledger_19
set_option maxHeartbeats 4000000 in
set_option maxRecDepth 100000 in
theorem rc_write (l : Launch) (dC : Nat → ClassId) (dI : Nat → Nat → Nat) (cI cJ cC cZ : ClassId) (σ : kSg) (g g_0 g_1 g_2 g_3 g_4 g_9 g_10 g_11 g_12 g_13 g_14 g_19 g_20 g_21 : Nat) : kC l y_RM_write ws_RM_write (kRm 0 0 0 0) (dC, dI) (kTy cI cJ cC cZ) σ ([(g, .inr (8, [.ref g_0, .ref g_1, .ref g_2, .ref g_3, .ref g_4, .int 0, .int 0, .int 65535, .int 0, .ref g_9, .ref g_10, .ref g_11, .ref g_12, .ref g_13, .ref g_14, .int 0, .int 0, .int 0, .int 0, .ref g_19, .ref g_20, .ref g_21, .int 0, .int 0, .int 0]))]) [.ref g] (kQi (dC, dI) (kTy cI cJ cC cZ) 0 (fun _ : Unit => [(g, .inr (8, [.ref g_0, .ref g_1, .ref g_2, .ref g_3, .ref g_4, .int 0, .int 0, .int 65535, .int 0, .ref g_9, .ref g_10, .ref g_11, .ref g_12, .ref g_13, .ref g_14, .int 0, .int 0, .int 0, .int 0, .ref g_19, .ref g_20, .ref g_21, .int 0, .int 0, .int 0]))])) 0 0 := by
  refine kr_met (cc := prog_12_method_25_code) (maxL := 3) (ret := (some .int)) (by decide) rfl (Nat.le_of_ble_eq_true rfl) ?_
  intro p e s m args below meth c A Q hQ hx hb hr hml hts hown hlocks hnm hA hP hK hD hSt ls hl
  have hS : va_S A s.heap s.heap [] := va_S.rf
  have hown : s.vm.findClass "KitRunnerModel" = some m.cls := hown
  have hl : lv_has ls 3 [(0, .ref g)] := hl
  have hP : va_P (dC, dI) vwCl [(g, .inr (8, [.ref g_0, .ref g_1, .ref g_2, .ref g_3, .ref g_4, .int 0, .int 0, .int 65535, .int 0, .ref g_9, .ref g_10, .ref g_11, .ref g_12, .ref g_13, .ref g_14, .int 0, .int 0, .int 0, .int 0, .ref g_19, .ref g_20, .ref g_21, .int 0, .int 0, .int 0]))] s.heap := hP
  have hD : va_D A [(g, .inr (8, [.ref g_0, .ref g_1, .ref g_2, .ref g_3, .ref g_4, .int 0, .int 0, .int 65535, .int 0, .ref g_9, .ref g_10, .ref g_11, .ref g_12, .ref g_13, .ref g_14, .int 0, .int 0, .int 0, .int 0, .ref g_19, .ref g_20, .ref g_21, .int 0, .int 0, .int 0]))] := hD
  have hf_169 := hts _ (List.mem_cons_of_mem _ wq_584)
  have hin_RM := fun w (h : w ∈ u_ws "KitRunnerModel" T_RM 25) => List.mem_cons_of_mem (Cond.code y_RM_write prog_12_method_25_code 3 (some .int)) (in_RM w h)
  refine lv_iconst (v := 0) hx hb d_RM_write_0 (by decide) ?_
  refine lv_istore_n (lv' := [(1, .int 0), (0, .ref g)]) hx hb d_RM_write_1 rfl hl (by decide) rfl (fun ls hl => ?_)
  refine lv_aload_n hx hb d_RM_write_2 rfl (lv_at hl 1 rfl) ?_
  refine va_get (D := (dC, dI)) (ci := 8) (v := .int 0) (C := "KitRunnerModel") (T := T_RM) (N := 25) hx hb hts hin_RM hown hK hP 0 rfl rfl 8 (by decide) hf_169 (fun _ h9 => h9) rfl d_RM_write_3 ?_
  refine lv_if_ne (tgt := 11) hx hb d_RM_write_6 (by decide) (fun c_1 => ?_) (fun c_1 => ?_)
  · skip
    exact absurd c_1 (by decide)
  · skip
    have c_1 : 0 = 0 := (nI_eq (a := 0) (b := 0) (by omega) (by omega)).mp c_1
    refine lv_iconst (v := 0) hx hb d_RM_write_9 (by decide) ?_
    have hP9 := hP.sub (ws' := [(g, .inr (8, [.ref g_0, .ref g_1, .ref g_2, .ref g_3, .ref g_4, .int 0, .int 0, .int 65535, .int 0, .ref g_9, .ref g_10, .ref g_11, .ref g_12, .ref g_13, .ref g_14, .int 0, .int 0, .int 0, .int 0, .ref g_19, .ref g_20, .ref g_21, .int 0, .int 0, .int 0]))]) [0] rfl
    have hD9 := hD.sub (ws' := [(g, .inr (8, [.ref g_0, .ref g_1, .ref g_2, .ref g_3, .ref g_4, .int 0, .int 0, .int 65535, .int 0, .ref g_9, .ref g_10, .ref g_11, .ref g_12, .ref g_13, .ref g_14, .int 0, .int 0, .int 0, .int 0, .ref g_19, .ref g_20, .ref g_21, .int 0, .int 0, .int 0]))]) [0] (by decide) rfl
    exact kr_iret (v := 0) hQ hx hb hr hlocks hK hP9 hD9 hS rfl () rfl d_RM_write_10
set_option maxHeartbeats 4000000 in
set_option maxRecDepth 100000 in
theorem rc_letter (l : Launch) (dC : Nat → ClassId) (dI : Nat → Nat → Nat) (cI cJ cC cZ : ClassId) (σ : kSg) (g g_0 g_1 g_2 g_3 g_4 g_9 g_10 g_11 g_12 g_13 g_14 g_19 g_20 g_21 : Nat) (i0 : Int32) : kC l y_RM_letter ws_RM_letter (kRm 1 0 0 22) (dC, dI) (kTy cI cJ cC cZ) σ ([(g, .inr (8, [.ref g_0, .ref g_1, .ref g_2, .ref g_3, .ref g_4, .int 0, .int 0, .int 65535, .int 0, .ref g_9, .ref g_10, .ref g_11, .ref g_12, .ref g_13, .ref g_14, .int 0, .int 0, .int 0, .int 0, .ref g_19, .ref g_20, .ref g_21, .int 0, .int 0, .int 0]))]) [.ref g, .int i0] (kQi (dC, dI) (kTy cI cJ cC cZ) 0 (fun _ : Unit => [])) 0 0 := by
  refine kr_met (cc := prog_12_method_26_code) (maxL := 3) (ret := (some .int)) (by decide) rfl (Nat.le_of_ble_eq_true rfl) ?_
  intro p e s m args below meth c A Q hQ hx hb hr hml hts hown hlocks hnm hA hP hK hD hSt ls hl
  have hS : va_S A s.heap s.heap [] := va_S.rf
  have hown : s.vm.findClass "KitRunnerModel" = some m.cls := hown
  have hl : lv_has ls 3 [(0, .ref g), (1, .int i0)] := hl
  have hP : va_P (dC, dI) vwCl [(g, .inr (8, [.ref g_0, .ref g_1, .ref g_2, .ref g_3, .ref g_4, .int 0, .int 0, .int 65535, .int 0, .ref g_9, .ref g_10, .ref g_11, .ref g_12, .ref g_13, .ref g_14, .int 0, .int 0, .int 0, .int 0, .ref g_19, .ref g_20, .ref g_21, .int 0, .int 0, .int 0]))] s.heap := hP
  have hD : va_D A [(g, .inr (8, [.ref g_0, .ref g_1, .ref g_2, .ref g_3, .ref g_4, .int 0, .int 0, .int 65535, .int 0, .ref g_9, .ref g_10, .ref g_11, .ref g_12, .ref g_13, .ref g_14, .int 0, .int 0, .int 0, .int 0, .ref g_19, .ref g_20, .ref g_21, .int 0, .int 0, .int 0]))] := hD
  have hini_RM := hts _ (List.mem_cons_of_mem _ wq_9)
  have hm_207 := hts _ (List.mem_cons_of_mem _ wq_767)
  have hi_207 := hts _ (List.mem_cons_of_mem _ wq_769)
  have hv_207 := hts _ (List.mem_cons_of_mem _ sq_12)
  have hm_94 := hts _ (List.mem_cons_of_mem _ wq_657)
  have hs_94 := hts _ (List.mem_cons_of_mem _ wq_658)
  refine lv_aload_n hx hb d_RM_letter_0 rfl (lv_at hl 0 rfl) ?_
  have hpre_1 := kr_pre (wc := [(g, .inr (8, [.ref g_0, .ref g_1, .ref g_2, .ref g_3, .ref g_4, .int 0, .int 0, .int 65535, .int 0, .ref g_9, .ref g_10, .ref g_11, .ref g_12, .ref g_13, .ref g_14, .int 0, .int 0, .int 0, .int 0, .ref g_19, .ref g_20, .ref g_21, .int 0, .int 0, .int 0]))]) (av := [.ref g]) hK hP hD hS hA hSt [0] rfl (by decide)
  refine kj_i (wc := [(g, .inr (8, [.ref g_0, .ref g_1, .ref g_2, .ref g_3, .ref g_4, .int 0, .int 0, .int 65535, .int 0, .ref g_9, .ref g_10, .ref g_11, .ref g_12, .ref g_13, .ref g_14, .int 0, .int 0, .int 0, .int 0, .ref g_19, .ref g_20, .ref g_21, .int 0, .int 0, .int 0]))]) (wr := []) (va_runV (As := []) (rest := []) ⟨hx, hb, hml, hown, hts⟩ (rc_write l dC dI cI cJ cC cZ σ g g_0 g_1 g_2 g_3 g_4 g_9 g_10 g_11 g_12 g_13 g_14 g_19 g_20 g_21 _) ⟨(callB_of 0 hts (kg wq_770) rfl rfl rfl hini_RM hm_207 (by decide +kernel) ⟨Nat.le_of_ble_eq_true rfl, Nat.le_of_ble_eq_true rfl⟩), hi_207, hv_207⟩ ⟨hpre_1.1, (va_recv hK hP (ci := 8) (q0 := 0) rfl rfl), hpre_1.2⟩ rfl rfl hl.1 rfl (lv_room (Nat.le_of_ble_eq_true rfl)) d_RM_letter_1 ⟨Nat.le_of_ble_eq_true rfl, Nat.le_of_ble_eq_true rfl⟩) hP hD hS hA [0] [] rfl rfl (by decide) (by decide) (fun _ H locs hP hD hS => ?_)
  have hP : va_P (dC, dI) vwCl [(g, .inr (8, [.ref g_0, .ref g_1, .ref g_2, .ref g_3, .ref g_4, .int 0, .int 0, .int 65535, .int 0, .ref g_9, .ref g_10, .ref g_11, .ref g_12, .ref g_13, .ref g_14, .int 0, .int 0, .int 0, .int 0, .ref g_19, .ref g_20, .ref g_21, .int 0, .int 0, .int 0]))] H := hP
  have hD : va_D A [(g, .inr (8, [.ref g_0, .ref g_1, .ref g_2, .ref g_3, .ref g_4, .int 0, .int 0, .int 65535, .int 0, .ref g_9, .ref g_10, .ref g_11, .ref g_12, .ref g_13, .ref g_14, .int 0, .int 0, .int 0, .int 0, .ref g_19, .ref g_20, .ref g_21, .int 0, .int 0, .int 0]))] := hD
  refine lv_istore_n (lv' := [(2, .int 0), (0, .ref g), (1, .int i0)]) hx hb d_RM_letter_4 rfl hl (by decide) rfl (fun ls hl => ?_)
  refine lv_iload_n hx hb d_RM_letter_5 rfl (lv_at hl 2 rfl) ?_
  refine lv_iload_n hx hb d_RM_letter_6 rfl (lv_at hl 0 rfl) ?_
  have hpre_2 := kr_pre (wc := []) (av := [.int i0, .int 0]) hK hP hD hS hA hSt [] rfl (by decide)
  refine kj_i (wc := []) (wr := [(g, .inr (8, [.ref g_0, .ref g_1, .ref g_2, .ref g_3, .ref g_4, .int 0, .int 0, .int 65535, .int 0, .ref g_9, .ref g_10, .ref g_11, .ref g_12, .ref g_13, .ref g_14, .int 0, .int 0, .int 0, .int 0, .ref g_19, .ref g_20, .ref g_21, .int 0, .int 0, .int 0]))]) (va_runS (As := [.int i0, .int 0]) (rest := []) ⟨hx, hb, hml, hown, hts⟩ (rc_in l dC dI cI cJ cC cZ σ i0 0 _) ⟨(callB_of 2 hts (kg wq_659) rfl rfl rfl hini_RM hm_94 (by decide +kernel) ⟨Nat.le_of_ble_eq_true rfl, Nat.le_of_ble_eq_true rfl⟩), hs_94⟩ hpre_2 rfl rfl hl.1 rfl (lv_room (Nat.le_of_ble_eq_true rfl)) d_RM_letter_7 ⟨Nat.le_of_ble_eq_true rfl, Nat.le_of_ble_eq_true rfl⟩) hP hD hS hA [] [0] rfl rfl (by decide) (by decide) (fun _ H locs hP hD hS => ?_)
  have hP : va_P (dC, dI) vwCl [(g, .inr (8, [.ref g_0, .ref g_1, .ref g_2, .ref g_3, .ref g_4, .int 0, .int 0, .int 65535, .int 0, .ref g_9, .ref g_10, .ref g_11, .ref g_12, .ref g_13, .ref g_14, .int 0, .int 0, .int 0, .int 0, .ref g_19, .ref g_20, .ref g_21, .int 0, .int 0, .int 0]))] H := hP
  have hD : va_D A [(g, .inr (8, [.ref g_0, .ref g_1, .ref g_2, .ref g_3, .ref g_4, .int 0, .int 0, .int 65535, .int 0, .ref g_9, .ref g_10, .ref g_11, .ref g_12, .ref g_13, .ref g_14, .int 0, .int 0, .int 0, .int 0, .ref g_19, .ref g_20, .ref g_21, .int 0, .int 0, .int 0]))] := hD
  refine lv_if_eq (tgt := 22) hx hb d_RM_letter_10 (by decide) (fun c_3 => ?_) (fun c_3 => ?_)
  · skip
    have c_3 : (r_inb i0 0) = false := kb_0.mp c_3
    refine lv_iconst (v := 0) hx hb d_RM_letter_22 (by decide) ?_
    have hP9 := hP.sub (ws' := []) [] rfl
    have hD9 := hD.sub (ws' := []) [] (by decide) rfl
    exact kr_iret (v := 0) hQ hx hb hr hlocks hK hP9 hD9 hS rfl () rfl d_RM_letter_23
  · skip
    have c_3 : (r_inb i0 0) = true := kb_n.mp c_3
    exact absurd c_3 (by rw [r_in0]; decide)
set_option maxHeartbeats 4000000 in
set_option maxRecDepth 100000 in
theorem rc_count (l : Launch) (dC : Nat → ClassId) (dI : Nat → Nat → Nat) (cI cJ cC cZ : ClassId) (σ : kSg) (g g_0 g_1 g_2 g_3 g_4 g_9 g_10 g_11 g_12 g_13 g_14 g_19 g_20 g_21 : Nat) (w0 : Int32) : kC l y_RM_count ws_RM_count (kRm 1 0 0 22) (dC, dI) (kTy cI cJ cC cZ) σ ([(g, .inr (8, [.ref g_0, .ref g_1, .ref g_2, .ref g_3, .ref g_4, .int 0, .int 0, .int 65535, .int 0, .ref g_9, .ref g_10, .ref g_11, .ref g_12, .ref g_13, .ref g_14, .int 0, .int 0, .int 0, .int 0, .ref g_19, .ref g_20, .ref g_21, .int 0, .int 0, .int 0])), (g_11, .inl (cI, 16, .inl (fun _ => 0)))]) [.ref g, .int w0] (kQi (dC, dI) (kTy cI cJ cC cZ) (r_count w0) (fun _ : Unit => [])) 0 0 := by
  refine kr_met (cc := prog_12_method_27_code) (maxL := 5) (ret := (some .int)) (by decide) rfl (Nat.le_of_ble_eq_true rfl) ?_
  intro p e s m args below meth c A Q hQ hx hb hr hml hts hown hlocks hnm hA hP hK hD hSt ls hl
  have hS : va_S A s.heap s.heap [] := va_S.rf
  have hown : s.vm.findClass "KitRunnerModel" = some m.cls := hown
  have hl : lv_has ls 5 [(0, .ref g), (1, .int w0)] := hl
  have hP : va_P (dC, dI) vwCl [(g, .inr (8, [.ref g_0, .ref g_1, .ref g_2, .ref g_3, .ref g_4, .int 0, .int 0, .int 65535, .int 0, .ref g_9, .ref g_10, .ref g_11, .ref g_12, .ref g_13, .ref g_14, .int 0, .int 0, .int 0, .int 0, .ref g_19, .ref g_20, .ref g_21, .int 0, .int 0, .int 0])), (g_11, .inl (cI, 16, .inl (fun _ => 0)))] s.heap := hP
  have hD : va_D A [(g, .inr (8, [.ref g_0, .ref g_1, .ref g_2, .ref g_3, .ref g_4, .int 0, .int 0, .int 65535, .int 0, .ref g_9, .ref g_10, .ref g_11, .ref g_12, .ref g_13, .ref g_14, .int 0, .int 0, .int 0, .int 0, .ref g_19, .ref g_20, .ref g_21, .int 0, .int 0, .int 0])), (g_11, .inl (cI, 16, .inl (fun _ => 0)))] := hD
  have hini_RM := hts _ (List.mem_cons_of_mem _ wq_9)
  have hm_94 := hts _ (List.mem_cons_of_mem _ wq_657)
  have hs_94 := hts _ (List.mem_cons_of_mem _ wq_658)
  have hf_101 := hts _ (List.mem_cons_of_mem _ wq_582)
  have hin_RM := fun w (h : w ∈ u_ws "KitRunnerModel" T_RM 25) => List.mem_cons_of_mem (Cond.code y_RM_count prog_12_method_27_code 5 (some .int)) (in_RM w h)
  have hf_98 := hts _ (List.mem_cons_of_mem _ wq_581)
  have hf_169 := hts _ (List.mem_cons_of_mem _ wq_584)
  have hf_155 := hts _ (List.mem_cons_of_mem _ wq_592)
  have hm_207 := hts _ (List.mem_cons_of_mem _ wq_767)
  have hi_207 := hts _ (List.mem_cons_of_mem _ wq_769)
  have hv_207 := hts _ (List.mem_cons_of_mem _ sq_12)
  have hf_149 := hts _ (List.mem_cons_of_mem _ wq_594)
  have hf_158 := hts _ (List.mem_cons_of_mem _ wq_593)
  have hf_152 := hts _ (List.mem_cons_of_mem _ wq_591)
  have hf_36 := hts _ (List.mem_cons_of_mem _ wq_587)
  refine lv_iload_n hx hb d_RM_count_0 rfl (lv_at hl 1 rfl) ?_
  refine lv_bipush (v := 10) hx hb d_RM_count_1 (by decide) ?_
  have hpre_1 := kr_pre (wc := []) (av := [.int w0, .int 10]) hK hP hD hS hA hSt [] rfl (by decide)
  refine kj_i (wc := []) (wr := [(g, .inr (8, [.ref g_0, .ref g_1, .ref g_2, .ref g_3, .ref g_4, .int 0, .int 0, .int 65535, .int 0, .ref g_9, .ref g_10, .ref g_11, .ref g_12, .ref g_13, .ref g_14, .int 0, .int 0, .int 0, .int 0, .ref g_19, .ref g_20, .ref g_21, .int 0, .int 0, .int 0])), (g_11, .inl (cI, 16, .inl (fun _ => 0)))]) (va_runS (As := [.int w0, .int 10]) (rest := []) ⟨hx, hb, hml, hown, hts⟩ (rc_in l dC dI cI cJ cC cZ σ w0 10 _) ⟨(callB_of 2 hts (kg wq_659) rfl rfl rfl hini_RM hm_94 (by decide +kernel) ⟨Nat.le_of_ble_eq_true rfl, Nat.le_of_ble_eq_true rfl⟩), hs_94⟩ hpre_1 rfl rfl hl.1 rfl (lv_room (Nat.le_of_ble_eq_true rfl)) d_RM_count_3 ⟨Nat.le_of_ble_eq_true rfl, Nat.le_of_ble_eq_true rfl⟩) hP hD hS hA [] [0, 1] rfl rfl (by decide) (by decide) (fun _ H locs hP hD hS => ?_)
  have hP : va_P (dC, dI) vwCl [(g, .inr (8, [.ref g_0, .ref g_1, .ref g_2, .ref g_3, .ref g_4, .int 0, .int 0, .int 65535, .int 0, .ref g_9, .ref g_10, .ref g_11, .ref g_12, .ref g_13, .ref g_14, .int 0, .int 0, .int 0, .int 0, .ref g_19, .ref g_20, .ref g_21, .int 0, .int 0, .int 0])), (g_11, .inl (cI, 16, .inl (fun _ => 0)))] H := hP
  have hD : va_D A [(g, .inr (8, [.ref g_0, .ref g_1, .ref g_2, .ref g_3, .ref g_4, .int 0, .int 0, .int 65535, .int 0, .ref g_9, .ref g_10, .ref g_11, .ref g_12, .ref g_13, .ref g_14, .int 0, .int 0, .int 0, .int 0, .ref g_19, .ref g_20, .ref g_21, .int 0, .int 0, .int 0])), (g_11, .inl (cI, 16, .inl (fun _ => 0)))] := hD
  refine lv_if_ne (tgt := 11) hx hb d_RM_count_6 (by decide) (fun c_2 => ?_) (fun c_2 => ?_)
  · skip
    have c_2 : (r_inb w0 10) = true := kb_n.mp c_2
    refine lv_iconst (v := 0) hx hb d_RM_count_11 (by decide) ?_
    refine lv_istore_n (lv' := [(2, .int 0), (0, .ref g), (1, .int w0)]) hx hb d_RM_count_12 rfl hl (by decide) rfl (fun ls hl => ?_)
    refine lv_iconst (v := 0) hx hb d_RM_count_13 (by decide) ?_
    refine lv_istore_n (lv' := [(3, .int 0), (2, .int 0), (0, .ref g), (1, .int w0)]) hx hb d_RM_count_14 rfl hl (by decide) rfl (fun ls hl => ?_)
    have loop_15 : ∀ (n : Nat) (i : Nat), (i + n = 16) → ∀ (H : Heap) (locs : List Loc), va_P (dC, dI) vwCl [(g, .inr (8, [.ref g_0, .ref g_1, .ref g_2, .ref g_3, .ref g_4, .int 0, .int 0, .int 65535, .int 0, .ref g_9, .ref g_10, .ref g_11, .ref g_12, .ref g_13, .ref g_14, .int 0, .int 0, .int 0, .int 0, .ref g_19, .ref g_20, .ref g_21, .int 0, .int 0, .int 0])), (g_11, .inl (cI, 16, .inl (fun _ => 0)))] H → va_D A [(g, .inr (8, [.ref g_0, .ref g_1, .ref g_2, .ref g_3, .ref g_4, .int 0, .int 0, .int 65535, .int 0, .ref g_9, .ref g_10, .ref g_11, .ref g_12, .ref g_13, .ref g_14, .int 0, .int 0, .int 0, .int 0, .ref g_19, .ref g_20, .ref g_21, .int 0, .int 0, .int 0])), (g_11, .inl (cI, 16, .inl (fun _ => 0)))] → va_S A s.heap H locs → ∀ ls : Array Slot, lv_has ls 5 [(2, .int 0), (3, .int (nI i)), (0, .ref g), (1, .int w0)] → W p l e (kRm 1 0 0 22) s m args below meth c H locs 0 0 Q (F0 m 15 ls []) := by
      intro n
      induction n with
      | zero =>
        intro i hi H locs hP hD hS ls hl
        refine lv_iload_n hx hb d_RM_count_15 rfl (lv_at hl 1 rfl) ?_
        refine lv_bipush (v := 16) hx hb d_RM_count_16 (by decide) ?_
        refine lv_icmp_ge (tgt := 57) hx hb d_RM_count_18 (by decide) (fun c_3 => ?_) (fun c_3 => ?_)
        · skip
          have c_3 : 16 ≤ i := (nI_leI (a := 16) (b := i) (by omega) (by omega)).mp c_3
          refine lv_iload_n hx hb d_RM_count_57 rfl (lv_at hl 3 rfl) ?_
          refine lv_iconst (v := 4) hx hb d_RM_count_58 (by decide) ?_
          refine lv_icmp_ge (tgt := 102) hx hb d_RM_count_59 (by decide) (fun c_4 => ?_) (fun c_4 => ?_)
          · skip
            refine lv_iload_n hx hb d_RM_count_102 rfl (lv_at hl 3 rfl) ?_
            refine lv_bipush (v := 7) hx hb d_RM_count_103 (by decide) ?_
            refine lv_icmp_ge (tgt := 142) hx hb d_RM_count_105 (by decide) (fun c_5 => ?_) (fun c_5 => ?_)
            · skip
              refine lv_iload_n hx hb d_RM_count_142 rfl (lv_at hl 3 rfl) ?_
              refine lv_bipush (v := 7) hx hb d_RM_count_143 (by decide) ?_
              refine lv_icmp_ne (tgt := 155) hx hb d_RM_count_145 (by decide) (fun c_6 => ?_) (fun c_6 => ?_)
              · skip
                refine lv_iload_n hx hb d_RM_count_155 rfl (lv_at hl 3 rfl) ?_
                refine lv_bipush (v := 8) hx hb d_RM_count_156 (by decide) ?_
                refine lv_icmp_ne (tgt := 168) hx hb d_RM_count_158 (by decide) (fun c_7 => ?_) (fun c_7 => ?_)
                · skip
                  refine lv_aload_n hx hb d_RM_count_168 rfl (lv_at hl 2 rfl) ?_
                  refine va_get (D := (dC, dI)) (ci := 8) (v := .int 0) (C := "KitRunnerModel") (T := T_RM) (N := 25) hx hb hts hin_RM hown hK hP 0 rfl rfl 6 (by decide) hf_101 (fun _ h9 => h9) rfl d_RM_count_169 ?_
                  have hpost : r_count w0 = 0 := by simp only [r_count, if_pos c_2]
                  have hP9 := hP.sub (ws' := []) [] rfl
                  have hD9 := hD.sub (ws' := []) [] (by decide) rfl
                  exact kr_iret (v := 0) hQ hx hb hr hlocks hK hP9 hD9 hS (by rw [hpost] <;> rfl) () rfl d_RM_count_172
                · skip
                  refine lv_aload_n hx hb d_RM_count_161 rfl (lv_at hl 2 rfl) ?_
                  refine va_get (D := (dC, dI)) (ci := 8) (v := .int 0) (C := "KitRunnerModel") (T := T_RM) (N := 25) hx hb hts hin_RM hown hK hP 0 rfl rfl 5 (by decide) hf_98 (fun _ h9 => h9) rfl d_RM_count_162 ?_
                  refine lv_goto (tgt := 172) hx hb d_RM_count_165 (by decide) ?_
                  have hpost : r_count w0 = 0 := by simp only [r_count, if_pos c_2]
                  have hP9 := hP.sub (ws' := []) [] rfl
                  have hD9 := hD.sub (ws' := []) [] (by decide) rfl
                  exact kr_iret (v := 0) hQ hx hb hr hlocks hK hP9 hD9 hS (by rw [hpost] <;> rfl) () rfl d_RM_count_172
              · skip
                refine lv_aload_n hx hb d_RM_count_148 rfl (lv_at hl 2 rfl) ?_
                refine va_get (D := (dC, dI)) (ci := 8) (v := .int 0) (C := "KitRunnerModel") (T := T_RM) (N := 25) hx hb hts hin_RM hown hK hP 0 rfl rfl 8 (by decide) hf_169 (fun _ h9 => h9) rfl d_RM_count_149 ?_
                refine lv_goto (tgt := 172) hx hb d_RM_count_152 (by decide) ?_
                have hpost : r_count w0 = 0 := by simp only [r_count, if_pos c_2]
                have hP9 := hP.sub (ws' := []) [] rfl
                have hD9 := hD.sub (ws' := []) [] (by decide) rfl
                exact kr_iret (v := 0) hQ hx hb hr hlocks hK hP9 hD9 hS (by rw [hpost] <;> rfl) () rfl d_RM_count_172
            · skip
              refine lv_iload_n hx hb d_RM_count_108 rfl (lv_at hl 3 rfl) ?_
              refine lv_iconst (v := 4) hx hb d_RM_count_109 (by decide) ?_
              refine lv_icmp_ne (tgt := 117) hx hb d_RM_count_110 (by decide) (fun c_8 => ?_) (fun c_8 => ?_)
              · skip
                refine lv_iload_n hx hb d_RM_count_117 rfl (lv_at hl 3 rfl) ?_
                refine lv_iconst (v := 5) hx hb d_RM_count_118 (by decide) ?_
                refine lv_icmp_ne (tgt := 129) hx hb d_RM_count_119 (by decide) (fun c_9 => ?_) (fun c_9 => ?_)
                · skip
                  refine lv_aload_n hx hb d_RM_count_129 rfl (lv_at hl 2 rfl) ?_
                  refine va_get (D := (dC, dI)) (ci := 8) (v := .int 0) (C := "KitRunnerModel") (T := T_RM) (N := 25) hx hb hts hin_RM hown hK hP 0 rfl rfl 16 (by decide) hf_155 (fun _ h9 => h9) rfl d_RM_count_130 ?_
                  refine lv_if_le (tgt := 140) hx hb d_RM_count_133 (by decide) (fun c_10 => ?_) (fun c_10 => ?_)
                  · skip
                    refine lv_iconst (v := 0) hx hb d_RM_count_140 (by decide) ?_
                    have hpost : r_count w0 = 0 := by simp only [r_count, if_pos c_2]
                    have hP9 := hP.sub (ws' := []) [] rfl
                    have hD9 := hD.sub (ws' := []) [] (by decide) rfl
                    exact kr_iret (v := 0) hQ hx hb hr hlocks hK hP9 hD9 hS (by rw [hpost] <;> rfl) () rfl d_RM_count_141
                  · skip
                    exact absurd c_10 (by decide)
                · skip
                  refine lv_aload_n hx hb d_RM_count_122 rfl (lv_at hl 2 rfl) ?_
                  have hpre_11 := kr_pre (wc := [(g, .inr (8, [.ref g_0, .ref g_1, .ref g_2, .ref g_3, .ref g_4, .int 0, .int 0, .int 65535, .int 0, .ref g_9, .ref g_10, .ref g_11, .ref g_12, .ref g_13, .ref g_14, .int 0, .int 0, .int 0, .int 0, .ref g_19, .ref g_20, .ref g_21, .int 0, .int 0, .int 0]))]) (av := [.ref g]) hK hP hD hS hA hSt [0] rfl (by decide)
                  refine kj_i (wc := [(g, .inr (8, [.ref g_0, .ref g_1, .ref g_2, .ref g_3, .ref g_4, .int 0, .int 0, .int 65535, .int 0, .ref g_9, .ref g_10, .ref g_11, .ref g_12, .ref g_13, .ref g_14, .int 0, .int 0, .int 0, .int 0, .ref g_19, .ref g_20, .ref g_21, .int 0, .int 0, .int 0]))]) (wr := [(g_11, .inl (cI, 16, .inl (fun _ => 0)))]) (va_runV (As := []) (rest := []) ⟨hx, hb, hml, hown, hts⟩ (rc_write l dC dI cI cJ cC cZ σ g g_0 g_1 g_2 g_3 g_4 g_9 g_10 g_11 g_12 g_13 g_14 g_19 g_20 g_21 _) ⟨(callB_of 0 hts (kg wq_770) rfl rfl rfl hini_RM hm_207 (by decide +kernel) ⟨Nat.le_of_ble_eq_true rfl, Nat.le_of_ble_eq_true rfl⟩), hi_207, hv_207⟩ ⟨hpre_11.1, (va_recv hK hP (ci := 8) (q0 := 0) rfl rfl), hpre_11.2⟩ rfl rfl hl.1 rfl (lv_room (Nat.le_of_ble_eq_true rfl)) d_RM_count_123 ⟨Nat.le_of_ble_eq_true rfl, Nat.le_of_ble_eq_true rfl⟩) hP hD hS hA [0] [1] rfl rfl (by decide) (by decide) (fun _ H locs hP hD hS => ?_)
                  have hP : va_P (dC, dI) vwCl [(g_11, .inl (cI, 16, .inl (fun _ => 0))), (g, .inr (8, [.ref g_0, .ref g_1, .ref g_2, .ref g_3, .ref g_4, .int 0, .int 0, .int 65535, .int 0, .ref g_9, .ref g_10, .ref g_11, .ref g_12, .ref g_13, .ref g_14, .int 0, .int 0, .int 0, .int 0, .ref g_19, .ref g_20, .ref g_21, .int 0, .int 0, .int 0]))] H := hP
                  have hD : va_D A [(g_11, .inl (cI, 16, .inl (fun _ => 0))), (g, .inr (8, [.ref g_0, .ref g_1, .ref g_2, .ref g_3, .ref g_4, .int 0, .int 0, .int 65535, .int 0, .ref g_9, .ref g_10, .ref g_11, .ref g_12, .ref g_13, .ref g_14, .int 0, .int 0, .int 0, .int 0, .ref g_19, .ref g_20, .ref g_21, .int 0, .int 0, .int 0]))] := hD
                  refine lv_goto (tgt := 141) hx hb d_RM_count_126 (by decide) ?_
                  have hpost : r_count w0 = 0 := by simp only [r_count, if_pos c_2]
                  have hP9 := hP.sub (ws' := []) [] rfl
                  have hD9 := hD.sub (ws' := []) [] (by decide) rfl
                  exact kr_iret (v := 0) hQ hx hb hr hlocks hK hP9 hD9 hS (by rw [hpost] <;> rfl) () rfl d_RM_count_141
              · skip
                refine lv_iload_n hx hb d_RM_count_113 rfl (lv_at hl 0 rfl) ?_
                refine lv_goto (tgt := 141) hx hb d_RM_count_114 (by decide) ?_
                have hpost : r_count w0 = 0 := by simp only [r_count, if_pos c_2]
                have hP9 := hP.sub (ws' := []) [] rfl
                have hD9 := hD.sub (ws' := []) [] (by decide) rfl
                exact kr_iret (v := 0) hQ hx hb hr hlocks hK hP9 hD9 hS (by rw [hpost] <;> rfl) () rfl d_RM_count_141
          · skip
            refine lv_iload_n hx hb d_RM_count_62 rfl (lv_at hl 3 rfl) ?_
            refine lv_if_ne (tgt := 73) hx hb d_RM_count_63 (by decide) (fun c_12 => ?_) (fun c_12 => ?_)
            · skip
              refine lv_iload_n hx hb d_RM_count_73 rfl (lv_at hl 3 rfl) ?_
              refine lv_iconst (v := 1) hx hb d_RM_count_74 (by decide) ?_
              refine lv_icmp_ne (tgt := 85) hx hb d_RM_count_75 (by decide) (fun c_13 => ?_) (fun c_13 => ?_)
              · skip
                refine lv_iload_n hx hb d_RM_count_85 rfl (lv_at hl 3 rfl) ?_
                refine lv_iconst (v := 2) hx hb d_RM_count_86 (by decide) ?_
                refine lv_icmp_ne (tgt := 97) hx hb d_RM_count_87 (by decide) (fun c_14 => ?_) (fun c_14 => ?_)
                · skip
                  refine lv_aload_n hx hb d_RM_count_97 rfl (lv_at hl 2 rfl) ?_
                  refine va_get (D := (dC, dI)) (ci := 8) (v := .int 0) (C := "KitRunnerModel") (T := T_RM) (N := 25) hx hb hts hin_RM hown hK hP 0 rfl rfl 18 (by decide) hf_149 (fun _ h9 => h9) rfl d_RM_count_98 ?_
                  have hpost : r_count w0 = 0 := by simp only [r_count, if_pos c_2]
                  have hP9 := hP.sub (ws' := []) [] rfl
                  have hD9 := hD.sub (ws' := []) [] (by decide) rfl
                  exact kr_iret (v := 0) hQ hx hb hr hlocks hK hP9 hD9 hS (by rw [hpost] <;> rfl) () rfl d_RM_count_101
                · skip
                  refine lv_aload_n hx hb d_RM_count_90 rfl (lv_at hl 2 rfl) ?_
                  refine va_get (D := (dC, dI)) (ci := 8) (v := .int 0) (C := "KitRunnerModel") (T := T_RM) (N := 25) hx hb hts hin_RM hown hK hP 0 rfl rfl 17 (by decide) hf_158 (fun _ h9 => h9) rfl d_RM_count_91 ?_
                  refine lv_goto (tgt := 101) hx hb d_RM_count_94 (by decide) ?_
                  have hpost : r_count w0 = 0 := by simp only [r_count, if_pos c_2]
                  have hP9 := hP.sub (ws' := []) [] rfl
                  have hD9 := hD.sub (ws' := []) [] (by decide) rfl
                  exact kr_iret (v := 0) hQ hx hb hr hlocks hK hP9 hD9 hS (by rw [hpost] <;> rfl) () rfl d_RM_count_101
              · skip
                refine lv_aload_n hx hb d_RM_count_78 rfl (lv_at hl 2 rfl) ?_
                refine va_get (D := (dC, dI)) (ci := 8) (v := .int 0) (C := "KitRunnerModel") (T := T_RM) (N := 25) hx hb hts hin_RM hown hK hP 0 rfl rfl 16 (by decide) hf_155 (fun _ h9 => h9) rfl d_RM_count_79 ?_
                refine lv_goto (tgt := 101) hx hb d_RM_count_82 (by decide) ?_
                have hpost : r_count w0 = 0 := by simp only [r_count, if_pos c_2]
                have hP9 := hP.sub (ws' := []) [] rfl
                have hD9 := hD.sub (ws' := []) [] (by decide) rfl
                exact kr_iret (v := 0) hQ hx hb hr hlocks hK hP9 hD9 hS (by rw [hpost] <;> rfl) () rfl d_RM_count_101
            · skip
              refine lv_aload_n hx hb d_RM_count_66 rfl (lv_at hl 2 rfl) ?_
              refine va_get (D := (dC, dI)) (ci := 8) (v := .int 0) (C := "KitRunnerModel") (T := T_RM) (N := 25) hx hb hts hin_RM hown hK hP 0 rfl rfl 15 (by decide) hf_152 (fun _ h9 => h9) rfl d_RM_count_67 ?_
              refine lv_goto (tgt := 101) hx hb d_RM_count_70 (by decide) ?_
              have hpost : r_count w0 = 0 := by simp only [r_count, if_pos c_2]
              have hP9 := hP.sub (ws' := []) [] rfl
              have hD9 := hD.sub (ws' := []) [] (by decide) rfl
              exact kr_iret (v := 0) hQ hx hb hr hlocks hK hP9 hD9 hS (by rw [hpost] <;> rfl) () rfl d_RM_count_101
        · skip
          have c_3 : ¬ 16 ≤ i := fun h9 => c_3 ((nI_leI (a := 16) (b := i) (by omega) (by omega)).mpr h9)
          exfalso; omega
      | succ n ih_15 =>
        intro i hi H locs hP hD hS ls hl
        refine lv_iload_n hx hb d_RM_count_15 rfl (lv_at hl 1 rfl) ?_
        refine lv_bipush (v := 16) hx hb d_RM_count_16 (by decide) ?_
        refine lv_icmp_ge (tgt := 57) hx hb d_RM_count_18 (by decide) (fun c_15 => ?_) (fun c_15 => ?_)
        · skip
          have c_15 : 16 ≤ i := (nI_leI (a := 16) (b := i) (by omega) (by omega)).mp c_15
          exfalso; omega
        · skip
          have c_15 : ¬ 16 ≤ i := fun h9 => c_15 ((nI_leI (a := 16) (b := i) (by omega) (by omega)).mpr h9)
          refine lv_iconst (v := 0) hx hb d_RM_count_21 (by decide) ?_
          refine lv_istore (lv' := [(4, .int 0), (2, .int 0), (3, .int (nI i)), (0, .ref g), (1, .int w0)]) hx hb d_RM_count_22 hl (by decide) rfl (fun ls hl => ?_)
          have loop_24 : ∀ (n2 : Nat) (j : Nat), (j + n2 = 8) → ∀ (H : Heap) (locs : List Loc), va_P (dC, dI) vwCl [(g, .inr (8, [.ref g_0, .ref g_1, .ref g_2, .ref g_3, .ref g_4, .int 0, .int 0, .int 65535, .int 0, .ref g_9, .ref g_10, .ref g_11, .ref g_12, .ref g_13, .ref g_14, .int 0, .int 0, .int 0, .int 0, .ref g_19, .ref g_20, .ref g_21, .int 0, .int 0, .int 0])), (g_11, .inl (cI, 16, .inl (fun _ => 0)))] H → va_D A [(g, .inr (8, [.ref g_0, .ref g_1, .ref g_2, .ref g_3, .ref g_4, .int 0, .int 0, .int 65535, .int 0, .ref g_9, .ref g_10, .ref g_11, .ref g_12, .ref g_13, .ref g_14, .int 0, .int 0, .int 0, .int 0, .ref g_19, .ref g_20, .ref g_21, .int 0, .int 0, .int 0])), (g_11, .inl (cI, 16, .inl (fun _ => 0)))] → va_S A s.heap H locs → ∀ ls : Array Slot, lv_has ls 5 [(2, .int 0), (3, .int (nI i)), (4, .int (nI j)), (0, .ref g), (1, .int w0)] → W p l e (kRm 1 0 0 22) s m args below meth c H locs 0 0 Q (F0 m 24 ls []) := by
            intro n2
            induction n2 with
            | zero =>
              intro j hj H locs hP hD hS ls hl
              refine lv_iload hx hb d_RM_count_24 (lv_at hl 2 rfl) ?_
              refine lv_bipush (v := 8) hx hb d_RM_count_26 (by decide) ?_
              refine lv_icmp_ge (tgt := 51) hx hb d_RM_count_28 (by decide) (fun c_16 => ?_) (fun c_16 => ?_)
              · skip
                have c_16 : 8 ≤ j := (nI_leI (a := 8) (b := j) (by omega) (by omega)).mp c_16
                refine lv_iinc (v := (nI (i + 1))) (lv' := [(3, .int (nI (i + 1))), (2, .int 0), (4, .int (nI j)), (0, .ref g), (1, .int w0)]) hx hb d_RM_count_51 hl (k := 1) rfl (nI_1 i) (by decide) rfl (fun ls hl => ?_)
                refine lv_goto (tgt := 15) hx hb d_RM_count_54 (by decide) ?_
                exact ih_15 (i + 1) (by omega) _ _ (hP.sub [0, 1] rfl) (hD.sub [0, 1] (by decide) rfl) hS ls (lv_sub hl [1, 0, 3, 4] rfl)
              · skip
                have c_16 : ¬ 8 ≤ j := fun h9 => c_16 ((nI_leI (a := 8) (b := j) (by omega) (by omega)).mpr h9)
                exfalso; omega
            | succ n2 ih_24 =>
              intro j hj H locs hP hD hS ls hl
              refine lv_iload hx hb d_RM_count_24 (lv_at hl 2 rfl) ?_
              refine lv_bipush (v := 8) hx hb d_RM_count_26 (by decide) ?_
              refine lv_icmp_ge (tgt := 51) hx hb d_RM_count_28 (by decide) (fun c_17 => ?_) (fun c_17 => ?_)
              · skip
                have c_17 : 8 ≤ j := (nI_leI (a := 8) (b := j) (by omega) (by omega)).mp c_17
                exfalso; omega
              · skip
                have c_17 : ¬ 8 ≤ j := fun h9 => c_17 ((nI_leI (a := 8) (b := j) (by omega) (by omega)).mpr h9)
                refine lv_iload_n hx hb d_RM_count_31 rfl (lv_at hl 0 rfl) ?_
                refine lv_aload_n hx hb d_RM_count_32 rfl (lv_at hl 3 rfl) ?_
                refine va_get (D := (dC, dI)) (ci := 8) (v := .ref g_11) (C := "KitRunnerModel") (T := T_RM) (N := 25) hx hb hts hin_RM hown hK hP 0 rfl rfl 11 (by decide) hf_36 (fun _ h9 => h9) rfl d_RM_count_33 ?_
                refine lv_iload_n hx hb d_RM_count_36 rfl (lv_at hl 1 rfl) ?_
                refine kr_iald (k := i) hx hb hK hP 1 0 rfl rfl (by omega) (by first | decide | omega) d_RM_count_37 ?_
                refine kr_topi (x := (fun _ => 0) i) (y := 0) rfl ?_
                refine lv_iload hx hb d_RM_count_38 (lv_at hl 2 rfl) ?_
                refine lv_ishr hx hb d_RM_count_40 ?_
                refine lv_iconst (v := 1) hx hb d_RM_count_41 (by decide) ?_
                refine lv_iand hx hb d_RM_count_42 ?_
                refine lv_iadd hx hb d_RM_count_43 ?_
                refine kr_topi (x := 0 + (((0 : Int32) >>> ((nI j) &&& 31)) &&& 1)) (y := 0) (r_out j (by omega)) ?_
                refine lv_istore_n (lv' := [(2, .int 0), (3, .int (nI i)), (4, .int (nI j)), (0, .ref g), (1, .int w0)]) hx hb d_RM_count_44 rfl hl (by decide) rfl (fun ls hl => ?_)
                refine lv_iinc (v := (nI (j + 1))) (lv' := [(4, .int (nI (j + 1))), (2, .int 0), (3, .int (nI i)), (0, .ref g), (1, .int w0)]) hx hb d_RM_count_45 hl (k := 2) rfl (nI_1 j) (by decide) rfl (fun ls hl => ?_)
                refine lv_goto (tgt := 24) hx hb d_RM_count_48 (by decide) ?_
                exact ih_24 (j + 1) (by omega) _ _ (hP.sub [0, 1] rfl) (hD.sub [0, 1] (by decide) rfl) hS ls (lv_sub hl [1, 2, 0, 3, 4] rfl)
          exact loop_24 8 0 (by omega) _ _ (hP.sub [0, 1] rfl) (hD.sub [0, 1] (by decide) rfl) hS ls (lv_sub hl [1, 2, 0, 3, 4] rfl)
    exact loop_15 16 0 (by omega) _ _ (hP.sub [0, 1] rfl) (hD.sub [0, 1] (by decide) rfl) hS ls (lv_sub hl [1, 0, 2, 3] rfl)
  · skip
    have c_2 : (r_inb w0 10) = false := kb_0.mp c_2
    refine lv_iconst (v := (-1)) hx hb d_RM_count_9 (by decide) ?_
    have hpost : r_count w0 = -1 := by simp only [r_count, if_neg (k_bf c_2)]
    have hP9 := hP.sub (ws' := []) [] rfl
    have hD9 := hD.sub (ws' := []) [] (by decide) rfl
    exact kr_iret (v := (-1)) hQ hx hb hr hlocks hK hP9 hD9 hS (by rw [hpost] <;> rfl) () rfl d_RM_count_10
set_option maxHeartbeats 4000000 in
set_option maxRecDepth 100000 in
theorem rc_find (l : Launch) (dC : Nat → ClassId) (dI : Nat → Nat → Nat) (cI cJ cC cZ : ClassId) (σ : kSg) (g g_0 g_1 g_2 g_3 g_4 g_9 g_10 g_11 g_12 g_13 g_14 g_19 g_20 g_21 : Nat) (x0 : Int64) : kC l y_RM_find ws_RM_find (kRm 1 0 0 20) (dC, dI) (kTy cI cJ cC cZ) σ ([(g, .inr (8, [.ref g_0, .ref g_1, .ref g_2, .ref g_3, .ref g_4, .int 0, .int 0, .int 65535, .int 0, .ref g_9, .ref g_10, .ref g_11, .ref g_12, .ref g_13, .ref g_14, .int 0, .int 0, .int 0, .int 0, .ref g_19, .ref g_20, .ref g_21, .int 0, .int 0, .int 0]))]) [.ref g, .long x0] (kQi (dC, dI) (kTy cI cJ cC cZ) (r_find x0) (fun _ : Unit => [])) 0 0 := by
  refine kr_met (cc := prog_12_method_9_code) (maxL := 8) (ret := (some .int)) (by decide) rfl (Nat.le_of_ble_eq_true rfl) ?_
  intro p e s m args below meth c A Q hQ hx hb hr hml hts hown hlocks hnm hA hP hK hD hSt ls hl
  have hS : va_S A s.heap s.heap [] := va_S.rf
  have hown : s.vm.findClass "KitRunnerModel" = some m.cls := hown
  have hl : lv_has ls 8 [(0, .ref g), (1, .long x0)] := hl
  have hP : va_P (dC, dI) vwCl [(g, .inr (8, [.ref g_0, .ref g_1, .ref g_2, .ref g_3, .ref g_4, .int 0, .int 0, .int 65535, .int 0, .ref g_9, .ref g_10, .ref g_11, .ref g_12, .ref g_13, .ref g_14, .int 0, .int 0, .int 0, .int 0, .ref g_19, .ref g_20, .ref g_21, .int 0, .int 0, .int 0]))] s.heap := hP
  have hD : va_D A [(g, .inr (8, [.ref g_0, .ref g_1, .ref g_2, .ref g_3, .ref g_4, .int 0, .int 0, .int 65535, .int 0, .ref g_9, .ref g_10, .ref g_11, .ref g_12, .ref g_13, .ref g_14, .int 0, .int 0, .int 0, .int 0, .ref g_19, .ref g_20, .ref g_21, .int 0, .int 0, .int 0]))] := hD
  have hini_RM := hts _ (List.mem_cons_of_mem _ wq_9)
  have hm_106 := hts _ (List.mem_cons_of_mem _ wq_677)
  have hs_106 := hts _ (List.mem_cons_of_mem _ wq_678)
  have hk_104 := hts _ (List.mem_cons_of_mem _ wq_676)
  refine lv_lconst (v := 0) hx hb d_RM_find_0 (by decide) ?_
  refine lv_lstore_n (lv' := [(3, .long 0), (0, .ref g), (1, .long x0)]) hx hb d_RM_find_1 rfl hl (by decide) rfl (fun ls hl => ?_)
  refine lv_bipush (v := 56) hx hb d_RM_find_2 (by decide) ?_
  refine lv_istore (lv' := [(5, .int 56), (3, .long 0), (0, .ref g), (1, .long x0)]) hx hb d_RM_find_4 hl (by decide) rfl (fun ls hl => ?_)
  have loop_6 : ∀ (n : Nat) (acc : Int64), (n ≤ 8) → (k_wz x0 = k_wzL x0 n acc) → ∀ ls : Array Slot, lv_has ls 8 [(5, .int (k_sh n)), (3, .long acc), (0, .ref g), (1, .long x0)] → W p l e (kRm 1 0 0 20) s m args below meth c s.heap [] 0 0 Q (F0 m 6 ls []) := by
    intro n
    induction n with
    | zero =>
      intro acc hn8 hinv ls hl
      refine lv_iload hx hb d_RM_find_6 (lv_at hl 0 rfl) ?_
      refine lv_if_lt (tgt := 42) hx hb d_RM_find_8 (by decide) (fun c_1 => ?_) (fun c_1 => ?_)
      · skip
        have hacc : acc = k_wz x0 := hinv.symm
        subst hacc
        refine lv_iconst (v := 0) hx hb d_RM_find_42 (by decide) ?_
        refine lv_istore (lv' := [(5, .int 0), (3, .long (k_wz x0)), (0, .ref g), (1, .long x0)]) hx hb d_RM_find_43 hl (by decide) rfl (fun ls hl => ?_)
        have loop_45 : ∀ (n2 : Nat) (i : Nat), (i + n2 = 16) → (r_find x0 = r_findL (k_wz x0) n2 i) → ∀ (H : Heap) (locs : List Loc), va_P (dC, dI) vwCl [(g, .inr (8, [.ref g_0, .ref g_1, .ref g_2, .ref g_3, .ref g_4, .int 0, .int 0, .int 65535, .int 0, .ref g_9, .ref g_10, .ref g_11, .ref g_12, .ref g_13, .ref g_14, .int 0, .int 0, .int 0, .int 0, .ref g_19, .ref g_20, .ref g_21, .int 0, .int 0, .int 0]))] H → va_D A [(g, .inr (8, [.ref g_0, .ref g_1, .ref g_2, .ref g_3, .ref g_4, .int 0, .int 0, .int 65535, .int 0, .ref g_9, .ref g_10, .ref g_11, .ref g_12, .ref g_13, .ref g_14, .int 0, .int 0, .int 0, .int 0, .ref g_19, .ref g_20, .ref g_21, .int 0, .int 0, .int 0]))] → va_S A s.heap H locs → ∀ ls : Array Slot, lv_has ls 8 [(5, .int (nI i)), (3, .long (k_wz x0)), (0, .ref g), (1, .long x0)] → W p l e (kRm 1 0 0 20) s m args below meth c H locs 0 0 Q (F0 m 45 ls []) := by
          intro n2
          induction n2 with
          | zero =>
            intro i hi hinv2 H locs hP hD hS ls hl
            refine lv_iload hx hb d_RM_find_45 (lv_at hl 0 rfl) ?_
            refine lv_bipush (v := 16) hx hb d_RM_find_47 (by decide) ?_
            refine lv_icmp_ge (tgt := 71) hx hb d_RM_find_49 (by decide) (fun c_2 => ?_) (fun c_2 => ?_)
            · skip
              have c_2 : 16 ≤ i := (nI_leI (a := 16) (b := i) (by omega) (by omega)).mp c_2
              refine lv_iconst (v := (-1)) hx hb d_RM_find_71 (by decide) ?_
              have hpost : r_find x0 = -1 := hinv2.trans (by simp only [r_findL, if_pos c_1, if_pos c_2])
              have hP9 := hP.sub (ws' := []) [] rfl
              have hD9 := hD.sub (ws' := []) [] (by decide) rfl
              exact kr_iret (v := (-1)) hQ hx hb hr hlocks hK hP9 hD9 hS (by rw [hpost] <;> rfl) () rfl d_RM_find_72
            · skip
              have c_2 : ¬ 16 ≤ i := fun h9 => c_2 ((nI_leI (a := 16) (b := i) (by omega) (by omega)).mpr h9)
              exfalso; omega
          | succ n2 ih_45 =>
            intro i hi hinv2 H locs hP hD hS ls hl
            refine lv_iload hx hb d_RM_find_45 (lv_at hl 0 rfl) ?_
            refine lv_bipush (v := 16) hx hb d_RM_find_47 (by decide) ?_
            refine lv_icmp_ge (tgt := 71) hx hb d_RM_find_49 (by decide) (fun c_3 => ?_) (fun c_3 => ?_)
            · skip
              have c_3 : 16 ≤ i := (nI_leI (a := 16) (b := i) (by omega) (by omega)).mp c_3
              exfalso; omega
            · skip
              have c_3 : ¬ 16 ≤ i := fun h9 => c_3 ((nI_leI (a := 16) (b := i) (by omega) (by omega)).mpr h9)
              refine lv_iload hx hb d_RM_find_52 (lv_at hl 0 rfl) ?_
              have hpre_4 := kr_pre (wc := []) (av := [.int (nI i)]) hK hP hD hS hA hSt [] rfl (by decide)
              refine kj_l (wc := []) (wr := [(g, .inr (8, [.ref g_0, .ref g_1, .ref g_2, .ref g_3, .ref g_4, .int 0, .int 0, .int 65535, .int 0, .ref g_9, .ref g_10, .ref g_11, .ref g_12, .ref g_13, .ref g_14, .int 0, .int 0, .int 0, .int 0, .ref g_19, .ref g_20, .ref g_21, .int 0, .int 0, .int 0]))]) (va_runS (As := [.int (nI i)]) (rest := []) ⟨hx, hb, hml, hown, hts⟩ (rc_name l dC dI cI cJ cC cZ σ (nI i) _) ⟨(callB_of 1 hts (kg wq_679) rfl rfl rfl hini_RM hm_106 (by decide +kernel) ⟨Nat.le_of_ble_eq_true rfl, Nat.le_of_ble_eq_true rfl⟩), hs_106⟩ hpre_4 rfl rfl hl.1 rfl (lv_room (Nat.le_of_ble_eq_true rfl)) d_RM_find_54 ⟨Nat.le_of_ble_eq_true rfl, Nat.le_of_ble_eq_true rfl⟩) hP hD hS hA [] [0] rfl rfl (by decide) (by decide) (fun _ H locs hP hD hS => ?_)
              have hP : va_P (dC, dI) vwCl [(g, .inr (8, [.ref g_0, .ref g_1, .ref g_2, .ref g_3, .ref g_4, .int 0, .int 0, .int 65535, .int 0, .ref g_9, .ref g_10, .ref g_11, .ref g_12, .ref g_13, .ref g_14, .int 0, .int 0, .int 0, .int 0, .ref g_19, .ref g_20, .ref g_21, .int 0, .int 0, .int 0]))] H := hP
              have hD : va_D A [(g, .inr (8, [.ref g_0, .ref g_1, .ref g_2, .ref g_3, .ref g_4, .int 0, .int 0, .int 65535, .int 0, .ref g_9, .ref g_10, .ref g_11, .ref g_12, .ref g_13, .ref g_14, .int 0, .int 0, .int 0, .int 0, .ref g_19, .ref g_20, .ref g_21, .int 0, .int 0, .int 0]))] := hD
              refine lv_lload_n hx hb d_RM_find_57 rfl (lv_at hl 1 rfl) ?_
              refine W.lcmp hx hb d_RM_find_58 ?_
              refine lv_if_ne (tgt := 65) hx hb d_RM_find_59 (by decide) (fun c_5 => ?_) (fun c_5 => ?_)
              · skip
                have c_5 : ¬ (r_nm (nI i)) = (k_wz x0) := fun h9 => c_5 ((lg_cmp_eq (r_nm (nI i)) (k_wz x0)).mpr h9)
                refine lv_iinc (v := (nI (i + 1))) (lv' := [(5, .int (nI (i + 1))), (3, .long (k_wz x0)), (0, .ref g), (1, .long x0)]) hx hb d_RM_find_65 hl (k := 0) rfl (nI_1 i) (by decide) rfl (fun ls hl => ?_)
                refine lv_goto (tgt := 45) hx hb d_RM_find_68 (by decide) ?_
                exact ih_45 (i + 1) (by omega) (hinv2.trans (by simp only [r_findL, if_pos c_1, if_neg c_3, if_neg c_5])) _ _ (hP.sub [0] rfl) (hD.sub [0] (by decide) rfl) hS ls (lv_sub hl [0, 1, 2, 3] rfl)
              · skip
                have c_5 : (r_nm (nI i)) = (k_wz x0) := (lg_cmp_eq (r_nm (nI i)) (k_wz x0)).mp c_5
                refine lv_iload hx hb d_RM_find_62 (lv_at hl 0 rfl) ?_
                have hpost : r_find x0 = nI i := hinv2.trans (by simp only [r_findL, if_pos c_1, if_neg c_3, if_pos c_5])
                have hP9 := hP.sub (ws' := []) [] rfl
                have hD9 := hD.sub (ws' := []) [] (by decide) rfl
                exact kr_iret (v := (nI i)) hQ hx hb hr hlocks hK hP9 hD9 hS (by rw [hpost] <;> rfl) () rfl d_RM_find_64
        exact loop_45 16 0 (by omega) rfl _ _ (hP.sub [0] rfl) (hD.sub [0] (by decide) rfl) hS ls (lv_sub hl [0, 1, 2, 3] rfl)
      · skip
        exact absurd k_sh_0 c_1
    | succ n ih_6 =>
      intro acc hn8 hinv ls hl
      refine lv_iload hx hb d_RM_find_6 (lv_at hl 0 rfl) ?_
      refine lv_if_lt (tgt := 42) hx hb d_RM_find_8 (by decide) (fun c_6 => ?_) (fun c_6 => ?_)
      · skip
        exact absurd c_6 (k_sh_p n (by omega))
      · skip
        refine lv_lload_n hx hb d_RM_find_11 rfl (lv_at hl 3 rfl) ?_
        refine lv_iload hx hb d_RM_find_12 (lv_at hl 0 rfl) ?_
        refine lv_lushr hx hb d_RM_find_14 rfl ?_
        refine lv_ldc2 (v := 255) hx hb hown hk_104 d_RM_find_15 ?_
        refine lv_land hx hb d_RM_find_18 ?_
        refine lv_lstore (lv' := [(6, .long ((x0.toUInt64 >>> ((k_sh (n + 1)).toInt64.toUInt64 &&& Int64.toUInt64 63)).toInt64 &&& 255)), (5, .int (k_sh (n + 1))), (3, .long acc), (0, .ref g), (1, .long x0)]) hx hb d_RM_find_19 hl (by decide) rfl (fun ls hl => ?_)
        refine lv_lload hx hb d_RM_find_21 (lv_at hl 0 rfl) ?_
        refine lv_lconst (v := 0) hx hb d_RM_find_23 (by decide) ?_
        refine W.lcmp hx hb d_RM_find_24 ?_
        refine lv_if_eq (tgt := 36) hx hb d_RM_find_25 (by decide) (fun c_7 => ?_) (fun c_7 => ?_)
        · skip
          have c_7 : ((x0.toUInt64 >>> ((k_sh (n + 1)).toInt64.toUInt64 &&& Int64.toUInt64 63)).toInt64 &&& 255) = (0 : Int64) := (lg_cmp_eq ((x0.toUInt64 >>> ((k_sh (n + 1)).toInt64.toUInt64 &&& Int64.toUInt64 63)).toInt64 &&& 255) (0 : Int64)).mp c_7
          refine lv_iinc (v := (k_sh n)) (lv' := [(5, .int (k_sh n)), (6, .long ((x0.toUInt64 >>> ((k_sh (n + 1)).toInt64.toUInt64 &&& Int64.toUInt64 63)).toInt64 &&& 255)), (3, .long acc), (0, .ref g), (1, .long x0)]) hx hb d_RM_find_36 hl (k := 1) rfl (k_sh_s n) (by decide) rfl (fun ls hl => ?_)
          refine lv_goto (tgt := 6) hx hb d_RM_find_39 (by decide) ?_
          exact ih_6 acc (by omega) (hinv.trans (by simp only [k_wzL, if_neg c_6, if_pos c_7])) ls (lv_sub hl [0, 2, 3, 4] rfl)
        · skip
          have c_7 : ¬ ((x0.toUInt64 >>> ((k_sh (n + 1)).toInt64.toUInt64 &&& Int64.toUInt64 63)).toInt64 &&& 255) = (0 : Int64) := fun h9 => c_7 ((lg_cmp_eq ((x0.toUInt64 >>> ((k_sh (n + 1)).toInt64.toUInt64 &&& Int64.toUInt64 63)).toInt64 &&& 255) (0 : Int64)).mpr h9)
          refine lv_lload_n hx hb d_RM_find_28 rfl (lv_at hl 2 rfl) ?_
          refine lv_bipush (v := 8) hx hb d_RM_find_29 (by decide) ?_
          refine lv_lshl hx hb d_RM_find_31 rfl ?_
          refine lv_lload hx hb d_RM_find_32 (lv_at hl 0 rfl) ?_
          refine lv_lor hx hb d_RM_find_34 ?_
          refine lv_lstore_n (lv' := [(3, .long ((acc <<< ((8 : Int32).toInt64 &&& 63)) ||| ((x0.toUInt64 >>> ((k_sh (n + 1)).toInt64.toUInt64 &&& Int64.toUInt64 63)).toInt64 &&& 255))), (6, .long ((x0.toUInt64 >>> ((k_sh (n + 1)).toInt64.toUInt64 &&& Int64.toUInt64 63)).toInt64 &&& 255)), (5, .int (k_sh (n + 1))), (0, .ref g), (1, .long x0)]) hx hb d_RM_find_35 rfl hl (by decide) rfl (fun ls hl => ?_)
          refine lv_iinc (v := (k_sh n)) (lv' := [(5, .int (k_sh n)), (3, .long ((acc <<< ((8 : Int32).toInt64 &&& 63)) ||| ((x0.toUInt64 >>> ((k_sh (n + 1)).toInt64.toUInt64 &&& Int64.toUInt64 63)).toInt64 &&& 255))), (6, .long ((x0.toUInt64 >>> ((k_sh (n + 1)).toInt64.toUInt64 &&& Int64.toUInt64 63)).toInt64 &&& 255)), (0, .ref g), (1, .long x0)]) hx hb d_RM_find_36 hl (k := 2) rfl (k_sh_s n) (by decide) rfl (fun ls hl => ?_)
          refine lv_goto (tgt := 6) hx hb d_RM_find_39 (by decide) ?_
          exact ih_6 ((acc <<< ((8 : Int32).toInt64 &&& 63)) ||| ((x0.toUInt64 >>> ((k_sh (n + 1)).toInt64.toUInt64 &&& Int64.toUInt64 63)).toInt64 &&& 255)) (by omega) (hinv.trans (by simp only [k_wzL, if_neg c_6, if_neg c_7])) ls (lv_sub hl [0, 1, 3, 4] rfl)
  exact loop_6 8 0 (by omega) rfl ls (lv_sub hl [0, 1, 2, 3] rfl)
