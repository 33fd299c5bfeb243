set_option maxHeartbeats 4000000 in
set_option maxRecDepth 100000 in
theorem c_KitRunner_fault (l : Launch) (dC : Nat → ClassId) (dI : Nat → Nat → Nat) (cI cJ cC cZ : ClassId) (σ : kSg) (h h_0 h_0_0 h_0_1 h_0_2 h_1 h_2 h_3 h_4 h_5 h_6 : Nat) (P : kVM) (e0 : Int32) (s0 : Int32) (n0 : Int32) (hk : P.1.2.2.2 ≤ 4) : kC l y_KitRunner_fault ws_KitRunner_fault (kRm 1 0 0 23) (dC, dI) (kTy cI cJ cC cZ) σ (wVM cI cJ cC cZ h h_0 h_0_0 h_0_1 h_0_2 h_1 h_2 h_3 h_4 h_5 h_6 P) [.ref h, .int e0, .int s0, .int n0] (kQi (dC, dI) (kTy cI cJ cC cZ) (k_fault P e0 s0 n0).2 (fun _ : Unit => wVM cI cJ cC cZ h h_0 h_0_0 h_0_1 h_0_2 h_1 h_2 h_3 h_4 h_5 h_6 (k_fault P e0 s0 n0).1)) 0 0 := by
  refine kr_met (cc := prog_1_method_2_code) (maxL := 4) (ret := (some .int)) (by decide) rfl (Nat.le_of_ble_eq_true rfl) ?_
  intro p e s m args below meth c A Q hQ hx hb hr hml hts hown hlocks hnm hA hP hK hD hSt ls hl
  have hS : va_S A s.heap s.heap [] := va_S.rf
  have hown : s.vm.findClass "KitRunner" = some m.cls := hown
  have hl : lv_has ls 4 [(0, .ref h), (1, .int e0), (2, .int s0), (3, .int n0)] := hl
  have hP : va_P (dC, dI) vwCl [(h, .inr (0, [.ref h_0, .ref h_1, .ref h_2, .ref h_3, .ref h_4, .ref h_5, .ref h_6, .int P.2.1, .int (nI P.2.2)])), (h_0, .inr (1, [.ref h_0_0, .ref h_0_1, .ref h_0_2, .int (nI P.1.2.2.2)])), (h_0_0, .inl (cI, 4, .inl P.1.1)), (h_0_1, .inl (cI, 4, .inl P.1.2.1)), (h_0_2, .inl (cI, 4, .inl P.1.2.2.1))] s.heap := hP
  have hD : va_D A [(h, .inr (0, [.ref h_0, .ref h_1, .ref h_2, .ref h_3, .ref h_4, .ref h_5, .ref h_6, .int P.2.1, .int (nI P.2.2)])), (h_0, .inr (1, [.ref h_0_0, .ref h_0_1, .ref h_0_2, .int (nI P.1.2.2.2)])), (h_0_0, .inl (cI, 4, .inl P.1.1)), (h_0_1, .inl (cI, 4, .inl P.1.2.1)), (h_0_2, .inl (cI, 4, .inl P.1.2.2.1))] := hD
  have hini_KitRunner := hts _ (List.mem_cons_of_mem _ wq_1)
  have hm_66 := hts _ (List.mem_cons_of_mem _ wq_188)
  have hs_66 := hts _ (List.mem_cons_of_mem _ wq_189)
  have hf_10 := hts _ (List.mem_cons_of_mem _ wq_156)
  have hin_KitRunner := fun w (h : w ∈ u_ws "KitRunner" T_KitRunner 9) => List.mem_cons_of_mem (Cond.code y_KitRunner_fault prog_1_method_2_code 4 (some .int)) (in_KitRunner w h)
  have hini_K_Machine := hts _ (List.mem_cons_of_mem _ wq_2)
  have hm_70 := hts _ (List.mem_cons_of_mem _ wq_191)
  have hi_70 := hts _ (List.mem_cons_of_mem _ wq_192)
  have hv_70 := hts _ (List.mem_cons_of_mem _ wq_193)
  have hm_74 := hts _ (List.mem_cons_of_mem _ wq_195)
  have hi_74 := hts _ (List.mem_cons_of_mem _ wq_196)
  have hv_74 := hts _ (List.mem_cons_of_mem _ wq_197)
  refine lv_iload_n hx hb d_KitRunner_fault_0 rfl (lv_at hl 1 rfl) ?_
  have hpre_1 := kr_pre (wc := []) (av := [.int e0]) hK hP hD hS hA hSt [] rfl (by decide)
  refine kj_i (wc := []) (wr := [(h, .inr (0, [.ref h_0, .ref h_1, .ref h_2, .ref h_3, .ref h_4, .ref h_5, .ref h_6, .int P.2.1, .int (nI P.2.2)])), (h_0, .inr (1, [.ref h_0_0, .ref h_0_1, .ref h_0_2, .int (nI P.1.2.2.2)])), (h_0_0, .inl (cI, 4, .inl P.1.1)), (h_0_1, .inl (cI, 4, .inl P.1.2.1)), (h_0_2, .inl (cI, 4, .inl P.1.2.2.1))]) (va_runS (As := [.int e0]) (rest := []) ⟨hx, hb, hml, hown, hts⟩ (c_KitRunner_isEntry l dC dI cI cJ cC cZ σ e0 _) ⟨(callB_of 1 hts (kg wq_190) rfl rfl rfl hini_KitRunner hm_66 (by decide +kernel) ⟨Nat.le_of_ble_eq_true rfl, Nat.le_of_ble_eq_true rfl⟩), hs_66⟩ hpre_1 rfl rfl hl.1 rfl (lv_room (Nat.le_of_ble_eq_true rfl)) d_KitRunner_fault_1 ⟨Nat.le_of_ble_eq_true rfl, Nat.le_of_ble_eq_true rfl⟩) hP hD hS hA [] [0, 1, 2, 3, 4] rfl rfl (by decide) (by decide) (fun _ H locs hP hD hS => ?_)
  have hP : va_P (dC, dI) vwCl [(h, .inr (0, [.ref h_0, .ref h_1, .ref h_2, .ref h_3, .ref h_4, .ref h_5, .ref h_6, .int P.2.1, .int (nI P.2.2)])), (h_0, .inr (1, [.ref h_0_0, .ref h_0_1, .ref h_0_2, .int (nI P.1.2.2.2)])), (h_0_0, .inl (cI, 4, .inl P.1.1)), (h_0_1, .inl (cI, 4, .inl P.1.2.1)), (h_0_2, .inl (cI, 4, .inl P.1.2.2.1))] H := hP
  have hD : va_D A [(h, .inr (0, [.ref h_0, .ref h_1, .ref h_2, .ref h_3, .ref h_4, .ref h_5, .ref h_6, .int P.2.1, .int (nI P.2.2)])), (h_0, .inr (1, [.ref h_0_0, .ref h_0_1, .ref h_0_2, .int (nI P.1.2.2.2)])), (h_0_0, .inl (cI, 4, .inl P.1.1)), (h_0_1, .inl (cI, 4, .inl P.1.2.1)), (h_0_2, .inl (cI, 4, .inl P.1.2.2.1))] := hD
  refine lv_if_eq (tgt := 16) hx hb d_KitRunner_fault_4 (by decide) (fun c_2 => ?_) (fun c_2 => ?_)
  · skip
    have c_2 : (k_isEntry e0) = false := kb_0.mp c_2
    refine lv_iconst (v := (-1)) hx hb d_KitRunner_fault_16 (by decide) ?_
    have hpost : k_fault P e0 s0 n0 = (P, -1) := by simp only [k_fault, if_neg (k_bf c_2)]
    have hP9 := hP.sub (ws' := [(h, .inr (0, [.ref h_0, .ref h_1, .ref h_2, .ref h_3, .ref h_4, .ref h_5, .ref h_6, .int P.2.1, .int (nI P.2.2)])), (h_0, .inr (1, [.ref h_0_0, .ref h_0_1, .ref h_0_2, .int (nI P.1.2.2.2)])), (h_0_0, .inl (cI, 4, .inl P.1.1)), (h_0_1, .inl (cI, 4, .inl P.1.2.1)), (h_0_2, .inl (cI, 4, .inl P.1.2.2.1))]) [0, 1, 2, 3, 4] rfl
    have hD9 := hD.sub (ws' := [(h, .inr (0, [.ref h_0, .ref h_1, .ref h_2, .ref h_3, .ref h_4, .ref h_5, .ref h_6, .int P.2.1, .int (nI P.2.2)])), (h_0, .inr (1, [.ref h_0_0, .ref h_0_1, .ref h_0_2, .int (nI P.1.2.2.2)])), (h_0_0, .inl (cI, 4, .inl P.1.1)), (h_0_1, .inl (cI, 4, .inl P.1.2.1)), (h_0_2, .inl (cI, 4, .inl P.1.2.2.1))]) [0, 1, 2, 3, 4] (by decide) rfl
    exact kr_iret (v := (-1)) hQ hx hb hr hlocks hK hP9 hD9 hS (by rw [hpost] <;> rfl) () (by show (wVM cI cJ cC cZ h h_0 h_0_0 h_0_1 h_0_2 h_1 h_2 h_3 h_4 h_5 h_6 (k_fault P e0 s0 n0).1 : va_W) = _; rw [hpost] <;> rfl) d_KitRunner_fault_17
  · skip
    have c_2 : (k_isEntry e0) = true := kb_n.mp c_2
    refine lv_iload_n hx hb d_KitRunner_fault_7 rfl (lv_at hl 2 rfl) ?_
    refine lv_if_lt (tgt := 16) hx hb d_KitRunner_fault_8 (by decide) (fun c_3 => ?_) (fun c_3 => ?_)
    · skip
      refine lv_iconst (v := (-1)) hx hb d_KitRunner_fault_16 (by decide) ?_
      have hpost : k_fault P e0 s0 n0 = (P, -1) := by simp only [k_fault, if_pos c_2, if_pos c_3]
      have hP9 := hP.sub (ws' := [(h, .inr (0, [.ref h_0, .ref h_1, .ref h_2, .ref h_3, .ref h_4, .ref h_5, .ref h_6, .int P.2.1, .int (nI P.2.2)])), (h_0, .inr (1, [.ref h_0_0, .ref h_0_1, .ref h_0_2, .int (nI P.1.2.2.2)])), (h_0_0, .inl (cI, 4, .inl P.1.1)), (h_0_1, .inl (cI, 4, .inl P.1.2.1)), (h_0_2, .inl (cI, 4, .inl P.1.2.2.1))]) [0, 1, 2, 3, 4] rfl
      have hD9 := hD.sub (ws' := [(h, .inr (0, [.ref h_0, .ref h_1, .ref h_2, .ref h_3, .ref h_4, .ref h_5, .ref h_6, .int P.2.1, .int (nI P.2.2)])), (h_0, .inr (1, [.ref h_0_0, .ref h_0_1, .ref h_0_2, .int (nI P.1.2.2.2)])), (h_0_0, .inl (cI, 4, .inl P.1.1)), (h_0_1, .inl (cI, 4, .inl P.1.2.1)), (h_0_2, .inl (cI, 4, .inl P.1.2.2.1))]) [0, 1, 2, 3, 4] (by decide) rfl
      exact kr_iret (v := (-1)) hQ hx hb hr hlocks hK hP9 hD9 hS (by rw [hpost] <;> rfl) () (by show (wVM cI cJ cC cZ h h_0 h_0_0 h_0_1 h_0_2 h_1 h_2 h_3 h_4 h_5 h_6 (k_fault P e0 s0 n0).1 : va_W) = _; rw [hpost] <;> rfl) d_KitRunner_fault_17
    · skip
      refine lv_iload_n hx hb d_KitRunner_fault_11 rfl (lv_at hl 2 rfl) ?_
      refine lv_iconst (v := 5) hx hb d_KitRunner_fault_12 (by decide) ?_
      refine lv_icmp_lt (tgt := 18) hx hb d_KitRunner_fault_13 (by decide) (fun c_4 => ?_) (fun c_4 => ?_)
      · skip
        refine lv_aload_n hx hb d_KitRunner_fault_18 rfl (lv_at hl 0 rfl) ?_
        refine va_get (D := (dC, dI)) (ci := 0) (v := .ref h_0) (C := "KitRunner") (T := T_KitRunner) (N := 9) hx hb hts hin_KitRunner hown hK hP 0 rfl rfl 0 (by decide) hf_10 (fun _ h9 => h9) rfl d_KitRunner_fault_19 ?_
        refine lv_iload_n hx hb d_KitRunner_fault_22 rfl (lv_at hl 1 rfl) ?_
        refine lv_iload_n hx hb d_KitRunner_fault_23 rfl (lv_at hl 2 rfl) ?_
        refine lv_iload_n hx hb d_KitRunner_fault_24 rfl (lv_at hl 3 rfl) ?_
        have hpre_5 := kr_pre (wc := [(h_0, .inr (1, [.ref h_0_0, .ref h_0_1, .ref h_0_2, .int (nI P.1.2.2.2)])), (h_0_0, .inl (cI, 4, .inl P.1.1)), (h_0_1, .inl (cI, 4, .inl P.1.2.1)), (h_0_2, .inl (cI, 4, .inl P.1.2.2.1))]) (av := [.ref h_0, .int e0, .int s0, .int n0]) hK hP hD hS hA hSt [1, 2, 3, 4] rfl (by decide)
        refine kj_i (wc := [(h_0, .inr (1, [.ref h_0_0, .ref h_0_1, .ref h_0_2, .int (nI P.1.2.2.2)])), (h_0_0, .inl (cI, 4, .inl P.1.1)), (h_0_1, .inl (cI, 4, .inl P.1.2.1)), (h_0_2, .inl (cI, 4, .inl P.1.2.2.1))]) (wr := [(h, .inr (0, [.ref h_0, .ref h_1, .ref h_2, .ref h_3, .ref h_4, .ref h_5, .ref h_6, .int P.2.1, .int (nI P.2.2)]))]) (va_runV (As := [.int e0, .int s0, .int n0]) (rest := []) ⟨hx, hb, hml, hown, hts⟩ (c_Machine_addFault l dC dI cI cJ cC cZ σ h_0 h_0_0 h_0_1 h_0_2 P.1 e0 s0 n0 (by (try dsimp only) <;> first | assumption | omega) _) ⟨(callB_of 3 hts (kg wq_194) rfl rfl rfl hini_K_Machine hm_70 (by decide +kernel) ⟨Nat.le_of_ble_eq_true rfl, Nat.le_of_ble_eq_true rfl⟩), hi_70, hv_70⟩ ⟨hpre_5.1, (va_recv hK hP (ci := 1) (q0 := 1) rfl rfl), hpre_5.2⟩ rfl rfl hl.1 rfl (lv_room (Nat.le_of_ble_eq_true rfl)) d_KitRunner_fault_25 ⟨Nat.le_of_ble_eq_true rfl, Nat.le_of_ble_eq_true rfl⟩) hP hD hS hA [1, 2, 3, 4] [0] rfl rfl (by decide) (by decide) (fun _ H locs hP hD hS => ?_)
        have hP : va_P (dC, dI) vwCl [(h, .inr (0, [.ref h_0, .ref h_1, .ref h_2, .ref h_3, .ref h_4, .ref h_5, .ref h_6, .int P.2.1, .int (nI P.2.2)])), (h_0, .inr (1, [.ref h_0_0, .ref h_0_1, .ref h_0_2, .int (nI (k_addFault P.1 e0 s0 n0).1.2.2.2)])), (h_0_0, .inl (cI, 4, .inl (k_addFault P.1 e0 s0 n0).1.1)), (h_0_1, .inl (cI, 4, .inl (k_addFault P.1 e0 s0 n0).1.2.1)), (h_0_2, .inl (cI, 4, .inl (k_addFault P.1 e0 s0 n0).1.2.2.1))] H := hP
        have hD : va_D A [(h, .inr (0, [.ref h_0, .ref h_1, .ref h_2, .ref h_3, .ref h_4, .ref h_5, .ref h_6, .int P.2.1, .int (nI P.2.2)])), (h_0, .inr (1, [.ref h_0_0, .ref h_0_1, .ref h_0_2, .int (nI (k_addFault P.1 e0 s0 n0).1.2.2.2)])), (h_0_0, .inl (cI, 4, .inl (k_addFault P.1 e0 s0 n0).1.1)), (h_0_1, .inl (cI, 4, .inl (k_addFault P.1 e0 s0 n0).1.2.1)), (h_0_2, .inl (cI, 4, .inl (k_addFault P.1 e0 s0 n0).1.2.2.1))] := hD
        refine lv_if_eq (tgt := 41) hx hb d_KitRunner_fault_28 (by decide) (fun c_6 => ?_) (fun c_6 => ?_)
        · skip
          have c_6 : (k_addFault P.1 e0 s0 n0).2 = false := kb_0.mp c_6
          refine lv_bipush (v := (-2)) hx hb d_KitRunner_fault_41 (by decide) ?_
          have hpost : k_fault P e0 s0 n0 = (((k_addFault P.1 e0 s0 n0).1, P.2), -2) := by simp only [k_fault, if_pos c_2, if_neg c_3, if_pos c_4, if_neg (k_bf c_6)]
          have hP9 := hP.sub (ws' := [(h, .inr (0, [.ref h_0, .ref h_1, .ref h_2, .ref h_3, .ref h_4, .ref h_5, .ref h_6, .int P.2.1, .int (nI P.2.2)])), (h_0, .inr (1, [.ref h_0_0, .ref h_0_1, .ref h_0_2, .int (nI (k_addFault P.1 e0 s0 n0).1.2.2.2)])), (h_0_0, .inl (cI, 4, .inl (k_addFault P.1 e0 s0 n0).1.1)), (h_0_1, .inl (cI, 4, .inl (k_addFault P.1 e0 s0 n0).1.2.1)), (h_0_2, .inl (cI, 4, .inl (k_addFault P.1 e0 s0 n0).1.2.2.1))]) [0, 1, 2, 3, 4] rfl
          have hD9 := hD.sub (ws' := [(h, .inr (0, [.ref h_0, .ref h_1, .ref h_2, .ref h_3, .ref h_4, .ref h_5, .ref h_6, .int P.2.1, .int (nI P.2.2)])), (h_0, .inr (1, [.ref h_0_0, .ref h_0_1, .ref h_0_2, .int (nI (k_addFault P.1 e0 s0 n0).1.2.2.2)])), (h_0_0, .inl (cI, 4, .inl (k_addFault P.1 e0 s0 n0).1.1)), (h_0_1, .inl (cI, 4, .inl (k_addFault P.1 e0 s0 n0).1.2.1)), (h_0_2, .inl (cI, 4, .inl (k_addFault P.1 e0 s0 n0).1.2.2.1))]) [0, 1, 2, 3, 4] (by decide) rfl
          exact kr_iret (v := (-2)) hQ hx hb hr hlocks hK hP9 hD9 hS (by rw [hpost] <;> rfl) () (by show (wVM cI cJ cC cZ h h_0 h_0_0 h_0_1 h_0_2 h_1 h_2 h_3 h_4 h_5 h_6 (k_fault P e0 s0 n0).1 : va_W) = _; rw [hpost] <;> rfl) d_KitRunner_fault_43
        · skip
          have c_6 : (k_addFault P.1 e0 s0 n0).2 = true := kb_n.mp c_6
          refine lv_aload_n hx hb d_KitRunner_fault_31 rfl (lv_at hl 0 rfl) ?_
          refine va_get (D := (dC, dI)) (ci := 0) (v := .ref h_0) (C := "KitRunner") (T := T_KitRunner) (N := 9) hx hb hts hin_KitRunner hown hK hP 0 rfl rfl 0 (by decide) hf_10 (fun _ h9 => h9) rfl d_KitRunner_fault_32 ?_
          have hpre_7 := kr_pre (wc := [(h_0, .inr (1, [.ref h_0_0, .ref h_0_1, .ref h_0_2, .int (nI (k_addFault P.1 e0 s0 n0).1.2.2.2)])), (h_0_0, .inl (cI, 4, .inl (k_addFault P.1 e0 s0 n0).1.1)), (h_0_1, .inl (cI, 4, .inl (k_addFault P.1 e0 s0 n0).1.2.1)), (h_0_2, .inl (cI, 4, .inl (k_addFault P.1 e0 s0 n0).1.2.2.1))]) (av := [.ref h_0]) hK hP hD hS hA hSt [1, 2, 3, 4] rfl (by decide)
          refine kj_i (wc := [(h_0, .inr (1, [.ref h_0_0, .ref h_0_1, .ref h_0_2, .int (nI (k_addFault P.1 e0 s0 n0).1.2.2.2)])), (h_0_0, .inl (cI, 4, .inl (k_addFault P.1 e0 s0 n0).1.1)), (h_0_1, .inl (cI, 4, .inl (k_addFault P.1 e0 s0 n0).1.2.1)), (h_0_2, .inl (cI, 4, .inl (k_addFault P.1 e0 s0 n0).1.2.2.1))]) (wr := [(h, .inr (0, [.ref h_0, .ref h_1, .ref h_2, .ref h_3, .ref h_4, .ref h_5, .ref h_6, .int P.2.1, .int (nI P.2.2)]))]) (va_runV (As := []) (rest := []) ⟨hx, hb, hml, hown, hts⟩ (c_Machine_faultsHeld l dC dI cI cJ cC cZ σ h_0 h_0_0 h_0_1 h_0_2 (k_addFault P.1 e0 s0 n0).1 _) ⟨(callB_of 0 hts (kg wq_198) rfl rfl rfl hini_K_Machine hm_74 (by decide +kernel) ⟨Nat.le_of_ble_eq_true rfl, Nat.le_of_ble_eq_true rfl⟩), hi_74, hv_74⟩ ⟨hpre_7.1, (va_recv hK hP (ci := 1) (q0 := 1) rfl rfl), hpre_7.2⟩ rfl rfl hl.1 rfl (lv_room (Nat.le_of_ble_eq_true rfl)) d_KitRunner_fault_35 ⟨Nat.le_of_ble_eq_true rfl, Nat.le_of_ble_eq_true rfl⟩) hP hD hS hA [1, 2, 3, 4] [0] rfl rfl (by decide) (by decide) (fun _ H locs hP hD hS => ?_)
          have hP : va_P (dC, dI) vwCl [(h, .inr (0, [.ref h_0, .ref h_1, .ref h_2, .ref h_3, .ref h_4, .ref h_5, .ref h_6, .int P.2.1, .int (nI P.2.2)])), (h_0, .inr (1, [.ref h_0_0, .ref h_0_1, .ref h_0_2, .int (nI (k_addFault P.1 e0 s0 n0).1.2.2.2)])), (h_0_0, .inl (cI, 4, .inl (k_addFault P.1 e0 s0 n0).1.1)), (h_0_1, .inl (cI, 4, .inl (k_addFault P.1 e0 s0 n0).1.2.1)), (h_0_2, .inl (cI, 4, .inl (k_addFault P.1 e0 s0 n0).1.2.2.1))] H := hP
          have hD : va_D A [(h, .inr (0, [.ref h_0, .ref h_1, .ref h_2, .ref h_3, .ref h_4, .ref h_5, .ref h_6, .int P.2.1, .int (nI P.2.2)])), (h_0, .inr (1, [.ref h_0_0, .ref h_0_1, .ref h_0_2, .int (nI (k_addFault P.1 e0 s0 n0).1.2.2.2)])), (h_0_0, .inl (cI, 4, .inl (k_addFault P.1 e0 s0 n0).1.1)), (h_0_1, .inl (cI, 4, .inl (k_addFault P.1 e0 s0 n0).1.2.1)), (h_0_2, .inl (cI, 4, .inl (k_addFault P.1 e0 s0 n0).1.2.2.1))] := hD
          refine lv_goto (tgt := 43) hx hb d_KitRunner_fault_38 (by decide) ?_
          have hpost : k_fault P e0 s0 n0 = (((k_addFault P.1 e0 s0 n0).1, P.2), nI (k_addFault P.1 e0 s0 n0).1.2.2.2) := by simp only [k_fault, if_pos c_2, if_neg c_3, if_pos c_4, if_pos c_6]
          have hP9 := hP.sub (ws' := [(h, .inr (0, [.ref h_0, .ref h_1, .ref h_2, .ref h_3, .ref h_4, .ref h_5, .ref h_6, .int P.2.1, .int (nI P.2.2)])), (h_0, .inr (1, [.ref h_0_0, .ref h_0_1, .ref h_0_2, .int (nI (k_addFault P.1 e0 s0 n0).1.2.2.2)])), (h_0_0, .inl (cI, 4, .inl (k_addFault P.1 e0 s0 n0).1.1)), (h_0_1, .inl (cI, 4, .inl (k_addFault P.1 e0 s0 n0).1.2.1)), (h_0_2, .inl (cI, 4, .inl (k_addFault P.1 e0 s0 n0).1.2.2.1))]) [0, 1, 2, 3, 4] rfl
          have hD9 := hD.sub (ws' := [(h, .inr (0, [.ref h_0, .ref h_1, .ref h_2, .ref h_3, .ref h_4, .ref h_5, .ref h_6, .int P.2.1, .int (nI P.2.2)])), (h_0, .inr (1, [.ref h_0_0, .ref h_0_1, .ref h_0_2, .int (nI (k_addFault P.1 e0 s0 n0).1.2.2.2)])), (h_0_0, .inl (cI, 4, .inl (k_addFault P.1 e0 s0 n0).1.1)), (h_0_1, .inl (cI, 4, .inl (k_addFault P.1 e0 s0 n0).1.2.1)), (h_0_2, .inl (cI, 4, .inl (k_addFault P.1 e0 s0 n0).1.2.2.1))]) [0, 1, 2, 3, 4] (by decide) rfl
          exact kr_iret (v := (nI (k_addFault P.1 e0 s0 n0).1.2.2.2)) hQ hx hb hr hlocks hK hP9 hD9 hS (by rw [hpost] <;> rfl) () (by show (wVM cI cJ cC cZ h h_0 h_0_0 h_0_1 h_0_2 h_1 h_2 h_3 h_4 h_5 h_6 (k_fault P e0 s0 n0).1 : va_W) = _; rw [hpost] <;> rfl) d_KitRunner_fault_43
      · skip
        refine lv_iconst (v := (-1)) hx hb d_KitRunner_fault_16 (by decide) ?_
        have hpost : k_fault P e0 s0 n0 = (P, -1) := by simp only [k_fault, if_pos c_2, if_neg c_3, if_neg c_4]
        have hP9 := hP.sub (ws' := [(h, .inr (0, [.ref h_0, .ref h_1, .ref h_2, .ref h_3, .ref h_4, .ref h_5, .ref h_6, .int P.2.1, .int (nI P.2.2)])), (h_0, .inr (1, [.ref h_0_0, .ref h_0_1, .ref h_0_2, .int (nI P.1.2.2.2)])), (h_0_0, .inl (cI, 4, .inl P.1.1)), (h_0_1, .inl (cI, 4, .inl P.1.2.1)), (h_0_2, .inl (cI, 4, .inl P.1.2.2.1))]) [0, 1, 2, 3, 4] rfl
        have hD9 := hD.sub (ws' := [(h, .inr (0, [.ref h_0, .ref h_1, .ref h_2, .ref h_3, .ref h_4, .ref h_5, .ref h_6, .int P.2.1, .int (nI P.2.2)])), (h_0, .inr (1, [.ref h_0_0, .ref h_0_1, .ref h_0_2, .int (nI P.1.2.2.2)])), (h_0_0, .inl (cI, 4, .inl P.1.1)), (h_0_1, .inl (cI, 4, .inl P.1.2.1)), (h_0_2, .inl (cI, 4, .inl P.1.2.2.1))]) [0, 1, 2, 3, 4] (by decide) rfl
        exact kr_iret (v := (-1)) hQ hx hb hr hlocks hK hP9 hD9 hS (by rw [hpost] <;> rfl) () (by show (wVM cI cJ cC cZ h h_0 h_0_0 h_0_1 h_0_2 h_1 h_2 h_3 h_4 h_5 h_6 (k_fault P e0 s0 n0).1 : va_W) = _; rw [hpost] <;> rfl) d_KitRunner_fault_17
set_option maxHeartbeats 4000000 in
set_option maxRecDepth 100000 in
theorem c_KitRunner_exclude (l : Launch) (dC : Nat → ClassId) (dI : Nat → Nat → Nat) (cI cJ cC cZ : ClassId) (σ : kSg) (h h_0 h_1 h_1_0 h_1_1 h_2 h_3 h_4 h_5 h_6 : Nat) (P : kVX) (e0 : Int32) (n0 : Int32) (hk : P.1.2.2 ≤ 6) : kC l y_KitRunner_exclude ws_KitRunner_exclude (kRm 1 0 0 22) (dC, dI) (kTy cI cJ cC cZ) σ (wVX cI cJ cC cZ h h_0 h_1 h_1_0 h_1_1 h_2 h_3 h_4 h_5 h_6 P) [.ref h, .int e0, .int n0] (kQi (dC, dI) (kTy cI cJ cC cZ) (k_exclude P e0 n0).2 (fun _ : Unit => wVX cI cJ cC cZ h h_0 h_1 h_1_0 h_1_1 h_2 h_3 h_4 h_5 h_6 (k_exclude P e0 n0).1)) 0 0 := by
  refine kr_met (cc := prog_1_method_3_code) (maxL := 3) (ret := (some .int)) (by decide) rfl (Nat.le_of_ble_eq_true rfl) ?_
  intro p e s m args below meth c A Q hQ hx hb hr hml hts hown hlocks hnm hA hP hK hD hSt ls hl
  have hS : va_S A s.heap s.heap [] := va_S.rf
  have hown : s.vm.findClass "KitRunner" = some m.cls := hown
  have hl : lv_has ls 3 [(0, .ref h), (1, .int e0), (2, .int n0)] := hl
  have hP : va_P (dC, dI) vwCl [(h, .inr (0, [.ref h_0, .ref h_1, .ref h_2, .ref h_3, .ref h_4, .ref h_5, .ref h_6, .int P.2.1, .int (nI P.2.2)])), (h_1, .inr (2, [.ref h_1_0, .ref h_1_1, .int (nI P.1.2.2)])), (h_1_0, .inl (cI, 6, .inl P.1.1)), (h_1_1, .inl (cI, 6, .inl P.1.2.1))] s.heap := hP
  have hD : va_D A [(h, .inr (0, [.ref h_0, .ref h_1, .ref h_2, .ref h_3, .ref h_4, .ref h_5, .ref h_6, .int P.2.1, .int (nI P.2.2)])), (h_1, .inr (2, [.ref h_1_0, .ref h_1_1, .int (nI P.1.2.2)])), (h_1_0, .inl (cI, 6, .inl P.1.1)), (h_1_1, .inl (cI, 6, .inl P.1.2.1))] := hD
  have hini_KitRunner := hts _ (List.mem_cons_of_mem _ wq_1)
  have hm_66 := hts _ (List.mem_cons_of_mem _ wq_188)
  have hs_66 := hts _ (List.mem_cons_of_mem _ wq_189)
  have hf_19 := hts _ (List.mem_cons_of_mem _ wq_157)
  have hin_KitRunner := fun w (h : w ∈ u_ws "KitRunner" T_KitRunner 9) => List.mem_cons_of_mem (Cond.code y_KitRunner_exclude prog_1_method_3_code 3 (some .int)) (in_KitRunner w h)
  have hini_K_Exclusions := hts _ (List.mem_cons_of_mem _ wq_3)
  have hm_78 := hts _ (List.mem_cons_of_mem _ wq_203)
  have hi_78 := hts _ (List.mem_cons_of_mem _ wq_204)
  have hv_78 := hts _ (List.mem_cons_of_mem _ wq_205)
  have hm_82 := hts _ (List.mem_cons_of_mem _ wq_207)
  have hi_82 := hts _ (List.mem_cons_of_mem _ wq_208)
  have hv_82 := hts _ (List.mem_cons_of_mem _ wq_209)
  refine lv_iload_n hx hb d_KitRunner_exclude_0 rfl (lv_at hl 1 rfl) ?_
  have hpre_1 := kr_pre (wc := []) (av := [.int e0]) hK hP hD hS hA hSt [] rfl (by decide)
  refine kj_i (wc := []) (wr := [(h, .inr (0, [.ref h_0, .ref h_1, .ref h_2, .ref h_3, .ref h_4, .ref h_5, .ref h_6, .int P.2.1, .int (nI P.2.2)])), (h_1, .inr (2, [.ref h_1_0, .ref h_1_1, .int (nI P.1.2.2)])), (h_1_0, .inl (cI, 6, .inl P.1.1)), (h_1_1, .inl (cI, 6, .inl P.1.2.1))]) (va_runS (As := [.int e0]) (rest := []) ⟨hx, hb, hml, hown, hts⟩ (c_KitRunner_isEntry l dC dI cI cJ cC cZ σ e0 _) ⟨(callB_of 1 hts (kg wq_190) rfl rfl rfl hini_KitRunner hm_66 (by decide +kernel) ⟨Nat.le_of_ble_eq_true rfl, Nat.le_of_ble_eq_true rfl⟩), hs_66⟩ hpre_1 rfl rfl hl.1 rfl (lv_room (Nat.le_of_ble_eq_true rfl)) d_KitRunner_exclude_1 ⟨Nat.le_of_ble_eq_true rfl, Nat.le_of_ble_eq_true rfl⟩) hP hD hS hA [] [0, 1, 2, 3] rfl rfl (by decide) (by decide) (fun _ H locs hP hD hS => ?_)
  have hP : va_P (dC, dI) vwCl [(h, .inr (0, [.ref h_0, .ref h_1, .ref h_2, .ref h_3, .ref h_4, .ref h_5, .ref h_6, .int P.2.1, .int (nI P.2.2)])), (h_1, .inr (2, [.ref h_1_0, .ref h_1_1, .int (nI P.1.2.2)])), (h_1_0, .inl (cI, 6, .inl P.1.1)), (h_1_1, .inl (cI, 6, .inl P.1.2.1))] H := hP
  have hD : va_D A [(h, .inr (0, [.ref h_0, .ref h_1, .ref h_2, .ref h_3, .ref h_4, .ref h_5, .ref h_6, .int P.2.1, .int (nI P.2.2)])), (h_1, .inr (2, [.ref h_1_0, .ref h_1_1, .int (nI P.1.2.2)])), (h_1_0, .inl (cI, 6, .inl P.1.1)), (h_1_1, .inl (cI, 6, .inl P.1.2.1))] := hD
  refine lv_if_ne (tgt := 9) hx hb d_KitRunner_exclude_4 (by decide) (fun c_2 => ?_) (fun c_2 => ?_)
  · skip
    have c_2 : (k_isEntry e0) = true := kb_n.mp c_2
    refine lv_aload_n hx hb d_KitRunner_exclude_9 rfl (lv_at hl 0 rfl) ?_
    refine va_get (D := (dC, dI)) (ci := 0) (v := .ref h_1) (C := "KitRunner") (T := T_KitRunner) (N := 9) hx hb hts hin_KitRunner hown hK hP 0 rfl rfl 1 (by decide) hf_19 (fun _ h9 => h9) rfl d_KitRunner_exclude_10 ?_
    refine lv_iload_n hx hb d_KitRunner_exclude_13 rfl (lv_at hl 1 rfl) ?_
    refine lv_iload_n hx hb d_KitRunner_exclude_14 rfl (lv_at hl 2 rfl) ?_
    have hpre_3 := kr_pre (wc := [(h_1, .inr (2, [.ref h_1_0, .ref h_1_1, .int (nI P.1.2.2)])), (h_1_0, .inl (cI, 6, .inl P.1.1)), (h_1_1, .inl (cI, 6, .inl P.1.2.1))]) (av := [.ref h_1, .int e0, .int n0]) hK hP hD hS hA hSt [1, 2, 3] rfl (by decide)
    refine kj_i (wc := [(h_1, .inr (2, [.ref h_1_0, .ref h_1_1, .int (nI P.1.2.2)])), (h_1_0, .inl (cI, 6, .inl P.1.1)), (h_1_1, .inl (cI, 6, .inl P.1.2.1))]) (wr := [(h, .inr (0, [.ref h_0, .ref h_1, .ref h_2, .ref h_3, .ref h_4, .ref h_5, .ref h_6, .int P.2.1, .int (nI P.2.2)]))]) (va_runV (As := [.int e0, .int n0]) (rest := []) ⟨hx, hb, hml, hown, hts⟩ (c_Exclusions_add l dC dI cI cJ cC cZ σ h_1 h_1_0 h_1_1 P.1 e0 n0 (by (try dsimp only) <;> first | assumption | omega) _) ⟨(callB_of 2 hts (kg wq_206) rfl rfl rfl hini_K_Exclusions hm_78 (by decide +kernel) ⟨Nat.le_of_ble_eq_true rfl, Nat.le_of_ble_eq_true rfl⟩), hi_78, hv_78⟩ ⟨hpre_3.1, (va_recv hK hP (ci := 2) (q0 := 1) rfl rfl), hpre_3.2⟩ rfl rfl hl.1 rfl (lv_room (Nat.le_of_ble_eq_true rfl)) d_KitRunner_exclude_15 ⟨Nat.le_of_ble_eq_true rfl, Nat.le_of_ble_eq_true rfl⟩) hP hD hS hA [1, 2, 3] [0] rfl rfl (by decide) (by decide) (fun _ H locs hP hD hS => ?_)
    have hP : va_P (dC, dI) vwCl [(h, .inr (0, [.ref h_0, .ref h_1, .ref h_2, .ref h_3, .ref h_4, .ref h_5, .ref h_6, .int P.2.1, .int (nI P.2.2)])), (h_1, .inr (2, [.ref h_1_0, .ref h_1_1, .int (nI (k_addExc P.1 e0 n0).1.2.2)])), (h_1_0, .inl (cI, 6, .inl (k_addExc P.1 e0 n0).1.1)), (h_1_1, .inl (cI, 6, .inl (k_addExc P.1 e0 n0).1.2.1))] H := hP
    have hD : va_D A [(h, .inr (0, [.ref h_0, .ref h_1, .ref h_2, .ref h_3, .ref h_4, .ref h_5, .ref h_6, .int P.2.1, .int (nI P.2.2)])), (h_1, .inr (2, [.ref h_1_0, .ref h_1_1, .int (nI (k_addExc P.1 e0 n0).1.2.2)])), (h_1_0, .inl (cI, 6, .inl (k_addExc P.1 e0 n0).1.1)), (h_1_1, .inl (cI, 6, .inl (k_addExc P.1 e0 n0).1.2.1))] := hD
    refine lv_if_eq (tgt := 31) hx hb d_KitRunner_exclude_18 (by decide) (fun c_4 => ?_) (fun c_4 => ?_)
    · skip
      have c_4 : (k_addExc P.1 e0 n0).2 = false := kb_0.mp c_4
      refine lv_bipush (v := (-2)) hx hb d_KitRunner_exclude_31 (by decide) ?_
      have hpost : k_exclude P e0 n0 = (((k_addExc P.1 e0 n0).1, P.2), -2) := by simp only [k_exclude, if_pos c_2, if_neg (k_bf c_4)]
      have hP9 := hP.sub (ws' := [(h, .inr (0, [.ref h_0, .ref h_1, .ref h_2, .ref h_3, .ref h_4, .ref h_5, .ref h_6, .int P.2.1, .int (nI P.2.2)])), (h_1, .inr (2, [.ref h_1_0, .ref h_1_1, .int (nI (k_addExc P.1 e0 n0).1.2.2)])), (h_1_0, .inl (cI, 6, .inl (k_addExc P.1 e0 n0).1.1)), (h_1_1, .inl (cI, 6, .inl (k_addExc P.1 e0 n0).1.2.1))]) [0, 1, 2, 3] rfl
      have hD9 := hD.sub (ws' := [(h, .inr (0, [.ref h_0, .ref h_1, .ref h_2, .ref h_3, .ref h_4, .ref h_5, .ref h_6, .int P.2.1, .int (nI P.2.2)])), (h_1, .inr (2, [.ref h_1_0, .ref h_1_1, .int (nI (k_addExc P.1 e0 n0).1.2.2)])), (h_1_0, .inl (cI, 6, .inl (k_addExc P.1 e0 n0).1.1)), (h_1_1, .inl (cI, 6, .inl (k_addExc P.1 e0 n0).1.2.1))]) [0, 1, 2, 3] (by decide) rfl
      exact kr_iret (v := (-2)) hQ hx hb hr hlocks hK hP9 hD9 hS (by rw [hpost] <;> rfl) () (by show (wVX cI cJ cC cZ h h_0 h_1 h_1_0 h_1_1 h_2 h_3 h_4 h_5 h_6 (k_exclude P e0 n0).1 : va_W) = _; rw [hpost] <;> rfl) d_KitRunner_exclude_33
    · skip
      have c_4 : (k_addExc P.1 e0 n0).2 = true := kb_n.mp c_4
      refine lv_aload_n hx hb d_KitRunner_exclude_21 rfl (lv_at hl 0 rfl) ?_
      refine va_get (D := (dC, dI)) (ci := 0) (v := .ref h_1) (C := "KitRunner") (T := T_KitRunner) (N := 9) hx hb hts hin_KitRunner hown hK hP 0 rfl rfl 1 (by decide) hf_19 (fun _ h9 => h9) rfl d_KitRunner_exclude_22 ?_
      have hpre_5 := kr_pre (wc := [(h_1, .inr (2, [.ref h_1_0, .ref h_1_1, .int (nI (k_addExc P.1 e0 n0).1.2.2)])), (h_1_0, .inl (cI, 6, .inl (k_addExc P.1 e0 n0).1.1)), (h_1_1, .inl (cI, 6, .inl (k_addExc P.1 e0 n0).1.2.1))]) (av := [.ref h_1]) hK hP hD hS hA hSt [1, 2, 3] rfl (by decide)
      refine kj_i (wc := [(h_1, .inr (2, [.ref h_1_0, .ref h_1_1, .int (nI (k_addExc P.1 e0 n0).1.2.2)])), (h_1_0, .inl (cI, 6, .inl (k_addExc P.1 e0 n0).1.1)), (h_1_1, .inl (cI, 6, .inl (k_addExc P.1 e0 n0).1.2.1))]) (wr := [(h, .inr (0, [.ref h_0, .ref h_1, .ref h_2, .ref h_3, .ref h_4, .ref h_5, .ref h_6, .int P.2.1, .int (nI P.2.2)]))]) (va_runV (As := []) (rest := []) ⟨hx, hb, hml, hown, hts⟩ (c_Exclusions_held l dC dI cI cJ cC cZ σ h_1 h_1_0 h_1_1 (k_addExc P.1 e0 n0).1 _) ⟨(callB_of 0 hts (kg wq_210) rfl rfl rfl hini_K_Exclusions hm_82 (by decide +kernel) ⟨Nat.le_of_ble_eq_true rfl, Nat.le_of_ble_eq_true rfl⟩), hi_82, hv_82⟩ ⟨hpre_5.1, (va_recv hK hP (ci := 2) (q0 := 1) rfl rfl), hpre_5.2⟩ rfl rfl hl.1 rfl (lv_room (Nat.le_of_ble_eq_true rfl)) d_KitRunner_exclude_25 ⟨Nat.le_of_ble_eq_true rfl, Nat.le_of_ble_eq_true rfl⟩) hP hD hS hA [1, 2, 3] [0] rfl rfl (by decide) (by decide) (fun _ H locs hP hD hS => ?_)
      have hP : va_P (dC, dI) vwCl [(h, .inr (0, [.ref h_0, .ref h_1, .ref h_2, .ref h_3, .ref h_4, .ref h_5, .ref h_6, .int P.2.1, .int (nI P.2.2)])), (h_1, .inr (2, [.ref h_1_0, .ref h_1_1, .int (nI (k_addExc P.1 e0 n0).1.2.2)])), (h_1_0, .inl (cI, 6, .inl (k_addExc P.1 e0 n0).1.1)), (h_1_1, .inl (cI, 6, .inl (k_addExc P.1 e0 n0).1.2.1))] H := hP
      have hD : va_D A [(h, .inr (0, [.ref h_0, .ref h_1, .ref h_2, .ref h_3, .ref h_4, .ref h_5, .ref h_6, .int P.2.1, .int (nI P.2.2)])), (h_1, .inr (2, [.ref h_1_0, .ref h_1_1, .int (nI (k_addExc P.1 e0 n0).1.2.2)])), (h_1_0, .inl (cI, 6, .inl (k_addExc P.1 e0 n0).1.1)), (h_1_1, .inl (cI, 6, .inl (k_addExc P.1 e0 n0).1.2.1))] := hD
      refine lv_goto (tgt := 33) hx hb d_KitRunner_exclude_28 (by decide) ?_
      have hpost : k_exclude P e0 n0 = (((k_addExc P.1 e0 n0).1, P.2), nI (k_addExc P.1 e0 n0).1.2.2) := by simp only [k_exclude, if_pos c_2, if_pos c_4]
      have hP9 := hP.sub (ws' := [(h, .inr (0, [.ref h_0, .ref h_1, .ref h_2, .ref h_3, .ref h_4, .ref h_5, .ref h_6, .int P.2.1, .int (nI P.2.2)])), (h_1, .inr (2, [.ref h_1_0, .ref h_1_1, .int (nI (k_addExc P.1 e0 n0).1.2.2)])), (h_1_0, .inl (cI, 6, .inl (k_addExc P.1 e0 n0).1.1)), (h_1_1, .inl (cI, 6, .inl (k_addExc P.1 e0 n0).1.2.1))]) [0, 1, 2, 3] rfl
      have hD9 := hD.sub (ws' := [(h, .inr (0, [.ref h_0, .ref h_1, .ref h_2, .ref h_3, .ref h_4, .ref h_5, .ref h_6, .int P.2.1, .int (nI P.2.2)])), (h_1, .inr (2, [.ref h_1_0, .ref h_1_1, .int (nI (k_addExc P.1 e0 n0).1.2.2)])), (h_1_0, .inl (cI, 6, .inl (k_addExc P.1 e0 n0).1.1)), (h_1_1, .inl (cI, 6, .inl (k_addExc P.1 e0 n0).1.2.1))]) [0, 1, 2, 3] (by decide) rfl
      exact kr_iret (v := (nI (k_addExc P.1 e0 n0).1.2.2)) hQ hx hb hr hlocks hK hP9 hD9 hS (by rw [hpost] <;> rfl) () (by show (wVX cI cJ cC cZ h h_0 h_1 h_1_0 h_1_1 h_2 h_3 h_4 h_5 h_6 (k_exclude P e0 n0).1 : va_W) = _; rw [hpost] <;> rfl) d_KitRunner_exclude_33
  · skip
    have c_2 : (k_isEntry e0) = false := kb_0.mp c_2
    refine lv_iconst (v := (-1)) hx hb d_KitRunner_exclude_7 (by decide) ?_
    have hpost : k_exclude P e0 n0 = (P, -1) := by simp only [k_exclude, if_neg (k_bf c_2)]
    have hP9 := hP.sub (ws' := [(h, .inr (0, [.ref h_0, .ref h_1, .ref h_2, .ref h_3, .ref h_4, .ref h_5, .ref h_6, .int P.2.1, .int (nI P.2.2)])), (h_1, .inr (2, [.ref h_1_0, .ref h_1_1, .int (nI P.1.2.2)])), (h_1_0, .inl (cI, 6, .inl P.1.1)), (h_1_1, .inl (cI, 6, .inl P.1.2.1))]) [0, 1, 2, 3] rfl
    have hD9 := hD.sub (ws' := [(h, .inr (0, [.ref h_0, .ref h_1, .ref h_2, .ref h_3, .ref h_4, .ref h_5, .ref h_6, .int P.2.1, .int (nI P.2.2)])), (h_1, .inr (2, [.ref h_1_0, .ref h_1_1, .int (nI P.1.2.2)])), (h_1_0, .inl (cI, 6, .inl P.1.1)), (h_1_1, .inl (cI, 6, .inl P.1.2.1))]) [0, 1, 2, 3] (by decide) rfl
    exact kr_iret (v := (-1)) hQ hx hb hr hlocks hK hP9 hD9 hS (by rw [hpost] <;> rfl) () (by show (wVX cI cJ cC cZ h h_0 h_1 h_1_0 h_1_1 h_2 h_3 h_4 h_5 h_6 (k_exclude P e0 n0).1 : va_W) = _; rw [hpost] <;> rfl) d_KitRunner_exclude_8
set_option maxHeartbeats 4000000 in
set_option maxRecDepth 100000 in
theorem c_KitRunner_clear (l : Launch) (dC : Nat → ClassId) (dI : Nat → Nat → Nat) (cI cJ cC cZ : ClassId) (σ : kSg) (h h_0 h_0_0 h_0_1 h_0_2 h_1 h_1_0 h_1_1 h_2 h_3 h_4 h_5 h_6 : Nat) (P : kVMX) (w0 : Int32) : kC l y_KitRunner_clear ws_KitRunner_clear (kRm 1 0 0 20) (dC, dI) (kTy cI cJ cC cZ) σ (wVMX cI cJ cC cZ h h_0 h_0_0 h_0_1 h_0_2 h_1 h_1_0 h_1_1 h_2 h_3 h_4 h_5 h_6 P) [.ref h, .int w0] (kQi (dC, dI) (kTy cI cJ cC cZ) (k_clear P w0).2 (fun _ : Unit => wVMX cI cJ cC cZ h h_0 h_0_0 h_0_1 h_0_2 h_1 h_1_0 h_1_1 h_2 h_3 h_4 h_5 h_6 (k_clear P w0).1)) 0 0 := by
  refine kr_met (cc := prog_1_method_4_code) (maxL := 2) (ret := (some .int)) (by decide) rfl (Nat.le_of_ble_eq_true rfl) ?_
  intro p e s m args below meth c A Q hQ hx hb hr hml hts hown hlocks hnm hA hP hK hD hSt ls hl
  have hS : va_S A s.heap s.heap [] := va_S.rf
  have hown : s.vm.findClass "KitRunner" = some m.cls := hown
  have hl : lv_has ls 2 [(0, .ref h), (1, .int w0)] := hl
  have hP : va_P (dC, dI) vwCl [(h, .inr (0, [.ref h_0, .ref h_1, .ref h_2, .ref h_3, .ref h_4, .ref h_5, .ref h_6, .int P.2.2.1, .int (nI P.2.2.2)])), (h_0, .inr (1, [.ref h_0_0, .ref h_0_1, .ref h_0_2, .int (nI P.1.2.2.2)])), (h_0_0, .inl (cI, 4, .inl P.1.1)), (h_0_1, .inl (cI, 4, .inl P.1.2.1)), (h_0_2, .inl (cI, 4, .inl P.1.2.2.1)), (h_1, .inr (2, [.ref h_1_0, .ref h_1_1, .int (nI P.2.1.2.2)])), (h_1_0, .inl (cI, 6, .inl P.2.1.1)), (h_1_1, .inl (cI, 6, .inl P.2.1.2.1))] s.heap := hP
  have hD : va_D A [(h, .inr (0, [.ref h_0, .ref h_1, .ref h_2, .ref h_3, .ref h_4, .ref h_5, .ref h_6, .int P.2.2.1, .int (nI P.2.2.2)])), (h_0, .inr (1, [.ref h_0_0, .ref h_0_1, .ref h_0_2, .int (nI P.1.2.2.2)])), (h_0_0, .inl (cI, 4, .inl P.1.1)), (h_0_1, .inl (cI, 4, .inl P.1.2.1)), (h_0_2, .inl (cI, 4, .inl P.1.2.2.1)), (h_1, .inr (2, [.ref h_1_0, .ref h_1_1, .int (nI P.2.1.2.2)])), (h_1_0, .inl (cI, 6, .inl P.2.1.1)), (h_1_1, .inl (cI, 6, .inl P.2.1.2.1))] := hD
  have hf_19 := hts _ (List.mem_cons_of_mem _ wq_157)
  have hin_KitRunner := fun w (h : w ∈ u_ws "KitRunner" T_KitRunner 9) => List.mem_cons_of_mem (Cond.code y_KitRunner_clear prog_1_method_4_code 2 (some .int)) (in_KitRunner w h)
  have hini_K_Exclusions := hts _ (List.mem_cons_of_mem _ wq_3)
  have hm_88 := hts _ (List.mem_cons_of_mem _ wq_219)
  have hi_88 := hts _ (List.mem_cons_of_mem _ wq_220)
  have hv_88 := hts _ (List.mem_cons_of_mem _ wq_221)
  have hf_10 := hts _ (List.mem_cons_of_mem _ wq_156)
  have hini_K_Machine := hts _ (List.mem_cons_of_mem _ wq_2)
  have hm_85 := hts _ (List.mem_cons_of_mem _ wq_215)
  have hi_85 := hts _ (List.mem_cons_of_mem _ wq_216)
  have hv_85 := hts _ (List.mem_cons_of_mem _ wq_217)
  refine lv_iload_n hx hb d_KitRunner_clear_0 rfl (lv_at hl 1 rfl) ?_
  refine lv_if_lt (tgt := 9) hx hb d_KitRunner_clear_1 (by decide) (fun c_1 => ?_) (fun c_1 => ?_)
  · skip
    refine lv_iconst (v := (-1)) hx hb d_KitRunner_clear_9 (by decide) ?_
    have hpost : k_clear P w0 = (P, -1) := by simp only [k_clear, if_pos c_1]
    have hP9 := hP.sub (ws' := [(h, .inr (0, [.ref h_0, .ref h_1, .ref h_2, .ref h_3, .ref h_4, .ref h_5, .ref h_6, .int P.2.2.1, .int (nI P.2.2.2)])), (h_0, .inr (1, [.ref h_0_0, .ref h_0_1, .ref h_0_2, .int (nI P.1.2.2.2)])), (h_0_0, .inl (cI, 4, .inl P.1.1)), (h_0_1, .inl (cI, 4, .inl P.1.2.1)), (h_0_2, .inl (cI, 4, .inl P.1.2.2.1)), (h_1, .inr (2, [.ref h_1_0, .ref h_1_1, .int (nI P.2.1.2.2)])), (h_1_0, .inl (cI, 6, .inl P.2.1.1)), (h_1_1, .inl (cI, 6, .inl P.2.1.2.1))]) [0, 1, 2, 3, 4, 5, 6, 7] rfl
    have hD9 := hD.sub (ws' := [(h, .inr (0, [.ref h_0, .ref h_1, .ref h_2, .ref h_3, .ref h_4, .ref h_5, .ref h_6, .int P.2.2.1, .int (nI P.2.2.2)])), (h_0, .inr (1, [.ref h_0_0, .ref h_0_1, .ref h_0_2, .int (nI P.1.2.2.2)])), (h_0_0, .inl (cI, 4, .inl P.1.1)), (h_0_1, .inl (cI, 4, .inl P.1.2.1)), (h_0_2, .inl (cI, 4, .inl P.1.2.2.1)), (h_1, .inr (2, [.ref h_1_0, .ref h_1_1, .int (nI P.2.1.2.2)])), (h_1_0, .inl (cI, 6, .inl P.2.1.1)), (h_1_1, .inl (cI, 6, .inl P.2.1.2.1))]) [0, 1, 2, 3, 4, 5, 6, 7] (by decide) rfl
    exact kr_iret (v := (-1)) hQ hx hb hr hlocks hK hP9 hD9 hS (by rw [hpost] <;> rfl) () (by show (wVMX cI cJ cC cZ h h_0 h_0_0 h_0_1 h_0_2 h_1 h_1_0 h_1_1 h_2 h_3 h_4 h_5 h_6 (k_clear P w0).1 : va_W) = _; rw [hpost] <;> rfl) d_KitRunner_clear_10
  · skip
    refine lv_iload_n hx hb d_KitRunner_clear_4 rfl (lv_at hl 1 rfl) ?_
    refine lv_iconst (v := 2) hx hb d_KitRunner_clear_5 (by decide) ?_
    refine lv_icmp_le (tgt := 11) hx hb d_KitRunner_clear_6 (by decide) (fun c_2 => ?_) (fun c_2 => ?_)
    · skip
      refine lv_iload_n hx hb d_KitRunner_clear_11 rfl (lv_at hl 1 rfl) ?_
      refine lv_iconst (v := 1) hx hb d_KitRunner_clear_12 (by decide) ?_
      refine lv_icmp_eq (tgt := 23) hx hb d_KitRunner_clear_13 (by decide) (fun c_3 => ?_) (fun c_3 => ?_)
      · skip
        refine lv_iload_n hx hb d_KitRunner_clear_23 rfl (lv_at hl 1 rfl) ?_
        refine lv_if_eq (tgt := 34) hx hb d_KitRunner_clear_24 (by decide) (fun c_4 => ?_) (fun c_4 => ?_)
        · skip
          refine lv_iconst (v := 0) hx hb d_KitRunner_clear_34 (by decide) ?_
          have hpost : k_clear P w0 = (P, 0) := by simp only [k_clear, if_neg c_1, if_pos c_2, if_pos c_3, if_pos c_4]
          have hP9 := hP.sub (ws' := [(h, .inr (0, [.ref h_0, .ref h_1, .ref h_2, .ref h_3, .ref h_4, .ref h_5, .ref h_6, .int P.2.2.1, .int (nI P.2.2.2)])), (h_0, .inr (1, [.ref h_0_0, .ref h_0_1, .ref h_0_2, .int (nI P.1.2.2.2)])), (h_0_0, .inl (cI, 4, .inl P.1.1)), (h_0_1, .inl (cI, 4, .inl P.1.2.1)), (h_0_2, .inl (cI, 4, .inl P.1.2.2.1)), (h_1, .inr (2, [.ref h_1_0, .ref h_1_1, .int (nI P.2.1.2.2)])), (h_1_0, .inl (cI, 6, .inl P.2.1.1)), (h_1_1, .inl (cI, 6, .inl P.2.1.2.1))]) [0, 1, 2, 3, 4, 5, 6, 7] rfl
          have hD9 := hD.sub (ws' := [(h, .inr (0, [.ref h_0, .ref h_1, .ref h_2, .ref h_3, .ref h_4, .ref h_5, .ref h_6, .int P.2.2.1, .int (nI P.2.2.2)])), (h_0, .inr (1, [.ref h_0_0, .ref h_0_1, .ref h_0_2, .int (nI P.1.2.2.2)])), (h_0_0, .inl (cI, 4, .inl P.1.1)), (h_0_1, .inl (cI, 4, .inl P.1.2.1)), (h_0_2, .inl (cI, 4, .inl P.1.2.2.1)), (h_1, .inr (2, [.ref h_1_0, .ref h_1_1, .int (nI P.2.1.2.2)])), (h_1_0, .inl (cI, 6, .inl P.2.1.1)), (h_1_1, .inl (cI, 6, .inl P.2.1.2.1))]) [0, 1, 2, 3, 4, 5, 6, 7] (by decide) rfl
          exact kr_iret (v := 0) hQ hx hb hr hlocks hK hP9 hD9 hS (by rw [hpost] <;> rfl) () (by show (wVMX cI cJ cC cZ h h_0 h_0_0 h_0_1 h_0_2 h_1 h_1_0 h_1_1 h_2 h_3 h_4 h_5 h_6 (k_clear P w0).1 : va_W) = _; rw [hpost] <;> rfl) d_KitRunner_clear_35
        · skip
          refine lv_aload_n hx hb d_KitRunner_clear_27 rfl (lv_at hl 0 rfl) ?_
          refine va_get (D := (dC, dI)) (ci := 0) (v := .ref h_1) (C := "KitRunner") (T := T_KitRunner) (N := 9) hx hb hts hin_KitRunner hown hK hP 0 rfl rfl 1 (by decide) hf_19 (fun _ h9 => h9) rfl d_KitRunner_clear_28 ?_
          have hpre_5 := kr_pre (wc := [(h_1, .inr (2, [.ref h_1_0, .ref h_1_1, .int (nI P.2.1.2.2)])), (h_1_0, .inl (cI, 6, .inl P.2.1.1)), (h_1_1, .inl (cI, 6, .inl P.2.1.2.1))]) (av := [.ref h_1]) hK hP hD hS hA hSt [5, 6, 7] rfl (by decide)
          refine kj_v (wc := [(h_1, .inr (2, [.ref h_1_0, .ref h_1_1, .int (nI P.2.1.2.2)])), (h_1_0, .inl (cI, 6, .inl P.2.1.1)), (h_1_1, .inl (cI, 6, .inl P.2.1.2.1))]) (wr := [(h, .inr (0, [.ref h_0, .ref h_1, .ref h_2, .ref h_3, .ref h_4, .ref h_5, .ref h_6, .int P.2.2.1, .int (nI P.2.2.2)])), (h_0, .inr (1, [.ref h_0_0, .ref h_0_1, .ref h_0_2, .int (nI P.1.2.2.2)])), (h_0_0, .inl (cI, 4, .inl P.1.1)), (h_0_1, .inl (cI, 4, .inl P.1.2.1)), (h_0_2, .inl (cI, 4, .inl P.1.2.2.1))]) (va_runV (As := []) (rest := []) ⟨hx, hb, hml, hown, hts⟩ (c_Exclusions_removeAll l dC dI cI cJ cC cZ σ h_1 h_1_0 h_1_1 P.2.1 _) ⟨(callB_of 0 hts (kg wq_222) rfl rfl rfl hini_K_Exclusions hm_88 (by decide +kernel) ⟨Nat.le_of_ble_eq_true rfl, Nat.le_of_ble_eq_true rfl⟩), hi_88, hv_88⟩ ⟨hpre_5.1, (va_recv hK hP (ci := 2) (q0 := 5) rfl rfl), hpre_5.2⟩ rfl rfl hl.1 rfl (lv_room (Nat.le_of_ble_eq_true rfl)) d_KitRunner_clear_31 ⟨Nat.le_of_ble_eq_true rfl, Nat.le_of_ble_eq_true rfl⟩) hP hD hS hA [5, 6, 7] [0, 1, 2, 3, 4] rfl rfl (by decide) (by decide) (fun _ H locs hP hD hS => ?_)
          have hP : va_P (dC, dI) vwCl [(h, .inr (0, [.ref h_0, .ref h_1, .ref h_2, .ref h_3, .ref h_4, .ref h_5, .ref h_6, .int P.2.2.1, .int (nI P.2.2.2)])), (h_0, .inr (1, [.ref h_0_0, .ref h_0_1, .ref h_0_2, .int (nI P.1.2.2.2)])), (h_0_0, .inl (cI, 4, .inl P.1.1)), (h_0_1, .inl (cI, 4, .inl P.1.2.1)), (h_0_2, .inl (cI, 4, .inl P.1.2.2.1)), (h_1, .inr (2, [.ref h_1_0, .ref h_1_1, .int (nI (k_rmExc P.2.1).2.2)])), (h_1_0, .inl (cI, 6, .inl (k_rmExc P.2.1).1)), (h_1_1, .inl (cI, 6, .inl (k_rmExc P.2.1).2.1))] H := hP
          have hD : va_D A [(h, .inr (0, [.ref h_0, .ref h_1, .ref h_2, .ref h_3, .ref h_4, .ref h_5, .ref h_6, .int P.2.2.1, .int (nI P.2.2.2)])), (h_0, .inr (1, [.ref h_0_0, .ref h_0_1, .ref h_0_2, .int (nI P.1.2.2.2)])), (h_0_0, .inl (cI, 4, .inl P.1.1)), (h_0_1, .inl (cI, 4, .inl P.1.2.1)), (h_0_2, .inl (cI, 4, .inl P.1.2.2.1)), (h_1, .inr (2, [.ref h_1_0, .ref h_1_1, .int (nI (k_rmExc P.2.1).2.2)])), (h_1_0, .inl (cI, 6, .inl (k_rmExc P.2.1).1)), (h_1_1, .inl (cI, 6, .inl (k_rmExc P.2.1).2.1))] := hD
          refine lv_iconst (v := 0) hx hb d_KitRunner_clear_34 (by decide) ?_
          have hpost : k_clear P w0 = ((P.1, ((k_rmExc P.2.1), P.2.2)), 0) := by simp only [k_clear, if_neg c_1, if_pos c_2, if_pos c_3, if_neg c_4]
          have hP9 := hP.sub (ws' := [(h, .inr (0, [.ref h_0, .ref h_1, .ref h_2, .ref h_3, .ref h_4, .ref h_5, .ref h_6, .int P.2.2.1, .int (nI P.2.2.2)])), (h_0, .inr (1, [.ref h_0_0, .ref h_0_1, .ref h_0_2, .int (nI P.1.2.2.2)])), (h_0_0, .inl (cI, 4, .inl P.1.1)), (h_0_1, .inl (cI, 4, .inl P.1.2.1)), (h_0_2, .inl (cI, 4, .inl P.1.2.2.1)), (h_1, .inr (2, [.ref h_1_0, .ref h_1_1, .int (nI (k_rmExc P.2.1).2.2)])), (h_1_0, .inl (cI, 6, .inl (k_rmExc P.2.1).1)), (h_1_1, .inl (cI, 6, .inl (k_rmExc P.2.1).2.1))]) [0, 1, 2, 3, 4, 5, 6, 7] rfl
          have hD9 := hD.sub (ws' := [(h, .inr (0, [.ref h_0, .ref h_1, .ref h_2, .ref h_3, .ref h_4, .ref h_5, .ref h_6, .int P.2.2.1, .int (nI P.2.2.2)])), (h_0, .inr (1, [.ref h_0_0, .ref h_0_1, .ref h_0_2, .int (nI P.1.2.2.2)])), (h_0_0, .inl (cI, 4, .inl P.1.1)), (h_0_1, .inl (cI, 4, .inl P.1.2.1)), (h_0_2, .inl (cI, 4, .inl P.1.2.2.1)), (h_1, .inr (2, [.ref h_1_0, .ref h_1_1, .int (nI (k_rmExc P.2.1).2.2)])), (h_1_0, .inl (cI, 6, .inl (k_rmExc P.2.1).1)), (h_1_1, .inl (cI, 6, .inl (k_rmExc P.2.1).2.1))]) [0, 1, 2, 3, 4, 5, 6, 7] (by decide) rfl
          exact kr_iret (v := 0) hQ hx hb hr hlocks hK hP9 hD9 hS (by rw [hpost] <;> rfl) () (by show (wVMX cI cJ cC cZ h h_0 h_0_0 h_0_1 h_0_2 h_1 h_1_0 h_1_1 h_2 h_3 h_4 h_5 h_6 (k_clear P w0).1 : va_W) = _; rw [hpost] <;> rfl) d_KitRunner_clear_35
      · skip
        refine lv_aload_n hx hb d_KitRunner_clear_16 rfl (lv_at hl 0 rfl) ?_
        refine va_get (D := (dC, dI)) (ci := 0) (v := .ref h_0) (C := "KitRunner") (T := T_KitRunner) (N := 9) hx hb hts hin_KitRunner hown hK hP 0 rfl rfl 0 (by decide) hf_10 (fun _ h9 => h9) rfl d_KitRunner_clear_17 ?_
        have hpre_6 := kr_pre (wc := [(h_0, .inr (1, [.ref h_0_0, .ref h_0_1, .ref h_0_2, .int (nI P.1.2.2.2)])), (h_0_0, .inl (cI, 4, .inl P.1.1)), (h_0_1, .inl (cI, 4, .inl P.1.2.1)), (h_0_2, .inl (cI, 4, .inl P.1.2.2.1))]) (av := [.ref h_0]) hK hP hD hS hA hSt [1, 2, 3, 4] rfl (by decide)
        refine kj_v (wc := [(h_0, .inr (1, [.ref h_0_0, .ref h_0_1, .ref h_0_2, .int (nI P.1.2.2.2)])), (h_0_0, .inl (cI, 4, .inl P.1.1)), (h_0_1, .inl (cI, 4, .inl P.1.2.1)), (h_0_2, .inl (cI, 4, .inl P.1.2.2.1))]) (wr := [(h, .inr (0, [.ref h_0, .ref h_1, .ref h_2, .ref h_3, .ref h_4, .ref h_5, .ref h_6, .int P.2.2.1, .int (nI P.2.2.2)])), (h_1, .inr (2, [.ref h_1_0, .ref h_1_1, .int (nI P.2.1.2.2)])), (h_1_0, .inl (cI, 6, .inl P.2.1.1)), (h_1_1, .inl (cI, 6, .inl P.2.1.2.1))]) (va_runV (As := []) (rest := []) ⟨hx, hb, hml, hown, hts⟩ (c_Machine_removeFaults l dC dI cI cJ cC cZ σ h_0 h_0_0 h_0_1 h_0_2 P.1 _) ⟨(callB_of 0 hts (kg wq_218) rfl rfl rfl hini_K_Machine hm_85 (by decide +kernel) ⟨Nat.le_of_ble_eq_true rfl, Nat.le_of_ble_eq_true rfl⟩), hi_85, hv_85⟩ ⟨hpre_6.1, (va_recv hK hP (ci := 1) (q0 := 1) rfl rfl), hpre_6.2⟩ rfl rfl hl.1 rfl (lv_room (Nat.le_of_ble_eq_true rfl)) d_KitRunner_clear_20 ⟨Nat.le_of_ble_eq_true rfl, Nat.le_of_ble_eq_true rfl⟩) hP hD hS hA [1, 2, 3, 4] [0, 5, 6, 7] rfl rfl (by decide) (by decide) (fun _ H locs hP hD hS => ?_)
        have hP : va_P (dC, dI) vwCl [(h, .inr (0, [.ref h_0, .ref h_1, .ref h_2, .ref h_3, .ref h_4, .ref h_5, .ref h_6, .int P.2.2.1, .int (nI P.2.2.2)])), (h_1, .inr (2, [.ref h_1_0, .ref h_1_1, .int (nI P.2.1.2.2)])), (h_1_0, .inl (cI, 6, .inl P.2.1.1)), (h_1_1, .inl (cI, 6, .inl P.2.1.2.1)), (h_0, .inr (1, [.ref h_0_0, .ref h_0_1, .ref h_0_2, .int (nI (k_rmFaults P.1).2.2.2)])), (h_0_0, .inl (cI, 4, .inl (k_rmFaults P.1).1)), (h_0_1, .inl (cI, 4, .inl (k_rmFaults P.1).2.1)), (h_0_2, .inl (cI, 4, .inl (k_rmFaults P.1).2.2.1))] H := hP
        have hD : va_D A [(h, .inr (0, [.ref h_0, .ref h_1, .ref h_2, .ref h_3, .ref h_4, .ref h_5, .ref h_6, .int P.2.2.1, .int (nI P.2.2.2)])), (h_1, .inr (2, [.ref h_1_0, .ref h_1_1, .int (nI P.2.1.2.2)])), (h_1_0, .inl (cI, 6, .inl P.2.1.1)), (h_1_1, .inl (cI, 6, .inl P.2.1.2.1)), (h_0, .inr (1, [.ref h_0_0, .ref h_0_1, .ref h_0_2, .int (nI (k_rmFaults P.1).2.2.2)])), (h_0_0, .inl (cI, 4, .inl (k_rmFaults P.1).1)), (h_0_1, .inl (cI, 4, .inl (k_rmFaults P.1).2.1)), (h_0_2, .inl (cI, 4, .inl (k_rmFaults P.1).2.2.1))] := hD
        refine lv_iload_n hx hb d_KitRunner_clear_23 rfl (lv_at hl 1 rfl) ?_
        refine lv_if_eq (tgt := 34) hx hb d_KitRunner_clear_24 (by decide) (fun c_7 => ?_) (fun c_7 => ?_)
        · skip
          refine lv_iconst (v := 0) hx hb d_KitRunner_clear_34 (by decide) ?_
          have hpost : k_clear P w0 = (((k_rmFaults P.1), P.2), 0) := by simp only [k_clear, if_neg c_1, if_pos c_2, if_neg c_3, if_pos c_7]
          have hP9 := hP.sub (ws' := [(h, .inr (0, [.ref h_0, .ref h_1, .ref h_2, .ref h_3, .ref h_4, .ref h_5, .ref h_6, .int P.2.2.1, .int (nI P.2.2.2)])), (h_0, .inr (1, [.ref h_0_0, .ref h_0_1, .ref h_0_2, .int (nI (k_rmFaults P.1).2.2.2)])), (h_0_0, .inl (cI, 4, .inl (k_rmFaults P.1).1)), (h_0_1, .inl (cI, 4, .inl (k_rmFaults P.1).2.1)), (h_0_2, .inl (cI, 4, .inl (k_rmFaults P.1).2.2.1)), (h_1, .inr (2, [.ref h_1_0, .ref h_1_1, .int (nI P.2.1.2.2)])), (h_1_0, .inl (cI, 6, .inl P.2.1.1)), (h_1_1, .inl (cI, 6, .inl P.2.1.2.1))]) [0, 4, 5, 6, 7, 1, 2, 3] rfl
          have hD9 := hD.sub (ws' := [(h, .inr (0, [.ref h_0, .ref h_1, .ref h_2, .ref h_3, .ref h_4, .ref h_5, .ref h_6, .int P.2.2.1, .int (nI P.2.2.2)])), (h_0, .inr (1, [.ref h_0_0, .ref h_0_1, .ref h_0_2, .int (nI (k_rmFaults P.1).2.2.2)])), (h_0_0, .inl (cI, 4, .inl (k_rmFaults P.1).1)), (h_0_1, .inl (cI, 4, .inl (k_rmFaults P.1).2.1)), (h_0_2, .inl (cI, 4, .inl (k_rmFaults P.1).2.2.1)), (h_1, .inr (2, [.ref h_1_0, .ref h_1_1, .int (nI P.2.1.2.2)])), (h_1_0, .inl (cI, 6, .inl P.2.1.1)), (h_1_1, .inl (cI, 6, .inl P.2.1.2.1))]) [0, 4, 5, 6, 7, 1, 2, 3] (by decide) rfl
          exact kr_iret (v := 0) hQ hx hb hr hlocks hK hP9 hD9 hS (by rw [hpost] <;> rfl) () (by show (wVMX cI cJ cC cZ h h_0 h_0_0 h_0_1 h_0_2 h_1 h_1_0 h_1_1 h_2 h_3 h_4 h_5 h_6 (k_clear P w0).1 : va_W) = _; rw [hpost] <;> rfl) d_KitRunner_clear_35
        · skip
          refine lv_aload_n hx hb d_KitRunner_clear_27 rfl (lv_at hl 0 rfl) ?_
          refine va_get (D := (dC, dI)) (ci := 0) (v := .ref h_1) (C := "KitRunner") (T := T_KitRunner) (N := 9) hx hb hts hin_KitRunner hown hK hP 0 rfl rfl 1 (by decide) hf_19 (fun _ h9 => h9) rfl d_KitRunner_clear_28 ?_
          have hpre_8 := kr_pre (wc := [(h_1, .inr (2, [.ref h_1_0, .ref h_1_1, .int (nI P.2.1.2.2)])), (h_1_0, .inl (cI, 6, .inl P.2.1.1)), (h_1_1, .inl (cI, 6, .inl P.2.1.2.1))]) (av := [.ref h_1]) hK hP hD hS hA hSt [1, 2, 3] rfl (by decide)
          refine kj_v (wc := [(h_1, .inr (2, [.ref h_1_0, .ref h_1_1, .int (nI P.2.1.2.2)])), (h_1_0, .inl (cI, 6, .inl P.2.1.1)), (h_1_1, .inl (cI, 6, .inl P.2.1.2.1))]) (wr := [(h, .inr (0, [.ref h_0, .ref h_1, .ref h_2, .ref h_3, .ref h_4, .ref h_5, .ref h_6, .int P.2.2.1, .int (nI P.2.2.2)])), (h_0, .inr (1, [.ref h_0_0, .ref h_0_1, .ref h_0_2, .int (nI (k_rmFaults P.1).2.2.2)])), (h_0_0, .inl (cI, 4, .inl (k_rmFaults P.1).1)), (h_0_1, .inl (cI, 4, .inl (k_rmFaults P.1).2.1)), (h_0_2, .inl (cI, 4, .inl (k_rmFaults P.1).2.2.1))]) (va_runV (As := []) (rest := []) ⟨hx, hb, hml, hown, hts⟩ (c_Exclusions_removeAll l dC dI cI cJ cC cZ σ h_1 h_1_0 h_1_1 P.2.1 _) ⟨(callB_of 0 hts (kg wq_222) rfl rfl rfl hini_K_Exclusions hm_88 (by decide +kernel) ⟨Nat.le_of_ble_eq_true rfl, Nat.le_of_ble_eq_true rfl⟩), hi_88, hv_88⟩ ⟨hpre_8.1, (va_recv hK hP (ci := 2) (q0 := 1) rfl rfl), hpre_8.2⟩ rfl rfl hl.1 rfl (lv_room (Nat.le_of_ble_eq_true rfl)) d_KitRunner_clear_31 ⟨Nat.le_of_ble_eq_true rfl, Nat.le_of_ble_eq_true rfl⟩) hP hD hS hA [1, 2, 3] [0, 4, 5, 6, 7] rfl rfl (by decide) (by decide) (fun _ H locs hP hD hS => ?_)
          have hP : va_P (dC, dI) vwCl [(h, .inr (0, [.ref h_0, .ref h_1, .ref h_2, .ref h_3, .ref h_4, .ref h_5, .ref h_6, .int P.2.2.1, .int (nI P.2.2.2)])), (h_0, .inr (1, [.ref h_0_0, .ref h_0_1, .ref h_0_2, .int (nI (k_rmFaults P.1).2.2.2)])), (h_0_0, .inl (cI, 4, .inl (k_rmFaults P.1).1)), (h_0_1, .inl (cI, 4, .inl (k_rmFaults P.1).2.1)), (h_0_2, .inl (cI, 4, .inl (k_rmFaults P.1).2.2.1)), (h_1, .inr (2, [.ref h_1_0, .ref h_1_1, .int (nI (k_rmExc P.2.1).2.2)])), (h_1_0, .inl (cI, 6, .inl (k_rmExc P.2.1).1)), (h_1_1, .inl (cI, 6, .inl (k_rmExc P.2.1).2.1))] H := hP
          have hD : va_D A [(h, .inr (0, [.ref h_0, .ref h_1, .ref h_2, .ref h_3, .ref h_4, .ref h_5, .ref h_6, .int P.2.2.1, .int (nI P.2.2.2)])), (h_0, .inr (1, [.ref h_0_0, .ref h_0_1, .ref h_0_2, .int (nI (k_rmFaults P.1).2.2.2)])), (h_0_0, .inl (cI, 4, .inl (k_rmFaults P.1).1)), (h_0_1, .inl (cI, 4, .inl (k_rmFaults P.1).2.1)), (h_0_2, .inl (cI, 4, .inl (k_rmFaults P.1).2.2.1)), (h_1, .inr (2, [.ref h_1_0, .ref h_1_1, .int (nI (k_rmExc P.2.1).2.2)])), (h_1_0, .inl (cI, 6, .inl (k_rmExc P.2.1).1)), (h_1_1, .inl (cI, 6, .inl (k_rmExc P.2.1).2.1))] := hD
          refine lv_iconst (v := 0) hx hb d_KitRunner_clear_34 (by decide) ?_
          have hpost : k_clear P w0 = (((k_rmFaults P.1), ((k_rmExc P.2.1), P.2.2)), 0) := by simp only [k_clear, if_neg c_1, if_pos c_2, if_neg c_3, if_neg c_7]
          have hP9 := hP.sub (ws' := [(h, .inr (0, [.ref h_0, .ref h_1, .ref h_2, .ref h_3, .ref h_4, .ref h_5, .ref h_6, .int P.2.2.1, .int (nI P.2.2.2)])), (h_0, .inr (1, [.ref h_0_0, .ref h_0_1, .ref h_0_2, .int (nI (k_rmFaults P.1).2.2.2)])), (h_0_0, .inl (cI, 4, .inl (k_rmFaults P.1).1)), (h_0_1, .inl (cI, 4, .inl (k_rmFaults P.1).2.1)), (h_0_2, .inl (cI, 4, .inl (k_rmFaults P.1).2.2.1)), (h_1, .inr (2, [.ref h_1_0, .ref h_1_1, .int (nI (k_rmExc P.2.1).2.2)])), (h_1_0, .inl (cI, 6, .inl (k_rmExc P.2.1).1)), (h_1_1, .inl (cI, 6, .inl (k_rmExc P.2.1).2.1))]) [0, 1, 2, 3, 4, 5, 6, 7] rfl
          have hD9 := hD.sub (ws' := [(h, .inr (0, [.ref h_0, .ref h_1, .ref h_2, .ref h_3, .ref h_4, .ref h_5, .ref h_6, .int P.2.2.1, .int (nI P.2.2.2)])), (h_0, .inr (1, [.ref h_0_0, .ref h_0_1, .ref h_0_2, .int (nI (k_rmFaults P.1).2.2.2)])), (h_0_0, .inl (cI, 4, .inl (k_rmFaults P.1).1)), (h_0_1, .inl (cI, 4, .inl (k_rmFaults P.1).2.1)), (h_0_2, .inl (cI, 4, .inl (k_rmFaults P.1).2.2.1)), (h_1, .inr (2, [.ref h_1_0, .ref h_1_1, .int (nI (k_rmExc P.2.1).2.2)])), (h_1_0, .inl (cI, 6, .inl (k_rmExc P.2.1).1)), (h_1_1, .inl (cI, 6, .inl (k_rmExc P.2.1).2.1))]) [0, 1, 2, 3, 4, 5, 6, 7] (by decide) rfl
          exact kr_iret (v := 0) hQ hx hb hr hlocks hK hP9 hD9 hS (by rw [hpost] <;> rfl) () (by show (wVMX cI cJ cC cZ h h_0 h_0_0 h_0_1 h_0_2 h_1 h_1_0 h_1_1 h_2 h_3 h_4 h_5 h_6 (k_clear P w0).1 : va_W) = _; rw [hpost] <;> rfl) d_KitRunner_clear_35
    · skip
      refine lv_iconst (v := (-1)) hx hb d_KitRunner_clear_9 (by decide) ?_
      have hpost : k_clear P w0 = (P, -1) := by simp only [k_clear, if_neg c_1, if_neg c_2]
      have hP9 := hP.sub (ws' := [(h, .inr (0, [.ref h_0, .ref h_1, .ref h_2, .ref h_3, .ref h_4, .ref h_5, .ref h_6, .int P.2.2.1, .int (nI P.2.2.2)])), (h_0, .inr (1, [.ref h_0_0, .ref h_0_1, .ref h_0_2, .int (nI P.1.2.2.2)])), (h_0_0, .inl (cI, 4, .inl P.1.1)), (h_0_1, .inl (cI, 4, .inl P.1.2.1)), (h_0_2, .inl (cI, 4, .inl P.1.2.2.1)), (h_1, .inr (2, [.ref h_1_0, .ref h_1_1, .int (nI P.2.1.2.2)])), (h_1_0, .inl (cI, 6, .inl P.2.1.1)), (h_1_1, .inl (cI, 6, .inl P.2.1.2.1))]) [0, 1, 2, 3, 4, 5, 6, 7] rfl
      have hD9 := hD.sub (ws' := [(h, .inr (0, [.ref h_0, .ref h_1, .ref h_2, .ref h_3, .ref h_4, .ref h_5, .ref h_6, .int P.2.2.1, .int (nI P.2.2.2)])), (h_0, .inr (1, [.ref h_0_0, .ref h_0_1, .ref h_0_2, .int (nI P.1.2.2.2)])), (h_0_0, .inl (cI, 4, .inl P.1.1)), (h_0_1, .inl (cI, 4, .inl P.1.2.1)), (h_0_2, .inl (cI, 4, .inl P.1.2.2.1)), (h_1, .inr (2, [.ref h_1_0, .ref h_1_1, .int (nI P.2.1.2.2)])), (h_1_0, .inl (cI, 6, .inl P.2.1.1)), (h_1_1, .inl (cI, 6, .inl P.2.1.2.1))]) [0, 1, 2, 3, 4, 5, 6, 7] (by decide) rfl
      exact kr_iret (v := (-1)) hQ hx hb hr hlocks hK hP9 hD9 hS (by rw [hpost] <;> rfl) () (by show (wVMX cI cJ cC cZ h h_0 h_0_0 h_0_1 h_0_2 h_1 h_1_0 h_1_1 h_2 h_3 h_4 h_5 h_6 (k_clear P w0).1 : va_W) = _; rw [hpost] <;> rfl) d_KitRunner_clear_10
set_option maxHeartbeats 4000000 in
set_option maxRecDepth 100000 in
theorem c_KitRunner_enable (l : Launch) (dC : Nat → ClassId) (dI : Nat → Nat → Nat) (cI cJ cC cZ : ClassId) (σ : kSg) (h h_0 h_1 h_2 h_3 h_4 h_5 h_6 : Nat) (P : kV0) (k0 : Int32) : kC l y_KitRunner_enable ws_KitRunner_enable (kRm 0 0 0 0) (dC, dI) (kTy cI cJ cC cZ) σ (wV0 cI cJ cC cZ h h_0 h_1 h_2 h_3 h_4 h_5 h_6 P) [.ref h, .int k0] (kQi (dC, dI) (kTy cI cJ cC cZ) (k_enable P k0).2 (fun _ : Unit => wV0 cI cJ cC cZ h h_0 h_1 h_2 h_3 h_4 h_5 h_6 (k_enable P k0).1)) 0 0 := by
  refine kr_met (cc := prog_1_method_5_code) (maxL := 2) (ret := (some .int)) (by decide) rfl (Nat.le_of_ble_eq_true rfl) ?_
  intro p e s m args below meth c A Q hQ hx hb hr hml hts hown hlocks hnm hA hP hK hD hSt ls hl
  have hS : va_S A s.heap s.heap [] := va_S.rf
  have hown : s.vm.findClass "KitRunner" = some m.cls := hown
  have hl : lv_has ls 2 [(0, .ref h), (1, .int k0)] := hl
  have hP : va_P (dC, dI) vwCl [(h, .inr (0, [.ref h_0, .ref h_1, .ref h_2, .ref h_3, .ref h_4, .ref h_5, .ref h_6, .int P.1, .int (nI P.2)]))] s.heap := hP
  have hD : va_D A [(h, .inr (0, [.ref h_0, .ref h_1, .ref h_2, .ref h_3, .ref h_4, .ref h_5, .ref h_6, .int P.1, .int (nI P.2)]))] := hD
  have hk_58 := hts _ (List.mem_cons_of_mem _ wq_155)
  have hf_59 := hts _ (List.mem_cons_of_mem _ wq_163)
  have hin_KitRunner := fun w (h : w ∈ u_ws "KitRunner" T_KitRunner 9) => List.mem_cons_of_mem (Cond.code y_KitRunner_enable prog_1_method_5_code 2 (some .int)) (in_KitRunner w h)
  refine lv_iload_n hx hb d_KitRunner_enable_0 rfl (lv_at hl 1 rfl) ?_
  refine lv_if_lt (tgt := 10) hx hb d_KitRunner_enable_1 (by decide) (fun c_1 => ?_) (fun c_1 => ?_)
  · skip
    refine lv_iconst (v := (-1)) hx hb d_KitRunner_enable_10 (by decide) ?_
    have hpost : k_enable P k0 = (P, -1) := by simp only [k_enable, if_pos c_1]
    have hP9 := hP.sub (ws' := [(h, .inr (0, [.ref h_0, .ref h_1, .ref h_2, .ref h_3, .ref h_4, .ref h_5, .ref h_6, .int P.1, .int (nI P.2)]))]) [0] rfl
    have hD9 := hD.sub (ws' := [(h, .inr (0, [.ref h_0, .ref h_1, .ref h_2, .ref h_3, .ref h_4, .ref h_5, .ref h_6, .int P.1, .int (nI P.2)]))]) [0] (by decide) rfl
    exact kr_iret (v := (-1)) hQ hx hb hr hlocks hK hP9 hD9 hS (by rw [hpost] <;> rfl) () (by show (wV0 cI cJ cC cZ h h_0 h_1 h_2 h_3 h_4 h_5 h_6 (k_enable P k0).1 : va_W) = _; rw [hpost] <;> rfl) d_KitRunner_enable_11
  · skip
    refine lv_iload_n hx hb d_KitRunner_enable_4 rfl (lv_at hl 1 rfl) ?_
    refine lv_ldc (v := 65535) hx hb hown hk_58 d_KitRunner_enable_5 ?_
    refine lv_icmp_le (tgt := 12) hx hb d_KitRunner_enable_7 (by decide) (fun c_2 => ?_) (fun c_2 => ?_)
    · skip
      refine lv_aload_n hx hb d_KitRunner_enable_12 rfl (lv_at hl 0 rfl) ?_
      refine lv_iload_n hx hb d_KitRunner_enable_13 rfl (lv_at hl 1 rfl) ?_
      refine va_put (D := (dC, dI)) (ci := 0) (v := .int k0) (ty := .int) (C := "KitRunner") (T := T_KitRunner) (N := 9) hx hb hts hin_KitRunner ty_KitRunner ty_KitRunner_ok nm_KitRunner hown hK hP hD hS 0 rfl rfl 7 (by decide) hf_59 (fun _ h9 => h9) rfl (by decide +kernel) rfl rfl (Nat.le_of_ble_eq_true rfl) d_KitRunner_enable_14 (fun H locs hP hD hS => ?_)
      have hP : va_P (dC, dI) vwCl [(h, .inr (0, [.ref h_0, .ref h_1, .ref h_2, .ref h_3, .ref h_4, .ref h_5, .ref h_6, .int k0, .int (nI P.2)]))] H := hP
      have hD : va_D A [(h, .inr (0, [.ref h_0, .ref h_1, .ref h_2, .ref h_3, .ref h_4, .ref h_5, .ref h_6, .int k0, .int (nI P.2)]))] := hD
      refine lv_iconst (v := 0) hx hb d_KitRunner_enable_17 (by decide) ?_
      have hpost : k_enable P k0 = ((k0, P.2), 0) := by simp only [k_enable, if_neg c_1, if_pos c_2]
      have hP9 := hP.sub (ws' := [(h, .inr (0, [.ref h_0, .ref h_1, .ref h_2, .ref h_3, .ref h_4, .ref h_5, .ref h_6, .int k0, .int (nI P.2)]))]) [0] rfl
      have hD9 := hD.sub (ws' := [(h, .inr (0, [.ref h_0, .ref h_1, .ref h_2, .ref h_3, .ref h_4, .ref h_5, .ref h_6, .int k0, .int (nI P.2)]))]) [0] (by decide) rfl
      exact kr_iret (v := 0) hQ hx hb hr hlocks hK hP9 hD9 hS (by rw [hpost] <;> rfl) () (by show (wV0 cI cJ cC cZ h h_0 h_1 h_2 h_3 h_4 h_5 h_6 (k_enable P k0).1 : va_W) = _; rw [hpost] <;> rfl) d_KitRunner_enable_18
    · skip
      refine lv_iconst (v := (-1)) hx hb d_KitRunner_enable_10 (by decide) ?_
      have hpost : k_enable P k0 = (P, -1) := by simp only [k_enable, if_neg c_1, if_neg c_2]
      have hP9 := hP.sub (ws' := [(h, .inr (0, [.ref h_0, .ref h_1, .ref h_2, .ref h_3, .ref h_4, .ref h_5, .ref h_6, .int P.1, .int (nI P.2)]))]) [0] rfl
      have hD9 := hD.sub (ws' := [(h, .inr (0, [.ref h_0, .ref h_1, .ref h_2, .ref h_3, .ref h_4, .ref h_5, .ref h_6, .int P.1, .int (nI P.2)]))]) [0] (by decide) rfl
      exact kr_iret (v := (-1)) hQ hx hb hr hlocks hK hP9 hD9 hS (by rw [hpost] <;> rfl) () (by show (wV0 cI cJ cC cZ h h_0 h_1 h_2 h_3 h_4 h_5 h_6 (k_enable P k0).1 : va_W) = _; rw [hpost] <;> rfl) d_KitRunner_enable_11
