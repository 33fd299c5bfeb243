set_option maxHeartbeats 4000000 in
set_option maxRecDepth 100000 in
theorem c_Machine_failsAt (l : Launch) (dC : Nat → ClassId) (dI : Nat → Nat → Nat) (cI cJ cC cZ : ClassId) (σ : kSg) (h h_0 h_1 h_2 : Nat) (P : kMach) (e0 : Int32) (pa0 : Nat) (pb0 : Nat) (hk : P.2.2.2 ≤ 4) (hpa : pa0 < 12) (hpb : pb0 < 12) : kC l y_K_Machine_failsAt ws_K_Machine_failsAt (kRm 6 0 0 133) (dC, dI) (kTy cI cJ cC cZ) σ (wMach cI cJ cC cZ h h_0 h_1 h_2 P) [.ref h, .int e0, .int (nI pa0), .int (nI pb0)] (kQi (dC, dI) (kTy cI cJ cC cZ) (kb (k_fails P e0 pa0 pb0)) (fun _ : Unit => wMach cI cJ cC cZ h h_0 h_1 h_2 P)) 0 0 := by
  refine kr_met (cc := prog_5_method_6_code) (maxL := 6) (ret := (some .boolean)) (by decide) rfl (Nat.le_of_ble_eq_true rfl) ?_
  intro p e s m args below meth c A Q hQ hx hb hr hml hts hown hlocks hnm hA hP hK hD hSt ls hl
  have hS : va_S A s.heap s.heap [] := va_S.rf
  have hown : s.vm.findClass "KitRunner$Machine" = some m.cls := hown
  have hl : lv_has ls 6 [(0, .ref h), (1, .int e0), (2, .int (nI pa0)), (3, .int (nI pb0))] := hl
  have hP : va_P (dC, dI) vwCl [(h, .inr (1, [.ref h_0, .ref h_1, .ref h_2, .int (nI P.2.2.2)])), (h_0, .inl (cI, 4, .inl P.1)), (h_1, .inl (cI, 4, .inl P.2.1)), (h_2, .inl (cI, 4, .inl P.2.2.1))] s.heap := hP
  have hD : va_D A [(h, .inr (1, [.ref h_0, .ref h_1, .ref h_2, .int (nI P.2.2.2)])), (h_0, .inl (cI, 4, .inl P.1)), (h_1, .inl (cI, 4, .inl P.2.1)), (h_2, .inl (cI, 4, .inl P.2.2.1))] := hD
  have hf_39 := va_Nw.use (A := args) rfl hSt.2.2.2.2.2.2.2.2.2.2.1
  have hini_K_Machine := hts _ (List.mem_cons_of_mem _ wq_2)
  have hm_42 := hts _ (List.mem_cons_of_mem _ wq_501)
  have hi_42 := hts _ (List.mem_cons_of_mem _ wq_312)
  have hv_42 := hts _ (List.mem_cons_of_mem _ wq_313)
  have hini_K_EntryPoints := hts _ (List.mem_cons_of_mem _ wq_10)
  have hm_25 := hts _ (List.mem_cons_of_mem _ wq_315)
  have hs_25 := hts _ (List.mem_cons_of_mem _ wq_316)
  refine va_getsN hx hb hSt.1 hS hown hf_39 (fun _ h9 => h9) d_K_Machine_failsAt_0 ?_
  refine lv_iload_n hx hb d_K_Machine_failsAt_3 rfl (lv_at hl 2 rfl) ?_
  refine kr_ti (k := pa0) (g := kLat) hx hb hSt.2.1 hS (by omega) (by first | decide | omega) d_K_Machine_failsAt_4 ?_
  refine lv_istore (lv' := [(4, .int (kLat pa0)), (0, .ref h), (1, .int e0), (2, .int (nI pa0)), (3, .int (nI pb0))]) hx hb d_K_Machine_failsAt_5 hl (by decide) rfl (fun ls hl => ?_)
  refine va_getsN hx hb hSt.1 hS hown hf_39 (fun _ h9 => h9) d_K_Machine_failsAt_7 ?_
  refine lv_iload_n hx hb d_K_Machine_failsAt_10 rfl (lv_at hl 4 rfl) ?_
  refine kr_ti (k := pb0) (g := kLat) hx hb hSt.2.1 hS (by omega) (by first | decide | omega) d_K_Machine_failsAt_11 ?_
  refine lv_istore (lv' := [(5, .int (kLat pb0)), (4, .int (kLat pa0)), (0, .ref h), (1, .int e0), (2, .int (nI pa0)), (3, .int (nI pb0))]) hx hb d_K_Machine_failsAt_12 hl (by decide) rfl (fun ls hl => ?_)
  refine lv_aload_n hx hb d_K_Machine_failsAt_14 rfl (lv_at hl 2 rfl) ?_
  refine lv_iload_n hx hb d_K_Machine_failsAt_15 rfl (lv_at hl 3 rfl) ?_
  refine lv_iload hx hb d_K_Machine_failsAt_16 (lv_at hl 1 rfl) ?_
  refine lv_iload hx hb d_K_Machine_failsAt_18 (lv_at hl 0 rfl) ?_
  have hpre_1 := kr_pre (wc := [(h, .inr (1, [.ref h_0, .ref h_1, .ref h_2, .int (nI P.2.2.2)])), (h_0, .inl (cI, 4, .inl P.1)), (h_1, .inl (cI, 4, .inl P.2.1)), (h_2, .inl (cI, 4, .inl P.2.2.1))]) (av := [.ref h, .int e0, .int (kLat pa0), .int (kLat pb0)]) hK hP hD hS hA hSt [0, 1, 2, 3] rfl (by decide)
  refine kj_l (wc := [(h, .inr (1, [.ref h_0, .ref h_1, .ref h_2, .int (nI P.2.2.2)])), (h_0, .inl (cI, 4, .inl P.1)), (h_1, .inl (cI, 4, .inl P.2.1)), (h_2, .inl (cI, 4, .inl P.2.2.1))]) (wr := []) (va_runV (As := [.int e0, .int (kLat pa0), .int (kLat pb0)]) (rest := []) ⟨hx, hb, hml, hown, hts⟩ (c_Machine_give l dC dI cI cJ cC cZ σ h h_0 h_1 h_2 P e0 (kLat pa0) (kLat pb0) (by (try dsimp only) <;> first | assumption | omega) _) ⟨(callB_of 3 hts (kg wq_314) rfl rfl rfl hini_K_Machine hm_42 (by decide +kernel) ⟨Nat.le_of_ble_eq_true rfl, Nat.le_of_ble_eq_true rfl⟩), hi_42, hv_42⟩ ⟨hpre_1.1, (va_recv hK hP (ci := 1) (q0 := 0) rfl rfl), hpre_1.2⟩ rfl rfl hl.1 rfl (lv_room (Nat.le_of_ble_eq_true rfl)) d_K_Machine_failsAt_20 ⟨Nat.le_of_ble_eq_true rfl, Nat.le_of_ble_eq_true rfl⟩) hP hD hS hA [0, 1, 2, 3] [] rfl rfl (by decide) (by decide) (fun _ H locs hP hD hS => ?_)
  have hP : va_P (dC, dI) vwCl [(h, .inr (1, [.ref h_0, .ref h_1, .ref h_2, .int (nI P.2.2.2)])), (h_0, .inl (cI, 4, .inl P.1)), (h_1, .inl (cI, 4, .inl P.2.1)), (h_2, .inl (cI, 4, .inl P.2.2.1))] H := hP
  have hD : va_D A [(h, .inr (1, [.ref h_0, .ref h_1, .ref h_2, .int (nI P.2.2.2)])), (h_0, .inl (cI, 4, .inl P.1)), (h_1, .inl (cI, 4, .inl P.2.1)), (h_2, .inl (cI, 4, .inl P.2.2.1))] := hD
  refine lv_iload_n hx hb d_K_Machine_failsAt_23 rfl (lv_at hl 3 rfl) ?_
  refine lv_iload hx hb d_K_Machine_failsAt_24 (lv_at hl 1 rfl) ?_
  refine lv_iload hx hb d_K_Machine_failsAt_26 (lv_at hl 0 rfl) ?_
  have hpre_2 := kr_pre (wc := []) (av := [.int e0, .int (kLat pa0), .int (kLat pb0)]) hK hP hD hS hA hSt [] rfl (by decide)
  refine kj_l (wc := []) (wr := [(h, .inr (1, [.ref h_0, .ref h_1, .ref h_2, .int (nI P.2.2.2)])), (h_0, .inl (cI, 4, .inl P.1)), (h_1, .inl (cI, 4, .inl P.2.1)), (h_2, .inl (cI, 4, .inl P.2.2.1))]) (va_runS (As := [.int e0, .int (kLat pa0), .int (kLat pb0)]) (rest := [.long (k_give P e0 (kLat pa0) (kLat pb0))]) ⟨hx, hb, hml, hown, hts⟩ (c_EntryPoints_foretell l dC dI cI cJ cC cZ σ e0 (kLat pa0) (kLat pb0) _) ⟨(callB_of 3 hts (kg wq_317) rfl rfl rfl hini_K_EntryPoints hm_25 (by decide +kernel) ⟨Nat.le_of_ble_eq_true rfl, Nat.le_of_ble_eq_true rfl⟩), hs_25⟩ hpre_2 rfl rfl hl.1 rfl (lv_room (Nat.le_of_ble_eq_true rfl)) d_K_Machine_failsAt_28 ⟨Nat.le_of_ble_eq_true rfl, Nat.le_of_ble_eq_true rfl⟩) hP hD hS hA [] [0, 1, 2, 3] rfl rfl (by decide) (by decide) (fun _ H locs hP hD hS => ?_)
  have hP : va_P (dC, dI) vwCl [(h, .inr (1, [.ref h_0, .ref h_1, .ref h_2, .int (nI P.2.2.2)])), (h_0, .inl (cI, 4, .inl P.1)), (h_1, .inl (cI, 4, .inl P.2.1)), (h_2, .inl (cI, 4, .inl P.2.2.1))] H := hP
  have hD : va_D A [(h, .inr (1, [.ref h_0, .ref h_1, .ref h_2, .int (nI P.2.2.2)])), (h_0, .inl (cI, 4, .inl P.1)), (h_1, .inl (cI, 4, .inl P.2.1)), (h_2, .inl (cI, 4, .inl P.2.2.1))] := hD
  refine W.lcmp hx hb d_K_Machine_failsAt_31 ?_
  refine lv_if_eq (tgt := 39) hx hb d_K_Machine_failsAt_32 (by decide) (fun c_3 => ?_) (fun c_3 => ?_)
  · skip
    have c_3 : (k_give P e0 (kLat pa0) (kLat pb0)) = (kOr e0 (kLat pa0) (kLat pb0)) := (lg_cmp_eq (k_give P e0 (kLat pa0) (kLat pb0)) (kOr e0 (kLat pa0) (kLat pb0))).mp c_3
    refine lv_iconst (v := 0) hx hb d_K_Machine_failsAt_39 (by decide) ?_
    have hpost : k_fails P e0 pa0 pb0 = false := by simp only [k_fails, if_pos c_3]
    have hP9 := hP.sub (ws' := [(h, .inr (1, [.ref h_0, .ref h_1, .ref h_2, .int (nI P.2.2.2)])), (h_0, .inl (cI, 4, .inl P.1)), (h_1, .inl (cI, 4, .inl P.2.1)), (h_2, .inl (cI, 4, .inl P.2.2.1))]) [0, 1, 2, 3] rfl
    have hD9 := hD.sub (ws' := [(h, .inr (1, [.ref h_0, .ref h_1, .ref h_2, .int (nI P.2.2.2)])), (h_0, .inl (cI, 4, .inl P.1)), (h_1, .inl (cI, 4, .inl P.2.1)), (h_2, .inl (cI, 4, .inl P.2.2.1))]) [0, 1, 2, 3] (by decide) rfl
    exact kr_zret (v := 0) hQ hx hb hr hlocks hK hP9 hD9 hS (by rw [hpost] <;> rfl) rfl () rfl d_K_Machine_failsAt_40
  · skip
    have c_3 : ¬ (k_give P e0 (kLat pa0) (kLat pb0)) = (kOr e0 (kLat pa0) (kLat pb0)) := fun h9 => c_3 ((lg_cmp_eq (k_give P e0 (kLat pa0) (kLat pb0)) (kOr e0 (kLat pa0) (kLat pb0))).mpr h9)
    refine lv_iconst (v := 1) hx hb d_K_Machine_failsAt_35 (by decide) ?_
    refine lv_goto (tgt := 40) hx hb d_K_Machine_failsAt_36 (by decide) ?_
    have hpost : k_fails P e0 pa0 pb0 = true := by simp only [k_fails, if_neg c_3]
    have hP9 := hP.sub (ws' := [(h, .inr (1, [.ref h_0, .ref h_1, .ref h_2, .int (nI P.2.2.2)])), (h_0, .inl (cI, 4, .inl P.1)), (h_1, .inl (cI, 4, .inl P.2.1)), (h_2, .inl (cI, 4, .inl P.2.2.1))]) [0, 1, 2, 3] rfl
    have hD9 := hD.sub (ws' := [(h, .inr (1, [.ref h_0, .ref h_1, .ref h_2, .int (nI P.2.2.2)])), (h_0, .inl (cI, 4, .inl P.1)), (h_1, .inl (cI, 4, .inl P.2.1)), (h_2, .inl (cI, 4, .inl P.2.2.1))]) [0, 1, 2, 3] (by decide) rfl
    exact kr_zret (v := 1) hQ hx hb hr hlocks hK hP9 hD9 hS (by rw [hpost] <;> rfl) rfl () rfl d_K_Machine_failsAt_40
set_option maxHeartbeats 4000000 in
set_option maxRecDepth 100000 in
theorem c_Tally_sum (l : Launch) (dC : Nat → ClassId) (dI : Nat → Nat → Nat) (cI cJ cC cZ : ClassId) (σ : kSg) (q0 : Nat) (f : Nat → Int32) : kC l y_K_Tally_sum ws_K_Tally_sum (kRm 0 0 0 0) (dC, dI) (kTy cI cJ cC cZ) σ ([(q0, .inl (cI, 16, .inl f))]) [.ref q0] (kQi (dC, dI) (kTy cI cJ cC cZ) (k_sum f) (fun _ : Unit => [(q0, .inl (cI, 16, .inl f))])) 0 0 := by
  refine kr_met (cc := prog_9_method_13_code) (maxL := 3) (ret := (some .int)) (by decide) rfl (Nat.le_of_ble_eq_true rfl) ?_
  intro p e s m args below meth c A Q hQ hx hb hr hml hts hown hlocks hnm hA hP hK hD hSt ls hl
  have hS : va_S A s.heap s.heap [] := va_S.rf
  have hown : s.vm.findClass "KitRunner$Tally" = some m.cls := hown
  have hl : lv_has ls 3 [(0, .ref q0)] := hl
  have hP : va_P (dC, dI) vwCl [(q0, .inl (cI, 16, .inl f))] s.heap := hP
  have hD : va_D A [(q0, .inl (cI, 16, .inl f))] := hD
  refine lv_iconst (v := 0) hx hb d_K_Tally_sum_0 (by decide) ?_
  refine lv_istore_n (lv' := [(1, .int 0), (0, .ref q0)]) hx hb d_K_Tally_sum_1 rfl hl (by decide) rfl (fun ls hl => ?_)
  refine lv_iconst (v := 0) hx hb d_K_Tally_sum_2 (by decide) ?_
  refine lv_istore_n (lv' := [(2, .int 0), (1, .int 0), (0, .ref q0)]) hx hb d_K_Tally_sum_3 rfl hl (by decide) rfl (fun ls hl => ?_)
  have loop_4 : ∀ (n : Nat) (i : Nat) (acc : Int32), (i + n = 16) → (k_sum f = k_sumL f n i acc) → ∀ ls : Array Slot, lv_has ls 3 [(2, .int (nI i)), (1, .int acc), (0, .ref q0)] → W p l e (kRm 0 0 0 0) s m args below meth c s.heap [] 0 0 Q (F0 m 4 ls []) := by
    intro n
    induction n with
    | zero =>
      intro i acc hi hinv ls hl
      refine lv_iload_n hx hb d_K_Tally_sum_4 rfl (lv_at hl 0 rfl) ?_
      refine lv_bipush (v := 16) hx hb d_K_Tally_sum_5 (by decide) ?_
      refine lv_icmp_ge (tgt := 22) hx hb d_K_Tally_sum_7 (by decide) (fun c_1 => ?_) (fun c_1 => ?_)
      · skip
        have c_1 : 16 ≤ i := (nI_leI (a := 16) (b := i) (by omega) (by omega)).mp c_1
        refine lv_iload_n hx hb d_K_Tally_sum_22 rfl (lv_at hl 1 rfl) ?_
        have hpost : k_sum f = acc := hinv.trans (by simp only [k_sumL, if_pos c_1])
        have hP9 := hP.sub (ws' := [(q0, .inl (cI, 16, .inl f))]) [0] rfl
        have hD9 := hD.sub (ws' := [(q0, .inl (cI, 16, .inl f))]) [0] (by decide) rfl
        exact kr_iret (v := acc) hQ hx hb hr hlocks hK hP9 hD9 hS (by rw [hpost] <;> rfl) () rfl d_K_Tally_sum_23
      · skip
        have c_1 : ¬ 16 ≤ i := fun h9 => c_1 ((nI_leI (a := 16) (b := i) (by omega) (by omega)).mpr h9)
        exfalso; omega
    | succ n ih_4 =>
      intro i acc hi hinv ls hl
      refine lv_iload_n hx hb d_K_Tally_sum_4 rfl (lv_at hl 0 rfl) ?_
      refine lv_bipush (v := 16) hx hb d_K_Tally_sum_5 (by decide) ?_
      refine lv_icmp_ge (tgt := 22) hx hb d_K_Tally_sum_7 (by decide) (fun c_2 => ?_) (fun c_2 => ?_)
      · skip
        have c_2 : 16 ≤ i := (nI_leI (a := 16) (b := i) (by omega) (by omega)).mp c_2
        exfalso; omega
      · skip
        have c_2 : ¬ 16 ≤ i := fun h9 => c_2 ((nI_leI (a := 16) (b := i) (by omega) (by omega)).mpr h9)
        refine lv_iload_n hx hb d_K_Tally_sum_10 rfl (lv_at hl 1 rfl) ?_
        refine lv_aload_n hx hb d_K_Tally_sum_11 rfl (lv_at hl 2 rfl) ?_
        refine lv_iload_n hx hb d_K_Tally_sum_12 rfl (lv_at hl 0 rfl) ?_
        refine kr_iald (k := i) hx hb hK hP 0 0 rfl rfl (by omega) (by first | decide | omega) d_K_Tally_sum_13 ?_
        refine lv_iadd hx hb d_K_Tally_sum_14 ?_
        refine lv_istore_n (lv' := [(1, .int (acc + (f i))), (2, .int (nI i)), (0, .ref q0)]) hx hb d_K_Tally_sum_15 rfl hl (by decide) rfl (fun ls hl => ?_)
        refine lv_iinc (v := (nI (i + 1))) (lv' := [(2, .int (nI (i + 1))), (1, .int (acc + (f i))), (0, .ref q0)]) hx hb d_K_Tally_sum_16 hl (k := 1) rfl (nI_1 i) (by decide) rfl (fun ls hl => ?_)
        refine lv_goto (tgt := 4) hx hb d_K_Tally_sum_19 (by decide) ?_
        exact ih_4 (i + 1) (acc + (f i)) (by omega) (hinv.trans (by simp only [k_sumL, if_neg c_2])) ls (lv_sub hl [0, 1, 2] rfl)
  exact loop_4 16 0 0 (by omega) rfl ls (lv_sub hl [0, 1, 2] rfl)
set_option maxHeartbeats 4000000 in
set_option maxRecDepth 100000 in
theorem c_Tally_takenInAll (l : Launch) (dC : Nat → ClassId) (dI : Nat → Nat → Nat) (cI cJ cC cZ : ClassId) (σ : kSg) (h h_0 h_1 h_2 : Nat) (P : kTal) : kC l y_K_Tally_takenInAll ws_K_Tally_takenInAll (kRm 1 0 0 22) (dC, dI) (kTy cI cJ cC cZ) σ (wTal cI cJ cC cZ h h_0 h_1 h_2 P) [.ref h] (kQi (dC, dI) (kTy cI cJ cC cZ) (k_sum P.1) (fun _ : Unit => wTal cI cJ cC cZ h h_0 h_1 h_2 P)) 0 0 := by
  refine kr_met (cc := prog_9_method_10_code) (maxL := 1) (ret := (some .int)) (by decide) rfl (Nat.le_of_ble_eq_true rfl) ?_
  intro p e s m args below meth c A Q hQ hx hb hr hml hts hown hlocks hnm hA hP hK hD hSt ls hl
  have hS : va_S A s.heap s.heap [] := va_S.rf
  have hown : s.vm.findClass "KitRunner$Tally" = some m.cls := hown
  have hl : lv_has ls 1 [(0, .ref h)] := hl
  have hP : va_P (dC, dI) vwCl [(h, .inr (4, [.ref h_0, .ref h_1, .ref h_2, .int (nI P.2.2.2)])), (h_0, .inl (cI, 16, .inl P.1)), (h_1, .inl (cI, 16, .inl P.2.1)), (h_2, .inl (cI, 16, .inl P.2.2.1))] s.heap := hP
  have hD : va_D A [(h, .inr (4, [.ref h_0, .ref h_1, .ref h_2, .int (nI P.2.2.2)])), (h_0, .inl (cI, 16, .inl P.1)), (h_1, .inl (cI, 16, .inl P.2.1)), (h_2, .inl (cI, 16, .inl P.2.2.1))] := hD
  have hf_9 := hts _ (List.mem_cons_of_mem _ wq_86)
  have hin_K_Tally := fun w (h : w ∈ u_ws "KitRunner$Tally" T_K_Tally 4) => List.mem_cons_of_mem (Cond.code y_K_Tally_takenInAll prog_9_method_10_code 1 (some .int)) (in_K_Tally w h)
  have hini_K_Tally := hts _ (List.mem_cons_of_mem _ wq_5)
  have hm_35 := hts _ (List.mem_cons_of_mem _ wq_455)
  have hs_35 := hts _ (List.mem_cons_of_mem _ wq_456)
  refine lv_aload_n hx hb d_K_Tally_takenInAll_0 rfl (lv_at hl 0 rfl) ?_
  refine va_get (D := (dC, dI)) (ci := 4) (v := .ref h_0) (C := "KitRunner$Tally") (T := T_K_Tally) (N := 4) hx hb hts hin_K_Tally hown hK hP 0 rfl rfl 0 (by decide) hf_9 (fun _ h9 => h9) rfl d_K_Tally_takenInAll_1 ?_
  have hpre_1 := kr_pre (wc := [(h_0, .inl (cI, 16, .inl P.1))]) (av := [.ref h_0]) hK hP hD hS hA hSt [1] rfl (by decide)
  refine kj_i (wc := [(h_0, .inl (cI, 16, .inl P.1))]) (wr := [(h, .inr (4, [.ref h_0, .ref h_1, .ref h_2, .int (nI P.2.2.2)])), (h_1, .inl (cI, 16, .inl P.2.1)), (h_2, .inl (cI, 16, .inl P.2.2.1))]) (va_runS (As := [.ref h_0]) (rest := []) ⟨hx, hb, hml, hown, hts⟩ (c_Tally_sum l dC dI cI cJ cC cZ σ h_0 P.1 _) ⟨(callB_of 1 hts (kg wq_457) rfl rfl rfl hini_K_Tally hm_35 (by decide +kernel) ⟨Nat.le_of_ble_eq_true rfl, Nat.le_of_ble_eq_true rfl⟩), hs_35⟩ hpre_1 rfl rfl hl.1 rfl (lv_room (Nat.le_of_ble_eq_true rfl)) d_K_Tally_takenInAll_4 ⟨Nat.le_of_ble_eq_true rfl, Nat.le_of_ble_eq_true rfl⟩) hP hD hS hA [1] [0, 2, 3] rfl rfl (by decide) (by decide) (fun _ H locs hP hD hS => ?_)
  have hP : va_P (dC, dI) vwCl [(h, .inr (4, [.ref h_0, .ref h_1, .ref h_2, .int (nI P.2.2.2)])), (h_1, .inl (cI, 16, .inl P.2.1)), (h_2, .inl (cI, 16, .inl P.2.2.1)), (h_0, .inl (cI, 16, .inl P.1))] H := hP
  have hD : va_D A [(h, .inr (4, [.ref h_0, .ref h_1, .ref h_2, .int (nI P.2.2.2)])), (h_1, .inl (cI, 16, .inl P.2.1)), (h_2, .inl (cI, 16, .inl P.2.2.1)), (h_0, .inl (cI, 16, .inl P.1))] := hD
  have hP9 := hP.sub (ws' := [(h, .inr (4, [.ref h_0, .ref h_1, .ref h_2, .int (nI P.2.2.2)])), (h_0, .inl (cI, 16, .inl P.1)), (h_1, .inl (cI, 16, .inl P.2.1)), (h_2, .inl (cI, 16, .inl P.2.2.1))]) [0, 3, 1, 2] rfl
  have hD9 := hD.sub (ws' := [(h, .inr (4, [.ref h_0, .ref h_1, .ref h_2, .int (nI P.2.2.2)])), (h_0, .inl (cI, 16, .inl P.1)), (h_1, .inl (cI, 16, .inl P.2.1)), (h_2, .inl (cI, 16, .inl P.2.2.1))]) [0, 3, 1, 2] (by decide) rfl
  exact kr_iret (v := (k_sum P.1)) hQ hx hb hr hlocks hK hP9 hD9 hS rfl () rfl d_K_Tally_takenInAll_7
set_option maxHeartbeats 4000000 in
set_option maxRecDepth 100000 in
theorem c_Tally_failedInAll (l : Launch) (dC : Nat → ClassId) (dI : Nat → Nat → Nat) (cI cJ cC cZ : ClassId) (σ : kSg) (h h_0 h_1 h_2 : Nat) (P : kTal) : kC l y_K_Tally_failedInAll ws_K_Tally_failedInAll (kRm 1 0 0 22) (dC, dI) (kTy cI cJ cC cZ) σ (wTal cI cJ cC cZ h h_0 h_1 h_2 P) [.ref h] (kQi (dC, dI) (kTy cI cJ cC cZ) (k_sum P.2.1) (fun _ : Unit => wTal cI cJ cC cZ h h_0 h_1 h_2 P)) 0 0 := by
  refine kr_met (cc := prog_9_method_11_code) (maxL := 1) (ret := (some .int)) (by decide) rfl (Nat.le_of_ble_eq_true rfl) ?_
  intro p e s m args below meth c A Q hQ hx hb hr hml hts hown hlocks hnm hA hP hK hD hSt ls hl
  have hS : va_S A s.heap s.heap [] := va_S.rf
  have hown : s.vm.findClass "KitRunner$Tally" = some m.cls := hown
  have hl : lv_has ls 1 [(0, .ref h)] := hl
  have hP : va_P (dC, dI) vwCl [(h, .inr (4, [.ref h_0, .ref h_1, .ref h_2, .int (nI P.2.2.2)])), (h_0, .inl (cI, 16, .inl P.1)), (h_1, .inl (cI, 16, .inl P.2.1)), (h_2, .inl (cI, 16, .inl P.2.2.1))] s.heap := hP
  have hD : va_D A [(h, .inr (4, [.ref h_0, .ref h_1, .ref h_2, .int (nI P.2.2.2)])), (h_0, .inl (cI, 16, .inl P.1)), (h_1, .inl (cI, 16, .inl P.2.1)), (h_2, .inl (cI, 16, .inl P.2.2.1))] := hD
  have hf_15 := hts _ (List.mem_cons_of_mem _ wq_87)
  have hin_K_Tally := fun w (h : w ∈ u_ws "KitRunner$Tally" T_K_Tally 4) => List.mem_cons_of_mem (Cond.code y_K_Tally_failedInAll prog_9_method_11_code 1 (some .int)) (in_K_Tally w h)
  have hini_K_Tally := hts _ (List.mem_cons_of_mem _ wq_5)
  have hm_35 := hts _ (List.mem_cons_of_mem _ wq_455)
  have hs_35 := hts _ (List.mem_cons_of_mem _ wq_456)
  refine lv_aload_n hx hb d_K_Tally_failedInAll_0 rfl (lv_at hl 0 rfl) ?_
  refine va_get (D := (dC, dI)) (ci := 4) (v := .ref h_1) (C := "KitRunner$Tally") (T := T_K_Tally) (N := 4) hx hb hts hin_K_Tally hown hK hP 0 rfl rfl 1 (by decide) hf_15 (fun _ h9 => h9) rfl d_K_Tally_failedInAll_1 ?_
  have hpre_1 := kr_pre (wc := [(h_1, .inl (cI, 16, .inl P.2.1))]) (av := [.ref h_1]) hK hP hD hS hA hSt [2] rfl (by decide)
  refine kj_i (wc := [(h_1, .inl (cI, 16, .inl P.2.1))]) (wr := [(h, .inr (4, [.ref h_0, .ref h_1, .ref h_2, .int (nI P.2.2.2)])), (h_0, .inl (cI, 16, .inl P.1)), (h_2, .inl (cI, 16, .inl P.2.2.1))]) (va_runS (As := [.ref h_1]) (rest := []) ⟨hx, hb, hml, hown, hts⟩ (c_Tally_sum l dC dI cI cJ cC cZ σ h_1 P.2.1 _) ⟨(callB_of 1 hts (kg wq_457) rfl rfl rfl hini_K_Tally hm_35 (by decide +kernel) ⟨Nat.le_of_ble_eq_true rfl, Nat.le_of_ble_eq_true rfl⟩), hs_35⟩ hpre_1 rfl rfl hl.1 rfl (lv_room (Nat.le_of_ble_eq_true rfl)) d_K_Tally_failedInAll_4 ⟨Nat.le_of_ble_eq_true rfl, Nat.le_of_ble_eq_true rfl⟩) hP hD hS hA [2] [0, 1, 3] rfl rfl (by decide) (by decide) (fun _ H locs hP hD hS => ?_)
  have hP : va_P (dC, dI) vwCl [(h, .inr (4, [.ref h_0, .ref h_1, .ref h_2, .int (nI P.2.2.2)])), (h_0, .inl (cI, 16, .inl P.1)), (h_2, .inl (cI, 16, .inl P.2.2.1)), (h_1, .inl (cI, 16, .inl P.2.1))] H := hP
  have hD : va_D A [(h, .inr (4, [.ref h_0, .ref h_1, .ref h_2, .int (nI P.2.2.2)])), (h_0, .inl (cI, 16, .inl P.1)), (h_2, .inl (cI, 16, .inl P.2.2.1)), (h_1, .inl (cI, 16, .inl P.2.1))] := hD
  have hP9 := hP.sub (ws' := [(h, .inr (4, [.ref h_0, .ref h_1, .ref h_2, .int (nI P.2.2.2)])), (h_0, .inl (cI, 16, .inl P.1)), (h_1, .inl (cI, 16, .inl P.2.1)), (h_2, .inl (cI, 16, .inl P.2.2.1))]) [0, 1, 3, 2] rfl
  have hD9 := hD.sub (ws' := [(h, .inr (4, [.ref h_0, .ref h_1, .ref h_2, .int (nI P.2.2.2)])), (h_0, .inl (cI, 16, .inl P.1)), (h_1, .inl (cI, 16, .inl P.2.1)), (h_2, .inl (cI, 16, .inl P.2.2.1))]) [0, 1, 3, 2] (by decide) rfl
  exact kr_iret (v := (k_sum P.2.1)) hQ hx hb hr hlocks hK hP9 hD9 hS rfl () rfl d_K_Tally_failedInAll_7
set_option maxHeartbeats 4000000 in
set_option maxRecDepth 100000 in
theorem c_Tally_marksInAll (l : Launch) (dC : Nat → ClassId) (dI : Nat → Nat → Nat) (cI cJ cC cZ : ClassId) (σ : kSg) (h h_0 h_1 h_2 : Nat) (P : kTal) : kC l y_K_Tally_marksInAll ws_K_Tally_marksInAll (kRm 1 0 0 20) (dC, dI) (kTy cI cJ cC cZ) σ (wTal cI cJ cC cZ h h_0 h_1 h_2 P) [.ref h] (kQi (dC, dI) (kTy cI cJ cC cZ) (k_mall P.2.2.1) (fun _ : Unit => wTal cI cJ cC cZ h h_0 h_1 h_2 P)) 0 0 := by
  refine kr_met (cc := prog_9_method_12_code) (maxL := 3) (ret := (some .int)) (by decide) rfl (Nat.le_of_ble_eq_true rfl) ?_
  intro p e s m args below meth c A Q hQ hx hb hr hml hts hown hlocks hnm hA hP hK hD hSt ls hl
  have hS : va_S A s.heap s.heap [] := va_S.rf
  have hown : s.vm.findClass "KitRunner$Tally" = some m.cls := hown
  have hl : lv_has ls 3 [(0, .ref h)] := hl
  have hP : va_P (dC, dI) vwCl [(h, .inr (4, [.ref h_0, .ref h_1, .ref h_2, .int (nI P.2.2.2)])), (h_0, .inl (cI, 16, .inl P.1)), (h_1, .inl (cI, 16, .inl P.2.1)), (h_2, .inl (cI, 16, .inl P.2.2.1))] s.heap := hP
  have hD : va_D A [(h, .inr (4, [.ref h_0, .ref h_1, .ref h_2, .int (nI P.2.2.2)])), (h_0, .inl (cI, 16, .inl P.1)), (h_1, .inl (cI, 16, .inl P.2.1)), (h_2, .inl (cI, 16, .inl P.2.2.1))] := hD
  have hf_18 := hts _ (List.mem_cons_of_mem _ wq_88)
  have hin_K_Tally := fun w (h : w ∈ u_ws "KitRunner$Tally" T_K_Tally 4) => List.mem_cons_of_mem (Cond.code y_K_Tally_marksInAll prog_9_method_12_code 3 (some .int)) (in_K_Tally w h)
  have hini_Integer := hts _ (List.mem_cons_of_mem _ wq_15)
  have hm_39 := hts _ (List.mem_cons_of_mem _ wq_559)
  have hs_39 := hts _ (List.mem_cons_of_mem _ wq_560)
  refine lv_iconst (v := 0) hx hb d_K_Tally_marksInAll_0 (by decide) ?_
  refine lv_istore_n (lv' := [(1, .int 0), (0, .ref h)]) hx hb d_K_Tally_marksInAll_1 rfl hl (by decide) rfl (fun ls hl => ?_)
  refine lv_iconst (v := 0) hx hb d_K_Tally_marksInAll_2 (by decide) ?_
  refine lv_istore_n (lv' := [(2, .int 0), (1, .int 0), (0, .ref h)]) hx hb d_K_Tally_marksInAll_3 rfl hl (by decide) rfl (fun ls hl => ?_)
  have loop_4 : ∀ (n : Nat) (i : Nat) (acc : Int32), (i + n = 16) → (k_mall P.2.2.1 = k_mallL P.2.2.1 n i acc) → ∀ (H : Heap) (locs : List Loc), va_P (dC, dI) vwCl [(h, .inr (4, [.ref h_0, .ref h_1, .ref h_2, .int (nI P.2.2.2)])), (h_0, .inl (cI, 16, .inl P.1)), (h_1, .inl (cI, 16, .inl P.2.1)), (h_2, .inl (cI, 16, .inl P.2.2.1))] H → va_D A [(h, .inr (4, [.ref h_0, .ref h_1, .ref h_2, .int (nI P.2.2.2)])), (h_0, .inl (cI, 16, .inl P.1)), (h_1, .inl (cI, 16, .inl P.2.1)), (h_2, .inl (cI, 16, .inl P.2.2.1))] → va_S A s.heap H locs → ∀ ls : Array Slot, lv_has ls 3 [(2, .int (nI i)), (1, .int acc), (0, .ref h)] → W p l e (kRm 1 0 0 20) s m args below meth c H locs 0 0 Q (F0 m 4 ls []) := by
    intro n
    induction n with
    | zero =>
      intro i acc hi hinv H locs hP hD hS ls hl
      refine lv_iload_n hx hb d_K_Tally_marksInAll_4 rfl (lv_at hl 0 rfl) ?_
      refine lv_bipush (v := 16) hx hb d_K_Tally_marksInAll_5 (by decide) ?_
      refine lv_icmp_ge (tgt := 28) hx hb d_K_Tally_marksInAll_7 (by decide) (fun c_1 => ?_) (fun c_1 => ?_)
      · skip
        have c_1 : 16 ≤ i := (nI_leI (a := 16) (b := i) (by omega) (by omega)).mp c_1
        refine lv_iload_n hx hb d_K_Tally_marksInAll_28 rfl (lv_at hl 1 rfl) ?_
        have hpost : k_mall P.2.2.1 = acc := hinv.trans (by simp only [k_mallL, if_pos c_1])
        have hP9 := hP.sub (ws' := [(h, .inr (4, [.ref h_0, .ref h_1, .ref h_2, .int (nI P.2.2.2)])), (h_0, .inl (cI, 16, .inl P.1)), (h_1, .inl (cI, 16, .inl P.2.1)), (h_2, .inl (cI, 16, .inl P.2.2.1))]) [0, 1, 2, 3] rfl
        have hD9 := hD.sub (ws' := [(h, .inr (4, [.ref h_0, .ref h_1, .ref h_2, .int (nI P.2.2.2)])), (h_0, .inl (cI, 16, .inl P.1)), (h_1, .inl (cI, 16, .inl P.2.1)), (h_2, .inl (cI, 16, .inl P.2.2.1))]) [0, 1, 2, 3] (by decide) rfl
        exact kr_iret (v := acc) hQ hx hb hr hlocks hK hP9 hD9 hS (by rw [hpost] <;> rfl) () rfl d_K_Tally_marksInAll_29
      · skip
        have c_1 : ¬ 16 ≤ i := fun h9 => c_1 ((nI_leI (a := 16) (b := i) (by omega) (by omega)).mpr h9)
        exfalso; omega
    | succ n ih_4 =>
      intro i acc hi hinv H locs hP hD hS ls hl
      refine lv_iload_n hx hb d_K_Tally_marksInAll_4 rfl (lv_at hl 0 rfl) ?_
      refine lv_bipush (v := 16) hx hb d_K_Tally_marksInAll_5 (by decide) ?_
      refine lv_icmp_ge (tgt := 28) hx hb d_K_Tally_marksInAll_7 (by decide) (fun c_2 => ?_) (fun c_2 => ?_)
      · skip
        have c_2 : 16 ≤ i := (nI_leI (a := 16) (b := i) (by omega) (by omega)).mp c_2
        exfalso; omega
      · skip
        have c_2 : ¬ 16 ≤ i := fun h9 => c_2 ((nI_leI (a := 16) (b := i) (by omega) (by omega)).mpr h9)
        refine lv_iload_n hx hb d_K_Tally_marksInAll_10 rfl (lv_at hl 1 rfl) ?_
        refine lv_aload_n hx hb d_K_Tally_marksInAll_11 rfl (lv_at hl 2 rfl) ?_
        refine va_get (D := (dC, dI)) (ci := 4) (v := .ref h_2) (C := "KitRunner$Tally") (T := T_K_Tally) (N := 4) hx hb hts hin_K_Tally hown hK hP 0 rfl rfl 2 (by decide) hf_18 (fun _ h9 => h9) rfl d_K_Tally_marksInAll_12 ?_
        refine lv_iload_n hx hb d_K_Tally_marksInAll_15 rfl (lv_at hl 0 rfl) ?_
        refine kr_iald (k := i) hx hb hK hP 3 0 rfl rfl (by omega) (by first | decide | omega) d_K_Tally_marksInAll_16 ?_
        have hpre_3 := kr_pre (wc := []) (av := [.int (P.2.2.1 i)]) hK hP hD hS hA hSt [] rfl (by decide)
        refine kj_i (wc := []) (wr := [(h, .inr (4, [.ref h_0, .ref h_1, .ref h_2, .int (nI P.2.2.2)])), (h_0, .inl (cI, 16, .inl P.1)), (h_1, .inl (cI, 16, .inl P.2.1)), (h_2, .inl (cI, 16, .inl P.2.2.1))]) (va_runS (As := [.int (P.2.2.1 i)]) (rest := [.int acc]) ⟨hx, hb, hml, hown, hts⟩ (c_Integer_bitCount l dC dI cI cJ cC cZ σ (P.2.2.1 i) _) ⟨(callB_of 1 hts (kg wq_561) rfl rfl rfl hini_Integer hm_39 (by decide +kernel) ⟨Nat.le_of_ble_eq_true rfl, Nat.le_of_ble_eq_true rfl⟩), hs_39⟩ hpre_3 rfl rfl hl.1 rfl (lv_room (Nat.le_of_ble_eq_true rfl)) d_K_Tally_marksInAll_17 ⟨Nat.le_of_ble_eq_true rfl, Nat.le_of_ble_eq_true rfl⟩) hP hD hS hA [] [0, 1, 2, 3] rfl rfl (by decide) (by decide) (fun _ H locs hP hD hS => ?_)
        have hP : va_P (dC, dI) vwCl [(h, .inr (4, [.ref h_0, .ref h_1, .ref h_2, .int (nI P.2.2.2)])), (h_0, .inl (cI, 16, .inl P.1)), (h_1, .inl (cI, 16, .inl P.2.1)), (h_2, .inl (cI, 16, .inl P.2.2.1))] H := hP
        have hD : va_D A [(h, .inr (4, [.ref h_0, .ref h_1, .ref h_2, .int (nI P.2.2.2)])), (h_0, .inl (cI, 16, .inl P.1)), (h_1, .inl (cI, 16, .inl P.2.1)), (h_2, .inl (cI, 16, .inl P.2.2.1))] := hD
        refine lv_iadd hx hb d_K_Tally_marksInAll_20 ?_
        refine lv_istore_n (lv' := [(1, .int (acc + (k_bitc (P.2.2.1 i)))), (2, .int (nI i)), (0, .ref h)]) hx hb d_K_Tally_marksInAll_21 rfl hl (by decide) rfl (fun ls hl => ?_)
        refine lv_iinc (v := (nI (i + 1))) (lv' := [(2, .int (nI (i + 1))), (1, .int (acc + (k_bitc (P.2.2.1 i)))), (0, .ref h)]) hx hb d_K_Tally_marksInAll_22 hl (k := 1) rfl (nI_1 i) (by decide) rfl (fun ls hl => ?_)
        refine lv_goto (tgt := 4) hx hb d_K_Tally_marksInAll_25 (by decide) ?_
        exact ih_4 (i + 1) (acc + (k_bitc (P.2.2.1 i))) (by omega) (hinv.trans (by simp only [k_mallL, if_neg c_2])) _ _ (hP.sub [0, 1, 2, 3] rfl) (hD.sub [0, 1, 2, 3] (by decide) rfl) hS ls (lv_sub hl [0, 1, 2] rfl)
  exact loop_4 16 0 0 (by omega) rfl _ _ (hP.sub [0, 1, 2, 3] rfl) (hD.sub [0, 1, 2, 3] (by decide) rfl) hS ls (lv_sub hl [0, 1, 2] rfl)
set_option maxHeartbeats 4000000 in
set_option maxRecDepth 100000 in
theorem c_PairBook_mark (l : Launch) (dC : Nat → ClassId) (dI : Nat → Nat → Nat) (cI cJ cC cZ : ClassId) (σ : kSg) (h r0 r1 r2 q0 : Nat) (nn hd : Nat) (f : Nat → Int32) (row0 : Nat) (pl0 : Nat) (hrow : row0 < nn) (hnn : nn < 2 ^ 31) : kC l y_K_PairBook_mark ws_K_PairBook_mark (kRm 0 0 0 0) (dC, dI) (kTy cI cJ cC cZ) σ ([(h, .inr (3, [.ref r0, .ref r1, .ref r2, .int (nI hd)])), (q0, .inl (cI, nn, .inl f))]) [.ref h, .ref q0, .int (nI row0), .int (nI pl0)] (kQv (dC, dI) (kTy cI cJ cC cZ) (fun _ : Unit => [(h, .inr (3, [.ref r0, .ref r1, .ref r2, .int (nI (k_mark f hd row0 pl0).2)])), (q0, .inl (cI, nn, .inl (k_mark f hd row0 pl0).1))])) 0 0 := by
  refine kr_met (cc := prog_6_method_5_code) (maxL := 5) (ret := none) (by decide) rfl (Nat.le_of_ble_eq_true rfl) ?_
  intro p e s m args below meth c A Q hQ hx hb hr hml hts hown hlocks hnm hA hP hK hD hSt ls hl
  have hS : va_S A s.heap s.heap [] := va_S.rf
  have hown : s.vm.findClass "KitRunner$PairBook" = some m.cls := hown
  have hl : lv_has ls 5 [(0, .ref h), (1, .ref q0), (2, .int (nI row0)), (3, .int (nI pl0))] := hl
  have hP : va_P (dC, dI) vwCl [(h, .inr (3, [.ref r0, .ref r1, .ref r2, .int (nI hd)])), (q0, .inl (cI, nn, .inl f))] s.heap := hP
  have hD : va_D A [(h, .inr (3, [.ref r0, .ref r1, .ref r2, .int (nI hd)])), (q0, .inl (cI, nn, .inl f))] := hD
  have hf_21 := hts _ (List.mem_cons_of_mem _ wq_70)
  have hin_K_PairBook := fun w (h : w ∈ u_ws "KitRunner$PairBook" T_K_PairBook 4) => List.mem_cons_of_mem (Cond.code y_K_PairBook_mark prog_6_method_5_code 5 none) (in_K_PairBook w h)
  refine lv_iconst (v := 1) hx hb d_K_PairBook_mark_0 (by decide) ?_
  refine lv_iload_n hx hb d_K_PairBook_mark_1 rfl (lv_at hl 3 rfl) ?_
  refine lv_ishl hx hb d_K_PairBook_mark_2 ?_
  refine lv_istore (lv' := [(4, .int (1 <<< ((nI pl0) &&& 31))), (0, .ref h), (1, .ref q0), (2, .int (nI row0)), (3, .int (nI pl0))]) hx hb d_K_PairBook_mark_3 hl (by decide) rfl (fun ls hl => ?_)
  refine lv_aload_n hx hb d_K_PairBook_mark_5 rfl (lv_at hl 2 rfl) ?_
  refine lv_iload_n hx hb d_K_PairBook_mark_6 rfl (lv_at hl 3 rfl) ?_
  refine kr_iald (k := row0) hx hb hK hP 1 0 rfl rfl (by omega) (by first | decide | omega) d_K_PairBook_mark_7 ?_
  refine lv_iload hx hb d_K_PairBook_mark_8 (lv_at hl 0 rfl) ?_
  refine lv_iand hx hb d_K_PairBook_mark_10 ?_
  refine lv_if_ne (tgt := 32) hx hb d_K_PairBook_mark_11 (by decide) (fun c_1 => ?_) (fun c_1 => ?_)
  · skip
    have hpost : k_mark f hd row0 pl0 = (f, hd) := by simp only [k_mark, if_neg c_1]
    have hP9 := hP.sub (ws' := [(h, .inr (3, [.ref r0, .ref r1, .ref r2, .int (nI hd)])), (q0, .inl (cI, nn, .inl f))]) [0, 1] rfl
    have hD9 := hD.sub (ws' := [(h, .inr (3, [.ref r0, .ref r1, .ref r2, .int (nI hd)])), (q0, .inl (cI, nn, .inl f))]) [0, 1] (by decide) rfl
    exact kr_vret hQ hx hb hr hlocks hK hP9 hD9 hS () (by show ([(h, .inr (3, [.ref r0, .ref r1, .ref r2, .int (nI (k_mark f hd row0 pl0).2)])), (q0, .inl (cI, nn, .inl (k_mark f hd row0 pl0).1))] : va_W) = _; rw [hpost] <;> rfl) d_K_PairBook_mark_32
  · skip
    refine lv_aload_n hx hb d_K_PairBook_mark_14 rfl (lv_at hl 2 rfl) ?_
    refine lv_iload_n hx hb d_K_PairBook_mark_15 rfl (lv_at hl 3 rfl) ?_
    refine lv_dup2_11 hx hb d_K_PairBook_mark_16 rfl rfl ?_
    refine kr_iald (k := row0) hx hb hK hP 1 0 rfl rfl (by omega) (by first | decide | omega) d_K_PairBook_mark_17 ?_
    refine lv_iload hx hb d_K_PairBook_mark_18 (lv_at hl 0 rfl) ?_
    refine lv_ior hx hb d_K_PairBook_mark_20 ?_
    refine kr_iast (k := row0) hx hb hK hP hD hS 1 0 rfl rfl (by omega) (by first | decide | omega) d_K_PairBook_mark_21 (fun H locs hP hD hS => ?_)
    have hP : va_P (dC, dI) vwCl [(h, .inr (3, [.ref r0, .ref r1, .ref r2, .int (nI hd)])), (q0, .inl (cI, nn, .inl (upd f row0 ((f row0) ||| (1 <<< ((nI pl0) &&& 31))))))] H := hP
    have hD : va_D A [(h, .inr (3, [.ref r0, .ref r1, .ref r2, .int (nI hd)])), (q0, .inl (cI, nn, .inl (upd f row0 ((f row0) ||| (1 <<< ((nI pl0) &&& 31))))))] := hD
    refine lv_aload_n hx hb d_K_PairBook_mark_22 rfl (lv_at hl 1 rfl) ?_
    refine lv_dup hx hb d_K_PairBook_mark_23 rfl ?_
    refine va_get (D := (dC, dI)) (ci := 3) (v := .int (nI hd)) (C := "KitRunner$PairBook") (T := T_K_PairBook) (N := 4) hx hb hts hin_K_PairBook hown hK hP 0 rfl rfl 3 (by decide) hf_21 (fun _ h9 => h9) rfl d_K_PairBook_mark_24 ?_
    refine lv_iconst (v := 1) hx hb d_K_PairBook_mark_27 (by decide) ?_
    refine lv_iadd hx hb d_K_PairBook_mark_28 ?_
    refine kr_topi (x := (nI hd) + 1) (y := nI (hd + 1)) (nI_add hd 1) ?_
    refine va_put (D := (dC, dI)) (ci := 3) (v := .int (nI (hd + 1))) (ty := .int) (C := "KitRunner$PairBook") (T := T_K_PairBook) (N := 4) hx hb hts hin_K_PairBook ty_K_PairBook ty_K_PairBook_ok nm_K_PairBook hown hK hP hD hS 0 rfl rfl 3 (by decide) hf_21 (fun _ h9 => h9) rfl (by decide +kernel) rfl rfl (Nat.le_of_ble_eq_true rfl) d_K_PairBook_mark_29 (fun H locs hP hD hS => ?_)
    have hP : va_P (dC, dI) vwCl [(h, .inr (3, [.ref r0, .ref r1, .ref r2, .int (nI (hd + 1))])), (q0, .inl (cI, nn, .inl (upd f row0 ((f row0) ||| (1 <<< ((nI pl0) &&& 31))))))] H := hP
    have hD : va_D A [(h, .inr (3, [.ref r0, .ref r1, .ref r2, .int (nI (hd + 1))])), (q0, .inl (cI, nn, .inl (upd f row0 ((f row0) ||| (1 <<< ((nI pl0) &&& 31))))))] := hD
    have hpost : k_mark f hd row0 pl0 = (upd f row0 ((f row0) ||| (1 <<< ((nI pl0) &&& 31))), hd + 1) := by simp only [k_mark, if_pos c_1]
    have hP9 := hP.sub (ws' := [(h, .inr (3, [.ref r0, .ref r1, .ref r2, .int (nI (hd + 1))])), (q0, .inl (cI, nn, .inl (upd f row0 ((f row0) ||| (1 <<< ((nI pl0) &&& 31))))))]) [0, 1] rfl
    have hD9 := hD.sub (ws' := [(h, .inr (3, [.ref r0, .ref r1, .ref r2, .int (nI (hd + 1))])), (q0, .inl (cI, nn, .inl (upd f row0 ((f row0) ||| (1 <<< ((nI pl0) &&& 31))))))]) [0, 1] (by decide) rfl
    exact kr_vret hQ hx hb hr hlocks hK hP9 hD9 hS () (by show ([(h, .inr (3, [.ref r0, .ref r1, .ref r2, .int (nI (k_mark f hd row0 pl0).2)])), (q0, .inl (cI, nn, .inl (k_mark f hd row0 pl0).1))] : va_W) = _; rw [hpost] <;> rfl) d_K_PairBook_mark_32
set_option maxHeartbeats 4000000 in
set_option maxRecDepth 100000 in
theorem c_PairBook_note (l : Launch) (dC : Nat → ClassId) (dI : Nat → Nat → Nat) (cI cJ cC cZ : ClassId) (σ : kSg) (h h_0 h_1 h_2 : Nat) (P : kPB) (e0 : Nat) (pa0 : Nat) (pb0 : Nat) (he : e0 < 16) (hpa : pa0 < 12) (hpb : pb0 < 12) : kC l y_K_PairBook_note ws_K_PairBook_note (kRm 1 0 0 24) (dC, dI) (kTy cI cJ cC cZ) σ (wPB cI cJ cC cZ h h_0 h_1 h_2 P) [.ref h, .int (nI e0), .int (nI pa0), .int (nI pb0)] (kQi (dC, dI) (kTy cI cJ cC cZ) (kb (k_note P e0 pa0 pb0).2) (fun _ : Unit => wPB cI cJ cC cZ h h_0 h_1 h_2 (k_note P e0 pa0 pb0).1)) 0 0 := by
  refine kr_met (cc := prog_6_method_4_code) (maxL := 5) (ret := (some .boolean)) (by decide) rfl (Nat.le_of_ble_eq_true rfl) ?_
  intro p e s m args below meth c A Q hQ hx hb hr hml hts hown hlocks hnm hA hP hK hD hSt ls hl
  have hS : va_S A s.heap s.heap [] := va_S.rf
  have hown : s.vm.findClass "KitRunner$PairBook" = some m.cls := hown
  have hl : lv_has ls 5 [(0, .ref h), (1, .int (nI e0)), (2, .int (nI pa0)), (3, .int (nI pb0))] := hl
  have hP : va_P (dC, dI) vwCl [(h, .inr (3, [.ref h_0, .ref h_1, .ref h_2, .int (nI P.2.2.2)])), (h_0, .inl (cI, 16, .inl P.1)), (h_1, .inl (cI, 16, .inl P.2.1)), (h_2, .inl (cI, 12, .inl P.2.2.1))] s.heap := hP
  have hD : va_D A [(h, .inr (3, [.ref h_0, .ref h_1, .ref h_2, .int (nI P.2.2.2)])), (h_0, .inl (cI, 16, .inl P.1)), (h_1, .inl (cI, 16, .inl P.2.1)), (h_2, .inl (cI, 12, .inl P.2.2.1))] := hD
  have hf_21 := hts _ (List.mem_cons_of_mem _ wq_70)
  have hin_K_PairBook := fun w (h : w ∈ u_ws "KitRunner$PairBook" T_K_PairBook 4) => List.mem_cons_of_mem (Cond.code y_K_PairBook_note prog_6_method_4_code 5 (some .boolean)) (in_K_PairBook w h)
  have hf_9 := hts _ (List.mem_cons_of_mem _ wq_67)
  have hini_K_PairBook := hts _ (List.mem_cons_of_mem _ wq_4)
  have hm_31 := hts _ (List.mem_cons_of_mem _ wq_399)
  have hi_31 := hts _ (List.mem_cons_of_mem _ wq_401)
  have hv_31 := hts _ (List.mem_cons_of_mem _ sq_2)
  have hf_15 := hts _ (List.mem_cons_of_mem _ wq_68)
  have hf_18 := hts _ (List.mem_cons_of_mem _ wq_69)
  refine lv_aload_n hx hb d_K_PairBook_note_0 rfl (lv_at hl 0 rfl) ?_
  refine va_get (D := (dC, dI)) (ci := 3) (v := .int (nI P.2.2.2)) (C := "KitRunner$PairBook") (T := T_K_PairBook) (N := 4) hx hb hts hin_K_PairBook hown hK hP 0 rfl rfl 3 (by decide) hf_21 (fun _ h9 => h9) rfl d_K_PairBook_note_1 ?_
  refine lv_istore (lv' := [(4, .int (nI P.2.2.2)), (0, .ref h), (1, .int (nI e0)), (2, .int (nI pa0)), (3, .int (nI pb0))]) hx hb d_K_PairBook_note_4 hl (by decide) rfl (fun ls hl => ?_)
  refine lv_aload_n hx hb d_K_PairBook_note_6 rfl (lv_at hl 1 rfl) ?_
  refine lv_aload_n hx hb d_K_PairBook_note_7 rfl (lv_at hl 1 rfl) ?_
  refine va_get (D := (dC, dI)) (ci := 3) (v := .ref h_0) (C := "KitRunner$PairBook") (T := T_K_PairBook) (N := 4) hx hb hts hin_K_PairBook hown hK hP 0 rfl rfl 0 (by decide) hf_9 (fun _ h9 => h9) rfl d_K_PairBook_note_8 ?_
  refine lv_iload_n hx hb d_K_PairBook_note_11 rfl (lv_at hl 2 rfl) ?_
  refine lv_iload_n hx hb d_K_PairBook_note_12 rfl (lv_at hl 3 rfl) ?_
  have hpre_1 := kr_pre (wc := [(h, .inr (3, [.ref h_0, .ref h_1, .ref h_2, .int (nI P.2.2.2)])), (h_0, .inl (cI, 16, .inl P.1))]) (av := [.ref h, .ref h_0, .int (nI e0), .int (nI pa0)]) hK hP hD hS hA hSt [0, 1] rfl (by decide)
  refine kj_v (wc := [(h, .inr (3, [.ref h_0, .ref h_1, .ref h_2, .int (nI P.2.2.2)])), (h_0, .inl (cI, 16, .inl P.1))]) (wr := [(h_1, .inl (cI, 16, .inl P.2.1)), (h_2, .inl (cI, 12, .inl P.2.2.1))]) (va_runV (As := [.ref h_0, .int (nI e0), .int (nI pa0)]) (rest := []) ⟨hx, hb, hml, hown, hts⟩ (c_PairBook_mark l dC dI cI cJ cC cZ σ h h_0 h_1 h_2 h_0 16 P.2.2.2 P.1 e0 pa0 (by omega) (by decide) _) ⟨(callB_of 3 hts (kg wq_402) rfl rfl rfl hini_K_PairBook hm_31 (by decide +kernel) ⟨Nat.le_of_ble_eq_true rfl, Nat.le_of_ble_eq_true rfl⟩), hi_31, hv_31⟩ ⟨hpre_1.1, (va_recv hK hP (ci := 3) (q0 := 0) rfl rfl), hpre_1.2⟩ rfl rfl hl.1 rfl (lv_room (Nat.le_of_ble_eq_true rfl)) d_K_PairBook_note_13 ⟨Nat.le_of_ble_eq_true rfl, Nat.le_of_ble_eq_true rfl⟩) hP hD hS hA [0, 1] [2, 3] rfl rfl (by decide) (by decide) (fun _ H locs hP hD hS => ?_)
  have hP : va_P (dC, dI) vwCl [(h_1, .inl (cI, 16, .inl P.2.1)), (h_2, .inl (cI, 12, .inl P.2.2.1)), (h, .inr (3, [.ref h_0, .ref h_1, .ref h_2, .int (nI (k_mark P.1 P.2.2.2 e0 pa0).2)])), (h_0, .inl (cI, 16, .inl (k_mark P.1 P.2.2.2 e0 pa0).1))] H := hP
  have hD : va_D A [(h_1, .inl (cI, 16, .inl P.2.1)), (h_2, .inl (cI, 12, .inl P.2.2.1)), (h, .inr (3, [.ref h_0, .ref h_1, .ref h_2, .int (nI (k_mark P.1 P.2.2.2 e0 pa0).2)])), (h_0, .inl (cI, 16, .inl (k_mark P.1 P.2.2.2 e0 pa0).1))] := hD
  refine lv_aload_n hx hb d_K_PairBook_note_16 rfl (lv_at hl 1 rfl) ?_
  refine lv_aload_n hx hb d_K_PairBook_note_17 rfl (lv_at hl 1 rfl) ?_
  refine va_get (D := (dC, dI)) (ci := 3) (v := .ref h_1) (C := "KitRunner$PairBook") (T := T_K_PairBook) (N := 4) hx hb hts hin_K_PairBook hown hK hP 2 rfl rfl 1 (by decide) hf_15 (fun _ h9 => h9) rfl d_K_PairBook_note_18 ?_
  refine lv_iload_n hx hb d_K_PairBook_note_21 rfl (lv_at hl 2 rfl) ?_
  refine lv_iload_n hx hb d_K_PairBook_note_22 rfl (lv_at hl 4 rfl) ?_
  have hpre_2 := kr_pre (wc := [(h, .inr (3, [.ref h_0, .ref h_1, .ref h_2, .int (nI (k_mark P.1 P.2.2.2 e0 pa0).2)])), (h_1, .inl (cI, 16, .inl P.2.1))]) (av := [.ref h, .ref h_1, .int (nI e0), .int (nI pb0)]) hK hP hD hS hA hSt [2, 0] rfl (by decide)
  refine kj_v (wc := [(h, .inr (3, [.ref h_0, .ref h_1, .ref h_2, .int (nI (k_mark P.1 P.2.2.2 e0 pa0).2)])), (h_1, .inl (cI, 16, .inl P.2.1))]) (wr := [(h_2, .inl (cI, 12, .inl P.2.2.1)), (h_0, .inl (cI, 16, .inl (k_mark P.1 P.2.2.2 e0 pa0).1))]) (va_runV (As := [.ref h_1, .int (nI e0), .int (nI pb0)]) (rest := []) ⟨hx, hb, hml, hown, hts⟩ (c_PairBook_mark l dC dI cI cJ cC cZ σ h h_0 h_1 h_2 h_1 16 (k_mark P.1 P.2.2.2 e0 pa0).2 P.2.1 e0 pb0 (by omega) (by decide) _) ⟨(callB_of 3 hts (kg wq_402) rfl rfl rfl hini_K_PairBook hm_31 (by decide +kernel) ⟨Nat.le_of_ble_eq_true rfl, Nat.le_of_ble_eq_true rfl⟩), hi_31, hv_31⟩ ⟨hpre_2.1, (va_recv hK hP (ci := 3) (q0 := 2) rfl rfl), hpre_2.2⟩ rfl rfl hl.1 rfl (lv_room (Nat.le_of_ble_eq_true rfl)) d_K_PairBook_note_23 ⟨Nat.le_of_ble_eq_true rfl, Nat.le_of_ble_eq_true rfl⟩) hP hD hS hA [2, 0] [1, 3] rfl rfl (by decide) (by decide) (fun _ H locs hP hD hS => ?_)
  have hP : va_P (dC, dI) vwCl [(h_2, .inl (cI, 12, .inl P.2.2.1)), (h_0, .inl (cI, 16, .inl (k_mark P.1 P.2.2.2 e0 pa0).1)), (h, .inr (3, [.ref h_0, .ref h_1, .ref h_2, .int (nI (k_mark P.2.1 (k_mark P.1 P.2.2.2 e0 pa0).2 e0 pb0).2)])), (h_1, .inl (cI, 16, .inl (k_mark P.2.1 (k_mark P.1 P.2.2.2 e0 pa0).2 e0 pb0).1))] H := hP
  have hD : va_D A [(h_2, .inl (cI, 12, .inl P.2.2.1)), (h_0, .inl (cI, 16, .inl (k_mark P.1 P.2.2.2 e0 pa0).1)), (h, .inr (3, [.ref h_0, .ref h_1, .ref h_2, .int (nI (k_mark P.2.1 (k_mark P.1 P.2.2.2 e0 pa0).2 e0 pb0).2)])), (h_1, .inl (cI, 16, .inl (k_mark P.2.1 (k_mark P.1 P.2.2.2 e0 pa0).2 e0 pb0).1))] := hD
  refine lv_aload_n hx hb d_K_PairBook_note_26 rfl (lv_at hl 1 rfl) ?_
  refine lv_aload_n hx hb d_K_PairBook_note_27 rfl (lv_at hl 1 rfl) ?_
  refine va_get (D := (dC, dI)) (ci := 3) (v := .ref h_2) (C := "KitRunner$PairBook") (T := T_K_PairBook) (N := 4) hx hb hts hin_K_PairBook hown hK hP 2 rfl rfl 2 (by decide) hf_18 (fun _ h9 => h9) rfl d_K_PairBook_note_28 ?_
  refine lv_iload_n hx hb d_K_PairBook_note_31 rfl (lv_at hl 3 rfl) ?_
  refine lv_iload_n hx hb d_K_PairBook_note_32 rfl (lv_at hl 4 rfl) ?_
  have hpre_3 := kr_pre (wc := [(h, .inr (3, [.ref h_0, .ref h_1, .ref h_2, .int (nI (k_mark P.2.1 (k_mark P.1 P.2.2.2 e0 pa0).2 e0 pb0).2)])), (h_2, .inl (cI, 12, .inl P.2.2.1))]) (av := [.ref h, .ref h_2, .int (nI pa0), .int (nI pb0)]) hK hP hD hS hA hSt [2, 0] rfl (by decide)
  refine kj_v (wc := [(h, .inr (3, [.ref h_0, .ref h_1, .ref h_2, .int (nI (k_mark P.2.1 (k_mark P.1 P.2.2.2 e0 pa0).2 e0 pb0).2)])), (h_2, .inl (cI, 12, .inl P.2.2.1))]) (wr := [(h_0, .inl (cI, 16, .inl (k_mark P.1 P.2.2.2 e0 pa0).1)), (h_1, .inl (cI, 16, .inl (k_mark P.2.1 (k_mark P.1 P.2.2.2 e0 pa0).2 e0 pb0).1))]) (va_runV (As := [.ref h_2, .int (nI pa0), .int (nI pb0)]) (rest := []) ⟨hx, hb, hml, hown, hts⟩ (c_PairBook_mark l dC dI cI cJ cC cZ σ h h_0 h_1 h_2 h_2 12 (k_mark P.2.1 (k_mark P.1 P.2.2.2 e0 pa0).2 e0 pb0).2 P.2.2.1 pa0 pb0 (by omega) (by decide) _) ⟨(callB_of 3 hts (kg wq_402) rfl rfl rfl hini_K_PairBook hm_31 (by decide +kernel) ⟨Nat.le_of_ble_eq_true rfl, Nat.le_of_ble_eq_true rfl⟩), hi_31, hv_31⟩ ⟨hpre_3.1, (va_recv hK hP (ci := 3) (q0 := 2) rfl rfl), hpre_3.2⟩ rfl rfl hl.1 rfl (lv_room (Nat.le_of_ble_eq_true rfl)) d_K_PairBook_note_33 ⟨Nat.le_of_ble_eq_true rfl, Nat.le_of_ble_eq_true rfl⟩) hP hD hS hA [2, 0] [1, 3] rfl rfl (by decide) (by decide) (fun _ H locs hP hD hS => ?_)
  have hP : va_P (dC, dI) vwCl [(h_0, .inl (cI, 16, .inl (k_mark P.1 P.2.2.2 e0 pa0).1)), (h_1, .inl (cI, 16, .inl (k_mark P.2.1 (k_mark P.1 P.2.2.2 e0 pa0).2 e0 pb0).1)), (h, .inr (3, [.ref h_0, .ref h_1, .ref h_2, .int (nI (k_mark P.2.2.1 (k_mark P.2.1 (k_mark P.1 P.2.2.2 e0 pa0).2 e0 pb0).2 pa0 pb0).2)])), (h_2, .inl (cI, 12, .inl (k_mark P.2.2.1 (k_mark P.2.1 (k_mark P.1 P.2.2.2 e0 pa0).2 e0 pb0).2 pa0 pb0).1))] H := hP
  have hD : va_D A [(h_0, .inl (cI, 16, .inl (k_mark P.1 P.2.2.2 e0 pa0).1)), (h_1, .inl (cI, 16, .inl (k_mark P.2.1 (k_mark P.1 P.2.2.2 e0 pa0).2 e0 pb0).1)), (h, .inr (3, [.ref h_0, .ref h_1, .ref h_2, .int (nI (k_mark P.2.2.1 (k_mark P.2.1 (k_mark P.1 P.2.2.2 e0 pa0).2 e0 pb0).2 pa0 pb0).2)])), (h_2, .inl (cI, 12, .inl (k_mark P.2.2.1 (k_mark P.2.1 (k_mark P.1 P.2.2.2 e0 pa0).2 e0 pb0).2 pa0 pb0).1))] := hD
  refine lv_aload_n hx hb d_K_PairBook_note_36 rfl (lv_at hl 1 rfl) ?_
  refine va_get (D := (dC, dI)) (ci := 3) (v := .int (nI (k_mark P.2.2.1 (k_mark P.2.1 (k_mark P.1 P.2.2.2 e0 pa0).2 e0 pb0).2 pa0 pb0).2)) (C := "KitRunner$PairBook") (T := T_K_PairBook) (N := 4) hx hb hts hin_K_PairBook hown hK hP 2 rfl rfl 3 (by decide) hf_21 (fun _ h9 => h9) rfl d_K_PairBook_note_37 ?_
  refine lv_iload hx hb d_K_PairBook_note_40 (lv_at hl 0 rfl) ?_
  refine lv_icmp_le (tgt := 49) hx hb d_K_PairBook_note_42 (by decide) (fun c_4 => ?_) (fun c_4 => ?_)
  · skip
    refine lv_iconst (v := 0) hx hb d_K_PairBook_note_49 (by decide) ?_
    have hpost : k_note P e0 pa0 pb0 = (((k_mark P.1 P.2.2.2 e0 pa0).1, ((k_mark P.2.1 (k_mark P.1 P.2.2.2 e0 pa0).2 e0 pb0).1, (k_mark P.2.2.1 (k_mark P.2.1 (k_mark P.1 P.2.2.2 e0 pa0).2 e0 pb0).2 pa0 pb0))), false) := by simp only [k_note, if_pos c_4]
    have hP9 := hP.sub (ws' := [(h, .inr (3, [.ref h_0, .ref h_1, .ref h_2, .int (nI (k_mark P.2.2.1 (k_mark P.2.1 (k_mark P.1 P.2.2.2 e0 pa0).2 e0 pb0).2 pa0 pb0).2)])), (h_0, .inl (cI, 16, .inl (k_mark P.1 P.2.2.2 e0 pa0).1)), (h_1, .inl (cI, 16, .inl (k_mark P.2.1 (k_mark P.1 P.2.2.2 e0 pa0).2 e0 pb0).1)), (h_2, .inl (cI, 12, .inl (k_mark P.2.2.1 (k_mark P.2.1 (k_mark P.1 P.2.2.2 e0 pa0).2 e0 pb0).2 pa0 pb0).1))]) [2, 0, 1, 3] rfl
    have hD9 := hD.sub (ws' := [(h, .inr (3, [.ref h_0, .ref h_1, .ref h_2, .int (nI (k_mark P.2.2.1 (k_mark P.2.1 (k_mark P.1 P.2.2.2 e0 pa0).2 e0 pb0).2 pa0 pb0).2)])), (h_0, .inl (cI, 16, .inl (k_mark P.1 P.2.2.2 e0 pa0).1)), (h_1, .inl (cI, 16, .inl (k_mark P.2.1 (k_mark P.1 P.2.2.2 e0 pa0).2 e0 pb0).1)), (h_2, .inl (cI, 12, .inl (k_mark P.2.2.1 (k_mark P.2.1 (k_mark P.1 P.2.2.2 e0 pa0).2 e0 pb0).2 pa0 pb0).1))]) [2, 0, 1, 3] (by decide) rfl
    exact kr_zret (v := 0) hQ hx hb hr hlocks hK hP9 hD9 hS (by rw [hpost] <;> rfl) rfl () (by show (wPB cI cJ cC cZ h h_0 h_1 h_2 (k_note P e0 pa0 pb0).1 : va_W) = _; rw [hpost] <;> rfl) d_K_PairBook_note_50
  · skip
    refine lv_iconst (v := 1) hx hb d_K_PairBook_note_45 (by decide) ?_
    refine lv_goto (tgt := 50) hx hb d_K_PairBook_note_46 (by decide) ?_
    have hpost : k_note P e0 pa0 pb0 = (((k_mark P.1 P.2.2.2 e0 pa0).1, ((k_mark P.2.1 (k_mark P.1 P.2.2.2 e0 pa0).2 e0 pb0).1, (k_mark P.2.2.1 (k_mark P.2.1 (k_mark P.1 P.2.2.2 e0 pa0).2 e0 pb0).2 pa0 pb0))), true) := by simp only [k_note, if_neg c_4]
    have hP9 := hP.sub (ws' := [(h, .inr (3, [.ref h_0, .ref h_1, .ref h_2, .int (nI (k_mark P.2.2.1 (k_mark P.2.1 (k_mark P.1 P.2.2.2 e0 pa0).2 e0 pb0).2 pa0 pb0).2)])), (h_0, .inl (cI, 16, .inl (k_mark P.1 P.2.2.2 e0 pa0).1)), (h_1, .inl (cI, 16, .inl (k_mark P.2.1 (k_mark P.1 P.2.2.2 e0 pa0).2 e0 pb0).1)), (h_2, .inl (cI, 12, .inl (k_mark P.2.2.1 (k_mark P.2.1 (k_mark P.1 P.2.2.2 e0 pa0).2 e0 pb0).2 pa0 pb0).1))]) [2, 0, 1, 3] rfl
    have hD9 := hD.sub (ws' := [(h, .inr (3, [.ref h_0, .ref h_1, .ref h_2, .int (nI (k_mark P.2.2.1 (k_mark P.2.1 (k_mark P.1 P.2.2.2 e0 pa0).2 e0 pb0).2 pa0 pb0).2)])), (h_0, .inl (cI, 16, .inl (k_mark P.1 P.2.2.2 e0 pa0).1)), (h_1, .inl (cI, 16, .inl (k_mark P.2.1 (k_mark P.1 P.2.2.2 e0 pa0).2 e0 pb0).1)), (h_2, .inl (cI, 12, .inl (k_mark P.2.2.1 (k_mark P.2.1 (k_mark P.1 P.2.2.2 e0 pa0).2 e0 pb0).2 pa0 pb0).1))]) [2, 0, 1, 3] (by decide) rfl
    exact kr_zret (v := 1) hQ hx hb hr hlocks hK hP9 hD9 hS (by rw [hpost] <;> rfl) rfl () (by show (wPB cI cJ cC cZ h h_0 h_1 h_2 (k_note P e0 pa0 pb0).1 : va_W) = _; rw [hpost] <;> rfl) d_K_PairBook_note_50
set_option maxHeartbeats 4000000 in
set_option maxRecDepth 100000 in
theorem c_PairBook_forget (l : Launch) (dC : Nat → ClassId) (dI : Nat → Nat → Nat) (cI cJ cC cZ : ClassId) (σ : kSg) (h h_0 h_1 h_2 : Nat) (P : kPB) : kC l y_K_PairBook_forget ws_K_PairBook_forget (kRm 1 0 0 23) (dC, dI) (kTy cI cJ cC cZ) σ (wPB cI cJ cC cZ h h_0 h_1 h_2 P) [.ref h] (kQv (dC, dI) (kTy cI cJ cC cZ) (fun _ : Unit => wPB cI cJ cC cZ h h_0 h_1 h_2 (k_fgPB P))) 0 0 := by
  refine kr_met (cc := prog_6_method_2_code) (maxL := 1) (ret := none) (by decide) rfl (Nat.le_of_ble_eq_true rfl) ?_
  intro p e s m args below meth c A Q hQ hx hb hr hml hts hown hlocks hnm hA hP hK hD hSt ls hl
  have hS : va_S A s.heap s.heap [] := va_S.rf
  have hown : s.vm.findClass "KitRunner$PairBook" = some m.cls := hown
  have hl : lv_has ls 1 [(0, .ref h)] := hl
  have hP : va_P (dC, dI) vwCl [(h, .inr (3, [.ref h_0, .ref h_1, .ref h_2, .int (nI P.2.2.2)])), (h_0, .inl (cI, 16, .inl P.1)), (h_1, .inl (cI, 16, .inl P.2.1)), (h_2, .inl (cI, 12, .inl P.2.2.1))] s.heap := hP
  have hD : va_D A [(h, .inr (3, [.ref h_0, .ref h_1, .ref h_2, .int (nI P.2.2.2)])), (h_0, .inl (cI, 16, .inl P.1)), (h_1, .inl (cI, 16, .inl P.2.1)), (h_2, .inl (cI, 12, .inl P.2.2.1))] := hD
  have hf_9 := hts _ (List.mem_cons_of_mem _ wq_67)
  have hin_K_PairBook := fun w (h : w ∈ u_ws "KitRunner$PairBook" T_K_PairBook 4) => List.mem_cons_of_mem (Cond.code y_K_PairBook_forget prog_6_method_2_code 1 none) (in_K_PairBook w h)
  have hini_Arrays := hts _ (List.mem_cons_of_mem _ wq_16)
  have hm_25 := hts _ (List.mem_cons_of_mem _ wq_362)
  have hs_25 := hts _ (List.mem_cons_of_mem _ wq_363)
  have hf_15 := hts _ (List.mem_cons_of_mem _ wq_68)
  have hf_18 := hts _ (List.mem_cons_of_mem _ wq_69)
  have hf_21 := hts _ (List.mem_cons_of_mem _ wq_70)
  refine lv_aload_n hx hb d_K_PairBook_forget_0 rfl (lv_at hl 0 rfl) ?_
  refine va_get (D := (dC, dI)) (ci := 3) (v := .ref h_0) (C := "KitRunner$PairBook") (T := T_K_PairBook) (N := 4) hx hb hts hin_K_PairBook hown hK hP 0 rfl rfl 0 (by decide) hf_9 (fun _ h9 => h9) rfl d_K_PairBook_forget_1 ?_
  refine lv_iconst (v := 0) hx hb d_K_PairBook_forget_4 (by decide) ?_
  have hpre_1 := kr_pre (wc := [(h_0, .inl (cI, 16, .inl P.1))]) (av := [.ref h_0, .int 0]) hK hP hD hS hA hSt [1] rfl (by decide)
  refine kj_v (wc := [(h_0, .inl (cI, 16, .inl P.1))]) (wr := [(h, .inr (3, [.ref h_0, .ref h_1, .ref h_2, .int (nI P.2.2.2)])), (h_1, .inl (cI, 16, .inl P.2.1)), (h_2, .inl (cI, 12, .inl P.2.2.1))]) (va_runS (As := [.ref h_0, .int 0]) (rest := []) ⟨hx, hb, hml, hown, hts⟩ (c_Arrays_fill l dC dI cI cJ cC cZ σ h_0 16 P.1 0 (by decide) _) ⟨(callB_of 2 hts (kg wq_364) rfl rfl rfl hini_Arrays hm_25 (by decide +kernel) ⟨Nat.le_of_ble_eq_true rfl, Nat.le_of_ble_eq_true rfl⟩), hs_25⟩ hpre_1 rfl rfl hl.1 rfl (lv_room (Nat.le_of_ble_eq_true rfl)) d_K_PairBook_forget_5 ⟨Nat.le_of_ble_eq_true rfl, Nat.le_of_ble_eq_true rfl⟩) hP hD hS hA [1] [0, 2, 3] rfl rfl (by decide) (by decide) (fun _ H locs hP hD hS => ?_)
  have hP : va_P (dC, dI) vwCl [(h, .inr (3, [.ref h_0, .ref h_1, .ref h_2, .int (nI P.2.2.2)])), (h_1, .inl (cI, 16, .inl P.2.1)), (h_2, .inl (cI, 12, .inl P.2.2.1)), (h_0, .inl (cI, 16, .inl (fun _ => 0)))] H := hP
  have hD : va_D A [(h, .inr (3, [.ref h_0, .ref h_1, .ref h_2, .int (nI P.2.2.2)])), (h_1, .inl (cI, 16, .inl P.2.1)), (h_2, .inl (cI, 12, .inl P.2.2.1)), (h_0, .inl (cI, 16, .inl (fun _ => 0)))] := hD
  refine lv_aload_n hx hb d_K_PairBook_forget_8 rfl (lv_at hl 0 rfl) ?_
  refine va_get (D := (dC, dI)) (ci := 3) (v := .ref h_1) (C := "KitRunner$PairBook") (T := T_K_PairBook) (N := 4) hx hb hts hin_K_PairBook hown hK hP 0 rfl rfl 1 (by decide) hf_15 (fun _ h9 => h9) rfl d_K_PairBook_forget_9 ?_
  refine lv_iconst (v := 0) hx hb d_K_PairBook_forget_12 (by decide) ?_
  have hpre_2 := kr_pre (wc := [(h_1, .inl (cI, 16, .inl P.2.1))]) (av := [.ref h_1, .int 0]) hK hP hD hS hA hSt [1] rfl (by decide)
  refine kj_v (wc := [(h_1, .inl (cI, 16, .inl P.2.1))]) (wr := [(h, .inr (3, [.ref h_0, .ref h_1, .ref h_2, .int (nI P.2.2.2)])), (h_2, .inl (cI, 12, .inl P.2.2.1)), (h_0, .inl (cI, 16, .inl (fun _ => 0)))]) (va_runS (As := [.ref h_1, .int 0]) (rest := []) ⟨hx, hb, hml, hown, hts⟩ (c_Arrays_fill l dC dI cI cJ cC cZ σ h_1 16 P.2.1 0 (by decide) _) ⟨(callB_of 2 hts (kg wq_364) rfl rfl rfl hini_Arrays hm_25 (by decide +kernel) ⟨Nat.le_of_ble_eq_true rfl, Nat.le_of_ble_eq_true rfl⟩), hs_25⟩ hpre_2 rfl rfl hl.1 rfl (lv_room (Nat.le_of_ble_eq_true rfl)) d_K_PairBook_forget_13 ⟨Nat.le_of_ble_eq_true rfl, Nat.le_of_ble_eq_true rfl⟩) hP hD hS hA [1] [0, 2, 3] rfl rfl (by decide) (by decide) (fun _ H locs hP hD hS => ?_)
  have hP : va_P (dC, dI) vwCl [(h, .inr (3, [.ref h_0, .ref h_1, .ref h_2, .int (nI P.2.2.2)])), (h_2, .inl (cI, 12, .inl P.2.2.1)), (h_0, .inl (cI, 16, .inl (fun _ => 0))), (h_1, .inl (cI, 16, .inl (fun _ => 0)))] H := hP
  have hD : va_D A [(h, .inr (3, [.ref h_0, .ref h_1, .ref h_2, .int (nI P.2.2.2)])), (h_2, .inl (cI, 12, .inl P.2.2.1)), (h_0, .inl (cI, 16, .inl (fun _ => 0))), (h_1, .inl (cI, 16, .inl (fun _ => 0)))] := hD
  refine lv_aload_n hx hb d_K_PairBook_forget_16 rfl (lv_at hl 0 rfl) ?_
  refine va_get (D := (dC, dI)) (ci := 3) (v := .ref h_2) (C := "KitRunner$PairBook") (T := T_K_PairBook) (N := 4) hx hb hts hin_K_PairBook hown hK hP 0 rfl rfl 2 (by decide) hf_18 (fun _ h9 => h9) rfl d_K_PairBook_forget_17 ?_
  refine lv_iconst (v := 0) hx hb d_K_PairBook_forget_20 (by decide) ?_
  have hpre_3 := kr_pre (wc := [(h_2, .inl (cI, 12, .inl P.2.2.1))]) (av := [.ref h_2, .int 0]) hK hP hD hS hA hSt [1] rfl (by decide)
  refine kj_v (wc := [(h_2, .inl (cI, 12, .inl P.2.2.1))]) (wr := [(h, .inr (3, [.ref h_0, .ref h_1, .ref h_2, .int (nI P.2.2.2)])), (h_0, .inl (cI, 16, .inl (fun _ => 0))), (h_1, .inl (cI, 16, .inl (fun _ => 0)))]) (va_runS (As := [.ref h_2, .int 0]) (rest := []) ⟨hx, hb, hml, hown, hts⟩ (c_Arrays_fill l dC dI cI cJ cC cZ σ h_2 12 P.2.2.1 0 (by decide) _) ⟨(callB_of 2 hts (kg wq_364) rfl rfl rfl hini_Arrays hm_25 (by decide +kernel) ⟨Nat.le_of_ble_eq_true rfl, Nat.le_of_ble_eq_true rfl⟩), hs_25⟩ hpre_3 rfl rfl hl.1 rfl (lv_room (Nat.le_of_ble_eq_true rfl)) d_K_PairBook_forget_21 ⟨Nat.le_of_ble_eq_true rfl, Nat.le_of_ble_eq_true rfl⟩) hP hD hS hA [1] [0, 2, 3] rfl rfl (by decide) (by decide) (fun _ H locs hP hD hS => ?_)
  have hP : va_P (dC, dI) vwCl [(h, .inr (3, [.ref h_0, .ref h_1, .ref h_2, .int (nI P.2.2.2)])), (h_0, .inl (cI, 16, .inl (fun _ => 0))), (h_1, .inl (cI, 16, .inl (fun _ => 0))), (h_2, .inl (cI, 12, .inl (fun _ => 0)))] H := hP
  have hD : va_D A [(h, .inr (3, [.ref h_0, .ref h_1, .ref h_2, .int (nI P.2.2.2)])), (h_0, .inl (cI, 16, .inl (fun _ => 0))), (h_1, .inl (cI, 16, .inl (fun _ => 0))), (h_2, .inl (cI, 12, .inl (fun _ => 0)))] := hD
  refine lv_aload_n hx hb d_K_PairBook_forget_24 rfl (lv_at hl 0 rfl) ?_
  refine lv_iconst (v := 0) hx hb d_K_PairBook_forget_25 (by decide) ?_
  refine va_put (D := (dC, dI)) (ci := 3) (v := .int 0) (ty := .int) (C := "KitRunner$PairBook") (T := T_K_PairBook) (N := 4) hx hb hts hin_K_PairBook ty_K_PairBook ty_K_PairBook_ok nm_K_PairBook hown hK hP hD hS 0 rfl rfl 3 (by decide) hf_21 (fun _ h9 => h9) rfl (by decide +kernel) rfl rfl (Nat.le_of_ble_eq_true rfl) d_K_PairBook_forget_26 (fun H locs hP hD hS => ?_)
  have hP : va_P (dC, dI) vwCl [(h, .inr (3, [.ref h_0, .ref h_1, .ref h_2, .int (nI 0)])), (h_0, .inl (cI, 16, .inl (fun _ => 0))), (h_1, .inl (cI, 16, .inl (fun _ => 0))), (h_2, .inl (cI, 12, .inl (fun _ => 0)))] H := hP
  have hD : va_D A [(h, .inr (3, [.ref h_0, .ref h_1, .ref h_2, .int (nI 0)])), (h_0, .inl (cI, 16, .inl (fun _ => 0))), (h_1, .inl (cI, 16, .inl (fun _ => 0))), (h_2, .inl (cI, 12, .inl (fun _ => 0)))] := hD
  have hpost : k_fgPB P = ((fun _ => 0), ((fun _ => 0), ((fun _ => 0), 0))) := by simp only [k_fgPB]
  have hP9 := hP.sub (ws' := [(h, .inr (3, [.ref h_0, .ref h_1, .ref h_2, .int (nI 0)])), (h_0, .inl (cI, 16, .inl (fun _ => 0))), (h_1, .inl (cI, 16, .inl (fun _ => 0))), (h_2, .inl (cI, 12, .inl (fun _ => 0)))]) [0, 1, 2, 3] rfl
  have hD9 := hD.sub (ws' := [(h, .inr (3, [.ref h_0, .ref h_1, .ref h_2, .int (nI 0)])), (h_0, .inl (cI, 16, .inl (fun _ => 0))), (h_1, .inl (cI, 16, .inl (fun _ => 0))), (h_2, .inl (cI, 12, .inl (fun _ => 0)))]) [0, 1, 2, 3] (by decide) rfl
  exact kr_vret hQ hx hb hr hlocks hK hP9 hD9 hS () (by show (wPB cI cJ cC cZ h h_0 h_1 h_2 (k_fgPB P) : va_W) = _; rw [hpost] <;> rfl) d_K_PairBook_forget_29
