set_option maxHeartbeats 4000000 in
set_option maxRecDepth 100000 in
theorem c_Tally_taken (l : Launch) (dC : Nat → ClassId) (dI : Nat → Nat → Nat) (cI cJ cC cZ : ClassId) (σ : kSg) (h h_0 h_1 h_2 : Nat) (P : kTal) (e0 : Nat) (he : e0 < 16) : kC l y_K_Tally_taken ws_K_Tally_taken (kRm 0 0 0 0) (dC, dI) (kTy cI cJ cC cZ) σ (wTal cI cJ cC cZ h h_0 h_1 h_2 P) [.ref h, .int (nI e0)] (kQi (dC, dI) (kTy cI cJ cC cZ) (P.1 e0) (fun _ : Unit => wTal cI cJ cC cZ h h_0 h_1 h_2 P)) 0 0 := by
  refine kr_met (cc := prog_9_method_7_code) (maxL := 2) (ret := (some .int)) (by decide) rfl (Nat.le_of_ble_eq_true rfl) ?_
  intro p e s m args below meth c A Q hQ hx hb hr hml hts hown hlocks hnm hA hP hK hD hSt ls hl
  have hS : va_S A s.heap s.heap [] := va_S.rf
  have hown : s.vm.findClass "KitRunner$Tally" = some m.cls := hown
  have hl : lv_has ls 2 [(0, .ref h), (1, .int (nI e0))] := hl
  have hP : va_P (dC, dI) vwCl [(h, .inr (4, [.ref h_0, .ref h_1, .ref h_2, .int (nI P.2.2.2)])), (h_0, .inl (cI, 16, .inl P.1)), (h_1, .inl (cI, 16, .inl P.2.1)), (h_2, .inl (cI, 16, .inl P.2.2.1))] s.heap := hP
  have hD : va_D A [(h, .inr (4, [.ref h_0, .ref h_1, .ref h_2, .int (nI P.2.2.2)])), (h_0, .inl (cI, 16, .inl P.1)), (h_1, .inl (cI, 16, .inl P.2.1)), (h_2, .inl (cI, 16, .inl P.2.2.1))] := hD
  have hf_9 := hts _ (List.mem_cons_of_mem _ wq_86)
  have hin_K_Tally := fun w (h : w ∈ u_ws "KitRunner$Tally" T_K_Tally 4) => List.mem_cons_of_mem (Cond.code y_K_Tally_taken prog_9_method_7_code 2 (some .int)) (in_K_Tally w h)
  refine lv_aload_n hx hb d_K_Tally_taken_0 rfl (lv_at hl 0 rfl) ?_
  refine va_get (D := (dC, dI)) (ci := 4) (v := .ref h_0) (C := "KitRunner$Tally") (T := T_K_Tally) (N := 4) hx hb hts hin_K_Tally hown hK hP 0 rfl rfl 0 (by decide) hf_9 (fun _ h9 => h9) rfl d_K_Tally_taken_1 ?_
  refine lv_iload_n hx hb d_K_Tally_taken_4 rfl (lv_at hl 1 rfl) ?_
  refine kr_iald (k := e0) hx hb hK hP 1 0 rfl rfl (by omega) (by first | decide | omega) d_K_Tally_taken_5 ?_
  have hP9 := hP.sub (ws' := [(h, .inr (4, [.ref h_0, .ref h_1, .ref h_2, .int (nI P.2.2.2)])), (h_0, .inl (cI, 16, .inl P.1)), (h_1, .inl (cI, 16, .inl P.2.1)), (h_2, .inl (cI, 16, .inl P.2.2.1))]) [0, 1, 2, 3] rfl
  have hD9 := hD.sub (ws' := [(h, .inr (4, [.ref h_0, .ref h_1, .ref h_2, .int (nI P.2.2.2)])), (h_0, .inl (cI, 16, .inl P.1)), (h_1, .inl (cI, 16, .inl P.2.1)), (h_2, .inl (cI, 16, .inl P.2.2.1))]) [0, 1, 2, 3] (by decide) rfl
  exact kr_iret (v := (P.1 e0)) hQ hx hb hr hlocks hK hP9 hD9 hS rfl () rfl d_K_Tally_taken_6
set_option maxHeartbeats 4000000 in
set_option maxRecDepth 100000 in
theorem c_Tally_failed (l : Launch) (dC : Nat → ClassId) (dI : Nat → Nat → Nat) (cI cJ cC cZ : ClassId) (σ : kSg) (h h_0 h_1 h_2 : Nat) (P : kTal) (e0 : Nat) (he : e0 < 16) : kC l y_K_Tally_failed ws_K_Tally_failed (kRm 0 0 0 0) (dC, dI) (kTy cI cJ cC cZ) σ (wTal cI cJ cC cZ h h_0 h_1 h_2 P) [.ref h, .int (nI e0)] (kQi (dC, dI) (kTy cI cJ cC cZ) (P.2.1 e0) (fun _ : Unit => wTal cI cJ cC cZ h h_0 h_1 h_2 P)) 0 0 := by
  refine kr_met (cc := prog_9_method_8_code) (maxL := 2) (ret := (some .int)) (by decide) rfl (Nat.le_of_ble_eq_true rfl) ?_
  intro p e s m args below meth c A Q hQ hx hb hr hml hts hown hlocks hnm hA hP hK hD hSt ls hl
  have hS : va_S A s.heap s.heap [] := va_S.rf
  have hown : s.vm.findClass "KitRunner$Tally" = some m.cls := hown
  have hl : lv_has ls 2 [(0, .ref h), (1, .int (nI e0))] := hl
  have hP : va_P (dC, dI) vwCl [(h, .inr (4, [.ref h_0, .ref h_1, .ref h_2, .int (nI P.2.2.2)])), (h_0, .inl (cI, 16, .inl P.1)), (h_1, .inl (cI, 16, .inl P.2.1)), (h_2, .inl (cI, 16, .inl P.2.2.1))] s.heap := hP
  have hD : va_D A [(h, .inr (4, [.ref h_0, .ref h_1, .ref h_2, .int (nI P.2.2.2)])), (h_0, .inl (cI, 16, .inl P.1)), (h_1, .inl (cI, 16, .inl P.2.1)), (h_2, .inl (cI, 16, .inl P.2.2.1))] := hD
  have hf_15 := hts _ (List.mem_cons_of_mem _ wq_87)
  have hin_K_Tally := fun w (h : w ∈ u_ws "KitRunner$Tally" T_K_Tally 4) => List.mem_cons_of_mem (Cond.code y_K_Tally_failed prog_9_method_8_code 2 (some .int)) (in_K_Tally w h)
  refine lv_aload_n hx hb d_K_Tally_failed_0 rfl (lv_at hl 0 rfl) ?_
  refine va_get (D := (dC, dI)) (ci := 4) (v := .ref h_1) (C := "KitRunner$Tally") (T := T_K_Tally) (N := 4) hx hb hts hin_K_Tally hown hK hP 0 rfl rfl 1 (by decide) hf_15 (fun _ h9 => h9) rfl d_K_Tally_failed_1 ?_
  refine lv_iload_n hx hb d_K_Tally_failed_4 rfl (lv_at hl 1 rfl) ?_
  refine kr_iald (k := e0) hx hb hK hP 2 0 rfl rfl (by omega) (by first | decide | omega) d_K_Tally_failed_5 ?_
  have hP9 := hP.sub (ws' := [(h, .inr (4, [.ref h_0, .ref h_1, .ref h_2, .int (nI P.2.2.2)])), (h_0, .inl (cI, 16, .inl P.1)), (h_1, .inl (cI, 16, .inl P.2.1)), (h_2, .inl (cI, 16, .inl P.2.2.1))]) [0, 1, 2, 3] rfl
  have hD9 := hD.sub (ws' := [(h, .inr (4, [.ref h_0, .ref h_1, .ref h_2, .int (nI P.2.2.2)])), (h_0, .inl (cI, 16, .inl P.1)), (h_1, .inl (cI, 16, .inl P.2.1)), (h_2, .inl (cI, 16, .inl P.2.2.1))]) [0, 1, 2, 3] (by decide) rfl
  exact kr_iret (v := (P.2.1 e0)) hQ hx hb hr hlocks hK hP9 hD9 hS rfl () rfl d_K_Tally_failed_6
set_option maxHeartbeats 4000000 in
set_option maxRecDepth 100000 in
theorem c_Tally_marks (l : Launch) (dC : Nat → ClassId) (dI : Nat → Nat → Nat) (cI cJ cC cZ : ClassId) (σ : kSg) (h h_0 h_1 h_2 : Nat) (P : kTal) (e0 : Nat) (he : e0 < 16) : kC l y_K_Tally_marks ws_K_Tally_marks (kRm 0 0 0 0) (dC, dI) (kTy cI cJ cC cZ) σ (wTal cI cJ cC cZ h h_0 h_1 h_2 P) [.ref h, .int (nI e0)] (kQi (dC, dI) (kTy cI cJ cC cZ) (P.2.2.1 e0) (fun _ : Unit => wTal cI cJ cC cZ h h_0 h_1 h_2 P)) 0 0 := by
  refine kr_met (cc := prog_9_method_9_code) (maxL := 2) (ret := (some .int)) (by decide) rfl (Nat.le_of_ble_eq_true rfl) ?_
  intro p e s m args below meth c A Q hQ hx hb hr hml hts hown hlocks hnm hA hP hK hD hSt ls hl
  have hS : va_S A s.heap s.heap [] := va_S.rf
  have hown : s.vm.findClass "KitRunner$Tally" = some m.cls := hown
  have hl : lv_has ls 2 [(0, .ref h), (1, .int (nI e0))] := hl
  have hP : va_P (dC, dI) vwCl [(h, .inr (4, [.ref h_0, .ref h_1, .ref h_2, .int (nI P.2.2.2)])), (h_0, .inl (cI, 16, .inl P.1)), (h_1, .inl (cI, 16, .inl P.2.1)), (h_2, .inl (cI, 16, .inl P.2.2.1))] s.heap := hP
  have hD : va_D A [(h, .inr (4, [.ref h_0, .ref h_1, .ref h_2, .int (nI P.2.2.2)])), (h_0, .inl (cI, 16, .inl P.1)), (h_1, .inl (cI, 16, .inl P.2.1)), (h_2, .inl (cI, 16, .inl P.2.2.1))] := hD
  have hf_18 := hts _ (List.mem_cons_of_mem _ wq_88)
  have hin_K_Tally := fun w (h : w ∈ u_ws "KitRunner$Tally" T_K_Tally 4) => List.mem_cons_of_mem (Cond.code y_K_Tally_marks prog_9_method_9_code 2 (some .int)) (in_K_Tally w h)
  refine lv_aload_n hx hb d_K_Tally_marks_0 rfl (lv_at hl 0 rfl) ?_
  refine va_get (D := (dC, dI)) (ci := 4) (v := .ref h_2) (C := "KitRunner$Tally") (T := T_K_Tally) (N := 4) hx hb hts hin_K_Tally hown hK hP 0 rfl rfl 2 (by decide) hf_18 (fun _ h9 => h9) rfl d_K_Tally_marks_1 ?_
  refine lv_iload_n hx hb d_K_Tally_marks_4 rfl (lv_at hl 1 rfl) ?_
  refine kr_iald (k := e0) hx hb hK hP 3 0 rfl rfl (by omega) (by first | decide | omega) d_K_Tally_marks_5 ?_
  have hP9 := hP.sub (ws' := [(h, .inr (4, [.ref h_0, .ref h_1, .ref h_2, .int (nI P.2.2.2)])), (h_0, .inl (cI, 16, .inl P.1)), (h_1, .inl (cI, 16, .inl P.2.1)), (h_2, .inl (cI, 16, .inl P.2.2.1))]) [0, 1, 2, 3] rfl
  have hD9 := hD.sub (ws' := [(h, .inr (4, [.ref h_0, .ref h_1, .ref h_2, .int (nI P.2.2.2)])), (h_0, .inl (cI, 16, .inl P.1)), (h_1, .inl (cI, 16, .inl P.2.1)), (h_2, .inl (cI, 16, .inl P.2.2.1))]) [0, 1, 2, 3] (by decide) rfl
  exact kr_iret (v := (P.2.2.1 e0)) hQ hx hb hr hlocks hK hP9 hD9 hS rfl () rfl d_K_Tally_marks_6
set_option maxHeartbeats 4000000 in
set_option maxRecDepth 100000 in
theorem c_Tally_leftOut (l : Launch) (dC : Nat → ClassId) (dI : Nat → Nat → Nat) (cI cJ cC cZ : ClassId) (σ : kSg) (h h_0 h_1 h_2 : Nat) (P : kTal) : kC l y_K_Tally_leftOut ws_K_Tally_leftOut (kRm 0 0 0 0) (dC, dI) (kTy cI cJ cC cZ) σ (wTal cI cJ cC cZ h h_0 h_1 h_2 P) [.ref h] (kQi (dC, dI) (kTy cI cJ cC cZ) (nI P.2.2.2) (fun _ : Unit => wTal cI cJ cC cZ h h_0 h_1 h_2 P)) 0 0 := by
  refine kr_met (cc := prog_9_method_6_code) (maxL := 1) (ret := (some .int)) (by decide) rfl (Nat.le_of_ble_eq_true rfl) ?_
  intro p e s m args below meth c A Q hQ hx hb hr hml hts hown hlocks hnm hA hP hK hD hSt ls hl
  have hS : va_S A s.heap s.heap [] := va_S.rf
  have hown : s.vm.findClass "KitRunner$Tally" = some m.cls := hown
  have hl : lv_has ls 1 [(0, .ref h)] := hl
  have hP : va_P (dC, dI) vwCl [(h, .inr (4, [.ref h_0, .ref h_1, .ref h_2, .int (nI P.2.2.2)])), (h_0, .inl (cI, 16, .inl P.1)), (h_1, .inl (cI, 16, .inl P.2.1)), (h_2, .inl (cI, 16, .inl P.2.2.1))] s.heap := hP
  have hD : va_D A [(h, .inr (4, [.ref h_0, .ref h_1, .ref h_2, .int (nI P.2.2.2)])), (h_0, .inl (cI, 16, .inl P.1)), (h_1, .inl (cI, 16, .inl P.2.1)), (h_2, .inl (cI, 16, .inl P.2.2.1))] := hD
  have hf_21 := hts _ (List.mem_cons_of_mem _ wq_89)
  have hin_K_Tally := fun w (h : w ∈ u_ws "KitRunner$Tally" T_K_Tally 4) => List.mem_cons_of_mem (Cond.code y_K_Tally_leftOut prog_9_method_6_code 1 (some .int)) (in_K_Tally w h)
  refine lv_aload_n hx hb d_K_Tally_leftOut_0 rfl (lv_at hl 0 rfl) ?_
  refine va_get (D := (dC, dI)) (ci := 4) (v := .int (nI P.2.2.2)) (C := "KitRunner$Tally") (T := T_K_Tally) (N := 4) hx hb hts hin_K_Tally hown hK hP 0 rfl rfl 3 (by decide) hf_21 (fun _ h9 => h9) rfl d_K_Tally_leftOut_1 ?_
  have hP9 := hP.sub (ws' := [(h, .inr (4, [.ref h_0, .ref h_1, .ref h_2, .int (nI P.2.2.2)])), (h_0, .inl (cI, 16, .inl P.1)), (h_1, .inl (cI, 16, .inl P.2.1)), (h_2, .inl (cI, 16, .inl P.2.2.1))]) [0, 1, 2, 3] rfl
  have hD9 := hD.sub (ws' := [(h, .inr (4, [.ref h_0, .ref h_1, .ref h_2, .int (nI P.2.2.2)])), (h_0, .inl (cI, 16, .inl P.1)), (h_1, .inl (cI, 16, .inl P.2.1)), (h_2, .inl (cI, 16, .inl P.2.2.1))]) [0, 1, 2, 3] (by decide) rfl
  exact kr_iret (v := (nI P.2.2.2)) hQ hx hb hr hlocks hK hP9 hD9 hS rfl () rfl d_K_Tally_leftOut_4
set_option maxHeartbeats 4000000 in
set_option maxRecDepth 100000 in
theorem c_Tally_noteLeftOut (l : Launch) (dC : Nat → ClassId) (dI : Nat → Nat → Nat) (cI cJ cC cZ : ClassId) (σ : kSg) (h h_0 h_1 h_2 : Nat) (P : kTal) : kC l y_K_Tally_noteLeftOut ws_K_Tally_noteLeftOut (kRm 0 0 0 0) (dC, dI) (kTy cI cJ cC cZ) σ (wTal cI cJ cC cZ h h_0 h_1 h_2 P) [.ref h] (kQv (dC, dI) (kTy cI cJ cC cZ) (fun _ : Unit => wTal cI cJ cC cZ h h_0 h_1 h_2 (k_noteLO P))) 0 0 := by
  refine kr_met (cc := prog_9_method_3_code) (maxL := 1) (ret := none) (by decide) rfl (Nat.le_of_ble_eq_true rfl) ?_
  intro p e s m args below meth c A Q hQ hx hb hr hml hts hown hlocks hnm hA hP hK hD hSt ls hl
  have hS : va_S A s.heap s.heap [] := va_S.rf
  have hown : s.vm.findClass "KitRunner$Tally" = some m.cls := hown
  have hl : lv_has ls 1 [(0, .ref h)] := hl
  have hP : va_P (dC, dI) vwCl [(h, .inr (4, [.ref h_0, .ref h_1, .ref h_2, .int (nI P.2.2.2)])), (h_0, .inl (cI, 16, .inl P.1)), (h_1, .inl (cI, 16, .inl P.2.1)), (h_2, .inl (cI, 16, .inl P.2.2.1))] s.heap := hP
  have hD : va_D A [(h, .inr (4, [.ref h_0, .ref h_1, .ref h_2, .int (nI P.2.2.2)])), (h_0, .inl (cI, 16, .inl P.1)), (h_1, .inl (cI, 16, .inl P.2.1)), (h_2, .inl (cI, 16, .inl P.2.2.1))] := hD
  have hf_21 := hts _ (List.mem_cons_of_mem _ wq_89)
  have hin_K_Tally := fun w (h : w ∈ u_ws "KitRunner$Tally" T_K_Tally 4) => List.mem_cons_of_mem (Cond.code y_K_Tally_noteLeftOut prog_9_method_3_code 1 none) (in_K_Tally w h)
  refine lv_aload_n hx hb d_K_Tally_noteLeftOut_0 rfl (lv_at hl 0 rfl) ?_
  refine lv_dup hx hb d_K_Tally_noteLeftOut_1 rfl ?_
  refine va_get (D := (dC, dI)) (ci := 4) (v := .int (nI P.2.2.2)) (C := "KitRunner$Tally") (T := T_K_Tally) (N := 4) hx hb hts hin_K_Tally hown hK hP 0 rfl rfl 3 (by decide) hf_21 (fun _ h9 => h9) rfl d_K_Tally_noteLeftOut_2 ?_
  refine lv_iconst (v := 1) hx hb d_K_Tally_noteLeftOut_5 (by decide) ?_
  refine lv_iadd hx hb d_K_Tally_noteLeftOut_6 ?_
  refine kr_topi (x := (nI P.2.2.2) + 1) (y := nI (P.2.2.2 + 1)) (nI_add P.2.2.2 1) ?_
  refine va_put (D := (dC, dI)) (ci := 4) (v := .int (nI (P.2.2.2 + 1))) (ty := .int) (C := "KitRunner$Tally") (T := T_K_Tally) (N := 4) hx hb hts hin_K_Tally ty_K_Tally ty_K_Tally_ok nm_K_Tally hown hK hP hD hS 0 rfl rfl 3 (by decide) hf_21 (fun _ h9 => h9) rfl (by decide +kernel) rfl rfl (Nat.le_of_ble_eq_true rfl) d_K_Tally_noteLeftOut_7 (fun H locs hP hD hS => ?_)
  have hP : va_P (dC, dI) vwCl [(h, .inr (4, [.ref h_0, .ref h_1, .ref h_2, .int (nI (P.2.2.2 + 1))])), (h_0, .inl (cI, 16, .inl P.1)), (h_1, .inl (cI, 16, .inl P.2.1)), (h_2, .inl (cI, 16, .inl P.2.2.1))] H := hP
  have hD : va_D A [(h, .inr (4, [.ref h_0, .ref h_1, .ref h_2, .int (nI (P.2.2.2 + 1))])), (h_0, .inl (cI, 16, .inl P.1)), (h_1, .inl (cI, 16, .inl P.2.1)), (h_2, .inl (cI, 16, .inl P.2.2.1))] := hD
  have hpost : k_noteLO P = (P.1, (P.2.1, (P.2.2.1, P.2.2.2 + 1))) := by simp only [k_noteLO]
  have hP9 := hP.sub (ws' := [(h, .inr (4, [.ref h_0, .ref h_1, .ref h_2, .int (nI (P.2.2.2 + 1))])), (h_0, .inl (cI, 16, .inl P.1)), (h_1, .inl (cI, 16, .inl P.2.1)), (h_2, .inl (cI, 16, .inl P.2.2.1))]) [0, 1, 2, 3] rfl
  have hD9 := hD.sub (ws' := [(h, .inr (4, [.ref h_0, .ref h_1, .ref h_2, .int (nI (P.2.2.2 + 1))])), (h_0, .inl (cI, 16, .inl P.1)), (h_1, .inl (cI, 16, .inl P.2.1)), (h_2, .inl (cI, 16, .inl P.2.2.1))]) [0, 1, 2, 3] (by decide) rfl
  exact kr_vret hQ hx hb hr hlocks hK hP9 hD9 hS () (by show (wTal cI cJ cC cZ h h_0 h_1 h_2 (k_noteLO P) : va_W) = _; rw [hpost] <;> rfl) d_K_Tally_noteLeftOut_10
set_option maxHeartbeats 4000000 in
set_option maxRecDepth 100000 in
theorem c_Tally_noteFailed (l : Launch) (dC : Nat → ClassId) (dI : Nat → Nat → Nat) (cI cJ cC cZ : ClassId) (σ : kSg) (h h_0 h_1 h_2 : Nat) (P : kTal) (e0 : Nat) (he : e0 < 16) : kC l y_K_Tally_noteFailed ws_K_Tally_noteFailed (kRm 0 0 0 0) (dC, dI) (kTy cI cJ cC cZ) σ (wTal cI cJ cC cZ h h_0 h_1 h_2 P) [.ref h, .int (nI e0)] (kQv (dC, dI) (kTy cI cJ cC cZ) (fun _ : Unit => wTal cI cJ cC cZ h h_0 h_1 h_2 (k_noteF P e0))) 0 0 := by
  refine kr_met (cc := prog_9_method_5_code) (maxL := 2) (ret := none) (by decide) rfl (Nat.le_of_ble_eq_true rfl) ?_
  intro p e s m args below meth c A Q hQ hx hb hr hml hts hown hlocks hnm hA hP hK hD hSt ls hl
  have hS : va_S A s.heap s.heap [] := va_S.rf
  have hown : s.vm.findClass "KitRunner$Tally" = some m.cls := hown
  have hl : lv_has ls 2 [(0, .ref h), (1, .int (nI e0))] := hl
  have hP : va_P (dC, dI) vwCl [(h, .inr (4, [.ref h_0, .ref h_1, .ref h_2, .int (nI P.2.2.2)])), (h_0, .inl (cI, 16, .inl P.1)), (h_1, .inl (cI, 16, .inl P.2.1)), (h_2, .inl (cI, 16, .inl P.2.2.1))] s.heap := hP
  have hD : va_D A [(h, .inr (4, [.ref h_0, .ref h_1, .ref h_2, .int (nI P.2.2.2)])), (h_0, .inl (cI, 16, .inl P.1)), (h_1, .inl (cI, 16, .inl P.2.1)), (h_2, .inl (cI, 16, .inl P.2.2.1))] := hD
  have hf_15 := hts _ (List.mem_cons_of_mem _ wq_87)
  have hin_K_Tally := fun w (h : w ∈ u_ws "KitRunner$Tally" T_K_Tally 4) => List.mem_cons_of_mem (Cond.code y_K_Tally_noteFailed prog_9_method_5_code 2 none) (in_K_Tally w h)
  refine lv_aload_n hx hb d_K_Tally_noteFailed_0 rfl (lv_at hl 0 rfl) ?_
  refine va_get (D := (dC, dI)) (ci := 4) (v := .ref h_1) (C := "KitRunner$Tally") (T := T_K_Tally) (N := 4) hx hb hts hin_K_Tally hown hK hP 0 rfl rfl 1 (by decide) hf_15 (fun _ h9 => h9) rfl d_K_Tally_noteFailed_1 ?_
  refine lv_iload_n hx hb d_K_Tally_noteFailed_4 rfl (lv_at hl 1 rfl) ?_
  refine lv_dup2_11 hx hb d_K_Tally_noteFailed_5 rfl rfl ?_
  refine kr_iald (k := e0) hx hb hK hP 2 0 rfl rfl (by omega) (by first | decide | omega) d_K_Tally_noteFailed_6 ?_
  refine lv_iconst (v := 1) hx hb d_K_Tally_noteFailed_7 (by decide) ?_
  refine lv_iadd hx hb d_K_Tally_noteFailed_8 ?_
  refine kr_iast (k := e0) hx hb hK hP hD hS 2 0 rfl rfl (by omega) (by first | decide | omega) d_K_Tally_noteFailed_9 (fun H locs hP hD hS => ?_)
  have hP : va_P (dC, dI) vwCl [(h, .inr (4, [.ref h_0, .ref h_1, .ref h_2, .int (nI P.2.2.2)])), (h_0, .inl (cI, 16, .inl P.1)), (h_1, .inl (cI, 16, .inl (upd P.2.1 e0 ((P.2.1 e0) + 1)))), (h_2, .inl (cI, 16, .inl P.2.2.1))] H := hP
  have hD : va_D A [(h, .inr (4, [.ref h_0, .ref h_1, .ref h_2, .int (nI P.2.2.2)])), (h_0, .inl (cI, 16, .inl P.1)), (h_1, .inl (cI, 16, .inl (upd P.2.1 e0 ((P.2.1 e0) + 1)))), (h_2, .inl (cI, 16, .inl P.2.2.1))] := hD
  have hpost : k_noteF P e0 = (P.1, (upd P.2.1 e0 ((P.2.1 e0) + 1), P.2.2)) := by simp only [k_noteF]
  have hP9 := hP.sub (ws' := [(h, .inr (4, [.ref h_0, .ref h_1, .ref h_2, .int (nI P.2.2.2)])), (h_0, .inl (cI, 16, .inl P.1)), (h_1, .inl (cI, 16, .inl (upd P.2.1 e0 ((P.2.1 e0) + 1)))), (h_2, .inl (cI, 16, .inl P.2.2.1))]) [0, 1, 2, 3] rfl
  have hD9 := hD.sub (ws' := [(h, .inr (4, [.ref h_0, .ref h_1, .ref h_2, .int (nI P.2.2.2)])), (h_0, .inl (cI, 16, .inl P.1)), (h_1, .inl (cI, 16, .inl (upd P.2.1 e0 ((P.2.1 e0) + 1)))), (h_2, .inl (cI, 16, .inl P.2.2.1))]) [0, 1, 2, 3] (by decide) rfl
  exact kr_vret hQ hx hb hr hlocks hK hP9 hD9 hS () (by show (wTal cI cJ cC cZ h h_0 h_1 h_2 (k_noteF P e0) : va_W) = _; rw [hpost] <;> rfl) d_K_Tally_noteFailed_10
set_option maxHeartbeats 4000000 in
set_option maxRecDepth 100000 in
theorem c_Tally_noteTaken (l : Launch) (dC : Nat → ClassId) (dI : Nat → Nat → Nat) (cI cJ cC cZ : ClassId) (σ : kSg) (h h_0 h_1 h_2 : Nat) (P : kTal) (e0 : Nat) (g0 : Int64) (he : e0 < 16) : kC l y_K_Tally_noteTaken ws_K_Tally_noteTaken (kRm 2 0 0 42) (dC, dI) (kTy cI cJ cC cZ) σ (wTal cI cJ cC cZ h h_0 h_1 h_2 P) [.ref h, .int (nI e0), .long g0] (kQv (dC, dI) (kTy cI cJ cC cZ) (fun _ : Unit => wTal cI cJ cC cZ h h_0 h_1 h_2 (k_noteT P e0 g0))) 0 0 := by
  refine kr_met (cc := prog_9_method_4_code) (maxL := 4) (ret := none) (by decide) rfl (Nat.le_of_ble_eq_true rfl) ?_
  intro p e s m args below meth c A Q hQ hx hb hr hml hts hown hlocks hnm hA hP hK hD hSt ls hl
  have hS : va_S A s.heap s.heap [] := va_S.rf
  have hown : s.vm.findClass "KitRunner$Tally" = some m.cls := hown
  have hl : lv_has ls 4 [(0, .ref h), (1, .int (nI e0)), (2, .long g0)] := hl
  have hP : va_P (dC, dI) vwCl [(h, .inr (4, [.ref h_0, .ref h_1, .ref h_2, .int (nI P.2.2.2)])), (h_0, .inl (cI, 16, .inl P.1)), (h_1, .inl (cI, 16, .inl P.2.1)), (h_2, .inl (cI, 16, .inl P.2.2.1))] s.heap := hP
  have hD : va_D A [(h, .inr (4, [.ref h_0, .ref h_1, .ref h_2, .int (nI P.2.2.2)])), (h_0, .inl (cI, 16, .inl P.1)), (h_1, .inl (cI, 16, .inl P.2.1)), (h_2, .inl (cI, 16, .inl P.2.2.1))] := hD
  have hf_9 := hts _ (List.mem_cons_of_mem _ wq_86)
  have hin_K_Tally := fun w (h : w ∈ u_ws "KitRunner$Tally" T_K_Tally 4) => List.mem_cons_of_mem (Cond.code y_K_Tally_noteTaken prog_9_method_4_code 4 none) (in_K_Tally w h)
  have hf_18 := hts _ (List.mem_cons_of_mem _ wq_88)
  have hini_K_Tally := hts _ (List.mem_cons_of_mem _ wq_5)
  have hm_31 := hts _ (List.mem_cons_of_mem _ wq_411)
  have hs_31 := hts _ (List.mem_cons_of_mem _ wq_412)
  refine lv_aload_n hx hb d_K_Tally_noteTaken_0 rfl (lv_at hl 0 rfl) ?_
  refine va_get (D := (dC, dI)) (ci := 4) (v := .ref h_0) (C := "KitRunner$Tally") (T := T_K_Tally) (N := 4) hx hb hts hin_K_Tally hown hK hP 0 rfl rfl 0 (by decide) hf_9 (fun _ h9 => h9) rfl d_K_Tally_noteTaken_1 ?_
  refine lv_iload_n hx hb d_K_Tally_noteTaken_4 rfl (lv_at hl 1 rfl) ?_
  refine lv_dup2_11 hx hb d_K_Tally_noteTaken_5 rfl rfl ?_
  refine kr_iald (k := e0) hx hb hK hP 1 0 rfl rfl (by omega) (by first | decide | omega) d_K_Tally_noteTaken_6 ?_
  refine lv_iconst (v := 1) hx hb d_K_Tally_noteTaken_7 (by decide) ?_
  refine lv_iadd hx hb d_K_Tally_noteTaken_8 ?_
  refine kr_iast (k := e0) hx hb hK hP hD hS 1 0 rfl rfl (by omega) (by first | decide | omega) d_K_Tally_noteTaken_9 (fun H locs hP hD hS => ?_)
  have hP : va_P (dC, dI) vwCl [(h, .inr (4, [.ref h_0, .ref h_1, .ref h_2, .int (nI P.2.2.2)])), (h_0, .inl (cI, 16, .inl (upd P.1 e0 ((P.1 e0) + 1)))), (h_1, .inl (cI, 16, .inl P.2.1)), (h_2, .inl (cI, 16, .inl P.2.2.1))] H := hP
  have hD : va_D A [(h, .inr (4, [.ref h_0, .ref h_1, .ref h_2, .int (nI P.2.2.2)])), (h_0, .inl (cI, 16, .inl (upd P.1 e0 ((P.1 e0) + 1)))), (h_1, .inl (cI, 16, .inl P.2.1)), (h_2, .inl (cI, 16, .inl P.2.2.1))] := hD
  refine lv_aload_n hx hb d_K_Tally_noteTaken_10 rfl (lv_at hl 0 rfl) ?_
  refine va_get (D := (dC, dI)) (ci := 4) (v := .ref h_2) (C := "KitRunner$Tally") (T := T_K_Tally) (N := 4) hx hb hts hin_K_Tally hown hK hP 0 rfl rfl 2 (by decide) hf_18 (fun _ h9 => h9) rfl d_K_Tally_noteTaken_11 ?_
  refine lv_iload_n hx hb d_K_Tally_noteTaken_14 rfl (lv_at hl 1 rfl) ?_
  refine lv_dup2_11 hx hb d_K_Tally_noteTaken_15 rfl rfl ?_
  refine kr_iald (k := e0) hx hb hK hP 3 0 rfl rfl (by omega) (by first | decide | omega) d_K_Tally_noteTaken_16 ?_
  refine lv_lload_n hx hb d_K_Tally_noteTaken_17 rfl (lv_at hl 2 rfl) ?_
  have hpre_1 := kr_pre (wc := []) (av := [.long g0]) hK hP hD hS hA hSt [] rfl (by decide)
  refine kj_i (wc := []) (wr := [(h, .inr (4, [.ref h_0, .ref h_1, .ref h_2, .int (nI P.2.2.2)])), (h_0, .inl (cI, 16, .inl (upd P.1 e0 ((P.1 e0) + 1)))), (h_1, .inl (cI, 16, .inl P.2.1)), (h_2, .inl (cI, 16, .inl P.2.2.1))]) (va_runS (As := [.long g0]) (rest := [.int (P.2.2.1 e0), .int (nI e0), .ref h_2]) ⟨hx, hb, hml, hown, hts⟩ (c_Tally_markOf l dC dI cI cJ cC cZ σ g0 _) ⟨(callB_of 1 hts (kg wq_413) rfl rfl rfl hini_K_Tally hm_31 (by decide +kernel) ⟨Nat.le_of_ble_eq_true rfl, Nat.le_of_ble_eq_true rfl⟩), hs_31⟩ hpre_1 rfl rfl hl.1 rfl (lv_room (Nat.le_of_ble_eq_true rfl)) d_K_Tally_noteTaken_18 ⟨Nat.le_of_ble_eq_true rfl, Nat.le_of_ble_eq_true rfl⟩) hP hD hS hA [] [0, 1, 2, 3] rfl rfl (by decide) (by decide) (fun _ H locs hP hD hS => ?_)
  have hP : va_P (dC, dI) vwCl [(h, .inr (4, [.ref h_0, .ref h_1, .ref h_2, .int (nI P.2.2.2)])), (h_0, .inl (cI, 16, .inl (upd P.1 e0 ((P.1 e0) + 1)))), (h_1, .inl (cI, 16, .inl P.2.1)), (h_2, .inl (cI, 16, .inl P.2.2.1))] H := hP
  have hD : va_D A [(h, .inr (4, [.ref h_0, .ref h_1, .ref h_2, .int (nI P.2.2.2)])), (h_0, .inl (cI, 16, .inl (upd P.1 e0 ((P.1 e0) + 1)))), (h_1, .inl (cI, 16, .inl P.2.1)), (h_2, .inl (cI, 16, .inl P.2.2.1))] := hD
  refine lv_ior hx hb d_K_Tally_noteTaken_21 ?_
  refine kr_iast (k := e0) hx hb hK hP hD hS 3 0 rfl rfl (by omega) (by first | decide | omega) d_K_Tally_noteTaken_22 (fun H locs hP hD hS => ?_)
  have hP : va_P (dC, dI) vwCl [(h, .inr (4, [.ref h_0, .ref h_1, .ref h_2, .int (nI P.2.2.2)])), (h_0, .inl (cI, 16, .inl (upd P.1 e0 ((P.1 e0) + 1)))), (h_1, .inl (cI, 16, .inl P.2.1)), (h_2, .inl (cI, 16, .inl (upd P.2.2.1 e0 ((P.2.2.1 e0) ||| (k_mk g0)))))] H := hP
  have hD : va_D A [(h, .inr (4, [.ref h_0, .ref h_1, .ref h_2, .int (nI P.2.2.2)])), (h_0, .inl (cI, 16, .inl (upd P.1 e0 ((P.1 e0) + 1)))), (h_1, .inl (cI, 16, .inl P.2.1)), (h_2, .inl (cI, 16, .inl (upd P.2.2.1 e0 ((P.2.2.1 e0) ||| (k_mk g0)))))] := hD
  have hpost : k_noteT P e0 g0 = (upd P.1 e0 ((P.1 e0) + 1), (P.2.1, (upd P.2.2.1 e0 ((P.2.2.1 e0) ||| (k_mk g0)), P.2.2.2))) := by simp only [k_noteT]
  have hP9 := hP.sub (ws' := [(h, .inr (4, [.ref h_0, .ref h_1, .ref h_2, .int (nI P.2.2.2)])), (h_0, .inl (cI, 16, .inl (upd P.1 e0 ((P.1 e0) + 1)))), (h_1, .inl (cI, 16, .inl P.2.1)), (h_2, .inl (cI, 16, .inl (upd P.2.2.1 e0 ((P.2.2.1 e0) ||| (k_mk g0)))))]) [0, 1, 2, 3] rfl
  have hD9 := hD.sub (ws' := [(h, .inr (4, [.ref h_0, .ref h_1, .ref h_2, .int (nI P.2.2.2)])), (h_0, .inl (cI, 16, .inl (upd P.1 e0 ((P.1 e0) + 1)))), (h_1, .inl (cI, 16, .inl P.2.1)), (h_2, .inl (cI, 16, .inl (upd P.2.2.1 e0 ((P.2.2.1 e0) ||| (k_mk g0)))))]) [0, 1, 2, 3] (by decide) rfl
  exact kr_vret hQ hx hb hr hlocks hK hP9 hD9 hS () (by show (wTal cI cJ cC cZ h h_0 h_1 h_2 (k_noteT P e0 g0) : va_W) = _; rw [hpost] <;> rfl) d_K_Tally_noteTaken_23
set_option maxHeartbeats 4000000 in
set_option maxRecDepth 100000 in
theorem c_FailureList_forget (l : Launch) (dC : Nat → ClassId) (dI : Nat → Nat → Nat) (cI cJ cC cZ : ClassId) (σ : kSg) (h h_0 h_1 h_2 h_3 h_4 : Nat) (P : kFL) : kC l y_K_FailureList_forget ws_K_FailureList_forget (kRm 0 0 0 0) (dC, dI) (kTy cI cJ cC cZ) σ (wFL cI cJ cC cZ h h_0 h_1 h_2 h_3 h_4 P) [.ref h] (kQv (dC, dI) (kTy cI cJ cC cZ) (fun _ : Unit => wFL cI cJ cC cZ h h_0 h_1 h_2 h_3 h_4 (k_fgFL P))) 0 0 := by
  refine kr_met (cc := prog_4_method_2_code) (maxL := 1) (ret := none) (by decide) rfl (Nat.le_of_ble_eq_true rfl) ?_
  intro p e s m args below meth c A Q hQ hx hb hr hml hts hown hlocks hnm hA hP hK hD hSt ls hl
  have hS : va_S A s.heap s.heap [] := va_S.rf
  have hown : s.vm.findClass "KitRunner$FailureList" = some m.cls := hown
  have hl : lv_has ls 1 [(0, .ref h)] := hl
  have hP : va_P (dC, dI) vwCl [(h, .inr (5, [.ref h_0, .ref h_1, .ref h_2, .ref h_3, .ref h_4, .int (nI P.2.2.2.2.2)])), (h_0, .inl (cI, 12, .inl P.1)), (h_1, .inl (cI, 12, .inl P.2.1)), (h_2, .inl (cI, 12, .inl P.2.2.1)), (h_3, .inl (cJ, 12, .inr (.inl P.2.2.2.1))), (h_4, .inl (cJ, 12, .inr (.inl P.2.2.2.2.1)))] s.heap := hP
  have hD : va_D A [(h, .inr (5, [.ref h_0, .ref h_1, .ref h_2, .ref h_3, .ref h_4, .int (nI P.2.2.2.2.2)])), (h_0, .inl (cI, 12, .inl P.1)), (h_1, .inl (cI, 12, .inl P.2.1)), (h_2, .inl (cI, 12, .inl P.2.2.1)), (h_3, .inl (cJ, 12, .inr (.inl P.2.2.2.1))), (h_4, .inl (cJ, 12, .inr (.inl P.2.2.2.2.1)))] := hD
  have hf_28 := hts _ (List.mem_cons_of_mem _ wq_110)
  have hin_K_FailureList := fun w (h : w ∈ u_ws "KitRunner$FailureList" T_K_FailureList 6) => List.mem_cons_of_mem (Cond.code y_K_FailureList_forget prog_4_method_2_code 1 none) (in_K_FailureList w h)
  refine lv_aload_n hx hb d_K_FailureList_forget_0 rfl (lv_at hl 0 rfl) ?_
  refine lv_iconst (v := 0) hx hb d_K_FailureList_forget_1 (by decide) ?_
  refine va_put (D := (dC, dI)) (ci := 5) (v := .int 0) (ty := .int) (C := "KitRunner$FailureList") (T := T_K_FailureList) (N := 6) hx hb hts hin_K_FailureList ty_K_FailureList ty_K_FailureList_ok nm_K_FailureList hown hK hP hD hS 0 rfl rfl 5 (by decide) hf_28 (fun _ h9 => h9) rfl (by decide +kernel) rfl rfl (Nat.le_of_ble_eq_true rfl) d_K_FailureList_forget_2 (fun H locs hP hD hS => ?_)
  have hP : va_P (dC, dI) vwCl [(h, .inr (5, [.ref h_0, .ref h_1, .ref h_2, .ref h_3, .ref h_4, .int (nI 0)])), (h_0, .inl (cI, 12, .inl P.1)), (h_1, .inl (cI, 12, .inl P.2.1)), (h_2, .inl (cI, 12, .inl P.2.2.1)), (h_3, .inl (cJ, 12, .inr (.inl P.2.2.2.1))), (h_4, .inl (cJ, 12, .inr (.inl P.2.2.2.2.1)))] H := hP
  have hD : va_D A [(h, .inr (5, [.ref h_0, .ref h_1, .ref h_2, .ref h_3, .ref h_4, .int (nI 0)])), (h_0, .inl (cI, 12, .inl P.1)), (h_1, .inl (cI, 12, .inl P.2.1)), (h_2, .inl (cI, 12, .inl P.2.2.1)), (h_3, .inl (cJ, 12, .inr (.inl P.2.2.2.1))), (h_4, .inl (cJ, 12, .inr (.inl P.2.2.2.2.1)))] := hD
  have hpost : k_fgFL P = (P.1, (P.2.1, (P.2.2.1, (P.2.2.2.1, (P.2.2.2.2.1, 0))))) := by simp only [k_fgFL]
  have hP9 := hP.sub (ws' := [(h, .inr (5, [.ref h_0, .ref h_1, .ref h_2, .ref h_3, .ref h_4, .int (nI 0)])), (h_0, .inl (cI, 12, .inl P.1)), (h_1, .inl (cI, 12, .inl P.2.1)), (h_2, .inl (cI, 12, .inl P.2.2.1)), (h_3, .inl (cJ, 12, .inr (.inl P.2.2.2.1))), (h_4, .inl (cJ, 12, .inr (.inl P.2.2.2.2.1)))]) [0, 1, 2, 3, 4, 5] rfl
  have hD9 := hD.sub (ws' := [(h, .inr (5, [.ref h_0, .ref h_1, .ref h_2, .ref h_3, .ref h_4, .int (nI 0)])), (h_0, .inl (cI, 12, .inl P.1)), (h_1, .inl (cI, 12, .inl P.2.1)), (h_2, .inl (cI, 12, .inl P.2.2.1)), (h_3, .inl (cJ, 12, .inr (.inl P.2.2.2.1))), (h_4, .inl (cJ, 12, .inr (.inl P.2.2.2.2.1)))]) [0, 1, 2, 3, 4, 5] (by decide) rfl
  exact kr_vret hQ hx hb hr hlocks hK hP9 hD9 hS () (by show (wFL cI cJ cC cZ h h_0 h_1 h_2 h_3 h_4 (k_fgFL P) : va_W) = _; rw [hpost] <;> rfl) d_K_FailureList_forget_5
set_option maxHeartbeats 4000000 in
set_option maxRecDepth 100000 in
theorem c_FailureList_held (l : Launch) (dC : Nat → ClassId) (dI : Nat → Nat → Nat) (cI cJ cC cZ : ClassId) (σ : kSg) (h h_0 h_1 h_2 h_3 h_4 : Nat) (P : kFL) : kC l y_K_FailureList_held ws_K_FailureList_held (kRm 0 0 0 0) (dC, dI) (kTy cI cJ cC cZ) σ (wFL cI cJ cC cZ h h_0 h_1 h_2 h_3 h_4 P) [.ref h] (kQi (dC, dI) (kTy cI cJ cC cZ) (nI P.2.2.2.2.2) (fun _ : Unit => wFL cI cJ cC cZ h h_0 h_1 h_2 h_3 h_4 P)) 0 0 := by
  refine kr_met (cc := prog_4_method_3_code) (maxL := 1) (ret := (some .int)) (by decide) rfl (Nat.le_of_ble_eq_true rfl) ?_
  intro p e s m args below meth c A Q hQ hx hb hr hml hts hown hlocks hnm hA hP hK hD hSt ls hl
  have hS : va_S A s.heap s.heap [] := va_S.rf
  have hown : s.vm.findClass "KitRunner$FailureList" = some m.cls := hown
  have hl : lv_has ls 1 [(0, .ref h)] := hl
  have hP : va_P (dC, dI) vwCl [(h, .inr (5, [.ref h_0, .ref h_1, .ref h_2, .ref h_3, .ref h_4, .int (nI P.2.2.2.2.2)])), (h_0, .inl (cI, 12, .inl P.1)), (h_1, .inl (cI, 12, .inl P.2.1)), (h_2, .inl (cI, 12, .inl P.2.2.1)), (h_3, .inl (cJ, 12, .inr (.inl P.2.2.2.1))), (h_4, .inl (cJ, 12, .inr (.inl P.2.2.2.2.1)))] s.heap := hP
  have hD : va_D A [(h, .inr (5, [.ref h_0, .ref h_1, .ref h_2, .ref h_3, .ref h_4, .int (nI P.2.2.2.2.2)])), (h_0, .inl (cI, 12, .inl P.1)), (h_1, .inl (cI, 12, .inl P.2.1)), (h_2, .inl (cI, 12, .inl P.2.2.1)), (h_3, .inl (cJ, 12, .inr (.inl P.2.2.2.1))), (h_4, .inl (cJ, 12, .inr (.inl P.2.2.2.2.1)))] := hD
  have hf_28 := hts _ (List.mem_cons_of_mem _ wq_110)
  have hin_K_FailureList := fun w (h : w ∈ u_ws "KitRunner$FailureList" T_K_FailureList 6) => List.mem_cons_of_mem (Cond.code y_K_FailureList_held prog_4_method_3_code 1 (some .int)) (in_K_FailureList w h)
  refine lv_aload_n hx hb d_K_FailureList_held_0 rfl (lv_at hl 0 rfl) ?_
  refine va_get (D := (dC, dI)) (ci := 5) (v := .int (nI P.2.2.2.2.2)) (C := "KitRunner$FailureList") (T := T_K_FailureList) (N := 6) hx hb hts hin_K_FailureList hown hK hP 0 rfl rfl 5 (by decide) hf_28 (fun _ h9 => h9) rfl d_K_FailureList_held_1 ?_
  have hP9 := hP.sub (ws' := [(h, .inr (5, [.ref h_0, .ref h_1, .ref h_2, .ref h_3, .ref h_4, .int (nI P.2.2.2.2.2)])), (h_0, .inl (cI, 12, .inl P.1)), (h_1, .inl (cI, 12, .inl P.2.1)), (h_2, .inl (cI, 12, .inl P.2.2.1)), (h_3, .inl (cJ, 12, .inr (.inl P.2.2.2.1))), (h_4, .inl (cJ, 12, .inr (.inl P.2.2.2.2.1)))]) [0, 1, 2, 3, 4, 5] rfl
  have hD9 := hD.sub (ws' := [(h, .inr (5, [.ref h_0, .ref h_1, .ref h_2, .ref h_3, .ref h_4, .int (nI P.2.2.2.2.2)])), (h_0, .inl (cI, 12, .inl P.1)), (h_1, .inl (cI, 12, .inl P.2.1)), (h_2, .inl (cI, 12, .inl P.2.2.1)), (h_3, .inl (cJ, 12, .inr (.inl P.2.2.2.1))), (h_4, .inl (cJ, 12, .inr (.inl P.2.2.2.2.1)))]) [0, 1, 2, 3, 4, 5] (by decide) rfl
  exact kr_iret (v := (nI P.2.2.2.2.2)) hQ hx hb hr hlocks hK hP9 hD9 hS rfl () rfl d_K_FailureList_held_4
set_option maxHeartbeats 4000000 in
set_option maxRecDepth 100000 in
theorem c_FailureList_entry (l : Launch) (dC : Nat → ClassId) (dI : Nat → Nat → Nat) (cI cJ cC cZ : ClassId) (σ : kSg) (h h_0 h_1 h_2 h_3 h_4 : Nat) (P : kFL) (i0 : Nat) (hi0 : i0 < 12) : kC l y_K_FailureList_entry ws_K_FailureList_entry (kRm 0 0 0 0) (dC, dI) (kTy cI cJ cC cZ) σ (wFL cI cJ cC cZ h h_0 h_1 h_2 h_3 h_4 P) [.ref h, .int (nI i0)] (kQi (dC, dI) (kTy cI cJ cC cZ) (P.1 i0) (fun _ : Unit => wFL cI cJ cC cZ h h_0 h_1 h_2 h_3 h_4 P)) 0 0 := by
  refine kr_met (cc := prog_4_method_5_code) (maxL := 2) (ret := (some .int)) (by decide) rfl (Nat.le_of_ble_eq_true rfl) ?_
  intro p e s m args below meth c A Q hQ hx hb hr hml hts hown hlocks hnm hA hP hK hD hSt ls hl
  have hS : va_S A s.heap s.heap [] := va_S.rf
  have hown : s.vm.findClass "KitRunner$FailureList" = some m.cls := hown
  have hl : lv_has ls 2 [(0, .ref h), (1, .int (nI i0))] := hl
  have hP : va_P (dC, dI) vwCl [(h, .inr (5, [.ref h_0, .ref h_1, .ref h_2, .ref h_3, .ref h_4, .int (nI P.2.2.2.2.2)])), (h_0, .inl (cI, 12, .inl P.1)), (h_1, .inl (cI, 12, .inl P.2.1)), (h_2, .inl (cI, 12, .inl P.2.2.1)), (h_3, .inl (cJ, 12, .inr (.inl P.2.2.2.1))), (h_4, .inl (cJ, 12, .inr (.inl P.2.2.2.2.1)))] s.heap := hP
  have hD : va_D A [(h, .inr (5, [.ref h_0, .ref h_1, .ref h_2, .ref h_3, .ref h_4, .int (nI P.2.2.2.2.2)])), (h_0, .inl (cI, 12, .inl P.1)), (h_1, .inl (cI, 12, .inl P.2.1)), (h_2, .inl (cI, 12, .inl P.2.2.1)), (h_3, .inl (cJ, 12, .inr (.inl P.2.2.2.1))), (h_4, .inl (cJ, 12, .inr (.inl P.2.2.2.2.1)))] := hD
  have hf_9 := hts _ (List.mem_cons_of_mem _ wq_105)
  have hin_K_FailureList := fun w (h : w ∈ u_ws "KitRunner$FailureList" T_K_FailureList 6) => List.mem_cons_of_mem (Cond.code y_K_FailureList_entry prog_4_method_5_code 2 (some .int)) (in_K_FailureList w h)
  refine lv_aload_n hx hb d_K_FailureList_entry_0 rfl (lv_at hl 0 rfl) ?_
  refine va_get (D := (dC, dI)) (ci := 5) (v := .ref h_0) (C := "KitRunner$FailureList") (T := T_K_FailureList) (N := 6) hx hb hts hin_K_FailureList hown hK hP 0 rfl rfl 0 (by decide) hf_9 (fun _ h9 => h9) rfl d_K_FailureList_entry_1 ?_
  refine lv_iload_n hx hb d_K_FailureList_entry_4 rfl (lv_at hl 1 rfl) ?_
  refine kr_iald (k := i0) hx hb hK hP 1 0 rfl rfl (by omega) (by first | decide | omega) d_K_FailureList_entry_5 ?_
  have hP9 := hP.sub (ws' := [(h, .inr (5, [.ref h_0, .ref h_1, .ref h_2, .ref h_3, .ref h_4, .int (nI P.2.2.2.2.2)])), (h_0, .inl (cI, 12, .inl P.1)), (h_1, .inl (cI, 12, .inl P.2.1)), (h_2, .inl (cI, 12, .inl P.2.2.1)), (h_3, .inl (cJ, 12, .inr (.inl P.2.2.2.1))), (h_4, .inl (cJ, 12, .inr (.inl P.2.2.2.2.1)))]) [0, 1, 2, 3, 4, 5] rfl
  have hD9 := hD.sub (ws' := [(h, .inr (5, [.ref h_0, .ref h_1, .ref h_2, .ref h_3, .ref h_4, .int (nI P.2.2.2.2.2)])), (h_0, .inl (cI, 12, .inl P.1)), (h_1, .inl (cI, 12, .inl P.2.1)), (h_2, .inl (cI, 12, .inl P.2.2.1)), (h_3, .inl (cJ, 12, .inr (.inl P.2.2.2.1))), (h_4, .inl (cJ, 12, .inr (.inl P.2.2.2.2.1)))]) [0, 1, 2, 3, 4, 5] (by decide) rfl
  exact kr_iret (v := (P.1 i0)) hQ hx hb hr hlocks hK hP9 hD9 hS rfl () rfl d_K_FailureList_entry_6
set_option maxHeartbeats 4000000 in
set_option maxRecDepth 100000 in
theorem c_FailureList_placeOfA (l : Launch) (dC : Nat → ClassId) (dI : Nat → Nat → Nat) (cI cJ cC cZ : ClassId) (σ : kSg) (h h_0 h_1 h_2 h_3 h_4 : Nat) (P : kFL) (i0 : Nat) (hi0 : i0 < 12) : kC l y_K_FailureList_placeOfA ws_K_FailureList_placeOfA (kRm 0 0 0 0) (dC, dI) (kTy cI cJ cC cZ) σ (wFL cI cJ cC cZ h h_0 h_1 h_2 h_3 h_4 P) [.ref h, .int (nI i0)] (kQi (dC, dI) (kTy cI cJ cC cZ) (P.2.1 i0) (fun _ : Unit => wFL cI cJ cC cZ h h_0 h_1 h_2 h_3 h_4 P)) 0 0 := by
  refine kr_met (cc := prog_4_method_6_code) (maxL := 2) (ret := (some .int)) (by decide) rfl (Nat.le_of_ble_eq_true rfl) ?_
  intro p e s m args below meth c A Q hQ hx hb hr hml hts hown hlocks hnm hA hP hK hD hSt ls hl
  have hS : va_S A s.heap s.heap [] := va_S.rf
  have hown : s.vm.findClass "KitRunner$FailureList" = some m.cls := hown
  have hl : lv_has ls 2 [(0, .ref h), (1, .int (nI i0))] := hl
  have hP : va_P (dC, dI) vwCl [(h, .inr (5, [.ref h_0, .ref h_1, .ref h_2, .ref h_3, .ref h_4, .int (nI P.2.2.2.2.2)])), (h_0, .inl (cI, 12, .inl P.1)), (h_1, .inl (cI, 12, .inl P.2.1)), (h_2, .inl (cI, 12, .inl P.2.2.1)), (h_3, .inl (cJ, 12, .inr (.inl P.2.2.2.1))), (h_4, .inl (cJ, 12, .inr (.inl P.2.2.2.2.1)))] s.heap := hP
  have hD : va_D A [(h, .inr (5, [.ref h_0, .ref h_1, .ref h_2, .ref h_3, .ref h_4, .int (nI P.2.2.2.2.2)])), (h_0, .inl (cI, 12, .inl P.1)), (h_1, .inl (cI, 12, .inl P.2.1)), (h_2, .inl (cI, 12, .inl P.2.2.1)), (h_3, .inl (cJ, 12, .inr (.inl P.2.2.2.1))), (h_4, .inl (cJ, 12, .inr (.inl P.2.2.2.2.1)))] := hD
  have hf_15 := hts _ (List.mem_cons_of_mem _ wq_106)
  have hin_K_FailureList := fun w (h : w ∈ u_ws "KitRunner$FailureList" T_K_FailureList 6) => List.mem_cons_of_mem (Cond.code y_K_FailureList_placeOfA prog_4_method_6_code 2 (some .int)) (in_K_FailureList w h)
  refine lv_aload_n hx hb d_K_FailureList_placeOfA_0 rfl (lv_at hl 0 rfl) ?_
  refine va_get (D := (dC, dI)) (ci := 5) (v := .ref h_1) (C := "KitRunner$FailureList") (T := T_K_FailureList) (N := 6) hx hb hts hin_K_FailureList hown hK hP 0 rfl rfl 1 (by decide) hf_15 (fun _ h9 => h9) rfl d_K_FailureList_placeOfA_1 ?_
  refine lv_iload_n hx hb d_K_FailureList_placeOfA_4 rfl (lv_at hl 1 rfl) ?_
  refine kr_iald (k := i0) hx hb hK hP 2 0 rfl rfl (by omega) (by first | decide | omega) d_K_FailureList_placeOfA_5 ?_
  have hP9 := hP.sub (ws' := [(h, .inr (5, [.ref h_0, .ref h_1, .ref h_2, .ref h_3, .ref h_4, .int (nI P.2.2.2.2.2)])), (h_0, .inl (cI, 12, .inl P.1)), (h_1, .inl (cI, 12, .inl P.2.1)), (h_2, .inl (cI, 12, .inl P.2.2.1)), (h_3, .inl (cJ, 12, .inr (.inl P.2.2.2.1))), (h_4, .inl (cJ, 12, .inr (.inl P.2.2.2.2.1)))]) [0, 1, 2, 3, 4, 5] rfl
  have hD9 := hD.sub (ws' := [(h, .inr (5, [.ref h_0, .ref h_1, .ref h_2, .ref h_3, .ref h_4, .int (nI P.2.2.2.2.2)])), (h_0, .inl (cI, 12, .inl P.1)), (h_1, .inl (cI, 12, .inl P.2.1)), (h_2, .inl (cI, 12, .inl P.2.2.1)), (h_3, .inl (cJ, 12, .inr (.inl P.2.2.2.1))), (h_4, .inl (cJ, 12, .inr (.inl P.2.2.2.2.1)))]) [0, 1, 2, 3, 4, 5] (by decide) rfl
  exact kr_iret (v := (P.2.1 i0)) hQ hx hb hr hlocks hK hP9 hD9 hS rfl () rfl d_K_FailureList_placeOfA_6
set_option maxHeartbeats 4000000 in
set_option maxRecDepth 100000 in
theorem c_FailureList_placeOfB (l : Launch) (dC : Nat → ClassId) (dI : Nat → Nat → Nat) (cI cJ cC cZ : ClassId) (σ : kSg) (h h_0 h_1 h_2 h_3 h_4 : Nat) (P : kFL) (i0 : Nat) (hi0 : i0 < 12) : kC l y_K_FailureList_placeOfB ws_K_FailureList_placeOfB (kRm 0 0 0 0) (dC, dI) (kTy cI cJ cC cZ) σ (wFL cI cJ cC cZ h h_0 h_1 h_2 h_3 h_4 P) [.ref h, .int (nI i0)] (kQi (dC, dI) (kTy cI cJ cC cZ) (P.2.2.1 i0) (fun _ : Unit => wFL cI cJ cC cZ h h_0 h_1 h_2 h_3 h_4 P)) 0 0 := by
  refine kr_met (cc := prog_4_method_7_code) (maxL := 2) (ret := (some .int)) (by decide) rfl (Nat.le_of_ble_eq_true rfl) ?_
  intro p e s m args below meth c A Q hQ hx hb hr hml hts hown hlocks hnm hA hP hK hD hSt ls hl
  have hS : va_S A s.heap s.heap [] := va_S.rf
  have hown : s.vm.findClass "KitRunner$FailureList" = some m.cls := hown
  have hl : lv_has ls 2 [(0, .ref h), (1, .int (nI i0))] := hl
  have hP : va_P (dC, dI) vwCl [(h, .inr (5, [.ref h_0, .ref h_1, .ref h_2, .ref h_3, .ref h_4, .int (nI P.2.2.2.2.2)])), (h_0, .inl (cI, 12, .inl P.1)), (h_1, .inl (cI, 12, .inl P.2.1)), (h_2, .inl (cI, 12, .inl P.2.2.1)), (h_3, .inl (cJ, 12, .inr (.inl P.2.2.2.1))), (h_4, .inl (cJ, 12, .inr (.inl P.2.2.2.2.1)))] s.heap := hP
  have hD : va_D A [(h, .inr (5, [.ref h_0, .ref h_1, .ref h_2, .ref h_3, .ref h_4, .int (nI P.2.2.2.2.2)])), (h_0, .inl (cI, 12, .inl P.1)), (h_1, .inl (cI, 12, .inl P.2.1)), (h_2, .inl (cI, 12, .inl P.2.2.1)), (h_3, .inl (cJ, 12, .inr (.inl P.2.2.2.1))), (h_4, .inl (cJ, 12, .inr (.inl P.2.2.2.2.1)))] := hD
  have hf_18 := hts _ (List.mem_cons_of_mem _ wq_107)
  have hin_K_FailureList := fun w (h : w ∈ u_ws "KitRunner$FailureList" T_K_FailureList 6) => List.mem_cons_of_mem (Cond.code y_K_FailureList_placeOfB prog_4_method_7_code 2 (some .int)) (in_K_FailureList w h)
  refine lv_aload_n hx hb d_K_FailureList_placeOfB_0 rfl (lv_at hl 0 rfl) ?_
  refine va_get (D := (dC, dI)) (ci := 5) (v := .ref h_2) (C := "KitRunner$FailureList") (T := T_K_FailureList) (N := 6) hx hb hts hin_K_FailureList hown hK hP 0 rfl rfl 2 (by decide) hf_18 (fun _ h9 => h9) rfl d_K_FailureList_placeOfB_1 ?_
  refine lv_iload_n hx hb d_K_FailureList_placeOfB_4 rfl (lv_at hl 1 rfl) ?_
  refine kr_iald (k := i0) hx hb hK hP 3 0 rfl rfl (by omega) (by first | decide | omega) d_K_FailureList_placeOfB_5 ?_
  have hP9 := hP.sub (ws' := [(h, .inr (5, [.ref h_0, .ref h_1, .ref h_2, .ref h_3, .ref h_4, .int (nI P.2.2.2.2.2)])), (h_0, .inl (cI, 12, .inl P.1)), (h_1, .inl (cI, 12, .inl P.2.1)), (h_2, .inl (cI, 12, .inl P.2.2.1)), (h_3, .inl (cJ, 12, .inr (.inl P.2.2.2.1))), (h_4, .inl (cJ, 12, .inr (.inl P.2.2.2.2.1)))]) [0, 1, 2, 3, 4, 5] rfl
  have hD9 := hD.sub (ws' := [(h, .inr (5, [.ref h_0, .ref h_1, .ref h_2, .ref h_3, .ref h_4, .int (nI P.2.2.2.2.2)])), (h_0, .inl (cI, 12, .inl P.1)), (h_1, .inl (cI, 12, .inl P.2.1)), (h_2, .inl (cI, 12, .inl P.2.2.1)), (h_3, .inl (cJ, 12, .inr (.inl P.2.2.2.1))), (h_4, .inl (cJ, 12, .inr (.inl P.2.2.2.2.1)))]) [0, 1, 2, 3, 4, 5] (by decide) rfl
  exact kr_iret (v := (P.2.2.1 i0)) hQ hx hb hr hlocks hK hP9 hD9 hS rfl () rfl d_K_FailureList_placeOfB_6
set_option maxHeartbeats 4000000 in
set_option maxRecDepth 100000 in
theorem c_FailureList_foretold (l : Launch) (dC : Nat → ClassId) (dI : Nat → Nat → Nat) (cI cJ cC cZ : ClassId) (σ : kSg) (h h_0 h_1 h_2 h_3 h_4 : Nat) (P : kFL) (i0 : Nat) (hi0 : i0 < 12) : kC l y_K_FailureList_foretold ws_K_FailureList_foretold (kRm 0 0 0 0) (dC, dI) (kTy cI cJ cC cZ) σ (wFL cI cJ cC cZ h h_0 h_1 h_2 h_3 h_4 P) [.ref h, .int (nI i0)] (kQl (dC, dI) (kTy cI cJ cC cZ) (P.2.2.2.1 i0) (fun _ : Unit => wFL cI cJ cC cZ h h_0 h_1 h_2 h_3 h_4 P)) 0 0 := by
  refine kr_met (cc := prog_4_method_8_code) (maxL := 2) (ret := (some .long)) (by decide) rfl (Nat.le_of_ble_eq_true rfl) ?_
  intro p e s m args below meth c A Q hQ hx hb hr hml hts hown hlocks hnm hA hP hK hD hSt ls hl
  have hS : va_S A s.heap s.heap [] := va_S.rf
  have hown : s.vm.findClass "KitRunner$FailureList" = some m.cls := hown
  have hl : lv_has ls 2 [(0, .ref h), (1, .int (nI i0))] := hl
  have hP : va_P (dC, dI) vwCl [(h, .inr (5, [.ref h_0, .ref h_1, .ref h_2, .ref h_3, .ref h_4, .int (nI P.2.2.2.2.2)])), (h_0, .inl (cI, 12, .inl P.1)), (h_1, .inl (cI, 12, .inl P.2.1)), (h_2, .inl (cI, 12, .inl P.2.2.1)), (h_3, .inl (cJ, 12, .inr (.inl P.2.2.2.1))), (h_4, .inl (cJ, 12, .inr (.inl P.2.2.2.2.1)))] s.heap := hP
  have hD : va_D A [(h, .inr (5, [.ref h_0, .ref h_1, .ref h_2, .ref h_3, .ref h_4, .int (nI P.2.2.2.2.2)])), (h_0, .inl (cI, 12, .inl P.1)), (h_1, .inl (cI, 12, .inl P.2.1)), (h_2, .inl (cI, 12, .inl P.2.2.1)), (h_3, .inl (cJ, 12, .inr (.inl P.2.2.2.1))), (h_4, .inl (cJ, 12, .inr (.inl P.2.2.2.2.1)))] := hD
  have hf_21 := hts _ (List.mem_cons_of_mem _ wq_108)
  have hin_K_FailureList := fun w (h : w ∈ u_ws "KitRunner$FailureList" T_K_FailureList 6) => List.mem_cons_of_mem (Cond.code y_K_FailureList_foretold prog_4_method_8_code 2 (some .long)) (in_K_FailureList w h)
  refine lv_aload_n hx hb d_K_FailureList_foretold_0 rfl (lv_at hl 0 rfl) ?_
  refine va_get (D := (dC, dI)) (ci := 5) (v := .ref h_3) (C := "KitRunner$FailureList") (T := T_K_FailureList) (N := 6) hx hb hts hin_K_FailureList hown hK hP 0 rfl rfl 3 (by decide) hf_21 (fun _ h9 => h9) rfl d_K_FailureList_foretold_1 ?_
  refine lv_iload_n hx hb d_K_FailureList_foretold_4 rfl (lv_at hl 1 rfl) ?_
  refine kr_lald (k := i0) hx hb hK hP 4 1 rfl rfl (by omega) (by first | decide | omega) d_K_FailureList_foretold_5 ?_
  have hP9 := hP.sub (ws' := [(h, .inr (5, [.ref h_0, .ref h_1, .ref h_2, .ref h_3, .ref h_4, .int (nI P.2.2.2.2.2)])), (h_0, .inl (cI, 12, .inl P.1)), (h_1, .inl (cI, 12, .inl P.2.1)), (h_2, .inl (cI, 12, .inl P.2.2.1)), (h_3, .inl (cJ, 12, .inr (.inl P.2.2.2.1))), (h_4, .inl (cJ, 12, .inr (.inl P.2.2.2.2.1)))]) [0, 1, 2, 3, 4, 5] rfl
  have hD9 := hD.sub (ws' := [(h, .inr (5, [.ref h_0, .ref h_1, .ref h_2, .ref h_3, .ref h_4, .int (nI P.2.2.2.2.2)])), (h_0, .inl (cI, 12, .inl P.1)), (h_1, .inl (cI, 12, .inl P.2.1)), (h_2, .inl (cI, 12, .inl P.2.2.1)), (h_3, .inl (cJ, 12, .inr (.inl P.2.2.2.1))), (h_4, .inl (cJ, 12, .inr (.inl P.2.2.2.2.1)))]) [0, 1, 2, 3, 4, 5] (by decide) rfl
  exact kr_lret (v := (P.2.2.2.1 i0)) hQ hx hb hr hlocks hK hP9 hD9 hS rfl () rfl d_K_FailureList_foretold_6
set_option maxHeartbeats 4000000 in
set_option maxRecDepth 100000 in
theorem c_FailureList_given (l : Launch) (dC : Nat → ClassId) (dI : Nat → Nat → Nat) (cI cJ cC cZ : ClassId) (σ : kSg) (h h_0 h_1 h_2 h_3 h_4 : Nat) (P : kFL) (i0 : Nat) (hi0 : i0 < 12) : kC l y_K_FailureList_given ws_K_FailureList_given (kRm 0 0 0 0) (dC, dI) (kTy cI cJ cC cZ) σ (wFL cI cJ cC cZ h h_0 h_1 h_2 h_3 h_4 P) [.ref h, .int (nI i0)] (kQl (dC, dI) (kTy cI cJ cC cZ) (P.2.2.2.2.1 i0) (fun _ : Unit => wFL cI cJ cC cZ h h_0 h_1 h_2 h_3 h_4 P)) 0 0 := by
  refine kr_met (cc := prog_4_method_9_code) (maxL := 2) (ret := (some .long)) (by decide) rfl (Nat.le_of_ble_eq_true rfl) ?_
  intro p e s m args below meth c A Q hQ hx hb hr hml hts hown hlocks hnm hA hP hK hD hSt ls hl
  have hS : va_S A s.heap s.heap [] := va_S.rf
  have hown : s.vm.findClass "KitRunner$FailureList" = some m.cls := hown
  have hl : lv_has ls 2 [(0, .ref h), (1, .int (nI i0))] := hl
  have hP : va_P (dC, dI) vwCl [(h, .inr (5, [.ref h_0, .ref h_1, .ref h_2, .ref h_3, .ref h_4, .int (nI P.2.2.2.2.2)])), (h_0, .inl (cI, 12, .inl P.1)), (h_1, .inl (cI, 12, .inl P.2.1)), (h_2, .inl (cI, 12, .inl P.2.2.1)), (h_3, .inl (cJ, 12, .inr (.inl P.2.2.2.1))), (h_4, .inl (cJ, 12, .inr (.inl P.2.2.2.2.1)))] s.heap := hP
  have hD : va_D A [(h, .inr (5, [.ref h_0, .ref h_1, .ref h_2, .ref h_3, .ref h_4, .int (nI P.2.2.2.2.2)])), (h_0, .inl (cI, 12, .inl P.1)), (h_1, .inl (cI, 12, .inl P.2.1)), (h_2, .inl (cI, 12, .inl P.2.2.1)), (h_3, .inl (cJ, 12, .inr (.inl P.2.2.2.1))), (h_4, .inl (cJ, 12, .inr (.inl P.2.2.2.2.1)))] := hD
  have hf_25 := hts _ (List.mem_cons_of_mem _ wq_109)
  have hin_K_FailureList := fun w (h : w ∈ u_ws "KitRunner$FailureList" T_K_FailureList 6) => List.mem_cons_of_mem (Cond.code y_K_FailureList_given prog_4_method_9_code 2 (some .long)) (in_K_FailureList w h)
  refine lv_aload_n hx hb d_K_FailureList_given_0 rfl (lv_at hl 0 rfl) ?_
  refine va_get (D := (dC, dI)) (ci := 5) (v := .ref h_4) (C := "KitRunner$FailureList") (T := T_K_FailureList) (N := 6) hx hb hts hin_K_FailureList hown hK hP 0 rfl rfl 4 (by decide) hf_25 (fun _ h9 => h9) rfl d_K_FailureList_given_1 ?_
  refine lv_iload_n hx hb d_K_FailureList_given_4 rfl (lv_at hl 1 rfl) ?_
  refine kr_lald (k := i0) hx hb hK hP 5 1 rfl rfl (by omega) (by first | decide | omega) d_K_FailureList_given_5 ?_
  have hP9 := hP.sub (ws' := [(h, .inr (5, [.ref h_0, .ref h_1, .ref h_2, .ref h_3, .ref h_4, .int (nI P.2.2.2.2.2)])), (h_0, .inl (cI, 12, .inl P.1)), (h_1, .inl (cI, 12, .inl P.2.1)), (h_2, .inl (cI, 12, .inl P.2.2.1)), (h_3, .inl (cJ, 12, .inr (.inl P.2.2.2.1))), (h_4, .inl (cJ, 12, .inr (.inl P.2.2.2.2.1)))]) [0, 1, 2, 3, 4, 5] rfl
  have hD9 := hD.sub (ws' := [(h, .inr (5, [.ref h_0, .ref h_1, .ref h_2, .ref h_3, .ref h_4, .int (nI P.2.2.2.2.2)])), (h_0, .inl (cI, 12, .inl P.1)), (h_1, .inl (cI, 12, .inl P.2.1)), (h_2, .inl (cI, 12, .inl P.2.2.1)), (h_3, .inl (cJ, 12, .inr (.inl P.2.2.2.1))), (h_4, .inl (cJ, 12, .inr (.inl P.2.2.2.2.1)))]) [0, 1, 2, 3, 4, 5] (by decide) rfl
  exact kr_lret (v := (P.2.2.2.2.1 i0)) hQ hx hb hr hlocks hK hP9 hD9 hS rfl () rfl d_K_FailureList_given_6
