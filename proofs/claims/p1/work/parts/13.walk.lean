set_option maxHeartbeats 4000000 in
set_option maxRecDepth 100000 in
theorem c_FailureList_keep (l : Launch) (dC : Nat → ClassId) (dI : Nat → Nat → Nat) (cI cJ cC cZ : ClassId) (σ : kSg) (h h_0 h_1 h_2 h_3 h_4 : Nat) (P : kFL) (e0 : Int32) (pa0 : Int32) (pb0 : Int32) (fo0 : Int64) (gi0 : Int64) (hk : P.2.2.2.2.2 ≤ 12) : kC l y_K_FailureList_keep ws_K_FailureList_keep (kRm 0 0 0 0) (dC, dI) (kTy cI cJ cC cZ) σ (wFL cI cJ cC cZ h h_0 h_1 h_2 h_3 h_4 P) [.ref h, .int e0, .int pa0, .int pb0, .long fo0, .long gi0] (kQv (dC, dI) (kTy cI cJ cC cZ) (fun _ : Unit => wFL cI cJ cC cZ h h_0 h_1 h_2 h_3 h_4 (k_keep P e0 pa0 pb0 fo0 gi0))) 0 0 := by
  refine kr_met (cc := prog_4_method_4_code) (maxL := 8) (ret := none) (by decide) rfl (Nat.le_of_ble_eq_true rfl) ?_
  intro p e s m args below meth c A Q hQ hx hb hr hml hts hown hlocks hnm hA hP hK hD hSt ls hl
  have hS : va_S A s.heap s.heap [] := va_S.rf
  have hown : s.vm.findClass "KitRunner$FailureList" = some m.cls := hown
  have hl : lv_has ls 8 [(0, .ref h), (1, .int e0), (2, .int pa0), (3, .int pb0), (4, .long fo0), (6, .long gi0)] := hl
  have hP : va_P (dC, dI) vwCl [(h, .inr (5, [.ref h_0, .ref h_1, .ref h_2, .ref h_3, .ref h_4, .int (nI P.2.2.2.2.2)])), (h_0, .inl (cI, 12, .inl P.1)), (h_1, .inl (cI, 12, .inl P.2.1)), (h_2, .inl (cI, 12, .inl P.2.2.1)), (h_3, .inl (cJ, 12, .inr (.inl P.2.2.2.1))), (h_4, .inl (cJ, 12, .inr (.inl P.2.2.2.2.1)))] s.heap := hP
  have hD : va_D A [(h, .inr (5, [.ref h_0, .ref h_1, .ref h_2, .ref h_3, .ref h_4, .int (nI P.2.2.2.2.2)])), (h_0, .inl (cI, 12, .inl P.1)), (h_1, .inl (cI, 12, .inl P.2.1)), (h_2, .inl (cI, 12, .inl P.2.2.1)), (h_3, .inl (cJ, 12, .inr (.inl P.2.2.2.1))), (h_4, .inl (cJ, 12, .inr (.inl P.2.2.2.2.1)))] := hD
  have hf_28 := hts _ (List.mem_cons_of_mem _ wq_110)
  have hin_K_FailureList := fun w (h : w ∈ u_ws "KitRunner$FailureList" T_K_FailureList 6) => List.mem_cons_of_mem (Cond.code y_K_FailureList_keep prog_4_method_4_code 8 none) (in_K_FailureList w h)
  have hf_9 := hts _ (List.mem_cons_of_mem _ wq_105)
  have hf_15 := hts _ (List.mem_cons_of_mem _ wq_106)
  have hf_18 := hts _ (List.mem_cons_of_mem _ wq_107)
  have hf_21 := hts _ (List.mem_cons_of_mem _ wq_108)
  have hf_25 := hts _ (List.mem_cons_of_mem _ wq_109)
  refine lv_aload_n hx hb d_K_FailureList_keep_0 rfl (lv_at hl 0 rfl) ?_
  refine va_get (D := (dC, dI)) (ci := 5) (v := .int (nI P.2.2.2.2.2)) (C := "KitRunner$FailureList") (T := T_K_FailureList) (N := 6) hx hb hts hin_K_FailureList hown hK hP 0 rfl rfl 5 (by decide) hf_28 (fun _ h9 => h9) rfl d_K_FailureList_keep_1 ?_
  refine lv_bipush (v := 12) hx hb d_K_FailureList_keep_4 (by decide) ?_
  refine lv_icmp_lt (tgt := 10) hx hb d_K_FailureList_keep_6 (by decide) (fun c_1 => ?_) (fun c_1 => ?_)
  · skip
    have c_1 : P.2.2.2.2.2 < 12 := (nI_ltI (a := P.2.2.2.2.2) (b := 12) (by omega) (by omega)).mp c_1
    refine lv_aload_n hx hb d_K_FailureList_keep_10 rfl (lv_at hl 0 rfl) ?_
    refine va_get (D := (dC, dI)) (ci := 5) (v := .ref h_0) (C := "KitRunner$FailureList") (T := T_K_FailureList) (N := 6) hx hb hts hin_K_FailureList hown hK hP 0 rfl rfl 0 (by decide) hf_9 (fun _ h9 => h9) rfl d_K_FailureList_keep_11 ?_
    refine lv_aload_n hx hb d_K_FailureList_keep_14 rfl (lv_at hl 0 rfl) ?_
    refine va_get (D := (dC, dI)) (ci := 5) (v := .int (nI P.2.2.2.2.2)) (C := "KitRunner$FailureList") (T := T_K_FailureList) (N := 6) hx hb hts hin_K_FailureList hown hK hP 0 rfl rfl 5 (by decide) hf_28 (fun _ h9 => h9) rfl d_K_FailureList_keep_15 ?_
    refine lv_iload_n hx hb d_K_FailureList_keep_18 rfl (lv_at hl 1 rfl) ?_
    refine kr_iast (k := P.2.2.2.2.2) hx hb hK hP hD hS 1 0 rfl rfl (by omega) (by first | decide | omega) d_K_FailureList_keep_19 (fun H locs hP hD hS => ?_)
    have hP : va_P (dC, dI) vwCl [(h, .inr (5, [.ref h_0, .ref h_1, .ref h_2, .ref h_3, .ref h_4, .int (nI P.2.2.2.2.2)])), (h_0, .inl (cI, 12, .inl (upd P.1 P.2.2.2.2.2 e0))), (h_1, .inl (cI, 12, .inl P.2.1)), (h_2, .inl (cI, 12, .inl P.2.2.1)), (h_3, .inl (cJ, 12, .inr (.inl P.2.2.2.1))), (h_4, .inl (cJ, 12, .inr (.inl P.2.2.2.2.1)))] H := hP
    have hD : va_D A [(h, .inr (5, [.ref h_0, .ref h_1, .ref h_2, .ref h_3, .ref h_4, .int (nI P.2.2.2.2.2)])), (h_0, .inl (cI, 12, .inl (upd P.1 P.2.2.2.2.2 e0))), (h_1, .inl (cI, 12, .inl P.2.1)), (h_2, .inl (cI, 12, .inl P.2.2.1)), (h_3, .inl (cJ, 12, .inr (.inl P.2.2.2.1))), (h_4, .inl (cJ, 12, .inr (.inl P.2.2.2.2.1)))] := hD
    refine lv_aload_n hx hb d_K_FailureList_keep_20 rfl (lv_at hl 0 rfl) ?_
    refine va_get (D := (dC, dI)) (ci := 5) (v := .ref h_1) (C := "KitRunner$FailureList") (T := T_K_FailureList) (N := 6) hx hb hts hin_K_FailureList hown hK hP 0 rfl rfl 1 (by decide) hf_15 (fun _ h9 => h9) rfl d_K_FailureList_keep_21 ?_
    refine lv_aload_n hx hb d_K_FailureList_keep_24 rfl (lv_at hl 0 rfl) ?_
    refine va_get (D := (dC, dI)) (ci := 5) (v := .int (nI P.2.2.2.2.2)) (C := "KitRunner$FailureList") (T := T_K_FailureList) (N := 6) hx hb hts hin_K_FailureList hown hK hP 0 rfl rfl 5 (by decide) hf_28 (fun _ h9 => h9) rfl d_K_FailureList_keep_25 ?_
    refine lv_iload_n hx hb d_K_FailureList_keep_28 rfl (lv_at hl 2 rfl) ?_
    refine kr_iast (k := P.2.2.2.2.2) hx hb hK hP hD hS 2 0 rfl rfl (by omega) (by first | decide | omega) d_K_FailureList_keep_29 (fun H locs hP hD hS => ?_)
    have hP : va_P (dC, dI) vwCl [(h, .inr (5, [.ref h_0, .ref h_1, .ref h_2, .ref h_3, .ref h_4, .int (nI P.2.2.2.2.2)])), (h_0, .inl (cI, 12, .inl (upd P.1 P.2.2.2.2.2 e0))), (h_1, .inl (cI, 12, .inl (upd P.2.1 P.2.2.2.2.2 pa0))), (h_2, .inl (cI, 12, .inl P.2.2.1)), (h_3, .inl (cJ, 12, .inr (.inl P.2.2.2.1))), (h_4, .inl (cJ, 12, .inr (.inl P.2.2.2.2.1)))] H := hP
    have hD : va_D A [(h, .inr (5, [.ref h_0, .ref h_1, .ref h_2, .ref h_3, .ref h_4, .int (nI P.2.2.2.2.2)])), (h_0, .inl (cI, 12, .inl (upd P.1 P.2.2.2.2.2 e0))), (h_1, .inl (cI, 12, .inl (upd P.2.1 P.2.2.2.2.2 pa0))), (h_2, .inl (cI, 12, .inl P.2.2.1)), (h_3, .inl (cJ, 12, .inr (.inl P.2.2.2.1))), (h_4, .inl (cJ, 12, .inr (.inl P.2.2.2.2.1)))] := hD
    refine lv_aload_n hx hb d_K_FailureList_keep_30 rfl (lv_at hl 0 rfl) ?_
    refine va_get (D := (dC, dI)) (ci := 5) (v := .ref h_2) (C := "KitRunner$FailureList") (T := T_K_FailureList) (N := 6) hx hb hts hin_K_FailureList hown hK hP 0 rfl rfl 2 (by decide) hf_18 (fun _ h9 => h9) rfl d_K_FailureList_keep_31 ?_
    refine lv_aload_n hx hb d_K_FailureList_keep_34 rfl (lv_at hl 0 rfl) ?_
    refine va_get (D := (dC, dI)) (ci := 5) (v := .int (nI P.2.2.2.2.2)) (C := "KitRunner$FailureList") (T := T_K_FailureList) (N := 6) hx hb hts hin_K_FailureList hown hK hP 0 rfl rfl 5 (by decide) hf_28 (fun _ h9 => h9) rfl d_K_FailureList_keep_35 ?_
    refine lv_iload_n hx hb d_K_FailureList_keep_38 rfl (lv_at hl 3 rfl) ?_
    refine kr_iast (k := P.2.2.2.2.2) hx hb hK hP hD hS 3 0 rfl rfl (by omega) (by first | decide | omega) d_K_FailureList_keep_39 (fun H locs hP hD hS => ?_)
    have hP : va_P (dC, dI) vwCl [(h, .inr (5, [.ref h_0, .ref h_1, .ref h_2, .ref h_3, .ref h_4, .int (nI P.2.2.2.2.2)])), (h_0, .inl (cI, 12, .inl (upd P.1 P.2.2.2.2.2 e0))), (h_1, .inl (cI, 12, .inl (upd P.2.1 P.2.2.2.2.2 pa0))), (h_2, .inl (cI, 12, .inl (upd P.2.2.1 P.2.2.2.2.2 pb0))), (h_3, .inl (cJ, 12, .inr (.inl P.2.2.2.1))), (h_4, .inl (cJ, 12, .inr (.inl P.2.2.2.2.1)))] H := hP
    have hD : va_D A [(h, .inr (5, [.ref h_0, .ref h_1, .ref h_2, .ref h_3, .ref h_4, .int (nI P.2.2.2.2.2)])), (h_0, .inl (cI, 12, .inl (upd P.1 P.2.2.2.2.2 e0))), (h_1, .inl (cI, 12, .inl (upd P.2.1 P.2.2.2.2.2 pa0))), (h_2, .inl (cI, 12, .inl (upd P.2.2.1 P.2.2.2.2.2 pb0))), (h_3, .inl (cJ, 12, .inr (.inl P.2.2.2.1))), (h_4, .inl (cJ, 12, .inr (.inl P.2.2.2.2.1)))] := hD
    refine lv_aload_n hx hb d_K_FailureList_keep_40 rfl (lv_at hl 0 rfl) ?_
    refine va_get (D := (dC, dI)) (ci := 5) (v := .ref h_3) (C := "KitRunner$FailureList") (T := T_K_FailureList) (N := 6) hx hb hts hin_K_FailureList hown hK hP 0 rfl rfl 3 (by decide) hf_21 (fun _ h9 => h9) rfl d_K_FailureList_keep_41 ?_
    refine lv_aload_n hx hb d_K_FailureList_keep_44 rfl (lv_at hl 0 rfl) ?_
    refine va_get (D := (dC, dI)) (ci := 5) (v := .int (nI P.2.2.2.2.2)) (C := "KitRunner$FailureList") (T := T_K_FailureList) (N := 6) hx hb hts hin_K_FailureList hown hK hP 0 rfl rfl 5 (by decide) hf_28 (fun _ h9 => h9) rfl d_K_FailureList_keep_45 ?_
    refine lv_lload hx hb d_K_FailureList_keep_48 (lv_at hl 4 rfl) ?_
    refine kr_last (k := P.2.2.2.2.2) hx hb hK hP hD hS 4 1 rfl rfl (by omega) (by first | decide | omega) d_K_FailureList_keep_50 (fun H locs hP hD hS => ?_)
    have hP : va_P (dC, dI) vwCl [(h, .inr (5, [.ref h_0, .ref h_1, .ref h_2, .ref h_3, .ref h_4, .int (nI P.2.2.2.2.2)])), (h_0, .inl (cI, 12, .inl (upd P.1 P.2.2.2.2.2 e0))), (h_1, .inl (cI, 12, .inl (upd P.2.1 P.2.2.2.2.2 pa0))), (h_2, .inl (cI, 12, .inl (upd P.2.2.1 P.2.2.2.2.2 pb0))), (h_3, .inl (cJ, 12, .inr (.inl (vp_updL P.2.2.2.1 P.2.2.2.2.2 fo0)))), (h_4, .inl (cJ, 12, .inr (.inl P.2.2.2.2.1)))] H := hP
    have hD : va_D A [(h, .inr (5, [.ref h_0, .ref h_1, .ref h_2, .ref h_3, .ref h_4, .int (nI P.2.2.2.2.2)])), (h_0, .inl (cI, 12, .inl (upd P.1 P.2.2.2.2.2 e0))), (h_1, .inl (cI, 12, .inl (upd P.2.1 P.2.2.2.2.2 pa0))), (h_2, .inl (cI, 12, .inl (upd P.2.2.1 P.2.2.2.2.2 pb0))), (h_3, .inl (cJ, 12, .inr (.inl (vp_updL P.2.2.2.1 P.2.2.2.2.2 fo0)))), (h_4, .inl (cJ, 12, .inr (.inl P.2.2.2.2.1)))] := hD
    refine lv_aload_n hx hb d_K_FailureList_keep_51 rfl (lv_at hl 0 rfl) ?_
    refine va_get (D := (dC, dI)) (ci := 5) (v := .ref h_4) (C := "KitRunner$FailureList") (T := T_K_FailureList) (N := 6) hx hb hts hin_K_FailureList hown hK hP 0 rfl rfl 4 (by decide) hf_25 (fun _ h9 => h9) rfl d_K_FailureList_keep_52 ?_
    refine lv_aload_n hx hb d_K_FailureList_keep_55 rfl (lv_at hl 0 rfl) ?_
    refine va_get (D := (dC, dI)) (ci := 5) (v := .int (nI P.2.2.2.2.2)) (C := "KitRunner$FailureList") (T := T_K_FailureList) (N := 6) hx hb hts hin_K_FailureList hown hK hP 0 rfl rfl 5 (by decide) hf_28 (fun _ h9 => h9) rfl d_K_FailureList_keep_56 ?_
    refine lv_lload hx hb d_K_FailureList_keep_59 (lv_at hl 5 rfl) ?_
    refine kr_last (k := P.2.2.2.2.2) hx hb hK hP hD hS 5 1 rfl rfl (by omega) (by first | decide | omega) d_K_FailureList_keep_61 (fun H locs hP hD hS => ?_)
    have hP : va_P (dC, dI) vwCl [(h, .inr (5, [.ref h_0, .ref h_1, .ref h_2, .ref h_3, .ref h_4, .int (nI P.2.2.2.2.2)])), (h_0, .inl (cI, 12, .inl (upd P.1 P.2.2.2.2.2 e0))), (h_1, .inl (cI, 12, .inl (upd P.2.1 P.2.2.2.2.2 pa0))), (h_2, .inl (cI, 12, .inl (upd P.2.2.1 P.2.2.2.2.2 pb0))), (h_3, .inl (cJ, 12, .inr (.inl (vp_updL P.2.2.2.1 P.2.2.2.2.2 fo0)))), (h_4, .inl (cJ, 12, .inr (.inl (vp_updL P.2.2.2.2.1 P.2.2.2.2.2 gi0))))] H := hP
    have hD : va_D A [(h, .inr (5, [.ref h_0, .ref h_1, .ref h_2, .ref h_3, .ref h_4, .int (nI P.2.2.2.2.2)])), (h_0, .inl (cI, 12, .inl (upd P.1 P.2.2.2.2.2 e0))), (h_1, .inl (cI, 12, .inl (upd P.2.1 P.2.2.2.2.2 pa0))), (h_2, .inl (cI, 12, .inl (upd P.2.2.1 P.2.2.2.2.2 pb0))), (h_3, .inl (cJ, 12, .inr (.inl (vp_updL P.2.2.2.1 P.2.2.2.2.2 fo0)))), (h_4, .inl (cJ, 12, .inr (.inl (vp_updL P.2.2.2.2.1 P.2.2.2.2.2 gi0))))] := hD
    refine lv_aload_n hx hb d_K_FailureList_keep_62 rfl (lv_at hl 0 rfl) ?_
    refine lv_dup hx hb d_K_FailureList_keep_63 rfl ?_
    refine va_get (D := (dC, dI)) (ci := 5) (v := .int (nI P.2.2.2.2.2)) (C := "KitRunner$FailureList") (T := T_K_FailureList) (N := 6) hx hb hts hin_K_FailureList hown hK hP 0 rfl rfl 5 (by decide) hf_28 (fun _ h9 => h9) rfl d_K_FailureList_keep_64 ?_
    refine lv_iconst (v := 1) hx hb d_K_FailureList_keep_67 (by decide) ?_
    refine lv_iadd hx hb d_K_FailureList_keep_68 ?_
    refine kr_topi (x := (nI P.2.2.2.2.2) + 1) (y := nI (P.2.2.2.2.2 + 1)) (nI_add P.2.2.2.2.2 1) ?_
    refine va_put (D := (dC, dI)) (ci := 5) (v := .int (nI (P.2.2.2.2.2 + 1))) (ty := .int) (C := "KitRunner$FailureList") (T := T_K_FailureList) (N := 6) hx hb hts hin_K_FailureList ty_K_FailureList ty_K_FailureList_ok nm_K_FailureList hown hK hP hD hS 0 rfl rfl 5 (by decide) hf_28 (fun _ h9 => h9) rfl (by decide +kernel) rfl rfl (Nat.le_of_ble_eq_true rfl) d_K_FailureList_keep_69 (fun H locs hP hD hS => ?_)
    have hP : va_P (dC, dI) vwCl [(h, .inr (5, [.ref h_0, .ref h_1, .ref h_2, .ref h_3, .ref h_4, .int (nI (P.2.2.2.2.2 + 1))])), (h_0, .inl (cI, 12, .inl (upd P.1 P.2.2.2.2.2 e0))), (h_1, .inl (cI, 12, .inl (upd P.2.1 P.2.2.2.2.2 pa0))), (h_2, .inl (cI, 12, .inl (upd P.2.2.1 P.2.2.2.2.2 pb0))), (h_3, .inl (cJ, 12, .inr (.inl (vp_updL P.2.2.2.1 P.2.2.2.2.2 fo0)))), (h_4, .inl (cJ, 12, .inr (.inl (vp_updL P.2.2.2.2.1 P.2.2.2.2.2 gi0))))] H := hP
    have hD : va_D A [(h, .inr (5, [.ref h_0, .ref h_1, .ref h_2, .ref h_3, .ref h_4, .int (nI (P.2.2.2.2.2 + 1))])), (h_0, .inl (cI, 12, .inl (upd P.1 P.2.2.2.2.2 e0))), (h_1, .inl (cI, 12, .inl (upd P.2.1 P.2.2.2.2.2 pa0))), (h_2, .inl (cI, 12, .inl (upd P.2.2.1 P.2.2.2.2.2 pb0))), (h_3, .inl (cJ, 12, .inr (.inl (vp_updL P.2.2.2.1 P.2.2.2.2.2 fo0)))), (h_4, .inl (cJ, 12, .inr (.inl (vp_updL P.2.2.2.2.1 P.2.2.2.2.2 gi0))))] := hD
    have hpost : k_keep P e0 pa0 pb0 fo0 gi0 = (upd P.1 P.2.2.2.2.2 e0, (upd P.2.1 P.2.2.2.2.2 pa0, (upd P.2.2.1 P.2.2.2.2.2 pb0, (vp_updL P.2.2.2.1 P.2.2.2.2.2 fo0, (vp_updL P.2.2.2.2.1 P.2.2.2.2.2 gi0, P.2.2.2.2.2 + 1))))) := by simp only [k_keep, if_pos c_1]
    have hP9 := hP.sub (ws' := [(h, .inr (5, [.ref h_0, .ref h_1, .ref h_2, .ref h_3, .ref h_4, .int (nI (P.2.2.2.2.2 + 1))])), (h_0, .inl (cI, 12, .inl (upd P.1 P.2.2.2.2.2 e0))), (h_1, .inl (cI, 12, .inl (upd P.2.1 P.2.2.2.2.2 pa0))), (h_2, .inl (cI, 12, .inl (upd P.2.2.1 P.2.2.2.2.2 pb0))), (h_3, .inl (cJ, 12, .inr (.inl (vp_updL P.2.2.2.1 P.2.2.2.2.2 fo0)))), (h_4, .inl (cJ, 12, .inr (.inl (vp_updL P.2.2.2.2.1 P.2.2.2.2.2 gi0))))]) [0, 1, 2, 3, 4, 5] rfl
    have hD9 := hD.sub (ws' := [(h, .inr (5, [.ref h_0, .ref h_1, .ref h_2, .ref h_3, .ref h_4, .int (nI (P.2.2.2.2.2 + 1))])), (h_0, .inl (cI, 12, .inl (upd P.1 P.2.2.2.2.2 e0))), (h_1, .inl (cI, 12, .inl (upd P.2.1 P.2.2.2.2.2 pa0))), (h_2, .inl (cI, 12, .inl (upd P.2.2.1 P.2.2.2.2.2 pb0))), (h_3, .inl (cJ, 12, .inr (.inl (vp_updL P.2.2.2.1 P.2.2.2.2.2 fo0)))), (h_4, .inl (cJ, 12, .inr (.inl (vp_updL P.2.2.2.2.1 P.2.2.2.2.2 gi0))))]) [0, 1, 2, 3, 4, 5] (by decide) rfl
    exact kr_vret hQ hx hb hr hlocks hK hP9 hD9 hS () (by show (wFL cI cJ cC cZ h h_0 h_1 h_2 h_3 h_4 (k_keep P e0 pa0 pb0 fo0 gi0) : va_W) = _; rw [hpost] <;> rfl) d_K_FailureList_keep_72
  · skip
    have c_1 : ¬ P.2.2.2.2.2 < 12 := fun h9 => c_1 ((nI_ltI (a := P.2.2.2.2.2) (b := 12) (by omega) (by omega)).mpr h9)
    have hpost : k_keep P e0 pa0 pb0 fo0 gi0 = P := by simp only [k_keep, if_neg c_1]
    have hP9 := hP.sub (ws' := [(h, .inr (5, [.ref h_0, .ref h_1, .ref h_2, .ref h_3, .ref h_4, .int (nI P.2.2.2.2.2)])), (h_0, .inl (cI, 12, .inl P.1)), (h_1, .inl (cI, 12, .inl P.2.1)), (h_2, .inl (cI, 12, .inl P.2.2.1)), (h_3, .inl (cJ, 12, .inr (.inl P.2.2.2.1))), (h_4, .inl (cJ, 12, .inr (.inl P.2.2.2.2.1)))]) [0, 1, 2, 3, 4, 5] rfl
    have hD9 := hD.sub (ws' := [(h, .inr (5, [.ref h_0, .ref h_1, .ref h_2, .ref h_3, .ref h_4, .int (nI P.2.2.2.2.2)])), (h_0, .inl (cI, 12, .inl P.1)), (h_1, .inl (cI, 12, .inl P.2.1)), (h_2, .inl (cI, 12, .inl P.2.2.1)), (h_3, .inl (cJ, 12, .inr (.inl P.2.2.2.1))), (h_4, .inl (cJ, 12, .inr (.inl P.2.2.2.2.1)))]) [0, 1, 2, 3, 4, 5] (by decide) rfl
    exact kr_vret hQ hx hb hr hlocks hK hP9 hD9 hS () (by show (wFL cI cJ cC cZ h h_0 h_1 h_2 h_3 h_4 (k_keep P e0 pa0 pb0 fo0 gi0) : va_W) = _; rw [hpost] <;> rfl) d_K_FailureList_keep_9
set_option maxHeartbeats 4000000 in
set_option maxRecDepth 100000 in
theorem c_Report_forget (l : Launch) (dC : Nat → ClassId) (dI : Nat → Nat → Nat) (cI cJ cC cZ : ClassId) (σ : kSg) (h h_0 : Nat) (P : kRep) : kC l y_K_Report_forget ws_K_Report_forget (kRm 0 0 0 0) (dC, dI) (kTy cI cJ cC cZ) σ (wRep cI cJ cC cZ h h_0 P) [.ref h] (kQv (dC, dI) (kTy cI cJ cC cZ) (fun _ : Unit => wRep cI cJ cC cZ h h_0 (k_fgRep P))) 0 0 := by
  refine kr_met (cc := prog_7_method_2_code) (maxL := 1) (ret := none) (by decide) rfl (Nat.le_of_ble_eq_true rfl) ?_
  intro p e s m args below meth c A Q hQ hx hb hr hml hts hown hlocks hnm hA hP hK hD hSt ls hl
  have hS : va_S A s.heap s.heap [] := va_S.rf
  have hown : s.vm.findClass "KitRunner$Report" = some m.cls := hown
  have hl : lv_has ls 1 [(0, .ref h)] := hl
  have hP : va_P (dC, dI) vwCl [(h, .inr (6, [.ref h_0, .int (nI P.2)])), (h_0, .inl (cC, 256, .inl P.1))] s.heap := hP
  have hD : va_D A [(h, .inr (6, [.ref h_0, .int (nI P.2)])), (h_0, .inl (cC, 256, .inl P.1))] := hD
  have hf_15 := hts _ (List.mem_cons_of_mem _ wq_132)
  have hin_K_Report := fun w (h : w ∈ u_ws "KitRunner$Report" T_K_Report 2) => List.mem_cons_of_mem (Cond.code y_K_Report_forget prog_7_method_2_code 1 none) (in_K_Report w h)
  refine lv_aload_n hx hb d_K_Report_forget_0 rfl (lv_at hl 0 rfl) ?_
  refine lv_iconst (v := 0) hx hb d_K_Report_forget_1 (by decide) ?_
  refine va_put (D := (dC, dI)) (ci := 6) (v := .int 0) (ty := .int) (C := "KitRunner$Report") (T := T_K_Report) (N := 2) hx hb hts hin_K_Report ty_K_Report ty_K_Report_ok nm_K_Report hown hK hP hD hS 0 rfl rfl 1 (by decide) hf_15 (fun _ h9 => h9) rfl (by decide +kernel) rfl rfl (Nat.le_of_ble_eq_true rfl) d_K_Report_forget_2 (fun H locs hP hD hS => ?_)
  have hP : va_P (dC, dI) vwCl [(h, .inr (6, [.ref h_0, .int (nI 0)])), (h_0, .inl (cC, 256, .inl P.1))] H := hP
  have hD : va_D A [(h, .inr (6, [.ref h_0, .int (nI 0)])), (h_0, .inl (cC, 256, .inl P.1))] := hD
  have hpost : k_fgRep P = (P.1, 0) := by simp only [k_fgRep]
  have hP9 := hP.sub (ws' := [(h, .inr (6, [.ref h_0, .int (nI 0)])), (h_0, .inl (cC, 256, .inl P.1))]) [0, 1] rfl
  have hD9 := hD.sub (ws' := [(h, .inr (6, [.ref h_0, .int (nI 0)])), (h_0, .inl (cC, 256, .inl P.1))]) [0, 1] (by decide) rfl
  exact kr_vret hQ hx hb hr hlocks hK hP9 hD9 hS () (by show (wRep cI cJ cC cZ h h_0 (k_fgRep P) : va_W) = _; rw [hpost] <;> rfl) d_K_Report_forget_5
set_option maxHeartbeats 4000000 in
set_option maxRecDepth 100000 in
theorem c_Report_length (l : Launch) (dC : Nat → ClassId) (dI : Nat → Nat → Nat) (cI cJ cC cZ : ClassId) (σ : kSg) (h h_0 : Nat) (P : kRep) : kC l y_K_Report_length ws_K_Report_length (kRm 0 0 0 0) (dC, dI) (kTy cI cJ cC cZ) σ (wRep cI cJ cC cZ h h_0 P) [.ref h] (kQi (dC, dI) (kTy cI cJ cC cZ) (nI P.2) (fun _ : Unit => wRep cI cJ cC cZ h h_0 P)) 0 0 := by
  refine kr_met (cc := prog_7_method_3_code) (maxL := 1) (ret := (some .int)) (by decide) rfl (Nat.le_of_ble_eq_true rfl) ?_
  intro p e s m args below meth c A Q hQ hx hb hr hml hts hown hlocks hnm hA hP hK hD hSt ls hl
  have hS : va_S A s.heap s.heap [] := va_S.rf
  have hown : s.vm.findClass "KitRunner$Report" = some m.cls := hown
  have hl : lv_has ls 1 [(0, .ref h)] := hl
  have hP : va_P (dC, dI) vwCl [(h, .inr (6, [.ref h_0, .int (nI P.2)])), (h_0, .inl (cC, 256, .inl P.1))] s.heap := hP
  have hD : va_D A [(h, .inr (6, [.ref h_0, .int (nI P.2)])), (h_0, .inl (cC, 256, .inl P.1))] := hD
  have hf_15 := hts _ (List.mem_cons_of_mem _ wq_132)
  have hin_K_Report := fun w (h : w ∈ u_ws "KitRunner$Report" T_K_Report 2) => List.mem_cons_of_mem (Cond.code y_K_Report_length prog_7_method_3_code 1 (some .int)) (in_K_Report w h)
  refine lv_aload_n hx hb d_K_Report_length_0 rfl (lv_at hl 0 rfl) ?_
  refine va_get (D := (dC, dI)) (ci := 6) (v := .int (nI P.2)) (C := "KitRunner$Report") (T := T_K_Report) (N := 2) hx hb hts hin_K_Report hown hK hP 0 rfl rfl 1 (by decide) hf_15 (fun _ h9 => h9) rfl d_K_Report_length_1 ?_
  have hP9 := hP.sub (ws' := [(h, .inr (6, [.ref h_0, .int (nI P.2)])), (h_0, .inl (cC, 256, .inl P.1))]) [0, 1] rfl
  have hD9 := hD.sub (ws' := [(h, .inr (6, [.ref h_0, .int (nI P.2)])), (h_0, .inl (cC, 256, .inl P.1))]) [0, 1] (by decide) rfl
  exact kr_iret (v := (nI P.2)) hQ hx hb hr hlocks hK hP9 hD9 hS rfl () rfl d_K_Report_length_4
set_option maxHeartbeats 4000000 in
set_option maxRecDepth 100000 in
theorem c_Report_put (l : Launch) (dC : Nat → ClassId) (dI : Nat → Nat → Nat) (cI cJ cC cZ : ClassId) (σ : kSg) (h h_0 : Nat) (P : kRep) (ch0 : Int32) (hk : P.2 ≤ 256) (hch : vp_nar .char ch0 = ch0) : kC l y_K_Report_put ws_K_Report_put (kRm 0 0 0 0) (dC, dI) (kTy cI cJ cC cZ) σ (wRep cI cJ cC cZ h h_0 P) [.ref h, .int ch0] (kQv (dC, dI) (kTy cI cJ cC cZ) (fun _ : Unit => wRep cI cJ cC cZ h h_0 (k_put P ch0))) 0 0 := by
  refine kr_met (cc := prog_7_method_5_code) (maxL := 2) (ret := none) (by decide) rfl (Nat.le_of_ble_eq_true rfl) ?_
  intro p e s m args below meth c A Q hQ hx hb hr hml hts hown hlocks hnm hA hP hK hD hSt ls hl
  have hS : va_S A s.heap s.heap [] := va_S.rf
  have hown : s.vm.findClass "KitRunner$Report" = some m.cls := hown
  have hl : lv_has ls 2 [(0, .ref h), (1, .int ch0)] := hl
  have hP : va_P (dC, dI) vwCl [(h, .inr (6, [.ref h_0, .int (nI P.2)])), (h_0, .inl (cC, 256, .inl P.1))] s.heap := hP
  have hD : va_D A [(h, .inr (6, [.ref h_0, .int (nI P.2)])), (h_0, .inl (cC, 256, .inl P.1))] := hD
  have hf_15 := hts _ (List.mem_cons_of_mem _ wq_132)
  have hin_K_Report := fun w (h : w ∈ u_ws "KitRunner$Report" T_K_Report 2) => List.mem_cons_of_mem (Cond.code y_K_Report_put prog_7_method_5_code 2 none) (in_K_Report w h)
  have hf_9 := hts _ (List.mem_cons_of_mem _ wq_131)
  refine lv_aload_n hx hb d_K_Report_put_0 rfl (lv_at hl 0 rfl) ?_
  refine va_get (D := (dC, dI)) (ci := 6) (v := .int (nI P.2)) (C := "KitRunner$Report") (T := T_K_Report) (N := 2) hx hb hts hin_K_Report hown hK hP 0 rfl rfl 1 (by decide) hf_15 (fun _ h9 => h9) rfl d_K_Report_put_1 ?_
  refine lv_sipush (v := 256) hx hb d_K_Report_put_4 (by decide) ?_
  refine lv_icmp_ge (tgt := 30) hx hb d_K_Report_put_7 (by decide) (fun c_1 => ?_) (fun c_1 => ?_)
  · skip
    have c_1 : 256 ≤ P.2 := (nI_leI (a := 256) (b := P.2) (by omega) (by omega)).mp c_1
    have hpost : k_put P ch0 = P := by simp only [k_put, if_pos c_1]
    have hP9 := hP.sub (ws' := [(h, .inr (6, [.ref h_0, .int (nI P.2)])), (h_0, .inl (cC, 256, .inl P.1))]) [0, 1] rfl
    have hD9 := hD.sub (ws' := [(h, .inr (6, [.ref h_0, .int (nI P.2)])), (h_0, .inl (cC, 256, .inl P.1))]) [0, 1] (by decide) rfl
    exact kr_vret hQ hx hb hr hlocks hK hP9 hD9 hS () (by show (wRep cI cJ cC cZ h h_0 (k_put P ch0) : va_W) = _; rw [hpost] <;> rfl) d_K_Report_put_30
  · skip
    have c_1 : ¬ 256 ≤ P.2 := fun h9 => c_1 ((nI_leI (a := 256) (b := P.2) (by omega) (by omega)).mpr h9)
    refine lv_aload_n hx hb d_K_Report_put_10 rfl (lv_at hl 0 rfl) ?_
    refine va_get (D := (dC, dI)) (ci := 6) (v := .ref h_0) (C := "KitRunner$Report") (T := T_K_Report) (N := 2) hx hb hts hin_K_Report hown hK hP 0 rfl rfl 0 (by decide) hf_9 (fun _ h9 => h9) rfl d_K_Report_put_11 ?_
    refine lv_aload_n hx hb d_K_Report_put_14 rfl (lv_at hl 0 rfl) ?_
    refine va_get (D := (dC, dI)) (ci := 6) (v := .int (nI P.2)) (C := "KitRunner$Report") (T := T_K_Report) (N := 2) hx hb hts hin_K_Report hown hK hP 0 rfl rfl 1 (by decide) hf_15 (fun _ h9 => h9) rfl d_K_Report_put_15 ?_
    refine lv_iload_n hx hb d_K_Report_put_18 rfl (lv_at hl 1 rfl) ?_
    refine kr_cast (k := P.2) hx hb hK hP hD hS 1 2 rfl rfl (by omega) (by first | decide | omega) (by assumption) d_K_Report_put_19 (fun H locs hP hD hS => ?_)
    have hP : va_P (dC, dI) vwCl [(h, .inr (6, [.ref h_0, .int (nI P.2)])), (h_0, .inl (cC, 256, .inl (upd P.1 P.2 ch0)))] H := hP
    have hD : va_D A [(h, .inr (6, [.ref h_0, .int (nI P.2)])), (h_0, .inl (cC, 256, .inl (upd P.1 P.2 ch0)))] := hD
    refine lv_aload_n hx hb d_K_Report_put_20 rfl (lv_at hl 0 rfl) ?_
    refine lv_dup hx hb d_K_Report_put_21 rfl ?_
    refine va_get (D := (dC, dI)) (ci := 6) (v := .int (nI P.2)) (C := "KitRunner$Report") (T := T_K_Report) (N := 2) hx hb hts hin_K_Report hown hK hP 0 rfl rfl 1 (by decide) hf_15 (fun _ h9 => h9) rfl d_K_Report_put_22 ?_
    refine lv_iconst (v := 1) hx hb d_K_Report_put_25 (by decide) ?_
    refine lv_iadd hx hb d_K_Report_put_26 ?_
    refine kr_topi (x := (nI P.2) + 1) (y := nI (P.2 + 1)) (nI_add P.2 1) ?_
    refine va_put (D := (dC, dI)) (ci := 6) (v := .int (nI (P.2 + 1))) (ty := .int) (C := "KitRunner$Report") (T := T_K_Report) (N := 2) hx hb hts hin_K_Report ty_K_Report ty_K_Report_ok nm_K_Report hown hK hP hD hS 0 rfl rfl 1 (by decide) hf_15 (fun _ h9 => h9) rfl (by decide +kernel) rfl rfl (Nat.le_of_ble_eq_true rfl) d_K_Report_put_27 (fun H locs hP hD hS => ?_)
    have hP : va_P (dC, dI) vwCl [(h, .inr (6, [.ref h_0, .int (nI (P.2 + 1))])), (h_0, .inl (cC, 256, .inl (upd P.1 P.2 ch0)))] H := hP
    have hD : va_D A [(h, .inr (6, [.ref h_0, .int (nI (P.2 + 1))])), (h_0, .inl (cC, 256, .inl (upd P.1 P.2 ch0)))] := hD
    have hpost : k_put P ch0 = (upd P.1 P.2 ch0, P.2 + 1) := by simp only [k_put, if_neg c_1]
    have hP9 := hP.sub (ws' := [(h, .inr (6, [.ref h_0, .int (nI (P.2 + 1))])), (h_0, .inl (cC, 256, .inl (upd P.1 P.2 ch0)))]) [0, 1] rfl
    have hD9 := hD.sub (ws' := [(h, .inr (6, [.ref h_0, .int (nI (P.2 + 1))])), (h_0, .inl (cC, 256, .inl (upd P.1 P.2 ch0)))]) [0, 1] (by decide) rfl
    exact kr_vret hQ hx hb hr hlocks hK hP9 hD9 hS () (by show (wRep cI cJ cC cZ h h_0 (k_put P ch0) : va_W) = _; rw [hpost] <;> rfl) d_K_Report_put_30
set_option maxHeartbeats 4000000 in
set_option maxRecDepth 100000 in
theorem c_Shrinker_steps (l : Launch) (dC : Nat → ClassId) (dI : Nat → Nat → Nat) (cI cJ cC cZ : ClassId) (σ : kSg) (h : Nat) (P : kShr) : kC l y_K_Shrinker_steps ws_K_Shrinker_steps (kRm 0 0 0 0) (dC, dI) (kTy cI cJ cC cZ) σ (wShr cI cJ cC cZ h P) [.ref h] (kQi (dC, dI) (kTy cI cJ cC cZ) (nI P.2.2) (fun _ : Unit => wShr cI cJ cC cZ h P)) 0 0 := by
  refine kr_met (cc := prog_8_method_5_code) (maxL := 1) (ret := (some .int)) (by decide) rfl (Nat.le_of_ble_eq_true rfl) ?_
  intro p e s m args below meth c A Q hQ hx hb hr hml hts hown hlocks hnm hA hP hK hD hSt ls hl
  have hS : va_S A s.heap s.heap [] := va_S.rf
  have hown : s.vm.findClass "KitRunner$Shrinker" = some m.cls := hown
  have hl : lv_has ls 1 [(0, .ref h)] := hl
  have hP : va_P (dC, dI) vwCl [(h, .inr (7, [.int (nI P.1), .int (nI P.2.1), .int (nI P.2.2)]))] s.heap := hP
  have hD : va_D A [(h, .inr (7, [.int (nI P.1), .int (nI P.2.1), .int (nI P.2.2)]))] := hD
  have hf_18 := hts _ (List.mem_cons_of_mem _ wq_147)
  have hin_K_Shrinker := fun w (h : w ∈ u_ws "KitRunner$Shrinker" T_K_Shrinker 3) => List.mem_cons_of_mem (Cond.code y_K_Shrinker_steps prog_8_method_5_code 1 (some .int)) (in_K_Shrinker w h)
  refine lv_aload_n hx hb d_K_Shrinker_steps_0 rfl (lv_at hl 0 rfl) ?_
  refine va_get (D := (dC, dI)) (ci := 7) (v := .int (nI P.2.2)) (C := "KitRunner$Shrinker") (T := T_K_Shrinker) (N := 3) hx hb hts hin_K_Shrinker hown hK hP 0 rfl rfl 2 (by decide) hf_18 (fun _ h9 => h9) rfl d_K_Shrinker_steps_1 ?_
  have hP9 := hP.sub (ws' := [(h, .inr (7, [.int (nI P.1), .int (nI P.2.1), .int (nI P.2.2)]))]) [0] rfl
  have hD9 := hD.sub (ws' := [(h, .inr (7, [.int (nI P.1), .int (nI P.2.1), .int (nI P.2.2)]))]) [0] (by decide) rfl
  exact kr_iret (v := (nI P.2.2)) hQ hx hb hr hlocks hK hP9 hD9 hS rfl () rfl d_K_Shrinker_steps_4
set_option maxHeartbeats 4000000 in
set_option maxRecDepth 100000 in
theorem c_Shrinker_a (l : Launch) (dC : Nat → ClassId) (dI : Nat → Nat → Nat) (cI cJ cC cZ : ClassId) (σ : kSg) (h : Nat) (P : kShr) (hpa : P.1 < 12) : kC l y_K_Shrinker_a ws_K_Shrinker_a (kRm 0 0 0 0) (dC, dI) (kTy cI cJ cC cZ) σ (wShr cI cJ cC cZ h P) [.ref h] (kQi (dC, dI) (kTy cI cJ cC cZ) (kLat P.1) (fun _ : Unit => wShr cI cJ cC cZ h P)) 0 0 := by
  refine kr_met (cc := prog_8_method_3_code) (maxL := 1) (ret := (some .int)) (by decide) rfl (Nat.le_of_ble_eq_true rfl) ?_
  intro p e s m args below meth c A Q hQ hx hb hr hml hts hown hlocks hnm hA hP hK hD hSt ls hl
  have hS : va_S A s.heap s.heap [] := va_S.rf
  have hown : s.vm.findClass "KitRunner$Shrinker" = some m.cls := hown
  have hl : lv_has ls 1 [(0, .ref h)] := hl
  have hP : va_P (dC, dI) vwCl [(h, .inr (7, [.int (nI P.1), .int (nI P.2.1), .int (nI P.2.2)]))] s.heap := hP
  have hD : va_D A [(h, .inr (7, [.int (nI P.1), .int (nI P.2.1), .int (nI P.2.2)]))] := hD
  have hf_34 := va_Nw.use (A := args) rfl hSt.2.2.2.2.2.2.2.2.2.2.2
  have hf_9 := hts _ (List.mem_cons_of_mem _ wq_145)
  have hin_K_Shrinker := fun w (h : w ∈ u_ws "KitRunner$Shrinker" T_K_Shrinker 3) => List.mem_cons_of_mem (Cond.code y_K_Shrinker_a prog_8_method_3_code 1 (some .int)) (in_K_Shrinker w h)
  refine va_getsN hx hb hSt.1 hS hown hf_34 (fun _ h9 => h9) d_K_Shrinker_a_0 ?_
  refine lv_aload_n hx hb d_K_Shrinker_a_3 rfl (lv_at hl 0 rfl) ?_
  refine va_get (D := (dC, dI)) (ci := 7) (v := .int (nI P.1)) (C := "KitRunner$Shrinker") (T := T_K_Shrinker) (N := 3) hx hb hts hin_K_Shrinker hown hK hP 0 rfl rfl 0 (by decide) hf_9 (fun _ h9 => h9) rfl d_K_Shrinker_a_4 ?_
  refine kr_ti (k := P.1) (g := kLat) hx hb hSt.2.1 hS (by omega) (by first | decide | omega) d_K_Shrinker_a_7 ?_
  have hP9 := hP.sub (ws' := [(h, .inr (7, [.int (nI P.1), .int (nI P.2.1), .int (nI P.2.2)]))]) [0] rfl
  have hD9 := hD.sub (ws' := [(h, .inr (7, [.int (nI P.1), .int (nI P.2.1), .int (nI P.2.2)]))]) [0] (by decide) rfl
  exact kr_iret (v := (kLat P.1)) hQ hx hb hr hlocks hK hP9 hD9 hS rfl () rfl d_K_Shrinker_a_8
set_option maxHeartbeats 4000000 in
set_option maxRecDepth 100000 in
theorem c_Shrinker_b (l : Launch) (dC : Nat → ClassId) (dI : Nat → Nat → Nat) (cI cJ cC cZ : ClassId) (σ : kSg) (h : Nat) (P : kShr) (hpb : P.2.1 < 12) : kC l y_K_Shrinker_b ws_K_Shrinker_b (kRm 0 0 0 0) (dC, dI) (kTy cI cJ cC cZ) σ (wShr cI cJ cC cZ h P) [.ref h] (kQi (dC, dI) (kTy cI cJ cC cZ) (kLat P.2.1) (fun _ : Unit => wShr cI cJ cC cZ h P)) 0 0 := by
  refine kr_met (cc := prog_8_method_4_code) (maxL := 1) (ret := (some .int)) (by decide) rfl (Nat.le_of_ble_eq_true rfl) ?_
  intro p e s m args below meth c A Q hQ hx hb hr hml hts hown hlocks hnm hA hP hK hD hSt ls hl
  have hS : va_S A s.heap s.heap [] := va_S.rf
  have hown : s.vm.findClass "KitRunner$Shrinker" = some m.cls := hown
  have hl : lv_has ls 1 [(0, .ref h)] := hl
  have hP : va_P (dC, dI) vwCl [(h, .inr (7, [.int (nI P.1), .int (nI P.2.1), .int (nI P.2.2)]))] s.heap := hP
  have hD : va_D A [(h, .inr (7, [.int (nI P.1), .int (nI P.2.1), .int (nI P.2.2)]))] := hD
  have hf_34 := va_Nw.use (A := args) rfl hSt.2.2.2.2.2.2.2.2.2.2.2
  have hf_15 := hts _ (List.mem_cons_of_mem _ wq_146)
  have hin_K_Shrinker := fun w (h : w ∈ u_ws "KitRunner$Shrinker" T_K_Shrinker 3) => List.mem_cons_of_mem (Cond.code y_K_Shrinker_b prog_8_method_4_code 1 (some .int)) (in_K_Shrinker w h)
  refine va_getsN hx hb hSt.1 hS hown hf_34 (fun _ h9 => h9) d_K_Shrinker_b_0 ?_
  refine lv_aload_n hx hb d_K_Shrinker_b_3 rfl (lv_at hl 0 rfl) ?_
  refine va_get (D := (dC, dI)) (ci := 7) (v := .int (nI P.2.1)) (C := "KitRunner$Shrinker") (T := T_K_Shrinker) (N := 3) hx hb hts hin_K_Shrinker hown hK hP 0 rfl rfl 1 (by decide) hf_15 (fun _ h9 => h9) rfl d_K_Shrinker_b_4 ?_
  refine kr_ti (k := P.2.1) (g := kLat) hx hb hSt.2.1 hS (by omega) (by first | decide | omega) d_K_Shrinker_b_7 ?_
  have hP9 := hP.sub (ws' := [(h, .inr (7, [.int (nI P.1), .int (nI P.2.1), .int (nI P.2.2)]))]) [0] rfl
  have hD9 := hD.sub (ws' := [(h, .inr (7, [.int (nI P.1), .int (nI P.2.1), .int (nI P.2.2)]))]) [0] (by decide) rfl
  exact kr_iret (v := (kLat P.2.1)) hQ hx hb hr hlocks hK hP9 hD9 hS rfl () rfl d_K_Shrinker_b_8
set_option maxHeartbeats 4000000 in
set_option maxRecDepth 100000 in
theorem c_PairBook_held (l : Launch) (dC : Nat → ClassId) (dI : Nat → Nat → Nat) (cI cJ cC cZ : ClassId) (σ : kSg) (h h_0 h_1 h_2 : Nat) (P : kPB) : kC l y_K_PairBook_held ws_K_PairBook_held (kRm 0 0 0 0) (dC, dI) (kTy cI cJ cC cZ) σ (wPB cI cJ cC cZ h h_0 h_1 h_2 P) [.ref h] (kQi (dC, dI) (kTy cI cJ cC cZ) (nI P.2.2.2) (fun _ : Unit => wPB cI cJ cC cZ h h_0 h_1 h_2 P)) 0 0 := by
  refine kr_met (cc := prog_6_method_3_code) (maxL := 1) (ret := (some .int)) (by decide) rfl (Nat.le_of_ble_eq_true rfl) ?_
  intro p e s m args below meth c A Q hQ hx hb hr hml hts hown hlocks hnm hA hP hK hD hSt ls hl
  have hS : va_S A s.heap s.heap [] := va_S.rf
  have hown : s.vm.findClass "KitRunner$PairBook" = some m.cls := hown
  have hl : lv_has ls 1 [(0, .ref h)] := hl
  have hP : va_P (dC, dI) vwCl [(h, .inr (3, [.ref h_0, .ref h_1, .ref h_2, .int (nI P.2.2.2)])), (h_0, .inl (cI, 16, .inl P.1)), (h_1, .inl (cI, 16, .inl P.2.1)), (h_2, .inl (cI, 12, .inl P.2.2.1))] s.heap := hP
  have hD : va_D A [(h, .inr (3, [.ref h_0, .ref h_1, .ref h_2, .int (nI P.2.2.2)])), (h_0, .inl (cI, 16, .inl P.1)), (h_1, .inl (cI, 16, .inl P.2.1)), (h_2, .inl (cI, 12, .inl P.2.2.1))] := hD
  have hf_21 := hts _ (List.mem_cons_of_mem _ wq_70)
  have hin_K_PairBook := fun w (h : w ∈ u_ws "KitRunner$PairBook" T_K_PairBook 4) => List.mem_cons_of_mem (Cond.code y_K_PairBook_held prog_6_method_3_code 1 (some .int)) (in_K_PairBook w h)
  refine lv_aload_n hx hb d_K_PairBook_held_0 rfl (lv_at hl 0 rfl) ?_
  refine va_get (D := (dC, dI)) (ci := 3) (v := .int (nI P.2.2.2)) (C := "KitRunner$PairBook") (T := T_K_PairBook) (N := 4) hx hb hts hin_K_PairBook hown hK hP 0 rfl rfl 3 (by decide) hf_21 (fun _ h9 => h9) rfl d_K_PairBook_held_1 ?_
  have hP9 := hP.sub (ws' := [(h, .inr (3, [.ref h_0, .ref h_1, .ref h_2, .int (nI P.2.2.2)])), (h_0, .inl (cI, 16, .inl P.1)), (h_1, .inl (cI, 16, .inl P.2.1)), (h_2, .inl (cI, 12, .inl P.2.2.1))]) [0, 1, 2, 3] rfl
  have hD9 := hD.sub (ws' := [(h, .inr (3, [.ref h_0, .ref h_1, .ref h_2, .int (nI P.2.2.2)])), (h_0, .inl (cI, 16, .inl P.1)), (h_1, .inl (cI, 16, .inl P.2.1)), (h_2, .inl (cI, 12, .inl P.2.2.1))]) [0, 1, 2, 3] (by decide) rfl
  exact kr_iret (v := (nI P.2.2.2)) hQ hx hb hr hlocks hK hP9 hD9 hS rfl () rfl d_K_PairBook_held_4
