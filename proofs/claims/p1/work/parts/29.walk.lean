set_option maxHeartbeats 4000000 in
set_option maxRecDepth 100000 in
theorem c_Shrinker_reduce (l : Launch) (dC : Nat → ClassId) (dI : Nat → Nat → Nat) (cI cJ cC cZ : ClassId) (σ : kSg) (h g g_0 g_1 g_2 : Nat) (P : kShr) (M0 : kMach) (e0 : Int32) (pa0 : Nat) (pb0 : Nat) (hpa : pa0 < 12) (hpb : pb0 < 12) (hk : M0.2.2.2 ≤ 4) : kC l y_K_Shrinker_reduce ws_K_Shrinker_reduce (kRm 8 0 0 181) (dC, dI) (kTy cI cJ cC cZ) σ ([(h, .inr (7, [.int (nI P.1), .int (nI P.2.1), .int (nI P.2.2)])), (g, .inr (1, [.ref g_0, .ref g_1, .ref g_2, .int (nI M0.2.2.2)])), (g_0, .inl (cI, 4, .inl M0.1)), (g_1, .inl (cI, 4, .inl M0.2.1)), (g_2, .inl (cI, 4, .inl M0.2.2.1))]) [.ref h, .ref g, .int e0, .int (nI pa0), .int (nI pb0)] (kQv (dC, dI) (kTy cI cJ cC cZ) (fun _ : Unit => [(h, .inr (7, [.int (nI (k_red M0 e0 pa0 pb0).1), .int (nI (k_red M0 e0 pa0 pb0).2.1), .int (nI (k_red M0 e0 pa0 pb0).2.2)])), (g, .inr (1, [.ref g_0, .ref g_1, .ref g_2, .int (nI M0.2.2.2)])), (g_0, .inl (cI, 4, .inl M0.1)), (g_1, .inl (cI, 4, .inl M0.2.1)), (g_2, .inl (cI, 4, .inl M0.2.2.1))])) 0 0 := by
  refine kr_met (cc := prog_8_method_2_code) (maxL := 5) (ret := none) (by decide) rfl (Nat.le_of_ble_eq_true rfl) ?_
  intro p e s m args below meth c A Q hQ hx hb hr hml hts hown hlocks hnm hA hP hK hD hSt ls hl
  have hS : va_S A s.heap s.heap [] := va_S.rf
  have hown : s.vm.findClass "KitRunner$Shrinker" = some m.cls := hown
  have hl : lv_has ls 5 [(0, .ref h), (1, .ref g), (2, .int e0), (3, .int (nI pa0)), (4, .int (nI pb0))] := hl
  have hP : va_P (dC, dI) vwCl [(h, .inr (7, [.int (nI P.1), .int (nI P.2.1), .int (nI P.2.2)])), (g, .inr (1, [.ref g_0, .ref g_1, .ref g_2, .int (nI M0.2.2.2)])), (g_0, .inl (cI, 4, .inl M0.1)), (g_1, .inl (cI, 4, .inl M0.2.1)), (g_2, .inl (cI, 4, .inl M0.2.2.1))] s.heap := hP
  have hD : va_D A [(h, .inr (7, [.int (nI P.1), .int (nI P.2.1), .int (nI P.2.2)])), (g, .inr (1, [.ref g_0, .ref g_1, .ref g_2, .int (nI M0.2.2.2)])), (g_0, .inl (cI, 4, .inl M0.1)), (g_1, .inl (cI, 4, .inl M0.2.1)), (g_2, .inl (cI, 4, .inl M0.2.2.1))] := hD
  have hf_9 := hts _ (List.mem_cons_of_mem _ wq_145)
  have hin_K_Shrinker := fun w (h : w ∈ u_ws "KitRunner$Shrinker" T_K_Shrinker 3) => List.mem_cons_of_mem (Cond.code y_K_Shrinker_reduce prog_8_method_2_code 5 none) (in_K_Shrinker w h)
  have hf_15 := hts _ (List.mem_cons_of_mem _ wq_146)
  have hf_18 := hts _ (List.mem_cons_of_mem _ wq_147)
  have hini_K_Machine := hts _ (List.mem_cons_of_mem _ wq_2)
  have hm_21 := hts _ (List.mem_cons_of_mem _ wq_496)
  have hi_21 := hts _ (List.mem_cons_of_mem _ wq_497)
  have hv_21 := hts _ (List.mem_cons_of_mem _ wq_498)
  have hini_K_Shrinker := hts _ (List.mem_cons_of_mem _ wq_8)
  have hm_27 := hts _ (List.mem_cons_of_mem _ wq_502)
  have hi_27 := hts _ (List.mem_cons_of_mem _ wq_504)
  have hv_27 := hts _ (List.mem_cons_of_mem _ sq_5)
  have hm_31 := hts _ (List.mem_cons_of_mem _ wq_506)
  have hi_31 := hts _ (List.mem_cons_of_mem _ wq_508)
  have hv_31 := hts _ (List.mem_cons_of_mem _ sq_6)
  refine lv_aload_n hx hb d_K_Shrinker_reduce_0 rfl (lv_at hl 0 rfl) ?_
  refine lv_iload_n hx hb d_K_Shrinker_reduce_1 rfl (lv_at hl 3 rfl) ?_
  refine va_put (D := (dC, dI)) (ci := 7) (v := .int (nI pa0)) (ty := .int) (C := "KitRunner$Shrinker") (T := T_K_Shrinker) (N := 3) hx hb hts hin_K_Shrinker ty_K_Shrinker ty_K_Shrinker_ok nm_K_Shrinker hown hK hP hD hS 0 rfl rfl 0 (by decide) hf_9 (fun _ h9 => h9) rfl (by decide +kernel) rfl rfl (Nat.le_of_ble_eq_true rfl) d_K_Shrinker_reduce_2 (fun H locs hP hD hS => ?_)
  have hP : va_P (dC, dI) vwCl [(h, .inr (7, [.int (nI pa0), .int (nI P.2.1), .int (nI P.2.2)])), (g, .inr (1, [.ref g_0, .ref g_1, .ref g_2, .int (nI M0.2.2.2)])), (g_0, .inl (cI, 4, .inl M0.1)), (g_1, .inl (cI, 4, .inl M0.2.1)), (g_2, .inl (cI, 4, .inl M0.2.2.1))] H := hP
  have hD : va_D A [(h, .inr (7, [.int (nI pa0), .int (nI P.2.1), .int (nI P.2.2)])), (g, .inr (1, [.ref g_0, .ref g_1, .ref g_2, .int (nI M0.2.2.2)])), (g_0, .inl (cI, 4, .inl M0.1)), (g_1, .inl (cI, 4, .inl M0.2.1)), (g_2, .inl (cI, 4, .inl M0.2.2.1))] := hD
  refine lv_aload_n hx hb d_K_Shrinker_reduce_5 rfl (lv_at hl 0 rfl) ?_
  refine lv_iload hx hb d_K_Shrinker_reduce_6 (lv_at hl 4 rfl) ?_
  refine va_put (D := (dC, dI)) (ci := 7) (v := .int (nI pb0)) (ty := .int) (C := "KitRunner$Shrinker") (T := T_K_Shrinker) (N := 3) hx hb hts hin_K_Shrinker ty_K_Shrinker ty_K_Shrinker_ok nm_K_Shrinker hown hK hP hD hS 0 rfl rfl 1 (by decide) hf_15 (fun _ h9 => h9) rfl (by decide +kernel) rfl rfl (Nat.le_of_ble_eq_true rfl) d_K_Shrinker_reduce_8 (fun H locs hP hD hS => ?_)
  have hP : va_P (dC, dI) vwCl [(h, .inr (7, [.int (nI pa0), .int (nI pb0), .int (nI P.2.2)])), (g, .inr (1, [.ref g_0, .ref g_1, .ref g_2, .int (nI M0.2.2.2)])), (g_0, .inl (cI, 4, .inl M0.1)), (g_1, .inl (cI, 4, .inl M0.2.1)), (g_2, .inl (cI, 4, .inl M0.2.2.1))] H := hP
  have hD : va_D A [(h, .inr (7, [.int (nI pa0), .int (nI pb0), .int (nI P.2.2)])), (g, .inr (1, [.ref g_0, .ref g_1, .ref g_2, .int (nI M0.2.2.2)])), (g_0, .inl (cI, 4, .inl M0.1)), (g_1, .inl (cI, 4, .inl M0.2.1)), (g_2, .inl (cI, 4, .inl M0.2.2.1))] := hD
  refine lv_aload_n hx hb d_K_Shrinker_reduce_11 rfl (lv_at hl 0 rfl) ?_
  refine lv_iconst (v := 0) hx hb d_K_Shrinker_reduce_12 (by decide) ?_
  refine va_put (D := (dC, dI)) (ci := 7) (v := .int 0) (ty := .int) (C := "KitRunner$Shrinker") (T := T_K_Shrinker) (N := 3) hx hb hts hin_K_Shrinker ty_K_Shrinker ty_K_Shrinker_ok nm_K_Shrinker hown hK hP hD hS 0 rfl rfl 2 (by decide) hf_18 (fun _ h9 => h9) rfl (by decide +kernel) rfl rfl (Nat.le_of_ble_eq_true rfl) d_K_Shrinker_reduce_13 (fun H locs hP hD hS => ?_)
  have hP : va_P (dC, dI) vwCl [(h, .inr (7, [.int (nI pa0), .int (nI pb0), .int (nI 0)])), (g, .inr (1, [.ref g_0, .ref g_1, .ref g_2, .int (nI M0.2.2.2)])), (g_0, .inl (cI, 4, .inl M0.1)), (g_1, .inl (cI, 4, .inl M0.2.1)), (g_2, .inl (cI, 4, .inl M0.2.2.1))] H := hP
  have hD : va_D A [(h, .inr (7, [.int (nI pa0), .int (nI pb0), .int (nI 0)])), (g, .inr (1, [.ref g_0, .ref g_1, .ref g_2, .int (nI M0.2.2.2)])), (g_0, .inl (cI, 4, .inl M0.1)), (g_1, .inl (cI, 4, .inl M0.2.1)), (g_2, .inl (cI, 4, .inl M0.2.2.1))] := hD
  refine lv_aload_n hx hb d_K_Shrinker_reduce_16 rfl (lv_at hl 1 rfl) ?_
  refine lv_iload_n hx hb d_K_Shrinker_reduce_17 rfl (lv_at hl 2 rfl) ?_
  refine lv_aload_n hx hb d_K_Shrinker_reduce_18 rfl (lv_at hl 0 rfl) ?_
  refine va_get (D := (dC, dI)) (ci := 7) (v := .int (nI pa0)) (C := "KitRunner$Shrinker") (T := T_K_Shrinker) (N := 3) hx hb hts hin_K_Shrinker hown hK hP 0 rfl rfl 0 (by decide) hf_9 (fun _ h9 => h9) rfl d_K_Shrinker_reduce_19 ?_
  refine lv_aload_n hx hb d_K_Shrinker_reduce_22 rfl (lv_at hl 0 rfl) ?_
  refine va_get (D := (dC, dI)) (ci := 7) (v := .int (nI pb0)) (C := "KitRunner$Shrinker") (T := T_K_Shrinker) (N := 3) hx hb hts hin_K_Shrinker hown hK hP 0 rfl rfl 1 (by decide) hf_15 (fun _ h9 => h9) rfl d_K_Shrinker_reduce_23 ?_
  have hpre_1 := kr_pre (wc := [(g, .inr (1, [.ref g_0, .ref g_1, .ref g_2, .int (nI M0.2.2.2)])), (g_0, .inl (cI, 4, .inl M0.1)), (g_1, .inl (cI, 4, .inl M0.2.1)), (g_2, .inl (cI, 4, .inl M0.2.2.1))]) (av := [.ref g, .int e0, .int (nI pa0), .int (nI pb0)]) hK hP hD hS hA hSt [1, 2, 3, 4] rfl (by decide)
  refine kj_i (wc := [(g, .inr (1, [.ref g_0, .ref g_1, .ref g_2, .int (nI M0.2.2.2)])), (g_0, .inl (cI, 4, .inl M0.1)), (g_1, .inl (cI, 4, .inl M0.2.1)), (g_2, .inl (cI, 4, .inl M0.2.2.1))]) (wr := [(h, .inr (7, [.int (nI pa0), .int (nI pb0), .int (nI 0)]))]) (va_runV (As := [.int e0, .int (nI pa0), .int (nI pb0)]) (rest := []) ⟨hx, hb, hml, hown, hts⟩ (c_Machine_failsAt l dC dI cI cJ cC cZ σ g g_0 g_1 g_2 M0 e0 pa0 pb0 (by (try dsimp only) <;> first | assumption | omega) (by (try dsimp only) <;> first | assumption | omega) (by (try dsimp only) <;> first | assumption | omega) _) ⟨(callB_of 3 hts (kg wq_499) rfl rfl rfl hini_K_Machine hm_21 (by decide +kernel) ⟨Nat.le_of_ble_eq_true rfl, Nat.le_of_ble_eq_true rfl⟩), hi_21, hv_21⟩ ⟨hpre_1.1, (va_recv hK hP (ci := 1) (q0 := 1) rfl rfl), hpre_1.2⟩ rfl rfl hl.1 rfl (lv_room (Nat.le_of_ble_eq_true rfl)) d_K_Shrinker_reduce_26 ⟨Nat.le_of_ble_eq_true rfl, Nat.le_of_ble_eq_true rfl⟩) hP hD hS hA [1, 2, 3, 4] [0] rfl rfl (by decide) (by decide) (fun _ H locs hP hD hS => ?_)
  have hP : va_P (dC, dI) vwCl [(h, .inr (7, [.int (nI pa0), .int (nI pb0), .int (nI 0)])), (g, .inr (1, [.ref g_0, .ref g_1, .ref g_2, .int (nI M0.2.2.2)])), (g_0, .inl (cI, 4, .inl M0.1)), (g_1, .inl (cI, 4, .inl M0.2.1)), (g_2, .inl (cI, 4, .inl M0.2.2.1))] H := hP
  have hD : va_D A [(h, .inr (7, [.int (nI pa0), .int (nI pb0), .int (nI 0)])), (g, .inr (1, [.ref g_0, .ref g_1, .ref g_2, .int (nI M0.2.2.2)])), (g_0, .inl (cI, 4, .inl M0.1)), (g_1, .inl (cI, 4, .inl M0.2.1)), (g_2, .inl (cI, 4, .inl M0.2.2.1))] := hD
  refine lv_if_ne (tgt := 33) hx hb d_K_Shrinker_reduce_29 (by decide) (fun c_2 => ?_) (fun c_2 => ?_)
  · skip
    have c_2 : (k_fails M0 e0 pa0 pb0) = true := kb_n.mp c_2
    have loop_33 : ∀ (n : Nat) (X : kShr), (X.2.2 + n = 24) → (k_red M0 e0 pa0 pb0 = k_redL M0 e0 n X) → (X.1 < 12) → (X.2.1 < 12) → ∀ (H : Heap) (locs : List Loc), va_P (dC, dI) vwCl [(h, .inr (7, [.int (nI X.1), .int (nI X.2.1), .int (nI X.2.2)])), (g, .inr (1, [.ref g_0, .ref g_1, .ref g_2, .int (nI M0.2.2.2)])), (g_0, .inl (cI, 4, .inl M0.1)), (g_1, .inl (cI, 4, .inl M0.2.1)), (g_2, .inl (cI, 4, .inl M0.2.2.1))] H → va_D A [(h, .inr (7, [.int (nI X.1), .int (nI X.2.1), .int (nI X.2.2)])), (g, .inr (1, [.ref g_0, .ref g_1, .ref g_2, .int (nI M0.2.2.2)])), (g_0, .inl (cI, 4, .inl M0.1)), (g_1, .inl (cI, 4, .inl M0.2.1)), (g_2, .inl (cI, 4, .inl M0.2.2.1))] → va_S A s.heap H locs → ∀ ls : Array Slot, lv_has ls 5 [(0, .ref h), (1, .ref g), (2, .int e0)] → W p l e (kRm 8 0 0 181) s m args below meth c H locs 0 0 Q (F0 m 33 ls []) := by
      intro n
      induction n with
      | zero =>
        intro X hs hinv hXa hXb H locs hP hD hS ls hl
        obtain ⟨ha1, ha2, ha3⟩ := k_moveA_ok (M := M0) (e := e0) hXa hXb
        obtain ⟨hb1, hb2, hb3⟩ := k_moveB_ok (M := M0) (e := e0) ha1 ha2
        refine lv_aload_n hx hb d_K_Shrinker_reduce_33 rfl (lv_at hl 0 rfl) ?_
        refine va_get (D := (dC, dI)) (ci := 7) (v := .int (nI X.2.2)) (C := "KitRunner$Shrinker") (T := T_K_Shrinker) (N := 3) hx hb hts hin_K_Shrinker hown hK hP 0 rfl rfl 2 (by decide) hf_18 (fun _ h9 => h9) rfl d_K_Shrinker_reduce_34 ?_
        refine lv_bipush (v := 24) hx hb d_K_Shrinker_reduce_37 (by decide) ?_
        refine lv_icmp_ge (tgt := 73) hx hb d_K_Shrinker_reduce_39 (by decide) (fun c_3 => ?_) (fun c_3 => ?_)
        · skip
          have c_3 : 24 ≤ X.2.2 := (nI_leI (a := 24) (b := X.2.2) (by omega) (by omega)).mp c_3
          have hpost : k_red M0 e0 pa0 pb0 = X := hinv.trans (by simp only [k_redL, if_pos c_2, if_pos c_3])
          have hP9 := hP.sub (ws' := [(h, .inr (7, [.int (nI X.1), .int (nI X.2.1), .int (nI X.2.2)])), (g, .inr (1, [.ref g_0, .ref g_1, .ref g_2, .int (nI M0.2.2.2)])), (g_0, .inl (cI, 4, .inl M0.1)), (g_1, .inl (cI, 4, .inl M0.2.1)), (g_2, .inl (cI, 4, .inl M0.2.2.1))]) [0, 1, 2, 3, 4] rfl
          have hD9 := hD.sub (ws' := [(h, .inr (7, [.int (nI X.1), .int (nI X.2.1), .int (nI X.2.2)])), (g, .inr (1, [.ref g_0, .ref g_1, .ref g_2, .int (nI M0.2.2.2)])), (g_0, .inl (cI, 4, .inl M0.1)), (g_1, .inl (cI, 4, .inl M0.2.1)), (g_2, .inl (cI, 4, .inl M0.2.2.1))]) [0, 1, 2, 3, 4] (by decide) rfl
          exact kr_vret hQ hx hb hr hlocks hK hP9 hD9 hS () (by show ([(h, .inr (7, [.int (nI (k_red M0 e0 pa0 pb0).1), .int (nI (k_red M0 e0 pa0 pb0).2.1), .int (nI (k_red M0 e0 pa0 pb0).2.2)])), (g, .inr (1, [.ref g_0, .ref g_1, .ref g_2, .int (nI M0.2.2.2)])), (g_0, .inl (cI, 4, .inl M0.1)), (g_1, .inl (cI, 4, .inl M0.2.1)), (g_2, .inl (cI, 4, .inl M0.2.2.1))] : va_W) = _; rw [hpost] <;> rfl) d_K_Shrinker_reduce_73
        · skip
          have c_3 : ¬ 24 ≤ X.2.2 := fun h9 => c_3 ((nI_leI (a := 24) (b := X.2.2) (by omega) (by omega)).mpr h9)
          exfalso; omega
      | succ n ih_33 =>
        intro X hs hinv hXa hXb H locs hP hD hS ls hl
        obtain ⟨ha1, ha2, ha3⟩ := k_moveA_ok (M := M0) (e := e0) hXa hXb
        obtain ⟨hb1, hb2, hb3⟩ := k_moveB_ok (M := M0) (e := e0) ha1 ha2
        refine lv_aload_n hx hb d_K_Shrinker_reduce_33 rfl (lv_at hl 0 rfl) ?_
        refine va_get (D := (dC, dI)) (ci := 7) (v := .int (nI X.2.2)) (C := "KitRunner$Shrinker") (T := T_K_Shrinker) (N := 3) hx hb hts hin_K_Shrinker hown hK hP 0 rfl rfl 2 (by decide) hf_18 (fun _ h9 => h9) rfl d_K_Shrinker_reduce_34 ?_
        refine lv_bipush (v := 24) hx hb d_K_Shrinker_reduce_37 (by decide) ?_
        refine lv_icmp_ge (tgt := 73) hx hb d_K_Shrinker_reduce_39 (by decide) (fun c_4 => ?_) (fun c_4 => ?_)
        · skip
          have c_4 : 24 ≤ X.2.2 := (nI_leI (a := 24) (b := X.2.2) (by omega) (by omega)).mp c_4
          exfalso; omega
        · skip
          have c_4 : ¬ 24 ≤ X.2.2 := fun h9 => c_4 ((nI_leI (a := 24) (b := X.2.2) (by omega) (by omega)).mpr h9)
          refine lv_aload_n hx hb d_K_Shrinker_reduce_42 rfl (lv_at hl 0 rfl) ?_
          refine lv_aload_n hx hb d_K_Shrinker_reduce_43 rfl (lv_at hl 1 rfl) ?_
          refine lv_iload_n hx hb d_K_Shrinker_reduce_44 rfl (lv_at hl 2 rfl) ?_
          have hpre_5 := kr_pre (wc := [(h, .inr (7, [.int (nI X.1), .int (nI X.2.1), .int (nI X.2.2)])), (g, .inr (1, [.ref g_0, .ref g_1, .ref g_2, .int (nI M0.2.2.2)])), (g_0, .inl (cI, 4, .inl M0.1)), (g_1, .inl (cI, 4, .inl M0.2.1)), (g_2, .inl (cI, 4, .inl M0.2.2.1))]) (av := [.ref h, .ref g, .int e0]) hK hP hD hS hA hSt [0, 1, 2, 3, 4] rfl (by decide)
          refine kj_i (wc := [(h, .inr (7, [.int (nI X.1), .int (nI X.2.1), .int (nI X.2.2)])), (g, .inr (1, [.ref g_0, .ref g_1, .ref g_2, .int (nI M0.2.2.2)])), (g_0, .inl (cI, 4, .inl M0.1)), (g_1, .inl (cI, 4, .inl M0.2.1)), (g_2, .inl (cI, 4, .inl M0.2.2.1))]) (wr := []) (va_runV (As := [.ref g, .int e0]) (rest := []) ⟨hx, hb, hml, hown, hts⟩ (c_Shrinker_moveA l dC dI cI cJ cC cZ σ h g g_0 g_1 g_2 X M0 e0 (by (try dsimp only) <;> first | assumption | omega) (by (try dsimp only) <;> first | assumption | omega) (by (try dsimp only) <;> first | assumption | omega) _) ⟨(callB_of 2 hts (kg wq_505) rfl rfl rfl hini_K_Shrinker hm_27 (by decide +kernel) ⟨Nat.le_of_ble_eq_true rfl, Nat.le_of_ble_eq_true rfl⟩), hi_27, hv_27⟩ ⟨hpre_5.1, (va_recv hK hP (ci := 7) (q0 := 0) rfl rfl), hpre_5.2⟩ rfl rfl hl.1 rfl (lv_room (Nat.le_of_ble_eq_true rfl)) d_K_Shrinker_reduce_45 ⟨Nat.le_of_ble_eq_true rfl, Nat.le_of_ble_eq_true rfl⟩) hP hD hS hA [0, 1, 2, 3, 4] [] rfl rfl (by decide) (by decide) (fun _ H locs hP hD hS => ?_)
          have hP : va_P (dC, dI) vwCl [(h, .inr (7, [.int (nI (k_moveA X M0 e0).1.1), .int (nI (k_moveA X M0 e0).1.2.1), .int (nI (k_moveA X M0 e0).1.2.2)])), (g, .inr (1, [.ref g_0, .ref g_1, .ref g_2, .int (nI M0.2.2.2)])), (g_0, .inl (cI, 4, .inl M0.1)), (g_1, .inl (cI, 4, .inl M0.2.1)), (g_2, .inl (cI, 4, .inl M0.2.2.1))] H := hP
          have hD : va_D A [(h, .inr (7, [.int (nI (k_moveA X M0 e0).1.1), .int (nI (k_moveA X M0 e0).1.2.1), .int (nI (k_moveA X M0 e0).1.2.2)])), (g, .inr (1, [.ref g_0, .ref g_1, .ref g_2, .int (nI M0.2.2.2)])), (g_0, .inl (cI, 4, .inl M0.1)), (g_1, .inl (cI, 4, .inl M0.2.1)), (g_2, .inl (cI, 4, .inl M0.2.2.1))] := hD
          refine lv_if_ne (tgt := 60) hx hb d_K_Shrinker_reduce_48 (by decide) (fun c_6 => ?_) (fun c_6 => ?_)
          · skip
            have c_6 : (k_moveA X M0 e0).2 = true := kb_n.mp c_6
            refine lv_aload_n hx hb d_K_Shrinker_reduce_60 rfl (lv_at hl 0 rfl) ?_
            refine lv_dup hx hb d_K_Shrinker_reduce_61 rfl ?_
            refine va_get (D := (dC, dI)) (ci := 7) (v := .int (nI (k_moveA X M0 e0).1.2.2)) (C := "KitRunner$Shrinker") (T := T_K_Shrinker) (N := 3) hx hb hts hin_K_Shrinker hown hK hP 0 rfl rfl 2 (by decide) hf_18 (fun _ h9 => h9) rfl d_K_Shrinker_reduce_62 ?_
            refine lv_iconst (v := 1) hx hb d_K_Shrinker_reduce_65 (by decide) ?_
            refine lv_iadd hx hb d_K_Shrinker_reduce_66 ?_
            refine kr_topi (x := (nI (k_moveA X M0 e0).1.2.2) + 1) (y := nI ((k_moveA X M0 e0).1.2.2 + 1)) (nI_add (k_moveA X M0 e0).1.2.2 1) ?_
            refine va_put (D := (dC, dI)) (ci := 7) (v := .int (nI ((k_moveA X M0 e0).1.2.2 + 1))) (ty := .int) (C := "KitRunner$Shrinker") (T := T_K_Shrinker) (N := 3) hx hb hts hin_K_Shrinker ty_K_Shrinker ty_K_Shrinker_ok nm_K_Shrinker hown hK hP hD hS 0 rfl rfl 2 (by decide) hf_18 (fun _ h9 => h9) rfl (by decide +kernel) rfl rfl (Nat.le_of_ble_eq_true rfl) d_K_Shrinker_reduce_67 (fun H locs hP hD hS => ?_)
            have hP : va_P (dC, dI) vwCl [(h, .inr (7, [.int (nI (k_moveA X M0 e0).1.1), .int (nI (k_moveA X M0 e0).1.2.1), .int (nI ((k_moveA X M0 e0).1.2.2 + 1))])), (g, .inr (1, [.ref g_0, .ref g_1, .ref g_2, .int (nI M0.2.2.2)])), (g_0, .inl (cI, 4, .inl M0.1)), (g_1, .inl (cI, 4, .inl M0.2.1)), (g_2, .inl (cI, 4, .inl M0.2.2.1))] H := hP
            have hD : va_D A [(h, .inr (7, [.int (nI (k_moveA X M0 e0).1.1), .int (nI (k_moveA X M0 e0).1.2.1), .int (nI ((k_moveA X M0 e0).1.2.2 + 1))])), (g, .inr (1, [.ref g_0, .ref g_1, .ref g_2, .int (nI M0.2.2.2)])), (g_0, .inl (cI, 4, .inl M0.1)), (g_1, .inl (cI, 4, .inl M0.2.1)), (g_2, .inl (cI, 4, .inl M0.2.2.1))] := hD
            refine lv_goto (tgt := 33) hx hb d_K_Shrinker_reduce_70 (by decide) ?_
            exact ih_33 ((k_moveA X M0 e0).1.1, ((k_moveA X M0 e0).1.2.1, (k_moveA X M0 e0).1.2.2 + 1)) (by (try dsimp only) <;> omega) (hinv.trans (by simp only [k_redL, k_bump, if_pos c_2, if_neg c_4, if_pos c_6])) (by (try dsimp only) <;> omega) (by (try dsimp only) <;> omega) _ _ (hP.sub [0, 1, 2, 3, 4] rfl) (hD.sub [0, 1, 2, 3, 4] (by decide) rfl) hS ls (lv_sub hl [0, 1, 2] rfl)
          · skip
            have c_6 : (k_moveA X M0 e0).2 = false := kb_0.mp c_6
            refine lv_aload_n hx hb d_K_Shrinker_reduce_51 rfl (lv_at hl 0 rfl) ?_
            refine lv_aload_n hx hb d_K_Shrinker_reduce_52 rfl (lv_at hl 1 rfl) ?_
            refine lv_iload_n hx hb d_K_Shrinker_reduce_53 rfl (lv_at hl 2 rfl) ?_
            have hpre_7 := kr_pre (wc := [(h, .inr (7, [.int (nI (k_moveA X M0 e0).1.1), .int (nI (k_moveA X M0 e0).1.2.1), .int (nI (k_moveA X M0 e0).1.2.2)])), (g, .inr (1, [.ref g_0, .ref g_1, .ref g_2, .int (nI M0.2.2.2)])), (g_0, .inl (cI, 4, .inl M0.1)), (g_1, .inl (cI, 4, .inl M0.2.1)), (g_2, .inl (cI, 4, .inl M0.2.2.1))]) (av := [.ref h, .ref g, .int e0]) hK hP hD hS hA hSt [0, 1, 2, 3, 4] rfl (by decide)
            refine kj_i (wc := [(h, .inr (7, [.int (nI (k_moveA X M0 e0).1.1), .int (nI (k_moveA X M0 e0).1.2.1), .int (nI (k_moveA X M0 e0).1.2.2)])), (g, .inr (1, [.ref g_0, .ref g_1, .ref g_2, .int (nI M0.2.2.2)])), (g_0, .inl (cI, 4, .inl M0.1)), (g_1, .inl (cI, 4, .inl M0.2.1)), (g_2, .inl (cI, 4, .inl M0.2.2.1))]) (wr := []) (va_runV (As := [.ref g, .int e0]) (rest := []) ⟨hx, hb, hml, hown, hts⟩ (c_Shrinker_moveB l dC dI cI cJ cC cZ σ h g g_0 g_1 g_2 (k_moveA X M0 e0).1 M0 e0 (by (try dsimp only) <;> first | assumption | omega) (by (try dsimp only) <;> first | assumption | omega) (by (try dsimp only) <;> first | assumption | omega) _) ⟨(callB_of 2 hts (kg wq_509) rfl rfl rfl hini_K_Shrinker hm_31 (by decide +kernel) ⟨Nat.le_of_ble_eq_true rfl, Nat.le_of_ble_eq_true rfl⟩), hi_31, hv_31⟩ ⟨hpre_7.1, (va_recv hK hP (ci := 7) (q0 := 0) rfl rfl), hpre_7.2⟩ rfl rfl hl.1 rfl (lv_room (Nat.le_of_ble_eq_true rfl)) d_K_Shrinker_reduce_54 ⟨Nat.le_of_ble_eq_true rfl, Nat.le_of_ble_eq_true rfl⟩) hP hD hS hA [0, 1, 2, 3, 4] [] rfl rfl (by decide) (by decide) (fun _ H locs hP hD hS => ?_)
            have hP : va_P (dC, dI) vwCl [(h, .inr (7, [.int (nI (k_moveB (k_moveA X M0 e0).1 M0 e0).1.1), .int (nI (k_moveB (k_moveA X M0 e0).1 M0 e0).1.2.1), .int (nI (k_moveB (k_moveA X M0 e0).1 M0 e0).1.2.2)])), (g, .inr (1, [.ref g_0, .ref g_1, .ref g_2, .int (nI M0.2.2.2)])), (g_0, .inl (cI, 4, .inl M0.1)), (g_1, .inl (cI, 4, .inl M0.2.1)), (g_2, .inl (cI, 4, .inl M0.2.2.1))] H := hP
            have hD : va_D A [(h, .inr (7, [.int (nI (k_moveB (k_moveA X M0 e0).1 M0 e0).1.1), .int (nI (k_moveB (k_moveA X M0 e0).1 M0 e0).1.2.1), .int (nI (k_moveB (k_moveA X M0 e0).1 M0 e0).1.2.2)])), (g, .inr (1, [.ref g_0, .ref g_1, .ref g_2, .int (nI M0.2.2.2)])), (g_0, .inl (cI, 4, .inl M0.1)), (g_1, .inl (cI, 4, .inl M0.2.1)), (g_2, .inl (cI, 4, .inl M0.2.2.1))] := hD
            refine lv_if_eq (tgt := 73) hx hb d_K_Shrinker_reduce_57 (by decide) (fun c_8 => ?_) (fun c_8 => ?_)
            · skip
              have c_8 : (k_moveB (k_moveA X M0 e0).1 M0 e0).2 = false := kb_0.mp c_8
              have hpost : k_red M0 e0 pa0 pb0 = (k_moveB (k_moveA X M0 e0).1 M0 e0).1 := hinv.trans (by simp only [k_redL, if_pos c_2, if_neg c_4, if_neg (k_bf c_6), if_neg (k_bf c_8)])
              have hP9 := hP.sub (ws' := [(h, .inr (7, [.int (nI (k_moveB (k_moveA X M0 e0).1 M0 e0).1.1), .int (nI (k_moveB (k_moveA X M0 e0).1 M0 e0).1.2.1), .int (nI (k_moveB (k_moveA X M0 e0).1 M0 e0).1.2.2)])), (g, .inr (1, [.ref g_0, .ref g_1, .ref g_2, .int (nI M0.2.2.2)])), (g_0, .inl (cI, 4, .inl M0.1)), (g_1, .inl (cI, 4, .inl M0.2.1)), (g_2, .inl (cI, 4, .inl M0.2.2.1))]) [0, 1, 2, 3, 4] rfl
              have hD9 := hD.sub (ws' := [(h, .inr (7, [.int (nI (k_moveB (k_moveA X M0 e0).1 M0 e0).1.1), .int (nI (k_moveB (k_moveA X M0 e0).1 M0 e0).1.2.1), .int (nI (k_moveB (k_moveA X M0 e0).1 M0 e0).1.2.2)])), (g, .inr (1, [.ref g_0, .ref g_1, .ref g_2, .int (nI M0.2.2.2)])), (g_0, .inl (cI, 4, .inl M0.1)), (g_1, .inl (cI, 4, .inl M0.2.1)), (g_2, .inl (cI, 4, .inl M0.2.2.1))]) [0, 1, 2, 3, 4] (by decide) rfl
              exact kr_vret hQ hx hb hr hlocks hK hP9 hD9 hS () (by show ([(h, .inr (7, [.int (nI (k_red M0 e0 pa0 pb0).1), .int (nI (k_red M0 e0 pa0 pb0).2.1), .int (nI (k_red M0 e0 pa0 pb0).2.2)])), (g, .inr (1, [.ref g_0, .ref g_1, .ref g_2, .int (nI M0.2.2.2)])), (g_0, .inl (cI, 4, .inl M0.1)), (g_1, .inl (cI, 4, .inl M0.2.1)), (g_2, .inl (cI, 4, .inl M0.2.2.1))] : va_W) = _; rw [hpost] <;> rfl) d_K_Shrinker_reduce_73
            · skip
              have c_8 : (k_moveB (k_moveA X M0 e0).1 M0 e0).2 = true := kb_n.mp c_8
              refine lv_aload_n hx hb d_K_Shrinker_reduce_60 rfl (lv_at hl 0 rfl) ?_
              refine lv_dup hx hb d_K_Shrinker_reduce_61 rfl ?_
              refine va_get (D := (dC, dI)) (ci := 7) (v := .int (nI (k_moveB (k_moveA X M0 e0).1 M0 e0).1.2.2)) (C := "KitRunner$Shrinker") (T := T_K_Shrinker) (N := 3) hx hb hts hin_K_Shrinker hown hK hP 0 rfl rfl 2 (by decide) hf_18 (fun _ h9 => h9) rfl d_K_Shrinker_reduce_62 ?_
              refine lv_iconst (v := 1) hx hb d_K_Shrinker_reduce_65 (by decide) ?_
              refine lv_iadd hx hb d_K_Shrinker_reduce_66 ?_
              refine kr_topi (x := (nI (k_moveB (k_moveA X M0 e0).1 M0 e0).1.2.2) + 1) (y := nI ((k_moveB (k_moveA X M0 e0).1 M0 e0).1.2.2 + 1)) (nI_add (k_moveB (k_moveA X M0 e0).1 M0 e0).1.2.2 1) ?_
              refine va_put (D := (dC, dI)) (ci := 7) (v := .int (nI ((k_moveB (k_moveA X M0 e0).1 M0 e0).1.2.2 + 1))) (ty := .int) (C := "KitRunner$Shrinker") (T := T_K_Shrinker) (N := 3) hx hb hts hin_K_Shrinker ty_K_Shrinker ty_K_Shrinker_ok nm_K_Shrinker hown hK hP hD hS 0 rfl rfl 2 (by decide) hf_18 (fun _ h9 => h9) rfl (by decide +kernel) rfl rfl (Nat.le_of_ble_eq_true rfl) d_K_Shrinker_reduce_67 (fun H locs hP hD hS => ?_)
              have hP : va_P (dC, dI) vwCl [(h, .inr (7, [.int (nI (k_moveB (k_moveA X M0 e0).1 M0 e0).1.1), .int (nI (k_moveB (k_moveA X M0 e0).1 M0 e0).1.2.1), .int (nI ((k_moveB (k_moveA X M0 e0).1 M0 e0).1.2.2 + 1))])), (g, .inr (1, [.ref g_0, .ref g_1, .ref g_2, .int (nI M0.2.2.2)])), (g_0, .inl (cI, 4, .inl M0.1)), (g_1, .inl (cI, 4, .inl M0.2.1)), (g_2, .inl (cI, 4, .inl M0.2.2.1))] H := hP
              have hD : va_D A [(h, .inr (7, [.int (nI (k_moveB (k_moveA X M0 e0).1 M0 e0).1.1), .int (nI (k_moveB (k_moveA X M0 e0).1 M0 e0).1.2.1), .int (nI ((k_moveB (k_moveA X M0 e0).1 M0 e0).1.2.2 + 1))])), (g, .inr (1, [.ref g_0, .ref g_1, .ref g_2, .int (nI M0.2.2.2)])), (g_0, .inl (cI, 4, .inl M0.1)), (g_1, .inl (cI, 4, .inl M0.2.1)), (g_2, .inl (cI, 4, .inl M0.2.2.1))] := hD
              refine lv_goto (tgt := 33) hx hb d_K_Shrinker_reduce_70 (by decide) ?_
              exact ih_33 ((k_moveB (k_moveA X M0 e0).1 M0 e0).1.1, ((k_moveB (k_moveA X M0 e0).1 M0 e0).1.2.1, (k_moveB (k_moveA X M0 e0).1 M0 e0).1.2.2 + 1)) (by (try dsimp only) <;> omega) (hinv.trans (by simp only [k_redL, k_bump, if_pos c_2, if_neg c_4, if_neg (k_bf c_6), if_pos c_8])) (by (try dsimp only) <;> omega) (by (try dsimp only) <;> omega) _ _ (hP.sub [0, 1, 2, 3, 4] rfl) (hD.sub [0, 1, 2, 3, 4] (by decide) rfl) hS ls (lv_sub hl [0, 1, 2] rfl)
    exact loop_33 24 (pa0, pb0, 0) rfl (by simp only [k_red, if_pos c_2]) hpa hpb _ _ (hP.sub [0, 1, 2, 3, 4] rfl) (hD.sub [0, 1, 2, 3, 4] (by decide) rfl) hS ls (lv_sub hl [0, 1, 2] rfl)
  · skip
    have c_2 : (k_fails M0 e0 pa0 pb0) = false := kb_0.mp c_2
    have hpost : k_red M0 e0 pa0 pb0 = (pa0, (pb0, 0)) := by simp only [k_red, if_neg (k_bf c_2)]
    have hP9 := hP.sub (ws' := [(h, .inr (7, [.int (nI pa0), .int (nI pb0), .int (nI 0)])), (g, .inr (1, [.ref g_0, .ref g_1, .ref g_2, .int (nI M0.2.2.2)])), (g_0, .inl (cI, 4, .inl M0.1)), (g_1, .inl (cI, 4, .inl M0.2.1)), (g_2, .inl (cI, 4, .inl M0.2.2.1))]) [0, 1, 2, 3, 4] rfl
    have hD9 := hD.sub (ws' := [(h, .inr (7, [.int (nI pa0), .int (nI pb0), .int (nI 0)])), (g, .inr (1, [.ref g_0, .ref g_1, .ref g_2, .int (nI M0.2.2.2)])), (g_0, .inl (cI, 4, .inl M0.1)), (g_1, .inl (cI, 4, .inl M0.2.1)), (g_2, .inl (cI, 4, .inl M0.2.2.1))]) [0, 1, 2, 3, 4] (by decide) rfl
    exact kr_vret hQ hx hb hr hlocks hK hP9 hD9 hS () (by show ([(h, .inr (7, [.int (nI (k_red M0 e0 pa0 pb0).1), .int (nI (k_red M0 e0 pa0 pb0).2.1), .int (nI (k_red M0 e0 pa0 pb0).2.2)])), (g, .inr (1, [.ref g_0, .ref g_1, .ref g_2, .int (nI M0.2.2.2)])), (g_0, .inl (cI, 4, .inl M0.1)), (g_1, .inl (cI, 4, .inl M0.2.1)), (g_2, .inl (cI, 4, .inl M0.2.2.1))] : va_W) = _; rw [hpost] <;> rfl) d_K_Shrinker_reduce_32
