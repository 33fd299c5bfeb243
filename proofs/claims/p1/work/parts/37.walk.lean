set_option maxHeartbeats 4000000 in
set_option maxRecDepth 100000 in
theorem rc_run (l : Launch) (dC : Nat → ClassId) (dI : Nat → Nat → Nat) (cI cJ cC cZ : ClassId) (σ : kSg) (g g_0 g_1 g_2 g_3 g_4 g_9 g_10 g_11 g_12 g_13 g_14 g_19 g_20 g_21 : Nat) (b0 : Int32) (pr0 : Bool) : kC l y_RM_run ws_RM_run (kRm 4 9216 110592 101) (dC, dI) (kTy cI cJ cC cZ) σ ([(g, .inr (8, [.ref g_0, .ref g_1, .ref g_2, .ref g_3, .ref g_4, .int 0, .int 0, .int 65535, .int 0, .ref g_9, .ref g_10, .ref g_11, .ref g_12, .ref g_13, .ref g_14, .int 0, .int 0, .int 0, .int 0, .ref g_19, .ref g_20, .ref g_21, .int 0, .int 0, .int 0])), (g_9, .inl (cI, 16, .inl (fun _ => 0))), (g_10, .inl (cI, 16, .inl (fun _ => 0))), (g_11, .inl (cI, 16, .inl (fun _ => 0))), (g_12, .inl (cZ, 192, .inl (fun _ => 0))), (g_13, .inl (cZ, 192, .inl (fun _ => 0))), (g_14, .inl (cZ, 144, .inl (fun _ => 0)))]) [.ref g, .int b0, .int (kb pr0)] (kQi (dC, dI) (kTy cI cJ cC cZ) (r_run b0) (fun _ : Unit => [])) 9216 110592 := by
  refine kr_met (cc := prog_12_method_16_code) (maxL := 8) (ret := (some .int)) (by decide) rfl (Nat.le_of_ble_eq_true rfl) ?_
  intro p e s m args below meth c A Q hQ hx hb hr hml hts hown hlocks hnm hA hP hK hD hSt ls hl
  have hS : va_S A s.heap s.heap [] := va_S.rf
  have hown : s.vm.findClass "KitRunnerModel" = some m.cls := hown
  have hl : lv_has ls 8 [(0, .ref g), (1, .int b0), (2, .int (kb pr0))] := hl
  have hP : va_P (dC, dI) vwCl [(g, .inr (8, [.ref g_0, .ref g_1, .ref g_2, .ref g_3, .ref g_4, .int 0, .int 0, .int 65535, .int 0, .ref g_9, .ref g_10, .ref g_11, .ref g_12, .ref g_13, .ref g_14, .int 0, .int 0, .int 0, .int 0, .ref g_19, .ref g_20, .ref g_21, .int 0, .int 0, .int 0])), (g_9, .inl (cI, 16, .inl (fun _ => 0))), (g_10, .inl (cI, 16, .inl (fun _ => 0))), (g_11, .inl (cI, 16, .inl (fun _ => 0))), (g_12, .inl (cZ, 192, .inl (fun _ => 0))), (g_13, .inl (cZ, 192, .inl (fun _ => 0))), (g_14, .inl (cZ, 144, .inl (fun _ => 0)))] s.heap := hP
  have hD : va_D A [(g, .inr (8, [.ref g_0, .ref g_1, .ref g_2, .ref g_3, .ref g_4, .int 0, .int 0, .int 65535, .int 0, .ref g_9, .ref g_10, .ref g_11, .ref g_12, .ref g_13, .ref g_14, .int 0, .int 0, .int 0, .int 0, .ref g_19, .ref g_20, .ref g_21, .int 0, .int 0, .int 0])), (g_9, .inl (cI, 16, .inl (fun _ => 0))), (g_10, .inl (cI, 16, .inl (fun _ => 0))), (g_11, .inl (cI, 16, .inl (fun _ => 0))), (g_12, .inl (cZ, 192, .inl (fun _ => 0))), (g_13, .inl (cZ, 192, .inl (fun _ => 0))), (g_14, .inl (cZ, 144, .inl (fun _ => 0)))] := hD
  have hf_149 := hts _ (List.mem_cons_of_mem _ wq_594)
  have hin_RM := fun w (h : w ∈ u_ws "KitRunnerModel" T_RM 25) => List.mem_cons_of_mem (Cond.code y_RM_run prog_12_method_16_code 8 (some .int)) (in_RM w h)
  have hf_158 := hts _ (List.mem_cons_of_mem _ wq_593)
  have hf_155 := hts _ (List.mem_cons_of_mem _ wq_592)
  have hf_152 := hts _ (List.mem_cons_of_mem _ wq_591)
  have hf_169 := hts _ (List.mem_cons_of_mem _ wq_584)
  have hf_30 := hts _ (List.mem_cons_of_mem _ wq_585)
  have hf_33 := hts _ (List.mem_cons_of_mem _ wq_586)
  have hf_36 := hts _ (List.mem_cons_of_mem _ wq_587)
  have hf_26 := hts _ (List.mem_cons_of_mem _ wq_583)
  have hini_RM := hts _ (List.mem_cons_of_mem _ wq_9)
  have hm_145 := hts _ (List.mem_cons_of_mem _ wq_726)
  have hs_145 := hts _ (List.mem_cons_of_mem _ wq_727)
  have hm_161 := hts _ (List.mem_cons_of_mem _ wq_732)
  have hi_161 := hts _ (List.mem_cons_of_mem _ wq_734)
  have hv_161 := hts _ (List.mem_cons_of_mem _ sq_8)
  have hm_165 := hts _ (List.mem_cons_of_mem _ wq_736)
  have hi_165 := hts _ (List.mem_cons_of_mem _ wq_738)
  have hv_165 := hts _ (List.mem_cons_of_mem _ sq_9)
  have hf_39 := hts _ (List.mem_cons_of_mem _ wq_588)
  have hf_43 := hts _ (List.mem_cons_of_mem _ wq_589)
  have hf_46 := hts _ (List.mem_cons_of_mem _ wq_590)
  refine lv_iload_n hx hb d_RM_run_0 rfl (lv_at hl 1 rfl) ?_
  refine lv_iconst (v := 1) hx hb d_RM_run_1 (by decide) ?_
  refine lv_icmp_lt (tgt := 10) hx hb d_RM_run_2 (by decide) (fun c_1 => ?_) (fun c_1 => ?_)
  · skip
    refine lv_iconst (v := (-1)) hx hb d_RM_run_10 (by decide) ?_
    have hpost : r_run b0 = -1 := by simp only [r_run, if_pos c_1]
    refine W.widen (k := 9216) (n := 110592) (by omega) (by omega) ?_
    have hP9 := hP.sub (ws' := []) [] rfl
    have hD9 := hD.sub (ws' := []) [] (by decide) rfl
    exact kr_iret (v := (-1)) hQ hx hb hr hlocks hK hP9 hD9 hS (by rw [hpost] <;> rfl) () rfl d_RM_run_11
  · skip
    refine lv_iload_n hx hb d_RM_run_5 rfl (lv_at hl 1 rfl) ?_
    refine lv_iconst (v := 3) hx hb d_RM_run_6 (by decide) ?_
    refine lv_icmp_le (tgt := 12) hx hb d_RM_run_7 (by decide) (fun c_2 => ?_) (fun c_2 => ?_)
    · skip
      refine lv_iload_n hx hb d_RM_run_12 rfl (lv_at hl 1 rfl) ?_
      refine lv_iconst (v := 1) hx hb d_RM_run_13 (by decide) ?_
      refine lv_icmp_ne (tgt := 21) hx hb d_RM_run_14 (by decide) (fun c_3 => ?_) (fun c_3 => ?_)
      · skip
        refine lv_iload_n hx hb d_RM_run_21 rfl (lv_at hl 1 rfl) ?_
        refine lv_iconst (v := 2) hx hb d_RM_run_22 (by decide) ?_
        refine lv_icmp_ne (tgt := 31) hx hb d_RM_run_23 (by decide) (fun c_4 => ?_) (fun c_4 => ?_)
        · skip
          refine lv_bipush (v := 12) hx hb d_RM_run_31 (by decide) ?_
          refine lv_istore_n (lv' := [(3, .int 12), (0, .ref g), (1, .int b0), (2, .int (kb pr0))]) hx hb d_RM_run_33 rfl hl (by decide) rfl (fun ls hl => ?_)
          refine lv_aload_n hx hb d_RM_run_34 rfl (lv_at hl 1 rfl) ?_
          refine lv_aload_n hx hb d_RM_run_35 rfl (lv_at hl 1 rfl) ?_
          refine lv_aload_n hx hb d_RM_run_36 rfl (lv_at hl 1 rfl) ?_
          refine lv_aload_n hx hb d_RM_run_37 rfl (lv_at hl 1 rfl) ?_
          refine lv_iconst (v := 0) hx hb d_RM_run_38 (by decide) ?_
          refine lv_dup_x1 hx hb d_RM_run_39 rfl rfl ?_
          refine va_put (D := (dC, dI)) (ci := 8) (v := .int 0) (ty := .int) (C := "KitRunnerModel") (T := T_RM) (N := 25) hx hb hts hin_RM ty_RM ty_RM_ok nm_RM hown hK hP hD hS 0 rfl rfl 18 (by decide) hf_149 (fun _ h9 => h9) rfl (by decide +kernel) rfl rfl (Nat.le_of_ble_eq_true rfl) d_RM_run_40 (fun H locs hP hD hS => ?_)
          have hP : va_P (dC, dI) vwCl [(g, .inr (8, [.ref g_0, .ref g_1, .ref g_2, .ref g_3, .ref g_4, .int 0, .int 0, .int 65535, .int 0, .ref g_9, .ref g_10, .ref g_11, .ref g_12, .ref g_13, .ref g_14, .int 0, .int 0, .int 0, .int 0, .ref g_19, .ref g_20, .ref g_21, .int 0, .int 0, .int 0])), (g_9, .inl (cI, 16, .inl (fun _ => 0))), (g_10, .inl (cI, 16, .inl (fun _ => 0))), (g_11, .inl (cI, 16, .inl (fun _ => 0))), (g_12, .inl (cZ, 192, .inl (fun _ => 0))), (g_13, .inl (cZ, 192, .inl (fun _ => 0))), (g_14, .inl (cZ, 144, .inl (fun _ => 0)))] H := hP
          have hD : va_D A [(g, .inr (8, [.ref g_0, .ref g_1, .ref g_2, .ref g_3, .ref g_4, .int 0, .int 0, .int 65535, .int 0, .ref g_9, .ref g_10, .ref g_11, .ref g_12, .ref g_13, .ref g_14, .int 0, .int 0, .int 0, .int 0, .ref g_19, .ref g_20, .ref g_21, .int 0, .int 0, .int 0])), (g_9, .inl (cI, 16, .inl (fun _ => 0))), (g_10, .inl (cI, 16, .inl (fun _ => 0))), (g_11, .inl (cI, 16, .inl (fun _ => 0))), (g_12, .inl (cZ, 192, .inl (fun _ => 0))), (g_13, .inl (cZ, 192, .inl (fun _ => 0))), (g_14, .inl (cZ, 144, .inl (fun _ => 0)))] := hD
          refine lv_dup_x1 hx hb d_RM_run_43 rfl rfl ?_
          refine va_put (D := (dC, dI)) (ci := 8) (v := .int 0) (ty := .int) (C := "KitRunnerModel") (T := T_RM) (N := 25) hx hb hts hin_RM ty_RM ty_RM_ok nm_RM hown hK hP hD hS 0 rfl rfl 17 (by decide) hf_158 (fun _ h9 => h9) rfl (by decide +kernel) rfl rfl (Nat.le_of_ble_eq_true rfl) d_RM_run_44 (fun H locs hP hD hS => ?_)
          have hP : va_P (dC, dI) vwCl [(g, .inr (8, [.ref g_0, .ref g_1, .ref g_2, .ref g_3, .ref g_4, .int 0, .int 0, .int 65535, .int 0, .ref g_9, .ref g_10, .ref g_11, .ref g_12, .ref g_13, .ref g_14, .int 0, .int 0, .int 0, .int 0, .ref g_19, .ref g_20, .ref g_21, .int 0, .int 0, .int 0])), (g_9, .inl (cI, 16, .inl (fun _ => 0))), (g_10, .inl (cI, 16, .inl (fun _ => 0))), (g_11, .inl (cI, 16, .inl (fun _ => 0))), (g_12, .inl (cZ, 192, .inl (fun _ => 0))), (g_13, .inl (cZ, 192, .inl (fun _ => 0))), (g_14, .inl (cZ, 144, .inl (fun _ => 0)))] H := hP
          have hD : va_D A [(g, .inr (8, [.ref g_0, .ref g_1, .ref g_2, .ref g_3, .ref g_4, .int 0, .int 0, .int 65535, .int 0, .ref g_9, .ref g_10, .ref g_11, .ref g_12, .ref g_13, .ref g_14, .int 0, .int 0, .int 0, .int 0, .ref g_19, .ref g_20, .ref g_21, .int 0, .int 0, .int 0])), (g_9, .inl (cI, 16, .inl (fun _ => 0))), (g_10, .inl (cI, 16, .inl (fun _ => 0))), (g_11, .inl (cI, 16, .inl (fun _ => 0))), (g_12, .inl (cZ, 192, .inl (fun _ => 0))), (g_13, .inl (cZ, 192, .inl (fun _ => 0))), (g_14, .inl (cZ, 144, .inl (fun _ => 0)))] := hD
          refine lv_dup_x1 hx hb d_RM_run_47 rfl rfl ?_
          refine va_put (D := (dC, dI)) (ci := 8) (v := .int 0) (ty := .int) (C := "KitRunnerModel") (T := T_RM) (N := 25) hx hb hts hin_RM ty_RM ty_RM_ok nm_RM hown hK hP hD hS 0 rfl rfl 16 (by decide) hf_155 (fun _ h9 => h9) rfl (by decide +kernel) rfl rfl (Nat.le_of_ble_eq_true rfl) d_RM_run_48 (fun H locs hP hD hS => ?_)
          have hP : va_P (dC, dI) vwCl [(g, .inr (8, [.ref g_0, .ref g_1, .ref g_2, .ref g_3, .ref g_4, .int 0, .int 0, .int 65535, .int 0, .ref g_9, .ref g_10, .ref g_11, .ref g_12, .ref g_13, .ref g_14, .int 0, .int 0, .int 0, .int 0, .ref g_19, .ref g_20, .ref g_21, .int 0, .int 0, .int 0])), (g_9, .inl (cI, 16, .inl (fun _ => 0))), (g_10, .inl (cI, 16, .inl (fun _ => 0))), (g_11, .inl (cI, 16, .inl (fun _ => 0))), (g_12, .inl (cZ, 192, .inl (fun _ => 0))), (g_13, .inl (cZ, 192, .inl (fun _ => 0))), (g_14, .inl (cZ, 144, .inl (fun _ => 0)))] H := hP
          have hD : va_D A [(g, .inr (8, [.ref g_0, .ref g_1, .ref g_2, .ref g_3, .ref g_4, .int 0, .int 0, .int 65535, .int 0, .ref g_9, .ref g_10, .ref g_11, .ref g_12, .ref g_13, .ref g_14, .int 0, .int 0, .int 0, .int 0, .ref g_19, .ref g_20, .ref g_21, .int 0, .int 0, .int 0])), (g_9, .inl (cI, 16, .inl (fun _ => 0))), (g_10, .inl (cI, 16, .inl (fun _ => 0))), (g_11, .inl (cI, 16, .inl (fun _ => 0))), (g_12, .inl (cZ, 192, .inl (fun _ => 0))), (g_13, .inl (cZ, 192, .inl (fun _ => 0))), (g_14, .inl (cZ, 144, .inl (fun _ => 0)))] := hD
          refine va_put (D := (dC, dI)) (ci := 8) (v := .int 0) (ty := .int) (C := "KitRunnerModel") (T := T_RM) (N := 25) hx hb hts hin_RM ty_RM ty_RM_ok nm_RM hown hK hP hD hS 0 rfl rfl 15 (by decide) hf_152 (fun _ h9 => h9) rfl (by decide +kernel) rfl rfl (Nat.le_of_ble_eq_true rfl) d_RM_run_51 (fun H locs hP hD hS => ?_)
          have hP : va_P (dC, dI) vwCl [(g, .inr (8, [.ref g_0, .ref g_1, .ref g_2, .ref g_3, .ref g_4, .int 0, .int 0, .int 65535, .int 0, .ref g_9, .ref g_10, .ref g_11, .ref g_12, .ref g_13, .ref g_14, .int 0, .int 0, .int 0, .int 0, .ref g_19, .ref g_20, .ref g_21, .int 0, .int 0, .int 0])), (g_9, .inl (cI, 16, .inl (fun _ => 0))), (g_10, .inl (cI, 16, .inl (fun _ => 0))), (g_11, .inl (cI, 16, .inl (fun _ => 0))), (g_12, .inl (cZ, 192, .inl (fun _ => 0))), (g_13, .inl (cZ, 192, .inl (fun _ => 0))), (g_14, .inl (cZ, 144, .inl (fun _ => 0)))] H := hP
          have hD : va_D A [(g, .inr (8, [.ref g_0, .ref g_1, .ref g_2, .ref g_3, .ref g_4, .int 0, .int 0, .int 65535, .int 0, .ref g_9, .ref g_10, .ref g_11, .ref g_12, .ref g_13, .ref g_14, .int 0, .int 0, .int 0, .int 0, .ref g_19, .ref g_20, .ref g_21, .int 0, .int 0, .int 0])), (g_9, .inl (cI, 16, .inl (fun _ => 0))), (g_10, .inl (cI, 16, .inl (fun _ => 0))), (g_11, .inl (cI, 16, .inl (fun _ => 0))), (g_12, .inl (cZ, 192, .inl (fun _ => 0))), (g_13, .inl (cZ, 192, .inl (fun _ => 0))), (g_14, .inl (cZ, 144, .inl (fun _ => 0)))] := hD
          refine lv_iconst (v := 0) hx hb d_RM_run_54 (by decide) ?_
          refine lv_istore (lv' := [(4, .int 0), (3, .int 12), (0, .ref g), (1, .int b0), (2, .int (kb pr0))]) hx hb d_RM_run_55 hl (by decide) rfl (fun ls hl => ?_)
          have loop_57 : ∀ (n : Nat) (k : Nat) (wa wb : Nat → Int32), (k + n = 192) → ∀ (H : Heap) (locs : List Loc), va_P (dC, dI) vwCl [(g, .inr (8, [.ref g_0, .ref g_1, .ref g_2, .ref g_3, .ref g_4, .int 0, .int 0, .int 65535, .int 0, .ref g_9, .ref g_10, .ref g_11, .ref g_12, .ref g_13, .ref g_14, .int 0, .int 0, .int 0, .int 0, .ref g_19, .ref g_20, .ref g_21, .int 0, .int 0, .int 0])), (g_9, .inl (cI, 16, .inl (fun _ => 0))), (g_10, .inl (cI, 16, .inl (fun _ => 0))), (g_11, .inl (cI, 16, .inl (fun _ => 0))), (g_12, .inl (cZ, 192, .inl wa)), (g_13, .inl (cZ, 192, .inl wb)), (g_14, .inl (cZ, 144, .inl (fun _ => 0)))] H → va_D A [(g, .inr (8, [.ref g_0, .ref g_1, .ref g_2, .ref g_3, .ref g_4, .int 0, .int 0, .int 65535, .int 0, .ref g_9, .ref g_10, .ref g_11, .ref g_12, .ref g_13, .ref g_14, .int 0, .int 0, .int 0, .int 0, .ref g_19, .ref g_20, .ref g_21, .int 0, .int 0, .int 0])), (g_9, .inl (cI, 16, .inl (fun _ => 0))), (g_10, .inl (cI, 16, .inl (fun _ => 0))), (g_11, .inl (cI, 16, .inl (fun _ => 0))), (g_12, .inl (cZ, 192, .inl wa)), (g_13, .inl (cZ, 192, .inl wb)), (g_14, .inl (cZ, 144, .inl (fun _ => 0)))] → va_S A s.heap H locs → ∀ ls : Array Slot, lv_has ls 8 [(4, .int (nI k)), (0, .ref g), (1, .int b0), (2, .int (kb pr0)), (3, .int 12)] → W p l e (kRm 4 9216 110592 101) s m args below meth c H locs 0 0 Q (F0 m 57 ls []) := by
            intro n
            induction n with
            | zero =>
              intro k wa wb hk H locs hP hD hS ls hl
              refine lv_iload hx hb d_RM_run_57 (lv_at hl 0 rfl) ?_
              refine lv_sipush (v := 192) hx hb d_RM_run_59 (by decide) ?_
              refine lv_icmp_ge (tgt := 87) hx hb d_RM_run_62 (by decide) (fun c_5 => ?_) (fun c_5 => ?_)
              · skip
                have c_5 : 192 ≤ k := (nI_leI (a := 192) (b := k) (by omega) (by omega)).mp c_5
                refine lv_iconst (v := 0) hx hb d_RM_run_87 (by decide) ?_
                refine lv_istore (lv' := [(4, .int 0), (0, .ref g), (1, .int b0), (2, .int (kb pr0)), (3, .int 12)]) hx hb d_RM_run_88 hl (by decide) rfl (fun ls hl => ?_)
                have loop_90 : ∀ (n : Nat) (k : Nat) (bo : Nat → Int32), (k + n = 144) → ∀ (H : Heap) (locs : List Loc), va_P (dC, dI) vwCl [(g, .inr (8, [.ref g_0, .ref g_1, .ref g_2, .ref g_3, .ref g_4, .int 0, .int 0, .int 65535, .int 0, .ref g_9, .ref g_10, .ref g_11, .ref g_12, .ref g_13, .ref g_14, .int 0, .int 0, .int 0, .int 0, .ref g_19, .ref g_20, .ref g_21, .int 0, .int 0, .int 0])), (g_9, .inl (cI, 16, .inl (fun _ => 0))), (g_10, .inl (cI, 16, .inl (fun _ => 0))), (g_11, .inl (cI, 16, .inl (fun _ => 0))), (g_12, .inl (cZ, 192, .inl wa)), (g_13, .inl (cZ, 192, .inl wb)), (g_14, .inl (cZ, 144, .inl bo))] H → va_D A [(g, .inr (8, [.ref g_0, .ref g_1, .ref g_2, .ref g_3, .ref g_4, .int 0, .int 0, .int 65535, .int 0, .ref g_9, .ref g_10, .ref g_11, .ref g_12, .ref g_13, .ref g_14, .int 0, .int 0, .int 0, .int 0, .ref g_19, .ref g_20, .ref g_21, .int 0, .int 0, .int 0])), (g_9, .inl (cI, 16, .inl (fun _ => 0))), (g_10, .inl (cI, 16, .inl (fun _ => 0))), (g_11, .inl (cI, 16, .inl (fun _ => 0))), (g_12, .inl (cZ, 192, .inl wa)), (g_13, .inl (cZ, 192, .inl wb)), (g_14, .inl (cZ, 144, .inl bo))] → va_S A s.heap H locs → ∀ ls : Array Slot, lv_has ls 8 [(4, .int (nI k)), (0, .ref g), (1, .int b0), (2, .int (kb pr0)), (3, .int 12)] → W p l e (kRm 4 9216 110592 101) s m args below meth c H locs 0 0 Q (F0 m 90 ls []) := by
                  intro n
                  induction n with
                  | zero =>
                    intro k bo hk H locs hP hD hS ls hl
                    refine lv_iload hx hb d_RM_run_90 (lv_at hl 0 rfl) ?_
                    refine lv_sipush (v := 144) hx hb d_RM_run_92 (by decide) ?_
                    refine lv_icmp_ge (tgt := 112) hx hb d_RM_run_95 (by decide) (fun c_6 => ?_) (fun c_6 => ?_)
                    · skip
                      have c_6 : 144 ≤ k := (nI_leI (a := 144) (b := k) (by omega) (by omega)).mp c_6
                      refine lv_iconst (v := 0) hx hb d_RM_run_112 (by decide) ?_
                      refine lv_istore (lv' := [(4, .int 0), (0, .ref g), (1, .int b0), (2, .int (kb pr0)), (3, .int 12)]) hx hb d_RM_run_113 hl (by decide) rfl (fun ls hl => ?_)
                      have loop_115 : ∀ (n : Nat) (i : Nat) (tb fb lg wA wB bO : Nat → Int32) (ps tk : Int32), (i + n = 16) → ∀ (H : Heap) (locs : List Loc), va_P (dC, dI) vwCl [(g, .inr (8, [.ref g_0, .ref g_1, .ref g_2, .ref g_3, .ref g_4, .int 0, .int 0, .int 65535, .int 0, .ref g_9, .ref g_10, .ref g_11, .ref g_12, .ref g_13, .ref g_14, .int tk, .int 0, .int 0, .int ps, .ref g_19, .ref g_20, .ref g_21, .int 0, .int 0, .int 0])), (g_9, .inl (cI, 16, .inl tb)), (g_10, .inl (cI, 16, .inl fb)), (g_11, .inl (cI, 16, .inl lg)), (g_12, .inl (cZ, 192, .inl wA)), (g_13, .inl (cZ, 192, .inl wB)), (g_14, .inl (cZ, 144, .inl bO))] H → va_D A [(g, .inr (8, [.ref g_0, .ref g_1, .ref g_2, .ref g_3, .ref g_4, .int 0, .int 0, .int 65535, .int 0, .ref g_9, .ref g_10, .ref g_11, .ref g_12, .ref g_13, .ref g_14, .int tk, .int 0, .int 0, .int ps, .ref g_19, .ref g_20, .ref g_21, .int 0, .int 0, .int 0])), (g_9, .inl (cI, 16, .inl tb)), (g_10, .inl (cI, 16, .inl fb)), (g_11, .inl (cI, 16, .inl lg)), (g_12, .inl (cZ, 192, .inl wA)), (g_13, .inl (cZ, 192, .inl wB)), (g_14, .inl (cZ, 144, .inl bO))] → va_S A s.heap H locs → ∀ ls : Array Slot, lv_has ls 8 [(4, .int (nI i)), (0, .ref g), (1, .int b0), (2, .int (kb pr0)), (3, .int 12)] → W p l e (kRm 4 9216 110592 101) s m args below meth c H locs (576 * i) (6912 * i) Q (F0 m 115 ls []) := by
                        intro n
                        induction n with
                        | zero =>
                          intro i tb fb lg wA wB bO ps tk hi H locs hP hD hS ls hl
                          refine lv_iload hx hb d_RM_run_115 (lv_at hl 0 rfl) ?_
                          refine lv_bipush (v := 16) hx hb d_RM_run_117 (by decide) ?_
                          refine lv_icmp_ge (tgt := 290) hx hb d_RM_run_119 (by decide) (fun c_7 => ?_) (fun c_7 => ?_)
                          · skip
                            have c_7 : 16 ≤ i := (nI_leI (a := 16) (b := i) (by omega) (by omega)).mp c_7
                            refine lv_aload_n hx hb d_RM_run_290 rfl (lv_at hl 1 rfl) ?_
                            refine lv_dup hx hb d_RM_run_291 rfl ?_
                            refine va_get (D := (dC, dI)) (ci := 8) (v := .int 0) (C := "KitRunnerModel") (T := T_RM) (N := 25) hx hb hts hin_RM hown hK hP 0 rfl rfl 8 (by decide) hf_169 (fun _ h9 => h9) rfl d_RM_run_292 ?_
                            refine lv_iconst (v := 1) hx hb d_RM_run_295 (by decide) ?_
                            refine lv_iadd hx hb d_RM_run_296 ?_
                            refine kr_topi (x := (0 + 1 : Int32)) (y := 1) (by decide) ?_
                            refine va_put (D := (dC, dI)) (ci := 8) (v := .int 1) (ty := .int) (C := "KitRunnerModel") (T := T_RM) (N := 25) hx hb hts hin_RM ty_RM ty_RM_ok nm_RM hown hK hP hD hS 0 rfl rfl 8 (by decide) hf_169 (fun _ h9 => h9) rfl (by decide +kernel) rfl rfl (Nat.le_of_ble_eq_true rfl) d_RM_run_297 (fun H locs hP hD hS => ?_)
                            have hP : va_P (dC, dI) vwCl [(g, .inr (8, [.ref g_0, .ref g_1, .ref g_2, .ref g_3, .ref g_4, .int 0, .int 0, .int 65535, .int 1, .ref g_9, .ref g_10, .ref g_11, .ref g_12, .ref g_13, .ref g_14, .int tk, .int 0, .int 0, .int ps, .ref g_19, .ref g_20, .ref g_21, .int 0, .int 0, .int 0])), (g_9, .inl (cI, 16, .inl tb)), (g_10, .inl (cI, 16, .inl fb)), (g_11, .inl (cI, 16, .inl lg)), (g_12, .inl (cZ, 192, .inl wA)), (g_13, .inl (cZ, 192, .inl wB)), (g_14, .inl (cZ, 144, .inl bO))] H := hP
                            have hD : va_D A [(g, .inr (8, [.ref g_0, .ref g_1, .ref g_2, .ref g_3, .ref g_4, .int 0, .int 0, .int 65535, .int 1, .ref g_9, .ref g_10, .ref g_11, .ref g_12, .ref g_13, .ref g_14, .int tk, .int 0, .int 0, .int ps, .ref g_19, .ref g_20, .ref g_21, .int 0, .int 0, .int 0])), (g_9, .inl (cI, 16, .inl tb)), (g_10, .inl (cI, 16, .inl fb)), (g_11, .inl (cI, 16, .inl lg)), (g_12, .inl (cZ, 192, .inl wA)), (g_13, .inl (cZ, 192, .inl wB)), (g_14, .inl (cZ, 144, .inl bO))] := hD
                            refine lv_aload_n hx hb d_RM_run_300 rfl (lv_at hl 1 rfl) ?_
                            refine va_get (D := (dC, dI)) (ci := 8) (v := .int 0) (C := "KitRunnerModel") (T := T_RM) (N := 25) hx hb hts hin_RM hown hK hP 0 rfl rfl 16 (by decide) hf_155 (fun _ h9 => h9) rfl d_RM_run_301 ?_
                            have hpost : r_run b0 = 0 := by simp only [r_run, if_neg c_1, if_pos c_2]
                            refine W.widen (k := 9216) (n := 110592) (by omega) (by omega) ?_
                            have hP9 := hP.sub (ws' := []) [] rfl
                            have hD9 := hD.sub (ws' := []) [] (by decide) rfl
                            exact kr_iret (v := 0) hQ hx hb hr hlocks hK hP9 hD9 hS (by rw [hpost] <;> rfl) () rfl d_RM_run_304
                          · skip
                            have c_7 : ¬ 16 ≤ i := fun h9 => c_7 ((nI_leI (a := 16) (b := i) (by omega) (by omega)).mpr h9)
                            exfalso; omega
                        | succ n ih_115 =>
                          intro i tb fb lg wA wB bO ps tk hi H locs hP hD hS ls hl
                          refine lv_iload hx hb d_RM_run_115 (lv_at hl 0 rfl) ?_
                          refine lv_bipush (v := 16) hx hb d_RM_run_117 (by decide) ?_
                          refine lv_icmp_ge (tgt := 290) hx hb d_RM_run_119 (by decide) (fun c_8 => ?_) (fun c_8 => ?_)
                          · skip
                            have c_8 : 16 ≤ i := (nI_leI (a := 16) (b := i) (by omega) (by omega)).mp c_8
                            exfalso; omega
                          · skip
                            have c_8 : ¬ 16 ≤ i := fun h9 => c_8 ((nI_leI (a := 16) (b := i) (by omega) (by omega)).mpr h9)
                            refine lv_aload_n hx hb d_RM_run_122 rfl (lv_at hl 1 rfl) ?_
                            refine va_get (D := (dC, dI)) (ci := 8) (v := .ref g_9) (C := "KitRunnerModel") (T := T_RM) (N := 25) hx hb hts hin_RM hown hK hP 0 rfl rfl 9 (by decide) hf_30 (fun _ h9 => h9) rfl d_RM_run_123 ?_
                            refine lv_iload hx hb d_RM_run_126 (lv_at hl 0 rfl) ?_
                            refine lv_aload_n hx hb d_RM_run_128 rfl (lv_at hl 1 rfl) ?_
                            refine va_get (D := (dC, dI)) (ci := 8) (v := .ref g_10) (C := "KitRunnerModel") (T := T_RM) (N := 25) hx hb hts hin_RM hown hK hP 0 rfl rfl 10 (by decide) hf_33 (fun _ h9 => h9) rfl d_RM_run_129 ?_
                            refine lv_iload hx hb d_RM_run_132 (lv_at hl 0 rfl) ?_
                            refine lv_aload_n hx hb d_RM_run_134 rfl (lv_at hl 1 rfl) ?_
                            refine va_get (D := (dC, dI)) (ci := 8) (v := .ref g_11) (C := "KitRunnerModel") (T := T_RM) (N := 25) hx hb hts hin_RM hown hK hP 0 rfl rfl 11 (by decide) hf_36 (fun _ h9 => h9) rfl d_RM_run_135 ?_
                            refine lv_iload hx hb d_RM_run_138 (lv_at hl 0 rfl) ?_
                            refine lv_iconst (v := 0) hx hb d_RM_run_140 (by decide) ?_
                            refine lv_dup_x2 hx hb d_RM_run_141 rfl rfl rfl ?_
                            refine kr_iast (k := i) hx hb hK hP hD hS 3 0 rfl rfl (by omega) (by first | decide | omega) d_RM_run_142 (fun H locs hP hD hS => ?_)
                            have hP : va_P (dC, dI) vwCl [(g, .inr (8, [.ref g_0, .ref g_1, .ref g_2, .ref g_3, .ref g_4, .int 0, .int 0, .int 65535, .int 0, .ref g_9, .ref g_10, .ref g_11, .ref g_12, .ref g_13, .ref g_14, .int tk, .int 0, .int 0, .int ps, .ref g_19, .ref g_20, .ref g_21, .int 0, .int 0, .int 0])), (g_9, .inl (cI, 16, .inl tb)), (g_10, .inl (cI, 16, .inl fb)), (g_11, .inl (cI, 16, .inl (upd lg i 0))), (g_12, .inl (cZ, 192, .inl wA)), (g_13, .inl (cZ, 192, .inl wB)), (g_14, .inl (cZ, 144, .inl bO))] H := hP
                            have hD : va_D A [(g, .inr (8, [.ref g_0, .ref g_1, .ref g_2, .ref g_3, .ref g_4, .int 0, .int 0, .int 65535, .int 0, .ref g_9, .ref g_10, .ref g_11, .ref g_12, .ref g_13, .ref g_14, .int tk, .int 0, .int 0, .int ps, .ref g_19, .ref g_20, .ref g_21, .int 0, .int 0, .int 0])), (g_9, .inl (cI, 16, .inl tb)), (g_10, .inl (cI, 16, .inl fb)), (g_11, .inl (cI, 16, .inl (upd lg i 0))), (g_12, .inl (cZ, 192, .inl wA)), (g_13, .inl (cZ, 192, .inl wB)), (g_14, .inl (cZ, 144, .inl bO))] := hD
                            refine lv_dup_x2 hx hb d_RM_run_143 rfl rfl rfl ?_
                            refine kr_iast (k := i) hx hb hK hP hD hS 2 0 rfl rfl (by omega) (by first | decide | omega) d_RM_run_144 (fun H locs hP hD hS => ?_)
                            have hP : va_P (dC, dI) vwCl [(g, .inr (8, [.ref g_0, .ref g_1, .ref g_2, .ref g_3, .ref g_4, .int 0, .int 0, .int 65535, .int 0, .ref g_9, .ref g_10, .ref g_11, .ref g_12, .ref g_13, .ref g_14, .int tk, .int 0, .int 0, .int ps, .ref g_19, .ref g_20, .ref g_21, .int 0, .int 0, .int 0])), (g_9, .inl (cI, 16, .inl tb)), (g_10, .inl (cI, 16, .inl (upd fb i 0))), (g_11, .inl (cI, 16, .inl (upd lg i 0))), (g_12, .inl (cZ, 192, .inl wA)), (g_13, .inl (cZ, 192, .inl wB)), (g_14, .inl (cZ, 144, .inl bO))] H := hP
                            have hD : va_D A [(g, .inr (8, [.ref g_0, .ref g_1, .ref g_2, .ref g_3, .ref g_4, .int 0, .int 0, .int 65535, .int 0, .ref g_9, .ref g_10, .ref g_11, .ref g_12, .ref g_13, .ref g_14, .int tk, .int 0, .int 0, .int ps, .ref g_19, .ref g_20, .ref g_21, .int 0, .int 0, .int 0])), (g_9, .inl (cI, 16, .inl tb)), (g_10, .inl (cI, 16, .inl (upd fb i 0))), (g_11, .inl (cI, 16, .inl (upd lg i 0))), (g_12, .inl (cZ, 192, .inl wA)), (g_13, .inl (cZ, 192, .inl wB)), (g_14, .inl (cZ, 144, .inl bO))] := hD
                            refine kr_iast (k := i) hx hb hK hP hD hS 1 0 rfl rfl (by omega) (by first | decide | omega) d_RM_run_145 (fun H locs hP hD hS => ?_)
                            have hP : va_P (dC, dI) vwCl [(g, .inr (8, [.ref g_0, .ref g_1, .ref g_2, .ref g_3, .ref g_4, .int 0, .int 0, .int 65535, .int 0, .ref g_9, .ref g_10, .ref g_11, .ref g_12, .ref g_13, .ref g_14, .int tk, .int 0, .int 0, .int ps, .ref g_19, .ref g_20, .ref g_21, .int 0, .int 0, .int 0])), (g_9, .inl (cI, 16, .inl (upd tb i 0))), (g_10, .inl (cI, 16, .inl (upd fb i 0))), (g_11, .inl (cI, 16, .inl (upd lg i 0))), (g_12, .inl (cZ, 192, .inl wA)), (g_13, .inl (cZ, 192, .inl wB)), (g_14, .inl (cZ, 144, .inl bO))] H := hP
                            have hD : va_D A [(g, .inr (8, [.ref g_0, .ref g_1, .ref g_2, .ref g_3, .ref g_4, .int 0, .int 0, .int 65535, .int 0, .ref g_9, .ref g_10, .ref g_11, .ref g_12, .ref g_13, .ref g_14, .int tk, .int 0, .int 0, .int ps, .ref g_19, .ref g_20, .ref g_21, .int 0, .int 0, .int 0])), (g_9, .inl (cI, 16, .inl (upd tb i 0))), (g_10, .inl (cI, 16, .inl (upd fb i 0))), (g_11, .inl (cI, 16, .inl (upd lg i 0))), (g_12, .inl (cZ, 192, .inl wA)), (g_13, .inl (cZ, 192, .inl wB)), (g_14, .inl (cZ, 144, .inl bO))] := hD
                            refine lv_aload_n hx hb d_RM_run_146 rfl (lv_at hl 1 rfl) ?_
                            refine va_get (D := (dC, dI)) (ci := 8) (v := .int 65535) (C := "KitRunnerModel") (T := T_RM) (N := 25) hx hb hts hin_RM hown hK hP 0 rfl rfl 7 (by decide) hf_26 (fun _ h9 => h9) rfl d_RM_run_147 ?_
                            refine lv_iload hx hb d_RM_run_150 (lv_at hl 0 rfl) ?_
                            refine lv_ishr hx hb d_RM_run_152 ?_
                            refine lv_iconst (v := 1) hx hb d_RM_run_153 (by decide) ?_
                            refine lv_iand hx hb d_RM_run_154 ?_
                            refine lv_if_ne (tgt := 161) hx hb d_RM_run_155 (by decide) (fun c_9 => ?_) (fun c_9 => ?_)
                            · skip
                              refine lv_iconst (v := 0) hx hb d_RM_run_161 (by decide) ?_
                              refine lv_istore (lv' := [(5, .int 0), (4, .int (nI i)), (0, .ref g), (1, .int b0), (2, .int (kb pr0)), (3, .int 12)]) hx hb d_RM_run_162 hl (by decide) rfl (fun ls hl => ?_)
                              have loop_164 : ∀ (n2 : Nat) (k : Nat) (tb2 lg2 wA2 wB2 bO2 : Nat → Int32) (ps2 tk2 : Int32), (k + n2 = 144) → ∀ (H : Heap) (locs : List Loc), va_P (dC, dI) vwCl [(g, .inr (8, [.ref g_0, .ref g_1, .ref g_2, .ref g_3, .ref g_4, .int 0, .int 0, .int 65535, .int 0, .ref g_9, .ref g_10, .ref g_11, .ref g_12, .ref g_13, .ref g_14, .int tk2, .int 0, .int 0, .int ps2, .ref g_19, .ref g_20, .ref g_21, .int 0, .int 0, .int 0])), (g_9, .inl (cI, 16, .inl tb2)), (g_10, .inl (cI, 16, .inl (upd fb i 0))), (g_11, .inl (cI, 16, .inl lg2)), (g_12, .inl (cZ, 192, .inl wA2)), (g_13, .inl (cZ, 192, .inl wB2)), (g_14, .inl (cZ, 144, .inl bO2))] H → va_D A [(g, .inr (8, [.ref g_0, .ref g_1, .ref g_2, .ref g_3, .ref g_4, .int 0, .int 0, .int 65535, .int 0, .ref g_9, .ref g_10, .ref g_11, .ref g_12, .ref g_13, .ref g_14, .int tk2, .int 0, .int 0, .int ps2, .ref g_19, .ref g_20, .ref g_21, .int 0, .int 0, .int 0])), (g_9, .inl (cI, 16, .inl tb2)), (g_10, .inl (cI, 16, .inl (upd fb i 0))), (g_11, .inl (cI, 16, .inl lg2)), (g_12, .inl (cZ, 192, .inl wA2)), (g_13, .inl (cZ, 192, .inl wB2)), (g_14, .inl (cZ, 144, .inl bO2))] → va_S A s.heap H locs → ∀ ls : Array Slot, lv_has ls 8 [(5, .int (nI k)), (4, .int (nI i)), (0, .ref g), (1, .int b0), (2, .int (kb pr0)), (3, .int 12)] → W p l e (kRm 4 9216 110592 101) s m args below meth c H locs (576 * i + 4 * k) (6912 * i + 48 * k) Q (F0 m 164 ls []) := by
                                intro n2
                                induction n2 with
                                | zero =>
                                  intro k tb2 lg2 wA2 wB2 bO2 ps2 tk2 hk H locs hP hD hS ls hl
                                  refine lv_iload hx hb d_RM_run_164 (lv_at hl 0 rfl) ?_
                                  refine lv_iload_n hx hb d_RM_run_166 rfl (lv_at hl 5 rfl) ?_
                                  refine lv_iload_n hx hb d_RM_run_167 rfl (lv_at hl 5 rfl) ?_
                                  refine lv_imul hx hb d_RM_run_168 ?_
                                  refine kr_topi (x := (12 * 12 : Int32)) (y := 144) (by decide) ?_
                                  refine lv_icmp_ge (tgt := 284) hx hb d_RM_run_169 (by decide) (fun c_10 => ?_) (fun c_10 => ?_)
                                  · skip
                                    have c_10 : 144 ≤ k := (nI_leI (a := 144) (b := k) (by omega) (by omega)).mp c_10
                                    refine lv_iinc (v := (nI (i + 1))) (lv' := [(4, .int (nI (i + 1))), (5, .int (nI k)), (0, .ref g), (1, .int b0), (2, .int (kb pr0)), (3, .int 12)]) hx hb d_RM_run_284 hl (k := 1) rfl (nI_1 i) (by decide) rfl (fun ls hl => ?_)
                                    refine lv_goto (tgt := 115) hx hb d_RM_run_287 (by decide) ?_
                                    refine W.widen (k := 576 * (i + 1)) (n := 6912 * (i + 1)) (by omega) (by omega) ?_
                                    exact ih_115 (i + 1) tb2 (upd fb i 0) lg2 wA2 wB2 bO2 ps2 tk2 (by omega) _ _ (hP.sub [0, 1, 2, 3, 4, 5, 6] rfl) (hD.sub [0, 1, 2, 3, 4, 5, 6] (by decide) rfl) hS ls (lv_sub hl [0, 2, 3, 4, 5] rfl)
                                  · skip
                                    have c_10 : ¬ 144 ≤ k := fun h9 => c_10 ((nI_leI (a := 144) (b := k) (by omega) (by omega)).mpr h9)
                                    exfalso; omega
                                | succ n2 ih_164 =>
                                  intro k tb2 lg2 wA2 wB2 bO2 ps2 tk2 hk H locs hP hD hS ls hl
                                  refine lv_iload hx hb d_RM_run_164 (lv_at hl 0 rfl) ?_
                                  refine lv_iload_n hx hb d_RM_run_166 rfl (lv_at hl 5 rfl) ?_
                                  refine lv_iload_n hx hb d_RM_run_167 rfl (lv_at hl 5 rfl) ?_
                                  refine lv_imul hx hb d_RM_run_168 ?_
                                  refine kr_topi (x := (12 * 12 : Int32)) (y := 144) (by decide) ?_
                                  refine lv_icmp_ge (tgt := 284) hx hb d_RM_run_169 (by decide) (fun c_11 => ?_) (fun c_11 => ?_)
                                  · skip
                                    have c_11 : 144 ≤ k := (nI_leI (a := 144) (b := k) (by omega) (by omega)).mp c_11
                                    exfalso; omega
                                  · skip
                                    have c_11 : ¬ 144 ≤ k := fun h9 => c_11 ((nI_leI (a := 144) (b := k) (by omega) (by omega)).mpr h9)
                                    refine lv_iload hx hb d_RM_run_172 (lv_at hl 0 rfl) ?_
                                    refine lv_iload_n hx hb d_RM_run_174 rfl (lv_at hl 5 rfl) ?_
                                    refine lv_idiv hx hb d_RM_run_175 (by decide) ?_
                                    refine kr_topi (x := (nI k) / 12) (y := nI (k / 12)) (pk_div (a := k) (d := 12) (by omega) (by decide) (by decide)) ?_
                                    refine lv_istore (lv' := [(6, .int (nI (k / 12))), (5, .int (nI k)), (4, .int (nI i)), (0, .ref g), (1, .int b0), (2, .int (kb pr0)), (3, .int 12)]) hx hb d_RM_run_176 hl (by decide) rfl (fun ls hl => ?_)
                                    refine lv_iload hx hb d_RM_run_178 (lv_at hl 1 rfl) ?_
                                    refine lv_iload_n hx hb d_RM_run_180 rfl (lv_at hl 6 rfl) ?_
                                    refine lv_irem hx hb d_RM_run_181 (by decide) ?_
                                    refine kr_topi (x := (nI k) - (nI k) / 12 * 12) (y := nI (k % 12)) (pk_rem (a := k) (d := 12) (by omega) (by decide) (by decide)) ?_
                                    refine lv_istore (lv' := [(7, .int (nI (k % 12))), (6, .int (nI (k / 12))), (5, .int (nI k)), (4, .int (nI i)), (0, .ref g), (1, .int b0), (2, .int (kb pr0)), (3, .int 12)]) hx hb d_RM_run_182 hl (by decide) rfl (fun ls hl => ?_)
                                    refine lv_aload_n hx hb d_RM_run_184 rfl (lv_at hl 4 rfl) ?_
                                    refine lv_iload hx hb d_RM_run_185 (lv_at hl 3 rfl) ?_
                                    refine lv_iload hx hb d_RM_run_187 (lv_at hl 1 rfl) ?_
                                    have hpre_12 := kr_pre (wc := []) (av := [.int (nI (k / 12))]) hK hP hD hS hA hSt [] rfl (by decide)
                                    refine kj_im (wc := []) (wr := [(g, .inr (8, [.ref g_0, .ref g_1, .ref g_2, .ref g_3, .ref g_4, .int 0, .int 0, .int 65535, .int 0, .ref g_9, .ref g_10, .ref g_11, .ref g_12, .ref g_13, .ref g_14, .int tk2, .int 0, .int 0, .int ps2, .ref g_19, .ref g_20, .ref g_21, .int 0, .int 0, .int 0])), (g_9, .inl (cI, 16, .inl tb2)), (g_10, .inl (cI, 16, .inl (upd fb i 0))), (g_11, .inl (cI, 16, .inl lg2)), (g_12, .inl (cZ, 192, .inl wA2)), (g_13, .inl (cZ, 192, .inl wB2)), (g_14, .inl (cZ, 144, .inl bO2))]) (va_runS (As := [.int (nI (k / 12))]) (rest := [.int (nI i), .ref g]) ⟨hx, hb, hml, hown, hts⟩ (rc_lattice l dC dI cI cJ cC cZ σ (k / 12) (by (try dsimp only) <;> first | assumption | omega) _) ⟨(callB_of 1 hts (kg wq_728) rfl rfl rfl hini_RM hm_145 (by decide +kernel) ⟨Nat.le_of_ble_eq_true rfl, Nat.le_of_ble_eq_true rfl⟩), hs_145⟩ hpre_12 rfl rfl hl.1 rfl (lv_room (Nat.le_of_ble_eq_true rfl)) d_RM_run_189 ⟨by show 576 * i + 4 * k + 1 ≤ 9216; omega, by show 6912 * i + 48 * k + 12 ≤ 110592; omega⟩) hP hD hS hA [] [0, 1, 2, 3, 4, 5, 6] rfl rfl (by decide) (by decide) (fun _ H locs hP hD hS => ?_)
                                    refine W.cs (cells' := 576 * i + 4 * k + 1) (slots' := 6912 * i + 48 * k + 12) rfl rfl ?_
                                    have hP : va_P (dC, dI) vwCl [(g, .inr (8, [.ref g_0, .ref g_1, .ref g_2, .ref g_3, .ref g_4, .int 0, .int 0, .int 65535, .int 0, .ref g_9, .ref g_10, .ref g_11, .ref g_12, .ref g_13, .ref g_14, .int tk2, .int 0, .int 0, .int ps2, .ref g_19, .ref g_20, .ref g_21, .int 0, .int 0, .int 0])), (g_9, .inl (cI, 16, .inl tb2)), (g_10, .inl (cI, 16, .inl (upd fb i 0))), (g_11, .inl (cI, 16, .inl lg2)), (g_12, .inl (cZ, 192, .inl wA2)), (g_13, .inl (cZ, 192, .inl wB2)), (g_14, .inl (cZ, 144, .inl bO2))] H := hP
                                    have hD : va_D A [(g, .inr (8, [.ref g_0, .ref g_1, .ref g_2, .ref g_3, .ref g_4, .int 0, .int 0, .int 65535, .int 0, .ref g_9, .ref g_10, .ref g_11, .ref g_12, .ref g_13, .ref g_14, .int tk2, .int 0, .int 0, .int ps2, .ref g_19, .ref g_20, .ref g_21, .int 0, .int 0, .int 0])), (g_9, .inl (cI, 16, .inl tb2)), (g_10, .inl (cI, 16, .inl (upd fb i 0))), (g_11, .inl (cI, 16, .inl lg2)), (g_12, .inl (cZ, 192, .inl wA2)), (g_13, .inl (cZ, 192, .inl wB2)), (g_14, .inl (cZ, 144, .inl bO2))] := hD
                                    refine lv_iload hx hb d_RM_run_192 (lv_at hl 0 rfl) ?_
                                    have hpre_13 := kr_pre (wc := []) (av := [.int (nI (k % 12))]) hK hP hD hS hA hSt [] rfl (by decide)
                                    refine kj_im (wc := []) (wr := [(g, .inr (8, [.ref g_0, .ref g_1, .ref g_2, .ref g_3, .ref g_4, .int 0, .int 0, .int 65535, .int 0, .ref g_9, .ref g_10, .ref g_11, .ref g_12, .ref g_13, .ref g_14, .int tk2, .int 0, .int 0, .int ps2, .ref g_19, .ref g_20, .ref g_21, .int 0, .int 0, .int 0])), (g_9, .inl (cI, 16, .inl tb2)), (g_10, .inl (cI, 16, .inl (upd fb i 0))), (g_11, .inl (cI, 16, .inl lg2)), (g_12, .inl (cZ, 192, .inl wA2)), (g_13, .inl (cZ, 192, .inl wB2)), (g_14, .inl (cZ, 144, .inl bO2))]) (va_runS (As := [.int (nI (k % 12))]) (rest := [.int (kLat (k / 12)), .int (nI i), .ref g]) ⟨hx, hb, hml, hown, hts⟩ (rc_lattice l dC dI cI cJ cC cZ σ (k % 12) (by (try dsimp only) <;> first | assumption | omega) _) ⟨(callB_of 1 hts (kg wq_728) rfl rfl rfl hini_RM hm_145 (by decide +kernel) ⟨Nat.le_of_ble_eq_true rfl, Nat.le_of_ble_eq_true rfl⟩), hs_145⟩ hpre_13 rfl rfl hl.1 rfl (lv_room (Nat.le_of_ble_eq_true rfl)) d_RM_run_194 ⟨by show 576 * i + 4 * k + 1 + 1 ≤ 9216; omega, by show 6912 * i + 48 * k + 12 + 12 ≤ 110592; omega⟩) hP hD hS hA [] [0, 1, 2, 3, 4, 5, 6] rfl rfl (by decide) (by decide) (fun _ H locs hP hD hS => ?_)
                                    refine W.cs (cells' := 576 * i + 4 * k + 2) (slots' := 6912 * i + 48 * k + 24) rfl rfl ?_
                                    have hP : va_P (dC, dI) vwCl [(g, .inr (8, [.ref g_0, .ref g_1, .ref g_2, .ref g_3, .ref g_4, .int 0, .int 0, .int 65535, .int 0, .ref g_9, .ref g_10, .ref g_11, .ref g_12, .ref g_13, .ref g_14, .int tk2, .int 0, .int 0, .int ps2, .ref g_19, .ref g_20, .ref g_21, .int 0, .int 0, .int 0])), (g_9, .inl (cI, 16, .inl tb2)), (g_10, .inl (cI, 16, .inl (upd fb i 0))), (g_11, .inl (cI, 16, .inl lg2)), (g_12, .inl (cZ, 192, .inl wA2)), (g_13, .inl (cZ, 192, .inl wB2)), (g_14, .inl (cZ, 144, .inl bO2))] H := hP
                                    have hD : va_D A [(g, .inr (8, [.ref g_0, .ref g_1, .ref g_2, .ref g_3, .ref g_4, .int 0, .int 0, .int 65535, .int 0, .ref g_9, .ref g_10, .ref g_11, .ref g_12, .ref g_13, .ref g_14, .int tk2, .int 0, .int 0, .int ps2, .ref g_19, .ref g_20, .ref g_21, .int 0, .int 0, .int 0])), (g_9, .inl (cI, 16, .inl tb2)), (g_10, .inl (cI, 16, .inl (upd fb i 0))), (g_11, .inl (cI, 16, .inl lg2)), (g_12, .inl (cZ, 192, .inl wA2)), (g_13, .inl (cZ, 192, .inl wB2)), (g_14, .inl (cZ, 144, .inl bO2))] := hD
                                    have hpre_14 := kr_pre (wc := [(g, .inr (8, [.ref g_0, .ref g_1, .ref g_2, .ref g_3, .ref g_4, .int 0, .int 0, .int 65535, .int 0, .ref g_9, .ref g_10, .ref g_11, .ref g_12, .ref g_13, .ref g_14, .int tk2, .int 0, .int 0, .int ps2, .ref g_19, .ref g_20, .ref g_21, .int 0, .int 0, .int 0]))]) (av := [.ref g, .int (nI i), .int (kLat (k / 12)), .int (kLat (k % 12))]) hK hP hD hS hA hSt [0] rfl (by decide)
                                    refine kj_i (wc := [(g, .inr (8, [.ref g_0, .ref g_1, .ref g_2, .ref g_3, .ref g_4, .int 0, .int 0, .int 65535, .int 0, .ref g_9, .ref g_10, .ref g_11, .ref g_12, .ref g_13, .ref g_14, .int tk2, .int 0, .int 0, .int ps2, .ref g_19, .ref g_20, .ref g_21, .int 0, .int 0, .int 0]))]) (wr := [(g_9, .inl (cI, 16, .inl tb2)), (g_10, .inl (cI, 16, .inl (upd fb i 0))), (g_11, .inl (cI, 16, .inl lg2)), (g_12, .inl (cZ, 192, .inl wA2)), (g_13, .inl (cZ, 192, .inl wB2)), (g_14, .inl (cZ, 144, .inl bO2))]) (va_runV (As := [.int (nI i), .int (kLat (k / 12)), .int (kLat (k % 12))]) (rest := []) ⟨hx, hb, hml, hown, hts⟩ (rc_excluded l dC dI cI cJ cC cZ σ g g_0 g_1 g_2 g_3 g_4 g_9 g_10 g_11 g_12 g_13 g_14 g_19 g_20 g_21 ps2 tk2 0 0 (nI i) (kLat (k / 12)) (kLat (k % 12)) _) ⟨(callB_of 3 hts (kg wq_735) rfl rfl rfl hini_RM hm_161 (by decide +kernel) ⟨Nat.le_of_ble_eq_true rfl, Nat.le_of_ble_eq_true rfl⟩), hi_161, hv_161⟩ ⟨hpre_14.1, (va_recv hK hP (ci := 8) (q0 := 0) rfl rfl), hpre_14.2⟩ rfl rfl hl.1 rfl (lv_room (Nat.le_of_ble_eq_true rfl)) d_RM_run_197 ⟨by show 576 * i + 4 * k + 2 + 0 ≤ 9216; omega, by show 6912 * i + 48 * k + 24 + 0 ≤ 110592; omega⟩) hP hD hS hA [0] [1, 2, 3, 4, 5, 6] rfl rfl (by decide) (by decide) (fun _ H locs hP hD hS => ?_)
                                    have hP : va_P (dC, dI) vwCl [(g_9, .inl (cI, 16, .inl tb2)), (g_10, .inl (cI, 16, .inl (upd fb i 0))), (g_11, .inl (cI, 16, .inl lg2)), (g_12, .inl (cZ, 192, .inl wA2)), (g_13, .inl (cZ, 192, .inl wB2)), (g_14, .inl (cZ, 144, .inl bO2)), (g, .inr (8, [.ref g_0, .ref g_1, .ref g_2, .ref g_3, .ref g_4, .int 0, .int 0, .int 65535, .int 0, .ref g_9, .ref g_10, .ref g_11, .ref g_12, .ref g_13, .ref g_14, .int tk2, .int 0, .int 0, .int ps2, .ref g_19, .ref g_20, .ref g_21, .int 0, .int 0, .int 0]))] H := hP
                                    have hD : va_D A [(g_9, .inl (cI, 16, .inl tb2)), (g_10, .inl (cI, 16, .inl (upd fb i 0))), (g_11, .inl (cI, 16, .inl lg2)), (g_12, .inl (cZ, 192, .inl wA2)), (g_13, .inl (cZ, 192, .inl wB2)), (g_14, .inl (cZ, 144, .inl bO2)), (g, .inr (8, [.ref g_0, .ref g_1, .ref g_2, .ref g_3, .ref g_4, .int 0, .int 0, .int 65535, .int 0, .ref g_9, .ref g_10, .ref g_11, .ref g_12, .ref g_13, .ref g_14, .int tk2, .int 0, .int 0, .int ps2, .ref g_19, .ref g_20, .ref g_21, .int 0, .int 0, .int 0]))] := hD
                                    refine lv_if_eq (tgt := 216) hx hb d_RM_run_200 (by decide) (fun c_15 => ?_) (fun c_15 => ?_)
                                    · skip
                                      have c_15 : 0 = 0 := (nI_eq (a := 0) (b := 0) (by omega) (by omega)).mp c_15
                                      refine lv_iload_n hx hb d_RM_run_216 rfl (lv_at hl 6 rfl) ?_
                                      refine lv_if_eq (tgt := 268) hx hb d_RM_run_217 (by decide) (fun c_16 => ?_) (fun c_16 => ?_)
                                      · skip
                                        have c_16 : pr0 = false := kb_0.mp c_16
                                        refine lv_aload_n hx hb d_RM_run_268 rfl (lv_at hl 4 rfl) ?_
                                        refine lv_iload hx hb d_RM_run_269 (lv_at hl 3 rfl) ?_
                                        refine lv_iload hx hb d_RM_run_271 (lv_at hl 1 rfl) ?_
                                        refine lv_iload hx hb d_RM_run_273 (lv_at hl 0 rfl) ?_
                                        have hpre_18 := kr_pre (wc := [(g, .inr (8, [.ref g_0, .ref g_1, .ref g_2, .ref g_3, .ref g_4, .int 0, .int 0, .int 65535, .int 0, .ref g_9, .ref g_10, .ref g_11, .ref g_12, .ref g_13, .ref g_14, .int tk2, .int 0, .int 0, .int ps2, .ref g_19, .ref g_20, .ref g_21, .int 0, .int 0, .int 0])), (g_9, .inl (cI, 16, .inl tb2)), (g_11, .inl (cI, 16, .inl lg2)), (g_12, .inl (cZ, 192, .inl wA2)), (g_13, .inl (cZ, 192, .inl wB2)), (g_14, .inl (cZ, 144, .inl bO2))]) (av := [.ref g, .int (nI i), .int (nI (k / 12)), .int (nI (k % 12))]) hK hP hD hS hA hSt [6, 0, 2, 3, 4, 5] rfl (by decide)
                                        refine kj_v (wc := [(g, .inr (8, [.ref g_0, .ref g_1, .ref g_2, .ref g_3, .ref g_4, .int 0, .int 0, .int 65535, .int 0, .ref g_9, .ref g_10, .ref g_11, .ref g_12, .ref g_13, .ref g_14, .int tk2, .int 0, .int 0, .int ps2, .ref g_19, .ref g_20, .ref g_21, .int 0, .int 0, .int 0])), (g_9, .inl (cI, 16, .inl tb2)), (g_11, .inl (cI, 16, .inl lg2)), (g_12, .inl (cZ, 192, .inl wA2)), (g_13, .inl (cZ, 192, .inl wB2)), (g_14, .inl (cZ, 144, .inl bO2))]) (wr := [(g_10, .inl (cI, 16, .inl (upd fb i 0)))]) (va_runV (As := [.int (nI i), .int (nI (k / 12)), .int (nI (k % 12))]) (rest := []) ⟨hx, hb, hml, hown, hts⟩ (rc_take l dC dI cI cJ cC cZ σ g g_0 g_1 g_2 g_3 g_4 g_9 g_10 g_11 g_12 g_13 g_14 g_19 g_20 g_21 wA2 wB2 bO2 tb2 lg2 ps2 tk2 0 0 i (k / 12) (k % 12) (by (try dsimp only) <;> first | assumption | omega) (by (try dsimp only) <;> first | assumption | omega) (by (try dsimp only) <;> first | assumption | omega) _) ⟨(callB_of 3 hts (kg wq_739) rfl rfl rfl hini_RM hm_165 (by decide +kernel) ⟨Nat.le_of_ble_eq_true rfl, Nat.le_of_ble_eq_true rfl⟩), hi_165, hv_165⟩ ⟨hpre_18.1, (va_recv hK hP (ci := 8) (q0 := 6) rfl rfl), hpre_18.2⟩ rfl rfl hl.1 rfl (lv_room (Nat.le_of_ble_eq_true rfl)) d_RM_run_275 ⟨by show 576 * i + 4 * k + 2 + 2 ≤ 9216; omega, by show 6912 * i + 48 * k + 24 + 24 ≤ 110592; omega⟩) hP hD hS hA [6, 0, 2, 3, 4, 5] [1] rfl rfl (by decide) (by decide) (fun u_17 H locs hP hD hS => ?_)
                                        obtain ⟨withA_17, withB_17, both_17, pairsSeen_17, taken_17, takenBy_17, ledger_17⟩ := u_17
                                        refine W.cs (cells' := 576 * i + 4 * k + 4) (slots' := 6912 * i + 48 * k + 48) rfl rfl ?_
                                        have hP : va_P (dC, dI) vwCl [(g_10, .inl (cI, 16, .inl (upd fb i 0))), (g, .inr (8, [.ref g_0, .ref g_1, .ref g_2, .ref g_3, .ref g_4, .int 0, .int 0, .int 65535, .int 0, .ref g_9, .ref g_10, .ref g_11, .ref g_12, .ref g_13, .ref g_14, .int taken_17, .int 0, .int 0, .int pairsSeen_17, .ref g_19, .ref g_20, .ref g_21, .int 0, .int 0, .int 0])), (g_9, .inl (cI, 16, .inl takenBy_17)), (g_11, .inl (cI, 16, .inl ledger_17)), (g_12, .inl (cZ, 192, .inl withA_17)), (g_13, .inl (cZ, 192, .inl withB_17)), (g_14, .inl (cZ, 144, .inl both_17))] H := hP
                                        have hD : va_D A [(g_10, .inl (cI, 16, .inl (upd fb i 0))), (g, .inr (8, [.ref g_0, .ref g_1, .ref g_2, .ref g_3, .ref g_4, .int 0, .int 0, .int 65535, .int 0, .ref g_9, .ref g_10, .ref g_11, .ref g_12, .ref g_13, .ref g_14, .int taken_17, .int 0, .int 0, .int pairsSeen_17, .ref g_19, .ref g_20, .ref g_21, .int 0, .int 0, .int 0])), (g_9, .inl (cI, 16, .inl takenBy_17)), (g_11, .inl (cI, 16, .inl ledger_17)), (g_12, .inl (cZ, 192, .inl withA_17)), (g_13, .inl (cZ, 192, .inl withB_17)), (g_14, .inl (cZ, 144, .inl both_17))] := hD
                                        refine lv_iinc (v := (nI (k + 1))) (lv' := [(5, .int (nI (k + 1))), (7, .int (nI (k % 12))), (6, .int (nI (k / 12))), (4, .int (nI i)), (0, .ref g), (1, .int b0), (2, .int (kb pr0)), (3, .int 12)]) hx hb d_RM_run_278 hl (k := 2) rfl (nI_1 k) (by decide) rfl (fun ls hl => ?_)
                                        refine lv_goto (tgt := 164) hx hb d_RM_run_281 (by decide) ?_
                                        refine W.widen (k := 576 * i + 4 * (k + 1)) (n := 6912 * i + 48 * (k + 1)) (by omega) (by omega) ?_
                                        exact ih_164 (k + 1) takenBy_17 ledger_17 withA_17 withB_17 both_17 pairsSeen_17 taken_17 (by omega) _ _ (hP.sub [1, 2, 0, 3, 4, 5, 6] rfl) (hD.sub [1, 2, 0, 3, 4, 5, 6] (by decide) rfl) hS ls (lv_sub hl [0, 3, 4, 5, 6, 7] rfl)
                                      · skip
                                        have c_16 : pr0 = true := kb_n.mp c_16
                                        refine lv_aload_n hx hb d_RM_run_220 rfl (lv_at hl 4 rfl) ?_
                                        refine va_get (D := (dC, dI)) (ci := 8) (v := .ref g_12) (C := "KitRunnerModel") (T := T_RM) (N := 25) hx hb hts hin_RM hown hK hP 6 rfl rfl 12 (by decide) hf_39 (fun _ h9 => h9) rfl d_RM_run_221 ?_
                                        refine lv_iload hx hb d_RM_run_224 (lv_at hl 3 rfl) ?_
                                        refine lv_bipush (v := 12) hx hb d_RM_run_226 (by decide) ?_
                                        refine lv_imul hx hb d_RM_run_228 ?_
                                        refine kr_topi (x := (nI i) * 12) (y := nI (i * 12)) (pk_mul i 12) ?_
                                        refine lv_iload hx hb d_RM_run_229 (lv_at hl 1 rfl) ?_
                                        refine lv_iadd hx hb d_RM_run_231 ?_
                                        refine kr_topi (x := (nI (i * 12)) + (nI (k / 12))) (y := nI (i * 12 + k / 12)) (nI_add (i * 12) (k / 12)) ?_
                                        refine kr_zald (k := i * 12 + k / 12) hx hb hK hP 3 3 rfl rfl (by omega) (by first | decide | omega) d_RM_run_232 ?_
                                        refine lv_if_eq (tgt := 268) hx hb d_RM_run_233 (by decide) (fun c_19 => ?_) (fun c_19 => ?_)
                                        · skip
                                          refine lv_aload_n hx hb d_RM_run_268 rfl (lv_at hl 4 rfl) ?_
                                          refine lv_iload hx hb d_RM_run_269 (lv_at hl 3 rfl) ?_
                                          refine lv_iload hx hb d_RM_run_271 (lv_at hl 1 rfl) ?_
                                          refine lv_iload hx hb d_RM_run_273 (lv_at hl 0 rfl) ?_
                                          have hpre_21 := kr_pre (wc := [(g, .inr (8, [.ref g_0, .ref g_1, .ref g_2, .ref g_3, .ref g_4, .int 0, .int 0, .int 65535, .int 0, .ref g_9, .ref g_10, .ref g_11, .ref g_12, .ref g_13, .ref g_14, .int tk2, .int 0, .int 0, .int ps2, .ref g_19, .ref g_20, .ref g_21, .int 0, .int 0, .int 0])), (g_9, .inl (cI, 16, .inl tb2)), (g_11, .inl (cI, 16, .inl lg2)), (g_12, .inl (cZ, 192, .inl wA2)), (g_13, .inl (cZ, 192, .inl wB2)), (g_14, .inl (cZ, 144, .inl bO2))]) (av := [.ref g, .int (nI i), .int (nI (k / 12)), .int (nI (k % 12))]) hK hP hD hS hA hSt [6, 0, 2, 3, 4, 5] rfl (by decide)
                                          refine kj_v (wc := [(g, .inr (8, [.ref g_0, .ref g_1, .ref g_2, .ref g_3, .ref g_4, .int 0, .int 0, .int 65535, .int 0, .ref g_9, .ref g_10, .ref g_11, .ref g_12, .ref g_13, .ref g_14, .int tk2, .int 0, .int 0, .int ps2, .ref g_19, .ref g_20, .ref g_21, .int 0, .int 0, .int 0])), (g_9, .inl (cI, 16, .inl tb2)), (g_11, .inl (cI, 16, .inl lg2)), (g_12, .inl (cZ, 192, .inl wA2)), (g_13, .inl (cZ, 192, .inl wB2)), (g_14, .inl (cZ, 144, .inl bO2))]) (wr := [(g_10, .inl (cI, 16, .inl (upd fb i 0)))]) (va_runV (As := [.int (nI i), .int (nI (k / 12)), .int (nI (k % 12))]) (rest := []) ⟨hx, hb, hml, hown, hts⟩ (rc_take l dC dI cI cJ cC cZ σ g g_0 g_1 g_2 g_3 g_4 g_9 g_10 g_11 g_12 g_13 g_14 g_19 g_20 g_21 wA2 wB2 bO2 tb2 lg2 ps2 tk2 0 0 i (k / 12) (k % 12) (by (try dsimp only) <;> first | assumption | omega) (by (try dsimp only) <;> first | assumption | omega) (by (try dsimp only) <;> first | assumption | omega) _) ⟨(callB_of 3 hts (kg wq_739) rfl rfl rfl hini_RM hm_165 (by decide +kernel) ⟨Nat.le_of_ble_eq_true rfl, Nat.le_of_ble_eq_true rfl⟩), hi_165, hv_165⟩ ⟨hpre_21.1, (va_recv hK hP (ci := 8) (q0 := 6) rfl rfl), hpre_21.2⟩ rfl rfl hl.1 rfl (lv_room (Nat.le_of_ble_eq_true rfl)) d_RM_run_275 ⟨by show 576 * i + 4 * k + 2 + 2 ≤ 9216; omega, by show 6912 * i + 48 * k + 24 + 24 ≤ 110592; omega⟩) hP hD hS hA [6, 0, 2, 3, 4, 5] [1] rfl rfl (by decide) (by decide) (fun u_20 H locs hP hD hS => ?_)
                                          obtain ⟨withA_20, withB_20, both_20, pairsSeen_20, taken_20, takenBy_20, ledger_20⟩ := u_20
                                          refine W.cs (cells' := 576 * i + 4 * k + 4) (slots' := 6912 * i + 48 * k + 48) rfl rfl ?_
                                          have hP : va_P (dC, dI) vwCl [(g_10, .inl (cI, 16, .inl (upd fb i 0))), (g, .inr (8, [.ref g_0, .ref g_1, .ref g_2, .ref g_3, .ref g_4, .int 0, .int 0, .int 65535, .int 0, .ref g_9, .ref g_10, .ref g_11, .ref g_12, .ref g_13, .ref g_14, .int taken_20, .int 0, .int 0, .int pairsSeen_20, .ref g_19, .ref g_20, .ref g_21, .int 0, .int 0, .int 0])), (g_9, .inl (cI, 16, .inl takenBy_20)), (g_11, .inl (cI, 16, .inl ledger_20)), (g_12, .inl (cZ, 192, .inl withA_20)), (g_13, .inl (cZ, 192, .inl withB_20)), (g_14, .inl (cZ, 144, .inl both_20))] H := hP
                                          have hD : va_D A [(g_10, .inl (cI, 16, .inl (upd fb i 0))), (g, .inr (8, [.ref g_0, .ref g_1, .ref g_2, .ref g_3, .ref g_4, .int 0, .int 0, .int 65535, .int 0, .ref g_9, .ref g_10, .ref g_11, .ref g_12, .ref g_13, .ref g_14, .int taken_20, .int 0, .int 0, .int pairsSeen_20, .ref g_19, .ref g_20, .ref g_21, .int 0, .int 0, .int 0])), (g_9, .inl (cI, 16, .inl takenBy_20)), (g_11, .inl (cI, 16, .inl ledger_20)), (g_12, .inl (cZ, 192, .inl withA_20)), (g_13, .inl (cZ, 192, .inl withB_20)), (g_14, .inl (cZ, 144, .inl both_20))] := hD
                                          refine lv_iinc (v := (nI (k + 1))) (lv' := [(5, .int (nI (k + 1))), (7, .int (nI (k % 12))), (6, .int (nI (k / 12))), (4, .int (nI i)), (0, .ref g), (1, .int b0), (2, .int (kb pr0)), (3, .int 12)]) hx hb d_RM_run_278 hl (k := 2) rfl (nI_1 k) (by decide) rfl (fun ls hl => ?_)
                                          refine lv_goto (tgt := 164) hx hb d_RM_run_281 (by decide) ?_
                                          refine W.widen (k := 576 * i + 4 * (k + 1)) (n := 6912 * i + 48 * (k + 1)) (by omega) (by omega) ?_
                                          exact ih_164 (k + 1) takenBy_20 ledger_20 withA_20 withB_20 both_20 pairsSeen_20 taken_20 (by omega) _ _ (hP.sub [1, 2, 0, 3, 4, 5, 6] rfl) (hD.sub [1, 2, 0, 3, 4, 5, 6] (by decide) rfl) hS ls (lv_sub hl [0, 3, 4, 5, 6, 7] rfl)
                                        · skip
                                          refine lv_aload_n hx hb d_RM_run_236 rfl (lv_at hl 4 rfl) ?_
                                          refine va_get (D := (dC, dI)) (ci := 8) (v := .ref g_13) (C := "KitRunnerModel") (T := T_RM) (N := 25) hx hb hts hin_RM hown hK hP 6 rfl rfl 13 (by decide) hf_43 (fun _ h9 => h9) rfl d_RM_run_237 ?_
                                          refine lv_iload hx hb d_RM_run_240 (lv_at hl 3 rfl) ?_
                                          refine lv_bipush (v := 12) hx hb d_RM_run_242 (by decide) ?_
                                          refine lv_imul hx hb d_RM_run_244 ?_
                                          refine kr_topi (x := (nI i) * 12) (y := nI (i * 12)) (pk_mul i 12) ?_
                                          refine lv_iload hx hb d_RM_run_245 (lv_at hl 0 rfl) ?_
                                          refine lv_iadd hx hb d_RM_run_247 ?_
                                          refine kr_topi (x := (nI (i * 12)) + (nI (k % 12))) (y := nI (i * 12 + k % 12)) (nI_add (i * 12) (k % 12)) ?_
                                          refine kr_zald (k := i * 12 + k % 12) hx hb hK hP 4 3 rfl rfl (by omega) (by first | decide | omega) d_RM_run_248 ?_
                                          refine lv_if_eq (tgt := 268) hx hb d_RM_run_249 (by decide) (fun c_22 => ?_) (fun c_22 => ?_)
                                          · skip
                                            refine lv_aload_n hx hb d_RM_run_268 rfl (lv_at hl 4 rfl) ?_
                                            refine lv_iload hx hb d_RM_run_269 (lv_at hl 3 rfl) ?_
                                            refine lv_iload hx hb d_RM_run_271 (lv_at hl 1 rfl) ?_
                                            refine lv_iload hx hb d_RM_run_273 (lv_at hl 0 rfl) ?_
                                            have hpre_24 := kr_pre (wc := [(g, .inr (8, [.ref g_0, .ref g_1, .ref g_2, .ref g_3, .ref g_4, .int 0, .int 0, .int 65535, .int 0, .ref g_9, .ref g_10, .ref g_11, .ref g_12, .ref g_13, .ref g_14, .int tk2, .int 0, .int 0, .int ps2, .ref g_19, .ref g_20, .ref g_21, .int 0, .int 0, .int 0])), (g_9, .inl (cI, 16, .inl tb2)), (g_11, .inl (cI, 16, .inl lg2)), (g_12, .inl (cZ, 192, .inl wA2)), (g_13, .inl (cZ, 192, .inl wB2)), (g_14, .inl (cZ, 144, .inl bO2))]) (av := [.ref g, .int (nI i), .int (nI (k / 12)), .int (nI (k % 12))]) hK hP hD hS hA hSt [6, 0, 2, 3, 4, 5] rfl (by decide)
                                            refine kj_v (wc := [(g, .inr (8, [.ref g_0, .ref g_1, .ref g_2, .ref g_3, .ref g_4, .int 0, .int 0, .int 65535, .int 0, .ref g_9, .ref g_10, .ref g_11, .ref g_12, .ref g_13, .ref g_14, .int tk2, .int 0, .int 0, .int ps2, .ref g_19, .ref g_20, .ref g_21, .int 0, .int 0, .int 0])), (g_9, .inl (cI, 16, .inl tb2)), (g_11, .inl (cI, 16, .inl lg2)), (g_12, .inl (cZ, 192, .inl wA2)), (g_13, .inl (cZ, 192, .inl wB2)), (g_14, .inl (cZ, 144, .inl bO2))]) (wr := [(g_10, .inl (cI, 16, .inl (upd fb i 0)))]) (va_runV (As := [.int (nI i), .int (nI (k / 12)), .int (nI (k % 12))]) (rest := []) ⟨hx, hb, hml, hown, hts⟩ (rc_take l dC dI cI cJ cC cZ σ g g_0 g_1 g_2 g_3 g_4 g_9 g_10 g_11 g_12 g_13 g_14 g_19 g_20 g_21 wA2 wB2 bO2 tb2 lg2 ps2 tk2 0 0 i (k / 12) (k % 12) (by (try dsimp only) <;> first | assumption | omega) (by (try dsimp only) <;> first | assumption | omega) (by (try dsimp only) <;> first | assumption | omega) _) ⟨(callB_of 3 hts (kg wq_739) rfl rfl rfl hini_RM hm_165 (by decide +kernel) ⟨Nat.le_of_ble_eq_true rfl, Nat.le_of_ble_eq_true rfl⟩), hi_165, hv_165⟩ ⟨hpre_24.1, (va_recv hK hP (ci := 8) (q0 := 6) rfl rfl), hpre_24.2⟩ rfl rfl hl.1 rfl (lv_room (Nat.le_of_ble_eq_true rfl)) d_RM_run_275 ⟨by show 576 * i + 4 * k + 2 + 2 ≤ 9216; omega, by show 6912 * i + 48 * k + 24 + 24 ≤ 110592; omega⟩) hP hD hS hA [6, 0, 2, 3, 4, 5] [1] rfl rfl (by decide) (by decide) (fun u_23 H locs hP hD hS => ?_)
                                            obtain ⟨withA_23, withB_23, both_23, pairsSeen_23, taken_23, takenBy_23, ledger_23⟩ := u_23
                                            refine W.cs (cells' := 576 * i + 4 * k + 4) (slots' := 6912 * i + 48 * k + 48) rfl rfl ?_
                                            have hP : va_P (dC, dI) vwCl [(g_10, .inl (cI, 16, .inl (upd fb i 0))), (g, .inr (8, [.ref g_0, .ref g_1, .ref g_2, .ref g_3, .ref g_4, .int 0, .int 0, .int 65535, .int 0, .ref g_9, .ref g_10, .ref g_11, .ref g_12, .ref g_13, .ref g_14, .int taken_23, .int 0, .int 0, .int pairsSeen_23, .ref g_19, .ref g_20, .ref g_21, .int 0, .int 0, .int 0])), (g_9, .inl (cI, 16, .inl takenBy_23)), (g_11, .inl (cI, 16, .inl ledger_23)), (g_12, .inl (cZ, 192, .inl withA_23)), (g_13, .inl (cZ, 192, .inl withB_23)), (g_14, .inl (cZ, 144, .inl both_23))] H := hP
                                            have hD : va_D A [(g_10, .inl (cI, 16, .inl (upd fb i 0))), (g, .inr (8, [.ref g_0, .ref g_1, .ref g_2, .ref g_3, .ref g_4, .int 0, .int 0, .int 65535, .int 0, .ref g_9, .ref g_10, .ref g_11, .ref g_12, .ref g_13, .ref g_14, .int taken_23, .int 0, .int 0, .int pairsSeen_23, .ref g_19, .ref g_20, .ref g_21, .int 0, .int 0, .int 0])), (g_9, .inl (cI, 16, .inl takenBy_23)), (g_11, .inl (cI, 16, .inl ledger_23)), (g_12, .inl (cZ, 192, .inl withA_23)), (g_13, .inl (cZ, 192, .inl withB_23)), (g_14, .inl (cZ, 144, .inl both_23))] := hD
                                            refine lv_iinc (v := (nI (k + 1))) (lv' := [(5, .int (nI (k + 1))), (7, .int (nI (k % 12))), (6, .int (nI (k / 12))), (4, .int (nI i)), (0, .ref g), (1, .int b0), (2, .int (kb pr0)), (3, .int 12)]) hx hb d_RM_run_278 hl (k := 2) rfl (nI_1 k) (by decide) rfl (fun ls hl => ?_)
                                            refine lv_goto (tgt := 164) hx hb d_RM_run_281 (by decide) ?_
                                            refine W.widen (k := 576 * i + 4 * (k + 1)) (n := 6912 * i + 48 * (k + 1)) (by omega) (by omega) ?_
                                            exact ih_164 (k + 1) takenBy_23 ledger_23 withA_23 withB_23 both_23 pairsSeen_23 taken_23 (by omega) _ _ (hP.sub [1, 2, 0, 3, 4, 5, 6] rfl) (hD.sub [1, 2, 0, 3, 4, 5, 6] (by decide) rfl) hS ls (lv_sub hl [0, 3, 4, 5, 6, 7] rfl)
                                          · skip
                                            refine lv_aload_n hx hb d_RM_run_252 rfl (lv_at hl 4 rfl) ?_
                                            refine va_get (D := (dC, dI)) (ci := 8) (v := .ref g_14) (C := "KitRunnerModel") (T := T_RM) (N := 25) hx hb hts hin_RM hown hK hP 6 rfl rfl 14 (by decide) hf_46 (fun _ h9 => h9) rfl d_RM_run_253 ?_
                                            refine lv_iload hx hb d_RM_run_256 (lv_at hl 1 rfl) ?_
                                            refine lv_bipush (v := 12) hx hb d_RM_run_258 (by decide) ?_
                                            refine lv_imul hx hb d_RM_run_260 ?_
                                            refine kr_topi (x := (nI (k / 12)) * 12) (y := nI ((k / 12) * 12)) (pk_mul (k / 12) 12) ?_
                                            refine lv_iload hx hb d_RM_run_261 (lv_at hl 0 rfl) ?_
                                            refine lv_iadd hx hb d_RM_run_263 ?_
                                            refine kr_topi (x := (nI ((k / 12) * 12)) + (nI (k % 12))) (y := nI ((k / 12) * 12 + k % 12)) (nI_add ((k / 12) * 12) (k % 12)) ?_
                                            refine kr_zald (k := (k / 12) * 12 + k % 12) hx hb hK hP 5 3 rfl rfl (by omega) (by first | decide | omega) d_RM_run_264 ?_
                                            refine lv_if_ne (tgt := 278) hx hb d_RM_run_265 (by decide) (fun c_25 => ?_) (fun c_25 => ?_)
                                            · skip
                                              refine lv_iinc (v := (nI (k + 1))) (lv' := [(5, .int (nI (k + 1))), (7, .int (nI (k % 12))), (6, .int (nI (k / 12))), (4, .int (nI i)), (0, .ref g), (1, .int b0), (2, .int (kb pr0)), (3, .int 12)]) hx hb d_RM_run_278 hl (k := 2) rfl (nI_1 k) (by decide) rfl (fun ls hl => ?_)
                                              refine lv_goto (tgt := 164) hx hb d_RM_run_281 (by decide) ?_
                                              refine W.widen (k := 576 * i + 4 * (k + 1)) (n := 6912 * i + 48 * (k + 1)) (by omega) (by omega) ?_
                                              exact ih_164 (k + 1) tb2 lg2 wA2 wB2 bO2 ps2 tk2 (by omega) _ _ (hP.sub [6, 0, 1, 2, 3, 4, 5] rfl) (hD.sub [6, 0, 1, 2, 3, 4, 5] (by decide) rfl) hS ls (lv_sub hl [0, 3, 4, 5, 6, 7] rfl)
                                            · skip
                                              refine lv_aload_n hx hb d_RM_run_268 rfl (lv_at hl 4 rfl) ?_
                                              refine lv_iload hx hb d_RM_run_269 (lv_at hl 3 rfl) ?_
                                              refine lv_iload hx hb d_RM_run_271 (lv_at hl 1 rfl) ?_
                                              refine lv_iload hx hb d_RM_run_273 (lv_at hl 0 rfl) ?_
                                              have hpre_27 := kr_pre (wc := [(g, .inr (8, [.ref g_0, .ref g_1, .ref g_2, .ref g_3, .ref g_4, .int 0, .int 0, .int 65535, .int 0, .ref g_9, .ref g_10, .ref g_11, .ref g_12, .ref g_13, .ref g_14, .int tk2, .int 0, .int 0, .int ps2, .ref g_19, .ref g_20, .ref g_21, .int 0, .int 0, .int 0])), (g_9, .inl (cI, 16, .inl tb2)), (g_11, .inl (cI, 16, .inl lg2)), (g_12, .inl (cZ, 192, .inl wA2)), (g_13, .inl (cZ, 192, .inl wB2)), (g_14, .inl (cZ, 144, .inl bO2))]) (av := [.ref g, .int (nI i), .int (nI (k / 12)), .int (nI (k % 12))]) hK hP hD hS hA hSt [6, 0, 2, 3, 4, 5] rfl (by decide)
                                              refine kj_v (wc := [(g, .inr (8, [.ref g_0, .ref g_1, .ref g_2, .ref g_3, .ref g_4, .int 0, .int 0, .int 65535, .int 0, .ref g_9, .ref g_10, .ref g_11, .ref g_12, .ref g_13, .ref g_14, .int tk2, .int 0, .int 0, .int ps2, .ref g_19, .ref g_20, .ref g_21, .int 0, .int 0, .int 0])), (g_9, .inl (cI, 16, .inl tb2)), (g_11, .inl (cI, 16, .inl lg2)), (g_12, .inl (cZ, 192, .inl wA2)), (g_13, .inl (cZ, 192, .inl wB2)), (g_14, .inl (cZ, 144, .inl bO2))]) (wr := [(g_10, .inl (cI, 16, .inl (upd fb i 0)))]) (va_runV (As := [.int (nI i), .int (nI (k / 12)), .int (nI (k % 12))]) (rest := []) ⟨hx, hb, hml, hown, hts⟩ (rc_take l dC dI cI cJ cC cZ σ g g_0 g_1 g_2 g_3 g_4 g_9 g_10 g_11 g_12 g_13 g_14 g_19 g_20 g_21 wA2 wB2 bO2 tb2 lg2 ps2 tk2 0 0 i (k / 12) (k % 12) (by (try dsimp only) <;> first | assumption | omega) (by (try dsimp only) <;> first | assumption | omega) (by (try dsimp only) <;> first | assumption | omega) _) ⟨(callB_of 3 hts (kg wq_739) rfl rfl rfl hini_RM hm_165 (by decide +kernel) ⟨Nat.le_of_ble_eq_true rfl, Nat.le_of_ble_eq_true rfl⟩), hi_165, hv_165⟩ ⟨hpre_27.1, (va_recv hK hP (ci := 8) (q0 := 6) rfl rfl), hpre_27.2⟩ rfl rfl hl.1 rfl (lv_room (Nat.le_of_ble_eq_true rfl)) d_RM_run_275 ⟨by show 576 * i + 4 * k + 2 + 2 ≤ 9216; omega, by show 6912 * i + 48 * k + 24 + 24 ≤ 110592; omega⟩) hP hD hS hA [6, 0, 2, 3, 4, 5] [1] rfl rfl (by decide) (by decide) (fun u_26 H locs hP hD hS => ?_)
                                              obtain ⟨withA_26, withB_26, both_26, pairsSeen_26, taken_26, takenBy_26, ledger_26⟩ := u_26
                                              refine W.cs (cells' := 576 * i + 4 * k + 4) (slots' := 6912 * i + 48 * k + 48) rfl rfl ?_
                                              have hP : va_P (dC, dI) vwCl [(g_10, .inl (cI, 16, .inl (upd fb i 0))), (g, .inr (8, [.ref g_0, .ref g_1, .ref g_2, .ref g_3, .ref g_4, .int 0, .int 0, .int 65535, .int 0, .ref g_9, .ref g_10, .ref g_11, .ref g_12, .ref g_13, .ref g_14, .int taken_26, .int 0, .int 0, .int pairsSeen_26, .ref g_19, .ref g_20, .ref g_21, .int 0, .int 0, .int 0])), (g_9, .inl (cI, 16, .inl takenBy_26)), (g_11, .inl (cI, 16, .inl ledger_26)), (g_12, .inl (cZ, 192, .inl withA_26)), (g_13, .inl (cZ, 192, .inl withB_26)), (g_14, .inl (cZ, 144, .inl both_26))] H := hP
                                              have hD : va_D A [(g_10, .inl (cI, 16, .inl (upd fb i 0))), (g, .inr (8, [.ref g_0, .ref g_1, .ref g_2, .ref g_3, .ref g_4, .int 0, .int 0, .int 65535, .int 0, .ref g_9, .ref g_10, .ref g_11, .ref g_12, .ref g_13, .ref g_14, .int taken_26, .int 0, .int 0, .int pairsSeen_26, .ref g_19, .ref g_20, .ref g_21, .int 0, .int 0, .int 0])), (g_9, .inl (cI, 16, .inl takenBy_26)), (g_11, .inl (cI, 16, .inl ledger_26)), (g_12, .inl (cZ, 192, .inl withA_26)), (g_13, .inl (cZ, 192, .inl withB_26)), (g_14, .inl (cZ, 144, .inl both_26))] := hD
                                              refine lv_iinc (v := (nI (k + 1))) (lv' := [(5, .int (nI (k + 1))), (7, .int (nI (k % 12))), (6, .int (nI (k / 12))), (4, .int (nI i)), (0, .ref g), (1, .int b0), (2, .int (kb pr0)), (3, .int 12)]) hx hb d_RM_run_278 hl (k := 2) rfl (nI_1 k) (by decide) rfl (fun ls hl => ?_)
                                              refine lv_goto (tgt := 164) hx hb d_RM_run_281 (by decide) ?_
                                              refine W.widen (k := 576 * i + 4 * (k + 1)) (n := 6912 * i + 48 * (k + 1)) (by omega) (by omega) ?_
                                              exact ih_164 (k + 1) takenBy_26 ledger_26 withA_26 withB_26 both_26 pairsSeen_26 taken_26 (by omega) _ _ (hP.sub [1, 2, 0, 3, 4, 5, 6] rfl) (hD.sub [1, 2, 0, 3, 4, 5, 6] (by decide) rfl) hS ls (lv_sub hl [0, 3, 4, 5, 6, 7] rfl)
                                    · skip
                                      exact absurd c_15 (by decide)
                              refine W.widen (k := 576 * i + 4 * 0) (n := 6912 * i + 48 * 0) (by omega) (by omega) ?_
                              exact loop_164 144 0 (upd tb i 0) (upd lg i 0) wA wB bO ps tk (by omega) _ _ (hP.sub [0, 1, 2, 3, 4, 5, 6] rfl) (hD.sub [0, 1, 2, 3, 4, 5, 6] (by decide) rfl) hS ls (lv_sub hl [0, 1, 2, 3, 4, 5] rfl)
                            · skip
                              refine lv_goto (tgt := 284) hx hb d_RM_run_158 (by decide) ?_
                              refine lv_iinc (v := (nI (i + 1))) (lv' := [(4, .int (nI (i + 1))), (0, .ref g), (1, .int b0), (2, .int (kb pr0)), (3, .int 12)]) hx hb d_RM_run_284 hl (k := 0) rfl (nI_1 i) (by decide) rfl (fun ls hl => ?_)
                              refine lv_goto (tgt := 115) hx hb d_RM_run_287 (by decide) ?_
                              refine W.widen (k := 576 * (i + 1)) (n := 6912 * (i + 1)) (by omega) (by omega) ?_
                              exact ih_115 (i + 1) (upd tb i 0) (upd fb i 0) (upd lg i 0) wA wB bO ps tk (by omega) _ _ (hP.sub [0, 1, 2, 3, 4, 5, 6] rfl) (hD.sub [0, 1, 2, 3, 4, 5, 6] (by decide) rfl) hS ls (lv_sub hl [0, 1, 2, 3, 4] rfl)
                      refine W.widen (k := 576 * 0) (n := 6912 * 0) (by omega) (by omega) ?_
                      exact loop_115 16 0 (fun _ => 0) (fun _ => 0) (fun _ => 0) wa wb bo 0 0 (by omega) _ _ (hP.sub [0, 1, 2, 3, 4, 5, 6] rfl) (hD.sub [0, 1, 2, 3, 4, 5, 6] (by decide) rfl) hS ls (lv_sub hl [0, 1, 2, 3, 4] rfl)
                    · skip
                      have c_6 : ¬ 144 ≤ k := fun h9 => c_6 ((nI_leI (a := 144) (b := k) (by omega) (by omega)).mpr h9)
                      exfalso; omega
                  | succ n ih_90 =>
                    intro k bo hk H locs hP hD hS ls hl
                    refine lv_iload hx hb d_RM_run_90 (lv_at hl 0 rfl) ?_
                    refine lv_sipush (v := 144) hx hb d_RM_run_92 (by decide) ?_
                    refine lv_icmp_ge (tgt := 112) hx hb d_RM_run_95 (by decide) (fun c_28 => ?_) (fun c_28 => ?_)
                    · skip
                      have c_28 : 144 ≤ k := (nI_leI (a := 144) (b := k) (by omega) (by omega)).mp c_28
                      exfalso; omega
                    · skip
                      have c_28 : ¬ 144 ≤ k := fun h9 => c_28 ((nI_leI (a := 144) (b := k) (by omega) (by omega)).mpr h9)
                      refine lv_aload_n hx hb d_RM_run_98 rfl (lv_at hl 1 rfl) ?_
                      refine va_get (D := (dC, dI)) (ci := 8) (v := .ref g_14) (C := "KitRunnerModel") (T := T_RM) (N := 25) hx hb hts hin_RM hown hK hP 0 rfl rfl 14 (by decide) hf_46 (fun _ h9 => h9) rfl d_RM_run_99 ?_
                      refine lv_iload hx hb d_RM_run_102 (lv_at hl 0 rfl) ?_
                      refine lv_iconst (v := 0) hx hb d_RM_run_104 (by decide) ?_
                      refine kr_zast (k := k) hx hb hK hP hD hS 6 3 rfl rfl (by omega) (by first | decide | omega) rfl d_RM_run_105 (fun H locs hP hD hS => ?_)
                      have hP : va_P (dC, dI) vwCl [(g, .inr (8, [.ref g_0, .ref g_1, .ref g_2, .ref g_3, .ref g_4, .int 0, .int 0, .int 65535, .int 0, .ref g_9, .ref g_10, .ref g_11, .ref g_12, .ref g_13, .ref g_14, .int 0, .int 0, .int 0, .int 0, .ref g_19, .ref g_20, .ref g_21, .int 0, .int 0, .int 0])), (g_9, .inl (cI, 16, .inl (fun _ => 0))), (g_10, .inl (cI, 16, .inl (fun _ => 0))), (g_11, .inl (cI, 16, .inl (fun _ => 0))), (g_12, .inl (cZ, 192, .inl wa)), (g_13, .inl (cZ, 192, .inl wb)), (g_14, .inl (cZ, 144, .inl (upd bo k 0)))] H := hP
                      have hD : va_D A [(g, .inr (8, [.ref g_0, .ref g_1, .ref g_2, .ref g_3, .ref g_4, .int 0, .int 0, .int 65535, .int 0, .ref g_9, .ref g_10, .ref g_11, .ref g_12, .ref g_13, .ref g_14, .int 0, .int 0, .int 0, .int 0, .ref g_19, .ref g_20, .ref g_21, .int 0, .int 0, .int 0])), (g_9, .inl (cI, 16, .inl (fun _ => 0))), (g_10, .inl (cI, 16, .inl (fun _ => 0))), (g_11, .inl (cI, 16, .inl (fun _ => 0))), (g_12, .inl (cZ, 192, .inl wa)), (g_13, .inl (cZ, 192, .inl wb)), (g_14, .inl (cZ, 144, .inl (upd bo k 0)))] := hD
                      refine lv_iinc (v := (nI (k + 1))) (lv' := [(4, .int (nI (k + 1))), (0, .ref g), (1, .int b0), (2, .int (kb pr0)), (3, .int 12)]) hx hb d_RM_run_106 hl (k := 0) rfl (nI_1 k) (by decide) rfl (fun ls hl => ?_)
                      refine lv_goto (tgt := 90) hx hb d_RM_run_109 (by decide) ?_
                      exact ih_90 (k + 1) (upd bo k 0) (by omega) _ _ (hP.sub [0, 1, 2, 3, 4, 5, 6] rfl) (hD.sub [0, 1, 2, 3, 4, 5, 6] (by decide) rfl) hS ls (lv_sub hl [0, 1, 2, 3, 4] rfl)
                exact loop_90 144 0 (fun _ => 0) (by omega) _ _ (hP.sub [0, 1, 2, 3, 4, 5, 6] rfl) (hD.sub [0, 1, 2, 3, 4, 5, 6] (by decide) rfl) hS ls (lv_sub hl [0, 1, 2, 3, 4] rfl)
              · skip
                have c_5 : ¬ 192 ≤ k := fun h9 => c_5 ((nI_leI (a := 192) (b := k) (by omega) (by omega)).mpr h9)
                exfalso; omega
            | succ n ih_57 =>
              intro k wa wb hk H locs hP hD hS ls hl
              refine lv_iload hx hb d_RM_run_57 (lv_at hl 0 rfl) ?_
              refine lv_sipush (v := 192) hx hb d_RM_run_59 (by decide) ?_
              refine lv_icmp_ge (tgt := 87) hx hb d_RM_run_62 (by decide) (fun c_29 => ?_) (fun c_29 => ?_)
              · skip
                have c_29 : 192 ≤ k := (nI_leI (a := 192) (b := k) (by omega) (by omega)).mp c_29
                exfalso; omega
              · skip
                have c_29 : ¬ 192 ≤ k := fun h9 => c_29 ((nI_leI (a := 192) (b := k) (by omega) (by omega)).mpr h9)
                refine lv_aload_n hx hb d_RM_run_65 rfl (lv_at hl 1 rfl) ?_
                refine va_get (D := (dC, dI)) (ci := 8) (v := .ref g_12) (C := "KitRunnerModel") (T := T_RM) (N := 25) hx hb hts hin_RM hown hK hP 0 rfl rfl 12 (by decide) hf_39 (fun _ h9 => h9) rfl d_RM_run_66 ?_
                refine lv_iload hx hb d_RM_run_69 (lv_at hl 0 rfl) ?_
                refine lv_aload_n hx hb d_RM_run_71 rfl (lv_at hl 1 rfl) ?_
                refine va_get (D := (dC, dI)) (ci := 8) (v := .ref g_13) (C := "KitRunnerModel") (T := T_RM) (N := 25) hx hb hts hin_RM hown hK hP 0 rfl rfl 13 (by decide) hf_43 (fun _ h9 => h9) rfl d_RM_run_72 ?_
                refine lv_iload hx hb d_RM_run_75 (lv_at hl 0 rfl) ?_
                refine lv_iconst (v := 0) hx hb d_RM_run_77 (by decide) ?_
                refine lv_dup_x2 hx hb d_RM_run_78 rfl rfl rfl ?_
                refine kr_zast (k := k) hx hb hK hP hD hS 5 3 rfl rfl (by omega) (by first | decide | omega) rfl d_RM_run_79 (fun H locs hP hD hS => ?_)
                have hP : va_P (dC, dI) vwCl [(g, .inr (8, [.ref g_0, .ref g_1, .ref g_2, .ref g_3, .ref g_4, .int 0, .int 0, .int 65535, .int 0, .ref g_9, .ref g_10, .ref g_11, .ref g_12, .ref g_13, .ref g_14, .int 0, .int 0, .int 0, .int 0, .ref g_19, .ref g_20, .ref g_21, .int 0, .int 0, .int 0])), (g_9, .inl (cI, 16, .inl (fun _ => 0))), (g_10, .inl (cI, 16, .inl (fun _ => 0))), (g_11, .inl (cI, 16, .inl (fun _ => 0))), (g_12, .inl (cZ, 192, .inl wa)), (g_13, .inl (cZ, 192, .inl (upd wb k 0))), (g_14, .inl (cZ, 144, .inl (fun _ => 0)))] H := hP
                have hD : va_D A [(g, .inr (8, [.ref g_0, .ref g_1, .ref g_2, .ref g_3, .ref g_4, .int 0, .int 0, .int 65535, .int 0, .ref g_9, .ref g_10, .ref g_11, .ref g_12, .ref g_13, .ref g_14, .int 0, .int 0, .int 0, .int 0, .ref g_19, .ref g_20, .ref g_21, .int 0, .int 0, .int 0])), (g_9, .inl (cI, 16, .inl (fun _ => 0))), (g_10, .inl (cI, 16, .inl (fun _ => 0))), (g_11, .inl (cI, 16, .inl (fun _ => 0))), (g_12, .inl (cZ, 192, .inl wa)), (g_13, .inl (cZ, 192, .inl (upd wb k 0))), (g_14, .inl (cZ, 144, .inl (fun _ => 0)))] := hD
                refine kr_zast (k := k) hx hb hK hP hD hS 4 3 rfl rfl (by omega) (by first | decide | omega) rfl d_RM_run_80 (fun H locs hP hD hS => ?_)
                have hP : va_P (dC, dI) vwCl [(g, .inr (8, [.ref g_0, .ref g_1, .ref g_2, .ref g_3, .ref g_4, .int 0, .int 0, .int 65535, .int 0, .ref g_9, .ref g_10, .ref g_11, .ref g_12, .ref g_13, .ref g_14, .int 0, .int 0, .int 0, .int 0, .ref g_19, .ref g_20, .ref g_21, .int 0, .int 0, .int 0])), (g_9, .inl (cI, 16, .inl (fun _ => 0))), (g_10, .inl (cI, 16, .inl (fun _ => 0))), (g_11, .inl (cI, 16, .inl (fun _ => 0))), (g_12, .inl (cZ, 192, .inl (upd wa k 0))), (g_13, .inl (cZ, 192, .inl (upd wb k 0))), (g_14, .inl (cZ, 144, .inl (fun _ => 0)))] H := hP
                have hD : va_D A [(g, .inr (8, [.ref g_0, .ref g_1, .ref g_2, .ref g_3, .ref g_4, .int 0, .int 0, .int 65535, .int 0, .ref g_9, .ref g_10, .ref g_11, .ref g_12, .ref g_13, .ref g_14, .int 0, .int 0, .int 0, .int 0, .ref g_19, .ref g_20, .ref g_21, .int 0, .int 0, .int 0])), (g_9, .inl (cI, 16, .inl (fun _ => 0))), (g_10, .inl (cI, 16, .inl (fun _ => 0))), (g_11, .inl (cI, 16, .inl (fun _ => 0))), (g_12, .inl (cZ, 192, .inl (upd wa k 0))), (g_13, .inl (cZ, 192, .inl (upd wb k 0))), (g_14, .inl (cZ, 144, .inl (fun _ => 0)))] := hD
                refine lv_iinc (v := (nI (k + 1))) (lv' := [(4, .int (nI (k + 1))), (0, .ref g), (1, .int b0), (2, .int (kb pr0)), (3, .int 12)]) hx hb d_RM_run_81 hl (k := 0) rfl (nI_1 k) (by decide) rfl (fun ls hl => ?_)
                refine lv_goto (tgt := 57) hx hb d_RM_run_84 (by decide) ?_
                exact ih_57 (k + 1) (upd wa k 0) (upd wb k 0) (by omega) _ _ (hP.sub [0, 1, 2, 3, 4, 5, 6] rfl) (hD.sub [0, 1, 2, 3, 4, 5, 6] (by decide) rfl) hS ls (lv_sub hl [0, 1, 2, 3, 4] rfl)
          exact loop_57 192 0 (fun _ => 0) (fun _ => 0) (by omega) _ _ (hP.sub [0, 1, 2, 3, 4, 5, 6] rfl) (hD.sub [0, 1, 2, 3, 4, 5, 6] (by decide) rfl) hS ls (lv_sub hl [0, 2, 3, 4, 1] rfl)
        · skip
          refine lv_bipush (v := 6) hx hb d_RM_run_26 (by decide) ?_
          refine lv_goto (tgt := 33) hx hb d_RM_run_28 (by decide) ?_
          refine lv_istore_n (lv' := [(3, .int 6), (0, .ref g), (1, .int b0), (2, .int (kb pr0))]) hx hb d_RM_run_33 rfl hl (by decide) rfl (fun ls hl => ?_)
          refine lv_aload_n hx hb d_RM_run_34 rfl (lv_at hl 1 rfl) ?_
          refine lv_aload_n hx hb d_RM_run_35 rfl (lv_at hl 1 rfl) ?_
          refine lv_aload_n hx hb d_RM_run_36 rfl (lv_at hl 1 rfl) ?_
          refine lv_aload_n hx hb d_RM_run_37 rfl (lv_at hl 1 rfl) ?_
          refine lv_iconst (v := 0) hx hb d_RM_run_38 (by decide) ?_
          refine lv_dup_x1 hx hb d_RM_run_39 rfl rfl ?_
          refine va_put (D := (dC, dI)) (ci := 8) (v := .int 0) (ty := .int) (C := "KitRunnerModel") (T := T_RM) (N := 25) hx hb hts hin_RM ty_RM ty_RM_ok nm_RM hown hK hP hD hS 0 rfl rfl 18 (by decide) hf_149 (fun _ h9 => h9) rfl (by decide +kernel) rfl rfl (Nat.le_of_ble_eq_true rfl) d_RM_run_40 (fun H locs hP hD hS => ?_)
          have hP : va_P (dC, dI) vwCl [(g, .inr (8, [.ref g_0, .ref g_1, .ref g_2, .ref g_3, .ref g_4, .int 0, .int 0, .int 65535, .int 0, .ref g_9, .ref g_10, .ref g_11, .ref g_12, .ref g_13, .ref g_14, .int 0, .int 0, .int 0, .int 0, .ref g_19, .ref g_20, .ref g_21, .int 0, .int 0, .int 0])), (g_9, .inl (cI, 16, .inl (fun _ => 0))), (g_10, .inl (cI, 16, .inl (fun _ => 0))), (g_11, .inl (cI, 16, .inl (fun _ => 0))), (g_12, .inl (cZ, 192, .inl (fun _ => 0))), (g_13, .inl (cZ, 192, .inl (fun _ => 0))), (g_14, .inl (cZ, 144, .inl (fun _ => 0)))] H := hP
          have hD : va_D A [(g, .inr (8, [.ref g_0, .ref g_1, .ref g_2, .ref g_3, .ref g_4, .int 0, .int 0, .int 65535, .int 0, .ref g_9, .ref g_10, .ref g_11, .ref g_12, .ref g_13, .ref g_14, .int 0, .int 0, .int 0, .int 0, .ref g_19, .ref g_20, .ref g_21, .int 0, .int 0, .int 0])), (g_9, .inl (cI, 16, .inl (fun _ => 0))), (g_10, .inl (cI, 16, .inl (fun _ => 0))), (g_11, .inl (cI, 16, .inl (fun _ => 0))), (g_12, .inl (cZ, 192, .inl (fun _ => 0))), (g_13, .inl (cZ, 192, .inl (fun _ => 0))), (g_14, .inl (cZ, 144, .inl (fun _ => 0)))] := hD
          refine lv_dup_x1 hx hb d_RM_run_43 rfl rfl ?_
          refine va_put (D := (dC, dI)) (ci := 8) (v := .int 0) (ty := .int) (C := "KitRunnerModel") (T := T_RM) (N := 25) hx hb hts hin_RM ty_RM ty_RM_ok nm_RM hown hK hP hD hS 0 rfl rfl 17 (by decide) hf_158 (fun _ h9 => h9) rfl (by decide +kernel) rfl rfl (Nat.le_of_ble_eq_true rfl) d_RM_run_44 (fun H locs hP hD hS => ?_)
          have hP : va_P (dC, dI) vwCl [(g, .inr (8, [.ref g_0, .ref g_1, .ref g_2, .ref g_3, .ref g_4, .int 0, .int 0, .int 65535, .int 0, .ref g_9, .ref g_10, .ref g_11, .ref g_12, .ref g_13, .ref g_14, .int 0, .int 0, .int 0, .int 0, .ref g_19, .ref g_20, .ref g_21, .int 0, .int 0, .int 0])), (g_9, .inl (cI, 16, .inl (fun _ => 0))), (g_10, .inl (cI, 16, .inl (fun _ => 0))), (g_11, .inl (cI, 16, .inl (fun _ => 0))), (g_12, .inl (cZ, 192, .inl (fun _ => 0))), (g_13, .inl (cZ, 192, .inl (fun _ => 0))), (g_14, .inl (cZ, 144, .inl (fun _ => 0)))] H := hP
          have hD : va_D A [(g, .inr (8, [.ref g_0, .ref g_1, .ref g_2, .ref g_3, .ref g_4, .int 0, .int 0, .int 65535, .int 0, .ref g_9, .ref g_10, .ref g_11, .ref g_12, .ref g_13, .ref g_14, .int 0, .int 0, .int 0, .int 0, .ref g_19, .ref g_20, .ref g_21, .int 0, .int 0, .int 0])), (g_9, .inl (cI, 16, .inl (fun _ => 0))), (g_10, .inl (cI, 16, .inl (fun _ => 0))), (g_11, .inl (cI, 16, .inl (fun _ => 0))), (g_12, .inl (cZ, 192, .inl (fun _ => 0))), (g_13, .inl (cZ, 192, .inl (fun _ => 0))), (g_14, .inl (cZ, 144, .inl (fun _ => 0)))] := hD
          refine lv_dup_x1 hx hb d_RM_run_47 rfl rfl ?_
          refine va_put (D := (dC, dI)) (ci := 8) (v := .int 0) (ty := .int) (C := "KitRunnerModel") (T := T_RM) (N := 25) hx hb hts hin_RM ty_RM ty_RM_ok nm_RM hown hK hP hD hS 0 rfl rfl 16 (by decide) hf_155 (fun _ h9 => h9) rfl (by decide +kernel) rfl rfl (Nat.le_of_ble_eq_true rfl) d_RM_run_48 (fun H locs hP hD hS => ?_)
          have hP : va_P (dC, dI) vwCl [(g, .inr (8, [.ref g_0, .ref g_1, .ref g_2, .ref g_3, .ref g_4, .int 0, .int 0, .int 65535, .int 0, .ref g_9, .ref g_10, .ref g_11, .ref g_12, .ref g_13, .ref g_14, .int 0, .int 0, .int 0, .int 0, .ref g_19, .ref g_20, .ref g_21, .int 0, .int 0, .int 0])), (g_9, .inl (cI, 16, .inl (fun _ => 0))), (g_10, .inl (cI, 16, .inl (fun _ => 0))), (g_11, .inl (cI, 16, .inl (fun _ => 0))), (g_12, .inl (cZ, 192, .inl (fun _ => 0))), (g_13, .inl (cZ, 192, .inl (fun _ => 0))), (g_14, .inl (cZ, 144, .inl (fun _ => 0)))] H := hP
          have hD : va_D A [(g, .inr (8, [.ref g_0, .ref g_1, .ref g_2, .ref g_3, .ref g_4, .int 0, .int 0, .int 65535, .int 0, .ref g_9, .ref g_10, .ref g_11, .ref g_12, .ref g_13, .ref g_14, .int 0, .int 0, .int 0, .int 0, .ref g_19, .ref g_20, .ref g_21, .int 0, .int 0, .int 0])), (g_9, .inl (cI, 16, .inl (fun _ => 0))), (g_10, .inl (cI, 16, .inl (fun _ => 0))), (g_11, .inl (cI, 16, .inl (fun _ => 0))), (g_12, .inl (cZ, 192, .inl (fun _ => 0))), (g_13, .inl (cZ, 192, .inl (fun _ => 0))), (g_14, .inl (cZ, 144, .inl (fun _ => 0)))] := hD
          refine va_put (D := (dC, dI)) (ci := 8) (v := .int 0) (ty := .int) (C := "KitRunnerModel") (T := T_RM) (N := 25) hx hb hts hin_RM ty_RM ty_RM_ok nm_RM hown hK hP hD hS 0 rfl rfl 15 (by decide) hf_152 (fun _ h9 => h9) rfl (by decide +kernel) rfl rfl (Nat.le_of_ble_eq_true rfl) d_RM_run_51 (fun H locs hP hD hS => ?_)
          have hP : va_P (dC, dI) vwCl [(g, .inr (8, [.ref g_0, .ref g_1, .ref g_2, .ref g_3, .ref g_4, .int 0, .int 0, .int 65535, .int 0, .ref g_9, .ref g_10, .ref g_11, .ref g_12, .ref g_13, .ref g_14, .int 0, .int 0, .int 0, .int 0, .ref g_19, .ref g_20, .ref g_21, .int 0, .int 0, .int 0])), (g_9, .inl (cI, 16, .inl (fun _ => 0))), (g_10, .inl (cI, 16, .inl (fun _ => 0))), (g_11, .inl (cI, 16, .inl (fun _ => 0))), (g_12, .inl (cZ, 192, .inl (fun _ => 0))), (g_13, .inl (cZ, 192, .inl (fun _ => 0))), (g_14, .inl (cZ, 144, .inl (fun _ => 0)))] H := hP
          have hD : va_D A [(g, .inr (8, [.ref g_0, .ref g_1, .ref g_2, .ref g_3, .ref g_4, .int 0, .int 0, .int 65535, .int 0, .ref g_9, .ref g_10, .ref g_11, .ref g_12, .ref g_13, .ref g_14, .int 0, .int 0, .int 0, .int 0, .ref g_19, .ref g_20, .ref g_21, .int 0, .int 0, .int 0])), (g_9, .inl (cI, 16, .inl (fun _ => 0))), (g_10, .inl (cI, 16, .inl (fun _ => 0))), (g_11, .inl (cI, 16, .inl (fun _ => 0))), (g_12, .inl (cZ, 192, .inl (fun _ => 0))), (g_13, .inl (cZ, 192, .inl (fun _ => 0))), (g_14, .inl (cZ, 144, .inl (fun _ => 0)))] := hD
          refine lv_iconst (v := 0) hx hb d_RM_run_54 (by decide) ?_
          refine lv_istore (lv' := [(4, .int 0), (3, .int 6), (0, .ref g), (1, .int b0), (2, .int (kb pr0))]) hx hb d_RM_run_55 hl (by decide) rfl (fun ls hl => ?_)
          have loop_57 : ∀ (n : Nat) (k : Nat) (wa wb : Nat → Int32), (k + n = 192) → ∀ (H : Heap) (locs : List Loc), va_P (dC, dI) vwCl [(g, .inr (8, [.ref g_0, .ref g_1, .ref g_2, .ref g_3, .ref g_4, .int 0, .int 0, .int 65535, .int 0, .ref g_9, .ref g_10, .ref g_11, .ref g_12, .ref g_13, .ref g_14, .int 0, .int 0, .int 0, .int 0, .ref g_19, .ref g_20, .ref g_21, .int 0, .int 0, .int 0])), (g_9, .inl (cI, 16, .inl (fun _ => 0))), (g_10, .inl (cI, 16, .inl (fun _ => 0))), (g_11, .inl (cI, 16, .inl (fun _ => 0))), (g_12, .inl (cZ, 192, .inl wa)), (g_13, .inl (cZ, 192, .inl wb)), (g_14, .inl (cZ, 144, .inl (fun _ => 0)))] H → va_D A [(g, .inr (8, [.ref g_0, .ref g_1, .ref g_2, .ref g_3, .ref g_4, .int 0, .int 0, .int 65535, .int 0, .ref g_9, .ref g_10, .ref g_11, .ref g_12, .ref g_13, .ref g_14, .int 0, .int 0, .int 0, .int 0, .ref g_19, .ref g_20, .ref g_21, .int 0, .int 0, .int 0])), (g_9, .inl (cI, 16, .inl (fun _ => 0))), (g_10, .inl (cI, 16, .inl (fun _ => 0))), (g_11, .inl (cI, 16, .inl (fun _ => 0))), (g_12, .inl (cZ, 192, .inl wa)), (g_13, .inl (cZ, 192, .inl wb)), (g_14, .inl (cZ, 144, .inl (fun _ => 0)))] → va_S A s.heap H locs → ∀ ls : Array Slot, lv_has ls 8 [(4, .int (nI k)), (0, .ref g), (1, .int b0), (2, .int (kb pr0)), (3, .int 6)] → W p l e (kRm 4 9216 110592 101) s m args below meth c H locs 0 0 Q (F0 m 57 ls []) := by
            intro n
            induction n with
            | zero =>
              intro k wa wb hk H locs hP hD hS ls hl
              refine lv_iload hx hb d_RM_run_57 (lv_at hl 0 rfl) ?_
              refine lv_sipush (v := 192) hx hb d_RM_run_59 (by decide) ?_
              refine lv_icmp_ge (tgt := 87) hx hb d_RM_run_62 (by decide) (fun c_30 => ?_) (fun c_30 => ?_)
              · skip
                have c_30 : 192 ≤ k := (nI_leI (a := 192) (b := k) (by omega) (by omega)).mp c_30
                refine lv_iconst (v := 0) hx hb d_RM_run_87 (by decide) ?_
                refine lv_istore (lv' := [(4, .int 0), (0, .ref g), (1, .int b0), (2, .int (kb pr0)), (3, .int 6)]) hx hb d_RM_run_88 hl (by decide) rfl (fun ls hl => ?_)
                have loop_90 : ∀ (n : Nat) (k : Nat) (bo : Nat → Int32), (k + n = 144) → ∀ (H : Heap) (locs : List Loc), va_P (dC, dI) vwCl [(g, .inr (8, [.ref g_0, .ref g_1, .ref g_2, .ref g_3, .ref g_4, .int 0, .int 0, .int 65535, .int 0, .ref g_9, .ref g_10, .ref g_11, .ref g_12, .ref g_13, .ref g_14, .int 0, .int 0, .int 0, .int 0, .ref g_19, .ref g_20, .ref g_21, .int 0, .int 0, .int 0])), (g_9, .inl (cI, 16, .inl (fun _ => 0))), (g_10, .inl (cI, 16, .inl (fun _ => 0))), (g_11, .inl (cI, 16, .inl (fun _ => 0))), (g_12, .inl (cZ, 192, .inl wa)), (g_13, .inl (cZ, 192, .inl wb)), (g_14, .inl (cZ, 144, .inl bo))] H → va_D A [(g, .inr (8, [.ref g_0, .ref g_1, .ref g_2, .ref g_3, .ref g_4, .int 0, .int 0, .int 65535, .int 0, .ref g_9, .ref g_10, .ref g_11, .ref g_12, .ref g_13, .ref g_14, .int 0, .int 0, .int 0, .int 0, .ref g_19, .ref g_20, .ref g_21, .int 0, .int 0, .int 0])), (g_9, .inl (cI, 16, .inl (fun _ => 0))), (g_10, .inl (cI, 16, .inl (fun _ => 0))), (g_11, .inl (cI, 16, .inl (fun _ => 0))), (g_12, .inl (cZ, 192, .inl wa)), (g_13, .inl (cZ, 192, .inl wb)), (g_14, .inl (cZ, 144, .inl bo))] → va_S A s.heap H locs → ∀ ls : Array Slot, lv_has ls 8 [(4, .int (nI k)), (0, .ref g), (1, .int b0), (2, .int (kb pr0)), (3, .int 6)] → W p l e (kRm 4 9216 110592 101) s m args below meth c H locs 0 0 Q (F0 m 90 ls []) := by
                  intro n
                  induction n with
                  | zero =>
                    intro k bo hk H locs hP hD hS ls hl
                    refine lv_iload hx hb d_RM_run_90 (lv_at hl 0 rfl) ?_
                    refine lv_sipush (v := 144) hx hb d_RM_run_92 (by decide) ?_
                    refine lv_icmp_ge (tgt := 112) hx hb d_RM_run_95 (by decide) (fun c_31 => ?_) (fun c_31 => ?_)
                    · skip
                      have c_31 : 144 ≤ k := (nI_leI (a := 144) (b := k) (by omega) (by omega)).mp c_31
                      refine lv_iconst (v := 0) hx hb d_RM_run_112 (by decide) ?_
                      refine lv_istore (lv' := [(4, .int 0), (0, .ref g), (1, .int b0), (2, .int (kb pr0)), (3, .int 6)]) hx hb d_RM_run_113 hl (by decide) rfl (fun ls hl => ?_)
                      have loop_115 : ∀ (n : Nat) (i : Nat) (tb fb lg wA wB bO : Nat → Int32) (ps tk : Int32), (i + n = 16) → ∀ (H : Heap) (locs : List Loc), va_P (dC, dI) vwCl [(g, .inr (8, [.ref g_0, .ref g_1, .ref g_2, .ref g_3, .ref g_4, .int 0, .int 0, .int 65535, .int 0, .ref g_9, .ref g_10, .ref g_11, .ref g_12, .ref g_13, .ref g_14, .int tk, .int 0, .int 0, .int ps, .ref g_19, .ref g_20, .ref g_21, .int 0, .int 0, .int 0])), (g_9, .inl (cI, 16, .inl tb)), (g_10, .inl (cI, 16, .inl fb)), (g_11, .inl (cI, 16, .inl lg)), (g_12, .inl (cZ, 192, .inl wA)), (g_13, .inl (cZ, 192, .inl wB)), (g_14, .inl (cZ, 144, .inl bO))] H → va_D A [(g, .inr (8, [.ref g_0, .ref g_1, .ref g_2, .ref g_3, .ref g_4, .int 0, .int 0, .int 65535, .int 0, .ref g_9, .ref g_10, .ref g_11, .ref g_12, .ref g_13, .ref g_14, .int tk, .int 0, .int 0, .int ps, .ref g_19, .ref g_20, .ref g_21, .int 0, .int 0, .int 0])), (g_9, .inl (cI, 16, .inl tb)), (g_10, .inl (cI, 16, .inl fb)), (g_11, .inl (cI, 16, .inl lg)), (g_12, .inl (cZ, 192, .inl wA)), (g_13, .inl (cZ, 192, .inl wB)), (g_14, .inl (cZ, 144, .inl bO))] → va_S A s.heap H locs → ∀ ls : Array Slot, lv_has ls 8 [(4, .int (nI i)), (0, .ref g), (1, .int b0), (2, .int (kb pr0)), (3, .int 6)] → W p l e (kRm 4 9216 110592 101) s m args below meth c H locs (576 * i) (6912 * i) Q (F0 m 115 ls []) := by
                        intro n
                        induction n with
                        | zero =>
                          intro i tb fb lg wA wB bO ps tk hi H locs hP hD hS ls hl
                          refine lv_iload hx hb d_RM_run_115 (lv_at hl 0 rfl) ?_
                          refine lv_bipush (v := 16) hx hb d_RM_run_117 (by decide) ?_
                          refine lv_icmp_ge (tgt := 290) hx hb d_RM_run_119 (by decide) (fun c_32 => ?_) (fun c_32 => ?_)
                          · skip
                            have c_32 : 16 ≤ i := (nI_leI (a := 16) (b := i) (by omega) (by omega)).mp c_32
                            refine lv_aload_n hx hb d_RM_run_290 rfl (lv_at hl 1 rfl) ?_
                            refine lv_dup hx hb d_RM_run_291 rfl ?_
                            refine va_get (D := (dC, dI)) (ci := 8) (v := .int 0) (C := "KitRunnerModel") (T := T_RM) (N := 25) hx hb hts hin_RM hown hK hP 0 rfl rfl 8 (by decide) hf_169 (fun _ h9 => h9) rfl d_RM_run_292 ?_
                            refine lv_iconst (v := 1) hx hb d_RM_run_295 (by decide) ?_
                            refine lv_iadd hx hb d_RM_run_296 ?_
                            refine kr_topi (x := (0 + 1 : Int32)) (y := 1) (by decide) ?_
                            refine va_put (D := (dC, dI)) (ci := 8) (v := .int 1) (ty := .int) (C := "KitRunnerModel") (T := T_RM) (N := 25) hx hb hts hin_RM ty_RM ty_RM_ok nm_RM hown hK hP hD hS 0 rfl rfl 8 (by decide) hf_169 (fun _ h9 => h9) rfl (by decide +kernel) rfl rfl (Nat.le_of_ble_eq_true rfl) d_RM_run_297 (fun H locs hP hD hS => ?_)
                            have hP : va_P (dC, dI) vwCl [(g, .inr (8, [.ref g_0, .ref g_1, .ref g_2, .ref g_3, .ref g_4, .int 0, .int 0, .int 65535, .int 1, .ref g_9, .ref g_10, .ref g_11, .ref g_12, .ref g_13, .ref g_14, .int tk, .int 0, .int 0, .int ps, .ref g_19, .ref g_20, .ref g_21, .int 0, .int 0, .int 0])), (g_9, .inl (cI, 16, .inl tb)), (g_10, .inl (cI, 16, .inl fb)), (g_11, .inl (cI, 16, .inl lg)), (g_12, .inl (cZ, 192, .inl wA)), (g_13, .inl (cZ, 192, .inl wB)), (g_14, .inl (cZ, 144, .inl bO))] H := hP
                            have hD : va_D A [(g, .inr (8, [.ref g_0, .ref g_1, .ref g_2, .ref g_3, .ref g_4, .int 0, .int 0, .int 65535, .int 1, .ref g_9, .ref g_10, .ref g_11, .ref g_12, .ref g_13, .ref g_14, .int tk, .int 0, .int 0, .int ps, .ref g_19, .ref g_20, .ref g_21, .int 0, .int 0, .int 0])), (g_9, .inl (cI, 16, .inl tb)), (g_10, .inl (cI, 16, .inl fb)), (g_11, .inl (cI, 16, .inl lg)), (g_12, .inl (cZ, 192, .inl wA)), (g_13, .inl (cZ, 192, .inl wB)), (g_14, .inl (cZ, 144, .inl bO))] := hD
                            refine lv_aload_n hx hb d_RM_run_300 rfl (lv_at hl 1 rfl) ?_
                            refine va_get (D := (dC, dI)) (ci := 8) (v := .int 0) (C := "KitRunnerModel") (T := T_RM) (N := 25) hx hb hts hin_RM hown hK hP 0 rfl rfl 16 (by decide) hf_155 (fun _ h9 => h9) rfl d_RM_run_301 ?_
                            have hpost : r_run b0 = 0 := by simp only [r_run, if_neg c_1, if_pos c_2]
                            refine W.widen (k := 9216) (n := 110592) (by omega) (by omega) ?_
                            have hP9 := hP.sub (ws' := []) [] rfl
                            have hD9 := hD.sub (ws' := []) [] (by decide) rfl
                            exact kr_iret (v := 0) hQ hx hb hr hlocks hK hP9 hD9 hS (by rw [hpost] <;> rfl) () rfl d_RM_run_304
                          · skip
                            have c_32 : ¬ 16 ≤ i := fun h9 => c_32 ((nI_leI (a := 16) (b := i) (by omega) (by omega)).mpr h9)
                            exfalso; omega
                        | succ n ih_115 =>
                          intro i tb fb lg wA wB bO ps tk hi H locs hP hD hS ls hl
                          refine lv_iload hx hb d_RM_run_115 (lv_at hl 0 rfl) ?_
                          refine lv_bipush (v := 16) hx hb d_RM_run_117 (by decide) ?_
                          refine lv_icmp_ge (tgt := 290) hx hb d_RM_run_119 (by decide) (fun c_33 => ?_) (fun c_33 => ?_)
                          · skip
                            have c_33 : 16 ≤ i := (nI_leI (a := 16) (b := i) (by omega) (by omega)).mp c_33
                            exfalso; omega
                          · skip
                            have c_33 : ¬ 16 ≤ i := fun h9 => c_33 ((nI_leI (a := 16) (b := i) (by omega) (by omega)).mpr h9)
                            refine lv_aload_n hx hb d_RM_run_122 rfl (lv_at hl 1 rfl) ?_
                            refine va_get (D := (dC, dI)) (ci := 8) (v := .ref g_9) (C := "KitRunnerModel") (T := T_RM) (N := 25) hx hb hts hin_RM hown hK hP 0 rfl rfl 9 (by decide) hf_30 (fun _ h9 => h9) rfl d_RM_run_123 ?_
                            refine lv_iload hx hb d_RM_run_126 (lv_at hl 0 rfl) ?_
                            refine lv_aload_n hx hb d_RM_run_128 rfl (lv_at hl 1 rfl) ?_
                            refine va_get (D := (dC, dI)) (ci := 8) (v := .ref g_10) (C := "KitRunnerModel") (T := T_RM) (N := 25) hx hb hts hin_RM hown hK hP 0 rfl rfl 10 (by decide) hf_33 (fun _ h9 => h9) rfl d_RM_run_129 ?_
                            refine lv_iload hx hb d_RM_run_132 (lv_at hl 0 rfl) ?_
                            refine lv_aload_n hx hb d_RM_run_134 rfl (lv_at hl 1 rfl) ?_
                            refine va_get (D := (dC, dI)) (ci := 8) (v := .ref g_11) (C := "KitRunnerModel") (T := T_RM) (N := 25) hx hb hts hin_RM hown hK hP 0 rfl rfl 11 (by decide) hf_36 (fun _ h9 => h9) rfl d_RM_run_135 ?_
                            refine lv_iload hx hb d_RM_run_138 (lv_at hl 0 rfl) ?_
                            refine lv_iconst (v := 0) hx hb d_RM_run_140 (by decide) ?_
                            refine lv_dup_x2 hx hb d_RM_run_141 rfl rfl rfl ?_
                            refine kr_iast (k := i) hx hb hK hP hD hS 3 0 rfl rfl (by omega) (by first | decide | omega) d_RM_run_142 (fun H locs hP hD hS => ?_)
                            have hP : va_P (dC, dI) vwCl [(g, .inr (8, [.ref g_0, .ref g_1, .ref g_2, .ref g_3, .ref g_4, .int 0, .int 0, .int 65535, .int 0, .ref g_9, .ref g_10, .ref g_11, .ref g_12, .ref g_13, .ref g_14, .int tk, .int 0, .int 0, .int ps, .ref g_19, .ref g_20, .ref g_21, .int 0, .int 0, .int 0])), (g_9, .inl (cI, 16, .inl tb)), (g_10, .inl (cI, 16, .inl fb)), (g_11, .inl (cI, 16, .inl (upd lg i 0))), (g_12, .inl (cZ, 192, .inl wA)), (g_13, .inl (cZ, 192, .inl wB)), (g_14, .inl (cZ, 144, .inl bO))] H := hP
                            have hD : va_D A [(g, .inr (8, [.ref g_0, .ref g_1, .ref g_2, .ref g_3, .ref g_4, .int 0, .int 0, .int 65535, .int 0, .ref g_9, .ref g_10, .ref g_11, .ref g_12, .ref g_13, .ref g_14, .int tk, .int 0, .int 0, .int ps, .ref g_19, .ref g_20, .ref g_21, .int 0, .int 0, .int 0])), (g_9, .inl (cI, 16, .inl tb)), (g_10, .inl (cI, 16, .inl fb)), (g_11, .inl (cI, 16, .inl (upd lg i 0))), (g_12, .inl (cZ, 192, .inl wA)), (g_13, .inl (cZ, 192, .inl wB)), (g_14, .inl (cZ, 144, .inl bO))] := hD
                            refine lv_dup_x2 hx hb d_RM_run_143 rfl rfl rfl ?_
                            refine kr_iast (k := i) hx hb hK hP hD hS 2 0 rfl rfl (by omega) (by first | decide | omega) d_RM_run_144 (fun H locs hP hD hS => ?_)
                            have hP : va_P (dC, dI) vwCl [(g, .inr (8, [.ref g_0, .ref g_1, .ref g_2, .ref g_3, .ref g_4, .int 0, .int 0, .int 65535, .int 0, .ref g_9, .ref g_10, .ref g_11, .ref g_12, .ref g_13, .ref g_14, .int tk, .int 0, .int 0, .int ps, .ref g_19, .ref g_20, .ref g_21, .int 0, .int 0, .int 0])), (g_9, .inl (cI, 16, .inl tb)), (g_10, .inl (cI, 16, .inl (upd fb i 0))), (g_11, .inl (cI, 16, .inl (upd lg i 0))), (g_12, .inl (cZ, 192, .inl wA)), (g_13, .inl (cZ, 192, .inl wB)), (g_14, .inl (cZ, 144, .inl bO))] H := hP
                            have hD : va_D A [(g, .inr (8, [.ref g_0, .ref g_1, .ref g_2, .ref g_3, .ref g_4, .int 0, .int 0, .int 65535, .int 0, .ref g_9, .ref g_10, .ref g_11, .ref g_12, .ref g_13, .ref g_14, .int tk, .int 0, .int 0, .int ps, .ref g_19, .ref g_20, .ref g_21, .int 0, .int 0, .int 0])), (g_9, .inl (cI, 16, .inl tb)), (g_10, .inl (cI, 16, .inl (upd fb i 0))), (g_11, .inl (cI, 16, .inl (upd lg i 0))), (g_12, .inl (cZ, 192, .inl wA)), (g_13, .inl (cZ, 192, .inl wB)), (g_14, .inl (cZ, 144, .inl bO))] := hD
                            refine kr_iast (k := i) hx hb hK hP hD hS 1 0 rfl rfl (by omega) (by first | decide | omega) d_RM_run_145 (fun H locs hP hD hS => ?_)
                            have hP : va_P (dC, dI) vwCl [(g, .inr (8, [.ref g_0, .ref g_1, .ref g_2, .ref g_3, .ref g_4, .int 0, .int 0, .int 65535, .int 0, .ref g_9, .ref g_10, .ref g_11, .ref g_12, .ref g_13, .ref g_14, .int tk, .int 0, .int 0, .int ps, .ref g_19, .ref g_20, .ref g_21, .int 0, .int 0, .int 0])), (g_9, .inl (cI, 16, .inl (upd tb i 0))), (g_10, .inl (cI, 16, .inl (upd fb i 0))), (g_11, .inl (cI, 16, .inl (upd lg i 0))), (g_12, .inl (cZ, 192, .inl wA)), (g_13, .inl (cZ, 192, .inl wB)), (g_14, .inl (cZ, 144, .inl bO))] H := hP
                            have hD : va_D A [(g, .inr (8, [.ref g_0, .ref g_1, .ref g_2, .ref g_3, .ref g_4, .int 0, .int 0, .int 65535, .int 0, .ref g_9, .ref g_10, .ref g_11, .ref g_12, .ref g_13, .ref g_14, .int tk, .int 0, .int 0, .int ps, .ref g_19, .ref g_20, .ref g_21, .int 0, .int 0, .int 0])), (g_9, .inl (cI, 16, .inl (upd tb i 0))), (g_10, .inl (cI, 16, .inl (upd fb i 0))), (g_11, .inl (cI, 16, .inl (upd lg i 0))), (g_12, .inl (cZ, 192, .inl wA)), (g_13, .inl (cZ, 192, .inl wB)), (g_14, .inl (cZ, 144, .inl bO))] := hD
                            refine lv_aload_n hx hb d_RM_run_146 rfl (lv_at hl 1 rfl) ?_
                            refine va_get (D := (dC, dI)) (ci := 8) (v := .int 65535) (C := "KitRunnerModel") (T := T_RM) (N := 25) hx hb hts hin_RM hown hK hP 0 rfl rfl 7 (by decide) hf_26 (fun _ h9 => h9) rfl d_RM_run_147 ?_
                            refine lv_iload hx hb d_RM_run_150 (lv_at hl 0 rfl) ?_
                            refine lv_ishr hx hb d_RM_run_152 ?_
                            refine lv_iconst (v := 1) hx hb d_RM_run_153 (by decide) ?_
                            refine lv_iand hx hb d_RM_run_154 ?_
                            refine lv_if_ne (tgt := 161) hx hb d_RM_run_155 (by decide) (fun c_34 => ?_) (fun c_34 => ?_)
                            · skip
                              refine lv_iconst (v := 0) hx hb d_RM_run_161 (by decide) ?_
                              refine lv_istore (lv' := [(5, .int 0), (4, .int (nI i)), (0, .ref g), (1, .int b0), (2, .int (kb pr0)), (3, .int 6)]) hx hb d_RM_run_162 hl (by decide) rfl (fun ls hl => ?_)
                              have loop_164 : ∀ (n2 : Nat) (k : Nat) (tb2 lg2 wA2 wB2 bO2 : Nat → Int32) (ps2 tk2 : Int32), (k + n2 = 36) → ∀ (H : Heap) (locs : List Loc), va_P (dC, dI) vwCl [(g, .inr (8, [.ref g_0, .ref g_1, .ref g_2, .ref g_3, .ref g_4, .int 0, .int 0, .int 65535, .int 0, .ref g_9, .ref g_10, .ref g_11, .ref g_12, .ref g_13, .ref g_14, .int tk2, .int 0, .int 0, .int ps2, .ref g_19, .ref g_20, .ref g_21, .int 0, .int 0, .int 0])), (g_9, .inl (cI, 16, .inl tb2)), (g_10, .inl (cI, 16, .inl (upd fb i 0))), (g_11, .inl (cI, 16, .inl lg2)), (g_12, .inl (cZ, 192, .inl wA2)), (g_13, .inl (cZ, 192, .inl wB2)), (g_14, .inl (cZ, 144, .inl bO2))] H → va_D A [(g, .inr (8, [.ref g_0, .ref g_1, .ref g_2, .ref g_3, .ref g_4, .int 0, .int 0, .int 65535, .int 0, .ref g_9, .ref g_10, .ref g_11, .ref g_12, .ref g_13, .ref g_14, .int tk2, .int 0, .int 0, .int ps2, .ref g_19, .ref g_20, .ref g_21, .int 0, .int 0, .int 0])), (g_9, .inl (cI, 16, .inl tb2)), (g_10, .inl (cI, 16, .inl (upd fb i 0))), (g_11, .inl (cI, 16, .inl lg2)), (g_12, .inl (cZ, 192, .inl wA2)), (g_13, .inl (cZ, 192, .inl wB2)), (g_14, .inl (cZ, 144, .inl bO2))] → va_S A s.heap H locs → ∀ ls : Array Slot, lv_has ls 8 [(5, .int (nI k)), (4, .int (nI i)), (0, .ref g), (1, .int b0), (2, .int (kb pr0)), (3, .int 6)] → W p l e (kRm 4 9216 110592 101) s m args below meth c H locs (576 * i + 4 * k) (6912 * i + 48 * k) Q (F0 m 164 ls []) := by
                                intro n2
                                induction n2 with
                                | zero =>
                                  intro k tb2 lg2 wA2 wB2 bO2 ps2 tk2 hk H locs hP hD hS ls hl
                                  refine lv_iload hx hb d_RM_run_164 (lv_at hl 0 rfl) ?_
                                  refine lv_iload_n hx hb d_RM_run_166 rfl (lv_at hl 5 rfl) ?_
                                  refine lv_iload_n hx hb d_RM_run_167 rfl (lv_at hl 5 rfl) ?_
                                  refine lv_imul hx hb d_RM_run_168 ?_
                                  refine kr_topi (x := (6 * 6 : Int32)) (y := 36) (by decide) ?_
                                  refine lv_icmp_ge (tgt := 284) hx hb d_RM_run_169 (by decide) (fun c_35 => ?_) (fun c_35 => ?_)
                                  · skip
                                    have c_35 : 36 ≤ k := (nI_leI (a := 36) (b := k) (by omega) (by omega)).mp c_35
                                    refine lv_iinc (v := (nI (i + 1))) (lv' := [(4, .int (nI (i + 1))), (5, .int (nI k)), (0, .ref g), (1, .int b0), (2, .int (kb pr0)), (3, .int 6)]) hx hb d_RM_run_284 hl (k := 1) rfl (nI_1 i) (by decide) rfl (fun ls hl => ?_)
                                    refine lv_goto (tgt := 115) hx hb d_RM_run_287 (by decide) ?_
                                    refine W.widen (k := 576 * (i + 1)) (n := 6912 * (i + 1)) (by omega) (by omega) ?_
                                    exact ih_115 (i + 1) tb2 (upd fb i 0) lg2 wA2 wB2 bO2 ps2 tk2 (by omega) _ _ (hP.sub [0, 1, 2, 3, 4, 5, 6] rfl) (hD.sub [0, 1, 2, 3, 4, 5, 6] (by decide) rfl) hS ls (lv_sub hl [0, 2, 3, 4, 5] rfl)
                                  · skip
                                    have c_35 : ¬ 36 ≤ k := fun h9 => c_35 ((nI_leI (a := 36) (b := k) (by omega) (by omega)).mpr h9)
                                    exfalso; omega
                                | succ n2 ih_164 =>
                                  intro k tb2 lg2 wA2 wB2 bO2 ps2 tk2 hk H locs hP hD hS ls hl
                                  refine lv_iload hx hb d_RM_run_164 (lv_at hl 0 rfl) ?_
                                  refine lv_iload_n hx hb d_RM_run_166 rfl (lv_at hl 5 rfl) ?_
                                  refine lv_iload_n hx hb d_RM_run_167 rfl (lv_at hl 5 rfl) ?_
                                  refine lv_imul hx hb d_RM_run_168 ?_
                                  refine kr_topi (x := (6 * 6 : Int32)) (y := 36) (by decide) ?_
                                  refine lv_icmp_ge (tgt := 284) hx hb d_RM_run_169 (by decide) (fun c_36 => ?_) (fun c_36 => ?_)
                                  · skip
                                    have c_36 : 36 ≤ k := (nI_leI (a := 36) (b := k) (by omega) (by omega)).mp c_36
                                    exfalso; omega
                                  · skip
                                    have c_36 : ¬ 36 ≤ k := fun h9 => c_36 ((nI_leI (a := 36) (b := k) (by omega) (by omega)).mpr h9)
                                    refine lv_iload hx hb d_RM_run_172 (lv_at hl 0 rfl) ?_
                                    refine lv_iload_n hx hb d_RM_run_174 rfl (lv_at hl 5 rfl) ?_
                                    refine lv_idiv hx hb d_RM_run_175 (by decide) ?_
                                    refine kr_topi (x := (nI k) / 6) (y := nI (k / 6)) (pk_div (a := k) (d := 6) (by omega) (by decide) (by decide)) ?_
                                    refine lv_istore (lv' := [(6, .int (nI (k / 6))), (5, .int (nI k)), (4, .int (nI i)), (0, .ref g), (1, .int b0), (2, .int (kb pr0)), (3, .int 6)]) hx hb d_RM_run_176 hl (by decide) rfl (fun ls hl => ?_)
                                    refine lv_iload hx hb d_RM_run_178 (lv_at hl 1 rfl) ?_
                                    refine lv_iload_n hx hb d_RM_run_180 rfl (lv_at hl 6 rfl) ?_
                                    refine lv_irem hx hb d_RM_run_181 (by decide) ?_
                                    refine kr_topi (x := (nI k) - (nI k) / 6 * 6) (y := nI (k % 6)) (pk_rem (a := k) (d := 6) (by omega) (by decide) (by decide)) ?_
                                    refine lv_istore (lv' := [(7, .int (nI (k % 6))), (6, .int (nI (k / 6))), (5, .int (nI k)), (4, .int (nI i)), (0, .ref g), (1, .int b0), (2, .int (kb pr0)), (3, .int 6)]) hx hb d_RM_run_182 hl (by decide) rfl (fun ls hl => ?_)
                                    refine lv_aload_n hx hb d_RM_run_184 rfl (lv_at hl 4 rfl) ?_
                                    refine lv_iload hx hb d_RM_run_185 (lv_at hl 3 rfl) ?_
                                    refine lv_iload hx hb d_RM_run_187 (lv_at hl 1 rfl) ?_
                                    have hpre_37 := kr_pre (wc := []) (av := [.int (nI (k / 6))]) hK hP hD hS hA hSt [] rfl (by decide)
                                    refine kj_im (wc := []) (wr := [(g, .inr (8, [.ref g_0, .ref g_1, .ref g_2, .ref g_3, .ref g_4, .int 0, .int 0, .int 65535, .int 0, .ref g_9, .ref g_10, .ref g_11, .ref g_12, .ref g_13, .ref g_14, .int tk2, .int 0, .int 0, .int ps2, .ref g_19, .ref g_20, .ref g_21, .int 0, .int 0, .int 0])), (g_9, .inl (cI, 16, .inl tb2)), (g_10, .inl (cI, 16, .inl (upd fb i 0))), (g_11, .inl (cI, 16, .inl lg2)), (g_12, .inl (cZ, 192, .inl wA2)), (g_13, .inl (cZ, 192, .inl wB2)), (g_14, .inl (cZ, 144, .inl bO2))]) (va_runS (As := [.int (nI (k / 6))]) (rest := [.int (nI i), .ref g]) ⟨hx, hb, hml, hown, hts⟩ (rc_lattice l dC dI cI cJ cC cZ σ (k / 6) (by (try dsimp only) <;> first | assumption | omega) _) ⟨(callB_of 1 hts (kg wq_728) rfl rfl rfl hini_RM hm_145 (by decide +kernel) ⟨Nat.le_of_ble_eq_true rfl, Nat.le_of_ble_eq_true rfl⟩), hs_145⟩ hpre_37 rfl rfl hl.1 rfl (lv_room (Nat.le_of_ble_eq_true rfl)) d_RM_run_189 ⟨by show 576 * i + 4 * k + 1 ≤ 9216; omega, by show 6912 * i + 48 * k + 12 ≤ 110592; omega⟩) hP hD hS hA [] [0, 1, 2, 3, 4, 5, 6] rfl rfl (by decide) (by decide) (fun _ H locs hP hD hS => ?_)
                                    refine W.cs (cells' := 576 * i + 4 * k + 1) (slots' := 6912 * i + 48 * k + 12) rfl rfl ?_
                                    have hP : va_P (dC, dI) vwCl [(g, .inr (8, [.ref g_0, .ref g_1, .ref g_2, .ref g_3, .ref g_4, .int 0, .int 0, .int 65535, .int 0, .ref g_9, .ref g_10, .ref g_11, .ref g_12, .ref g_13, .ref g_14, .int tk2, .int 0, .int 0, .int ps2, .ref g_19, .ref g_20, .ref g_21, .int 0, .int 0, .int 0])), (g_9, .inl (cI, 16, .inl tb2)), (g_10, .inl (cI, 16, .inl (upd fb i 0))), (g_11, .inl (cI, 16, .inl lg2)), (g_12, .inl (cZ, 192, .inl wA2)), (g_13, .inl (cZ, 192, .inl wB2)), (g_14, .inl (cZ, 144, .inl bO2))] H := hP
                                    have hD : va_D A [(g, .inr (8, [.ref g_0, .ref g_1, .ref g_2, .ref g_3, .ref g_4, .int 0, .int 0, .int 65535, .int 0, .ref g_9, .ref g_10, .ref g_11, .ref g_12, .ref g_13, .ref g_14, .int tk2, .int 0, .int 0, .int ps2, .ref g_19, .ref g_20, .ref g_21, .int 0, .int 0, .int 0])), (g_9, .inl (cI, 16, .inl tb2)), (g_10, .inl (cI, 16, .inl (upd fb i 0))), (g_11, .inl (cI, 16, .inl lg2)), (g_12, .inl (cZ, 192, .inl wA2)), (g_13, .inl (cZ, 192, .inl wB2)), (g_14, .inl (cZ, 144, .inl bO2))] := hD
                                    refine lv_iload hx hb d_RM_run_192 (lv_at hl 0 rfl) ?_
                                    have hpre_38 := kr_pre (wc := []) (av := [.int (nI (k % 6))]) hK hP hD hS hA hSt [] rfl (by decide)
                                    refine kj_im (wc := []) (wr := [(g, .inr (8, [.ref g_0, .ref g_1, .ref g_2, .ref g_3, .ref g_4, .int 0, .int 0, .int 65535, .int 0, .ref g_9, .ref g_10, .ref g_11, .ref g_12, .ref g_13, .ref g_14, .int tk2, .int 0, .int 0, .int ps2, .ref g_19, .ref g_20, .ref g_21, .int 0, .int 0, .int 0])), (g_9, .inl (cI, 16, .inl tb2)), (g_10, .inl (cI, 16, .inl (upd fb i 0))), (g_11, .inl (cI, 16, .inl lg2)), (g_12, .inl (cZ, 192, .inl wA2)), (g_13, .inl (cZ, 192, .inl wB2)), (g_14, .inl (cZ, 144, .inl bO2))]) (va_runS (As := [.int (nI (k % 6))]) (rest := [.int (kLat (k / 6)), .int (nI i), .ref g]) ⟨hx, hb, hml, hown, hts⟩ (rc_lattice l dC dI cI cJ cC cZ σ (k % 6) (by (try dsimp only) <;> first | assumption | omega) _) ⟨(callB_of 1 hts (kg wq_728) rfl rfl rfl hini_RM hm_145 (by decide +kernel) ⟨Nat.le_of_ble_eq_true rfl, Nat.le_of_ble_eq_true rfl⟩), hs_145⟩ hpre_38 rfl rfl hl.1 rfl (lv_room (Nat.le_of_ble_eq_true rfl)) d_RM_run_194 ⟨by show 576 * i + 4 * k + 1 + 1 ≤ 9216; omega, by show 6912 * i + 48 * k + 12 + 12 ≤ 110592; omega⟩) hP hD hS hA [] [0, 1, 2, 3, 4, 5, 6] rfl rfl (by decide) (by decide) (fun _ H locs hP hD hS => ?_)
                                    refine W.cs (cells' := 576 * i + 4 * k + 2) (slots' := 6912 * i + 48 * k + 24) rfl rfl ?_
                                    have hP : va_P (dC, dI) vwCl [(g, .inr (8, [.ref g_0, .ref g_1, .ref g_2, .ref g_3, .ref g_4, .int 0, .int 0, .int 65535, .int 0, .ref g_9, .ref g_10, .ref g_11, .ref g_12, .ref g_13, .ref g_14, .int tk2, .int 0, .int 0, .int ps2, .ref g_19, .ref g_20, .ref g_21, .int 0, .int 0, .int 0])), (g_9, .inl (cI, 16, .inl tb2)), (g_10, .inl (cI, 16, .inl (upd fb i 0))), (g_11, .inl (cI, 16, .inl lg2)), (g_12, .inl (cZ, 192, .inl wA2)), (g_13, .inl (cZ, 192, .inl wB2)), (g_14, .inl (cZ, 144, .inl bO2))] H := hP
                                    have hD : va_D A [(g, .inr (8, [.ref g_0, .ref g_1, .ref g_2, .ref g_3, .ref g_4, .int 0, .int 0, .int 65535, .int 0, .ref g_9, .ref g_10, .ref g_11, .ref g_12, .ref g_13, .ref g_14, .int tk2, .int 0, .int 0, .int ps2, .ref g_19, .ref g_20, .ref g_21, .int 0, .int 0, .int 0])), (g_9, .inl (cI, 16, .inl tb2)), (g_10, .inl (cI, 16, .inl (upd fb i 0))), (g_11, .inl (cI, 16, .inl lg2)), (g_12, .inl (cZ, 192, .inl wA2)), (g_13, .inl (cZ, 192, .inl wB2)), (g_14, .inl (cZ, 144, .inl bO2))] := hD
                                    have hpre_39 := kr_pre (wc := [(g, .inr (8, [.ref g_0, .ref g_1, .ref g_2, .ref g_3, .ref g_4, .int 0, .int 0, .int 65535, .int 0, .ref g_9, .ref g_10, .ref g_11, .ref g_12, .ref g_13, .ref g_14, .int tk2, .int 0, .int 0, .int ps2, .ref g_19, .ref g_20, .ref g_21, .int 0, .int 0, .int 0]))]) (av := [.ref g, .int (nI i), .int (kLat (k / 6)), .int (kLat (k % 6))]) hK hP hD hS hA hSt [0] rfl (by decide)
                                    refine kj_i (wc := [(g, .inr (8, [.ref g_0, .ref g_1, .ref g_2, .ref g_3, .ref g_4, .int 0, .int 0, .int 65535, .int 0, .ref g_9, .ref g_10, .ref g_11, .ref g_12, .ref g_13, .ref g_14, .int tk2, .int 0, .int 0, .int ps2, .ref g_19, .ref g_20, .ref g_21, .int 0, .int 0, .int 0]))]) (wr := [(g_9, .inl (cI, 16, .inl tb2)), (g_10, .inl (cI, 16, .inl (upd fb i 0))), (g_11, .inl (cI, 16, .inl lg2)), (g_12, .inl (cZ, 192, .inl wA2)), (g_13, .inl (cZ, 192, .inl wB2)), (g_14, .inl (cZ, 144, .inl bO2))]) (va_runV (As := [.int (nI i), .int (kLat (k / 6)), .int (kLat (k % 6))]) (rest := []) ⟨hx, hb, hml, hown, hts⟩ (rc_excluded l dC dI cI cJ cC cZ σ g g_0 g_1 g_2 g_3 g_4 g_9 g_10 g_11 g_12 g_13 g_14 g_19 g_20 g_21 ps2 tk2 0 0 (nI i) (kLat (k / 6)) (kLat (k % 6)) _) ⟨(callB_of 3 hts (kg wq_735) rfl rfl rfl hini_RM hm_161 (by decide +kernel) ⟨Nat.le_of_ble_eq_true rfl, Nat.le_of_ble_eq_true rfl⟩), hi_161, hv_161⟩ ⟨hpre_39.1, (va_recv hK hP (ci := 8) (q0 := 0) rfl rfl), hpre_39.2⟩ rfl rfl hl.1 rfl (lv_room (Nat.le_of_ble_eq_true rfl)) d_RM_run_197 ⟨by show 576 * i + 4 * k + 2 + 0 ≤ 9216; omega, by show 6912 * i + 48 * k + 24 + 0 ≤ 110592; omega⟩) hP hD hS hA [0] [1, 2, 3, 4, 5, 6] rfl rfl (by decide) (by decide) (fun _ H locs hP hD hS => ?_)
                                    have hP : va_P (dC, dI) vwCl [(g_9, .inl (cI, 16, .inl tb2)), (g_10, .inl (cI, 16, .inl (upd fb i 0))), (g_11, .inl (cI, 16, .inl lg2)), (g_12, .inl (cZ, 192, .inl wA2)), (g_13, .inl (cZ, 192, .inl wB2)), (g_14, .inl (cZ, 144, .inl bO2)), (g, .inr (8, [.ref g_0, .ref g_1, .ref g_2, .ref g_3, .ref g_4, .int 0, .int 0, .int 65535, .int 0, .ref g_9, .ref g_10, .ref g_11, .ref g_12, .ref g_13, .ref g_14, .int tk2, .int 0, .int 0, .int ps2, .ref g_19, .ref g_20, .ref g_21, .int 0, .int 0, .int 0]))] H := hP
                                    have hD : va_D A [(g_9, .inl (cI, 16, .inl tb2)), (g_10, .inl (cI, 16, .inl (upd fb i 0))), (g_11, .inl (cI, 16, .inl lg2)), (g_12, .inl (cZ, 192, .inl wA2)), (g_13, .inl (cZ, 192, .inl wB2)), (g_14, .inl (cZ, 144, .inl bO2)), (g, .inr (8, [.ref g_0, .ref g_1, .ref g_2, .ref g_3, .ref g_4, .int 0, .int 0, .int 65535, .int 0, .ref g_9, .ref g_10, .ref g_11, .ref g_12, .ref g_13, .ref g_14, .int tk2, .int 0, .int 0, .int ps2, .ref g_19, .ref g_20, .ref g_21, .int 0, .int 0, .int 0]))] := hD
                                    refine lv_if_eq (tgt := 216) hx hb d_RM_run_200 (by decide) (fun c_40 => ?_) (fun c_40 => ?_)
                                    · skip
                                      have c_40 : 0 = 0 := (nI_eq (a := 0) (b := 0) (by omega) (by omega)).mp c_40
                                      refine lv_iload_n hx hb d_RM_run_216 rfl (lv_at hl 6 rfl) ?_
                                      refine lv_if_eq (tgt := 268) hx hb d_RM_run_217 (by decide) (fun c_41 => ?_) (fun c_41 => ?_)
                                      · skip
                                        have c_41 : pr0 = false := kb_0.mp c_41
                                        refine lv_aload_n hx hb d_RM_run_268 rfl (lv_at hl 4 rfl) ?_
                                        refine lv_iload hx hb d_RM_run_269 (lv_at hl 3 rfl) ?_
                                        refine lv_iload hx hb d_RM_run_271 (lv_at hl 1 rfl) ?_
                                        refine lv_iload hx hb d_RM_run_273 (lv_at hl 0 rfl) ?_
                                        have hpre_43 := kr_pre (wc := [(g, .inr (8, [.ref g_0, .ref g_1, .ref g_2, .ref g_3, .ref g_4, .int 0, .int 0, .int 65535, .int 0, .ref g_9, .ref g_10, .ref g_11, .ref g_12, .ref g_13, .ref g_14, .int tk2, .int 0, .int 0, .int ps2, .ref g_19, .ref g_20, .ref g_21, .int 0, .int 0, .int 0])), (g_9, .inl (cI, 16, .inl tb2)), (g_11, .inl (cI, 16, .inl lg2)), (g_12, .inl (cZ, 192, .inl wA2)), (g_13, .inl (cZ, 192, .inl wB2)), (g_14, .inl (cZ, 144, .inl bO2))]) (av := [.ref g, .int (nI i), .int (nI (k / 6)), .int (nI (k % 6))]) hK hP hD hS hA hSt [6, 0, 2, 3, 4, 5] rfl (by decide)
                                        refine kj_v (wc := [(g, .inr (8, [.ref g_0, .ref g_1, .ref g_2, .ref g_3, .ref g_4, .int 0, .int 0, .int 65535, .int 0, .ref g_9, .ref g_10, .ref g_11, .ref g_12, .ref g_13, .ref g_14, .int tk2, .int 0, .int 0, .int ps2, .ref g_19, .ref g_20, .ref g_21, .int 0, .int 0, .int 0])), (g_9, .inl (cI, 16, .inl tb2)), (g_11, .inl (cI, 16, .inl lg2)), (g_12, .inl (cZ, 192, .inl wA2)), (g_13, .inl (cZ, 192, .inl wB2)), (g_14, .inl (cZ, 144, .inl bO2))]) (wr := [(g_10, .inl (cI, 16, .inl (upd fb i 0)))]) (va_runV (As := [.int (nI i), .int (nI (k / 6)), .int (nI (k % 6))]) (rest := []) ⟨hx, hb, hml, hown, hts⟩ (rc_take l dC dI cI cJ cC cZ σ g g_0 g_1 g_2 g_3 g_4 g_9 g_10 g_11 g_12 g_13 g_14 g_19 g_20 g_21 wA2 wB2 bO2 tb2 lg2 ps2 tk2 0 0 i (k / 6) (k % 6) (by (try dsimp only) <;> first | assumption | omega) (by (try dsimp only) <;> first | assumption | omega) (by (try dsimp only) <;> first | assumption | omega) _) ⟨(callB_of 3 hts (kg wq_739) rfl rfl rfl hini_RM hm_165 (by decide +kernel) ⟨Nat.le_of_ble_eq_true rfl, Nat.le_of_ble_eq_true rfl⟩), hi_165, hv_165⟩ ⟨hpre_43.1, (va_recv hK hP (ci := 8) (q0 := 6) rfl rfl), hpre_43.2⟩ rfl rfl hl.1 rfl (lv_room (Nat.le_of_ble_eq_true rfl)) d_RM_run_275 ⟨by show 576 * i + 4 * k + 2 + 2 ≤ 9216; omega, by show 6912 * i + 48 * k + 24 + 24 ≤ 110592; omega⟩) hP hD hS hA [6, 0, 2, 3, 4, 5] [1] rfl rfl (by decide) (by decide) (fun u_42 H locs hP hD hS => ?_)
                                        obtain ⟨withA_42, withB_42, both_42, pairsSeen_42, taken_42, takenBy_42, ledger_42⟩ := u_42
                                        refine W.cs (cells' := 576 * i + 4 * k + 4) (slots' := 6912 * i + 48 * k + 48) rfl rfl ?_
                                        have hP : va_P (dC, dI) vwCl [(g_10, .inl (cI, 16, .inl (upd fb i 0))), (g, .inr (8, [.ref g_0, .ref g_1, .ref g_2, .ref g_3, .ref g_4, .int 0, .int 0, .int 65535, .int 0, .ref g_9, .ref g_10, .ref g_11, .ref g_12, .ref g_13, .ref g_14, .int taken_42, .int 0, .int 0, .int pairsSeen_42, .ref g_19, .ref g_20, .ref g_21, .int 0, .int 0, .int 0])), (g_9, .inl (cI, 16, .inl takenBy_42)), (g_11, .inl (cI, 16, .inl ledger_42)), (g_12, .inl (cZ, 192, .inl withA_42)), (g_13, .inl (cZ, 192, .inl withB_42)), (g_14, .inl (cZ, 144, .inl both_42))] H := hP
                                        have hD : va_D A [(g_10, .inl (cI, 16, .inl (upd fb i 0))), (g, .inr (8, [.ref g_0, .ref g_1, .ref g_2, .ref g_3, .ref g_4, .int 0, .int 0, .int 65535, .int 0, .ref g_9, .ref g_10, .ref g_11, .ref g_12, .ref g_13, .ref g_14, .int taken_42, .int 0, .int 0, .int pairsSeen_42, .ref g_19, .ref g_20, .ref g_21, .int 0, .int 0, .int 0])), (g_9, .inl (cI, 16, .inl takenBy_42)), (g_11, .inl (cI, 16, .inl ledger_42)), (g_12, .inl (cZ, 192, .inl withA_42)), (g_13, .inl (cZ, 192, .inl withB_42)), (g_14, .inl (cZ, 144, .inl both_42))] := hD
                                        refine lv_iinc (v := (nI (k + 1))) (lv' := [(5, .int (nI (k + 1))), (7, .int (nI (k % 6))), (6, .int (nI (k / 6))), (4, .int (nI i)), (0, .ref g), (1, .int b0), (2, .int (kb pr0)), (3, .int 6)]) hx hb d_RM_run_278 hl (k := 2) rfl (nI_1 k) (by decide) rfl (fun ls hl => ?_)
                                        refine lv_goto (tgt := 164) hx hb d_RM_run_281 (by decide) ?_
                                        refine W.widen (k := 576 * i + 4 * (k + 1)) (n := 6912 * i + 48 * (k + 1)) (by omega) (by omega) ?_
                                        exact ih_164 (k + 1) takenBy_42 ledger_42 withA_42 withB_42 both_42 pairsSeen_42 taken_42 (by omega) _ _ (hP.sub [1, 2, 0, 3, 4, 5, 6] rfl) (hD.sub [1, 2, 0, 3, 4, 5, 6] (by decide) rfl) hS ls (lv_sub hl [0, 3, 4, 5, 6, 7] rfl)
                                      · skip
                                        have c_41 : pr0 = true := kb_n.mp c_41
                                        refine lv_aload_n hx hb d_RM_run_220 rfl (lv_at hl 4 rfl) ?_
                                        refine va_get (D := (dC, dI)) (ci := 8) (v := .ref g_12) (C := "KitRunnerModel") (T := T_RM) (N := 25) hx hb hts hin_RM hown hK hP 6 rfl rfl 12 (by decide) hf_39 (fun _ h9 => h9) rfl d_RM_run_221 ?_
                                        refine lv_iload hx hb d_RM_run_224 (lv_at hl 3 rfl) ?_
                                        refine lv_bipush (v := 12) hx hb d_RM_run_226 (by decide) ?_
                                        refine lv_imul hx hb d_RM_run_228 ?_
                                        refine kr_topi (x := (nI i) * 12) (y := nI (i * 12)) (pk_mul i 12) ?_
                                        refine lv_iload hx hb d_RM_run_229 (lv_at hl 1 rfl) ?_
                                        refine lv_iadd hx hb d_RM_run_231 ?_
                                        refine kr_topi (x := (nI (i * 12)) + (nI (k / 6))) (y := nI (i * 12 + k / 6)) (nI_add (i * 12) (k / 6)) ?_
                                        refine kr_zald (k := i * 12 + k / 6) hx hb hK hP 3 3 rfl rfl (by omega) (by first | decide | omega) d_RM_run_232 ?_
                                        refine lv_if_eq (tgt := 268) hx hb d_RM_run_233 (by decide) (fun c_44 => ?_) (fun c_44 => ?_)
                                        · skip
                                          refine lv_aload_n hx hb d_RM_run_268 rfl (lv_at hl 4 rfl) ?_
                                          refine lv_iload hx hb d_RM_run_269 (lv_at hl 3 rfl) ?_
                                          refine lv_iload hx hb d_RM_run_271 (lv_at hl 1 rfl) ?_
                                          refine lv_iload hx hb d_RM_run_273 (lv_at hl 0 rfl) ?_
                                          have hpre_46 := kr_pre (wc := [(g, .inr (8, [.ref g_0, .ref g_1, .ref g_2, .ref g_3, .ref g_4, .int 0, .int 0, .int 65535, .int 0, .ref g_9, .ref g_10, .ref g_11, .ref g_12, .ref g_13, .ref g_14, .int tk2, .int 0, .int 0, .int ps2, .ref g_19, .ref g_20, .ref g_21, .int 0, .int 0, .int 0])), (g_9, .inl (cI, 16, .inl tb2)), (g_11, .inl (cI, 16, .inl lg2)), (g_12, .inl (cZ, 192, .inl wA2)), (g_13, .inl (cZ, 192, .inl wB2)), (g_14, .inl (cZ, 144, .inl bO2))]) (av := [.ref g, .int (nI i), .int (nI (k / 6)), .int (nI (k % 6))]) hK hP hD hS hA hSt [6, 0, 2, 3, 4, 5] rfl (by decide)
                                          refine kj_v (wc := [(g, .inr (8, [.ref g_0, .ref g_1, .ref g_2, .ref g_3, .ref g_4, .int 0, .int 0, .int 65535, .int 0, .ref g_9, .ref g_10, .ref g_11, .ref g_12, .ref g_13, .ref g_14, .int tk2, .int 0, .int 0, .int ps2, .ref g_19, .ref g_20, .ref g_21, .int 0, .int 0, .int 0])), (g_9, .inl (cI, 16, .inl tb2)), (g_11, .inl (cI, 16, .inl lg2)), (g_12, .inl (cZ, 192, .inl wA2)), (g_13, .inl (cZ, 192, .inl wB2)), (g_14, .inl (cZ, 144, .inl bO2))]) (wr := [(g_10, .inl (cI, 16, .inl (upd fb i 0)))]) (va_runV (As := [.int (nI i), .int (nI (k / 6)), .int (nI (k % 6))]) (rest := []) ⟨hx, hb, hml, hown, hts⟩ (rc_take l dC dI cI cJ cC cZ σ g g_0 g_1 g_2 g_3 g_4 g_9 g_10 g_11 g_12 g_13 g_14 g_19 g_20 g_21 wA2 wB2 bO2 tb2 lg2 ps2 tk2 0 0 i (k / 6) (k % 6) (by (try dsimp only) <;> first | assumption | omega) (by (try dsimp only) <;> first | assumption | omega) (by (try dsimp only) <;> first | assumption | omega) _) ⟨(callB_of 3 hts (kg wq_739) rfl rfl rfl hini_RM hm_165 (by decide +kernel) ⟨Nat.le_of_ble_eq_true rfl, Nat.le_of_ble_eq_true rfl⟩), hi_165, hv_165⟩ ⟨hpre_46.1, (va_recv hK hP (ci := 8) (q0 := 6) rfl rfl), hpre_46.2⟩ rfl rfl hl.1 rfl (lv_room (Nat.le_of_ble_eq_true rfl)) d_RM_run_275 ⟨by show 576 * i + 4 * k + 2 + 2 ≤ 9216; omega, by show 6912 * i + 48 * k + 24 + 24 ≤ 110592; omega⟩) hP hD hS hA [6, 0, 2, 3, 4, 5] [1] rfl rfl (by decide) (by decide) (fun u_45 H locs hP hD hS => ?_)
                                          obtain ⟨withA_45, withB_45, both_45, pairsSeen_45, taken_45, takenBy_45, ledger_45⟩ := u_45
                                          refine W.cs (cells' := 576 * i + 4 * k + 4) (slots' := 6912 * i + 48 * k + 48) rfl rfl ?_
                                          have hP : va_P (dC, dI) vwCl [(g_10, .inl (cI, 16, .inl (upd fb i 0))), (g, .inr (8, [.ref g_0, .ref g_1, .ref g_2, .ref g_3, .ref g_4, .int 0, .int 0, .int 65535, .int 0, .ref g_9, .ref g_10, .ref g_11, .ref g_12, .ref g_13, .ref g_14, .int taken_45, .int 0, .int 0, .int pairsSeen_45, .ref g_19, .ref g_20, .ref g_21, .int 0, .int 0, .int 0])), (g_9, .inl (cI, 16, .inl takenBy_45)), (g_11, .inl (cI, 16, .inl ledger_45)), (g_12, .inl (cZ, 192, .inl withA_45)), (g_13, .inl (cZ, 192, .inl withB_45)), (g_14, .inl (cZ, 144, .inl both_45))] H := hP
                                          have hD : va_D A [(g_10, .inl (cI, 16, .inl (upd fb i 0))), (g, .inr (8, [.ref g_0, .ref g_1, .ref g_2, .ref g_3, .ref g_4, .int 0, .int 0, .int 65535, .int 0, .ref g_9, .ref g_10, .ref g_11, .ref g_12, .ref g_13, .ref g_14, .int taken_45, .int 0, .int 0, .int pairsSeen_45, .ref g_19, .ref g_20, .ref g_21, .int 0, .int 0, .int 0])), (g_9, .inl (cI, 16, .inl takenBy_45)), (g_11, .inl (cI, 16, .inl ledger_45)), (g_12, .inl (cZ, 192, .inl withA_45)), (g_13, .inl (cZ, 192, .inl withB_45)), (g_14, .inl (cZ, 144, .inl both_45))] := hD
                                          refine lv_iinc (v := (nI (k + 1))) (lv' := [(5, .int (nI (k + 1))), (7, .int (nI (k % 6))), (6, .int (nI (k / 6))), (4, .int (nI i)), (0, .ref g), (1, .int b0), (2, .int (kb pr0)), (3, .int 6)]) hx hb d_RM_run_278 hl (k := 2) rfl (nI_1 k) (by decide) rfl (fun ls hl => ?_)
                                          refine lv_goto (tgt := 164) hx hb d_RM_run_281 (by decide) ?_
                                          refine W.widen (k := 576 * i + 4 * (k + 1)) (n := 6912 * i + 48 * (k + 1)) (by omega) (by omega) ?_
                                          exact ih_164 (k + 1) takenBy_45 ledger_45 withA_45 withB_45 both_45 pairsSeen_45 taken_45 (by omega) _ _ (hP.sub [1, 2, 0, 3, 4, 5, 6] rfl) (hD.sub [1, 2, 0, 3, 4, 5, 6] (by decide) rfl) hS ls (lv_sub hl [0, 3, 4, 5, 6, 7] rfl)
                                        · skip
                                          refine lv_aload_n hx hb d_RM_run_236 rfl (lv_at hl 4 rfl) ?_
                                          refine va_get (D := (dC, dI)) (ci := 8) (v := .ref g_13) (C := "KitRunnerModel") (T := T_RM) (N := 25) hx hb hts hin_RM hown hK hP 6 rfl rfl 13 (by decide) hf_43 (fun _ h9 => h9) rfl d_RM_run_237 ?_
                                          refine lv_iload hx hb d_RM_run_240 (lv_at hl 3 rfl) ?_
                                          refine lv_bipush (v := 12) hx hb d_RM_run_242 (by decide) ?_
                                          refine lv_imul hx hb d_RM_run_244 ?_
                                          refine kr_topi (x := (nI i) * 12) (y := nI (i * 12)) (pk_mul i 12) ?_
                                          refine lv_iload hx hb d_RM_run_245 (lv_at hl 0 rfl) ?_
                                          refine lv_iadd hx hb d_RM_run_247 ?_
                                          refine kr_topi (x := (nI (i * 12)) + (nI (k % 6))) (y := nI (i * 12 + k % 6)) (nI_add (i * 12) (k % 6)) ?_
                                          refine kr_zald (k := i * 12 + k % 6) hx hb hK hP 4 3 rfl rfl (by omega) (by first | decide | omega) d_RM_run_248 ?_
                                          refine lv_if_eq (tgt := 268) hx hb d_RM_run_249 (by decide) (fun c_47 => ?_) (fun c_47 => ?_)
                                          · skip
                                            refine lv_aload_n hx hb d_RM_run_268 rfl (lv_at hl 4 rfl) ?_
                                            refine lv_iload hx hb d_RM_run_269 (lv_at hl 3 rfl) ?_
                                            refine lv_iload hx hb d_RM_run_271 (lv_at hl 1 rfl) ?_
                                            refine lv_iload hx hb d_RM_run_273 (lv_at hl 0 rfl) ?_
                                            have hpre_49 := kr_pre (wc := [(g, .inr (8, [.ref g_0, .ref g_1, .ref g_2, .ref g_3, .ref g_4, .int 0, .int 0, .int 65535, .int 0, .ref g_9, .ref g_10, .ref g_11, .ref g_12, .ref g_13, .ref g_14, .int tk2, .int 0, .int 0, .int ps2, .ref g_19, .ref g_20, .ref g_21, .int 0, .int 0, .int 0])), (g_9, .inl (cI, 16, .inl tb2)), (g_11, .inl (cI, 16, .inl lg2)), (g_12, .inl (cZ, 192, .inl wA2)), (g_13, .inl (cZ, 192, .inl wB2)), (g_14, .inl (cZ, 144, .inl bO2))]) (av := [.ref g, .int (nI i), .int (nI (k / 6)), .int (nI (k % 6))]) hK hP hD hS hA hSt [6, 0, 2, 3, 4, 5] rfl (by decide)
                                            refine kj_v (wc := [(g, .inr (8, [.ref g_0, .ref g_1, .ref g_2, .ref g_3, .ref g_4, .int 0, .int 0, .int 65535, .int 0, .ref g_9, .ref g_10, .ref g_11, .ref g_12, .ref g_13, .ref g_14, .int tk2, .int 0, .int 0, .int ps2, .ref g_19, .ref g_20, .ref g_21, .int 0, .int 0, .int 0])), (g_9, .inl (cI, 16, .inl tb2)), (g_11, .inl (cI, 16, .inl lg2)), (g_12, .inl (cZ, 192, .inl wA2)), (g_13, .inl (cZ, 192, .inl wB2)), (g_14, .inl (cZ, 144, .inl bO2))]) (wr := [(g_10, .inl (cI, 16, .inl (upd fb i 0)))]) (va_runV (As := [.int (nI i), .int (nI (k / 6)), .int (nI (k % 6))]) (rest := []) ⟨hx, hb, hml, hown, hts⟩ (rc_take l dC dI cI cJ cC cZ σ g g_0 g_1 g_2 g_3 g_4 g_9 g_10 g_11 g_12 g_13 g_14 g_19 g_20 g_21 wA2 wB2 bO2 tb2 lg2 ps2 tk2 0 0 i (k / 6) (k % 6) (by (try dsimp only) <;> first | assumption | omega) (by (try dsimp only) <;> first | assumption | omega) (by (try dsimp only) <;> first | assumption | omega) _) ⟨(callB_of 3 hts (kg wq_739) rfl rfl rfl hini_RM hm_165 (by decide +kernel) ⟨Nat.le_of_ble_eq_true rfl, Nat.le_of_ble_eq_true rfl⟩), hi_165, hv_165⟩ ⟨hpre_49.1, (va_recv hK hP (ci := 8) (q0 := 6) rfl rfl), hpre_49.2⟩ rfl rfl hl.1 rfl (lv_room (Nat.le_of_ble_eq_true rfl)) d_RM_run_275 ⟨by show 576 * i + 4 * k + 2 + 2 ≤ 9216; omega, by show 6912 * i + 48 * k + 24 + 24 ≤ 110592; omega⟩) hP hD hS hA [6, 0, 2, 3, 4, 5] [1] rfl rfl (by decide) (by decide) (fun u_48 H locs hP hD hS => ?_)
                                            obtain ⟨withA_48, withB_48, both_48, pairsSeen_48, taken_48, takenBy_48, ledger_48⟩ := u_48
                                            refine W.cs (cells' := 576 * i + 4 * k + 4) (slots' := 6912 * i + 48 * k + 48) rfl rfl ?_
                                            have hP : va_P (dC, dI) vwCl [(g_10, .inl (cI, 16, .inl (upd fb i 0))), (g, .inr (8, [.ref g_0, .ref g_1, .ref g_2, .ref g_3, .ref g_4, .int 0, .int 0, .int 65535, .int 0, .ref g_9, .ref g_10, .ref g_11, .ref g_12, .ref g_13, .ref g_14, .int taken_48, .int 0, .int 0, .int pairsSeen_48, .ref g_19, .ref g_20, .ref g_21, .int 0, .int 0, .int 0])), (g_9, .inl (cI, 16, .inl takenBy_48)), (g_11, .inl (cI, 16, .inl ledger_48)), (g_12, .inl (cZ, 192, .inl withA_48)), (g_13, .inl (cZ, 192, .inl withB_48)), (g_14, .inl (cZ, 144, .inl both_48))] H := hP
                                            have hD : va_D A [(g_10, .inl (cI, 16, .inl (upd fb i 0))), (g, .inr (8, [.ref g_0, .ref g_1, .ref g_2, .ref g_3, .ref g_4, .int 0, .int 0, .int 65535, .int 0, .ref g_9, .ref g_10, .ref g_11, .ref g_12, .ref g_13, .ref g_14, .int taken_48, .int 0, .int 0, .int pairsSeen_48, .ref g_19, .ref g_20, .ref g_21, .int 0, .int 0, .int 0])), (g_9, .inl (cI, 16, .inl takenBy_48)), (g_11, .inl (cI, 16, .inl ledger_48)), (g_12, .inl (cZ, 192, .inl withA_48)), (g_13, .inl (cZ, 192, .inl withB_48)), (g_14, .inl (cZ, 144, .inl both_48))] := hD
                                            refine lv_iinc (v := (nI (k + 1))) (lv' := [(5, .int (nI (k + 1))), (7, .int (nI (k % 6))), (6, .int (nI (k / 6))), (4, .int (nI i)), (0, .ref g), (1, .int b0), (2, .int (kb pr0)), (3, .int 6)]) hx hb d_RM_run_278 hl (k := 2) rfl (nI_1 k) (by decide) rfl (fun ls hl => ?_)
                                            refine lv_goto (tgt := 164) hx hb d_RM_run_281 (by decide) ?_
                                            refine W.widen (k := 576 * i + 4 * (k + 1)) (n := 6912 * i + 48 * (k + 1)) (by omega) (by omega) ?_
                                            exact ih_164 (k + 1) takenBy_48 ledger_48 withA_48 withB_48 both_48 pairsSeen_48 taken_48 (by omega) _ _ (hP.sub [1, 2, 0, 3, 4, 5, 6] rfl) (hD.sub [1, 2, 0, 3, 4, 5, 6] (by decide) rfl) hS ls (lv_sub hl [0, 3, 4, 5, 6, 7] rfl)
                                          · skip
                                            refine lv_aload_n hx hb d_RM_run_252 rfl (lv_at hl 4 rfl) ?_
                                            refine va_get (D := (dC, dI)) (ci := 8) (v := .ref g_14) (C := "KitRunnerModel") (T := T_RM) (N := 25) hx hb hts hin_RM hown hK hP 6 rfl rfl 14 (by decide) hf_46 (fun _ h9 => h9) rfl d_RM_run_253 ?_
                                            refine lv_iload hx hb d_RM_run_256 (lv_at hl 1 rfl) ?_
                                            refine lv_bipush (v := 12) hx hb d_RM_run_258 (by decide) ?_
                                            refine lv_imul hx hb d_RM_run_260 ?_
                                            refine kr_topi (x := (nI (k / 6)) * 12) (y := nI ((k / 6) * 12)) (pk_mul (k / 6) 12) ?_
                                            refine lv_iload hx hb d_RM_run_261 (lv_at hl 0 rfl) ?_
                                            refine lv_iadd hx hb d_RM_run_263 ?_
                                            refine kr_topi (x := (nI ((k / 6) * 12)) + (nI (k % 6))) (y := nI ((k / 6) * 12 + k % 6)) (nI_add ((k / 6) * 12) (k % 6)) ?_
                                            refine kr_zald (k := (k / 6) * 12 + k % 6) hx hb hK hP 5 3 rfl rfl (by omega) (by first | decide | omega) d_RM_run_264 ?_
                                            refine lv_if_ne (tgt := 278) hx hb d_RM_run_265 (by decide) (fun c_50 => ?_) (fun c_50 => ?_)
                                            · skip
                                              refine lv_iinc (v := (nI (k + 1))) (lv' := [(5, .int (nI (k + 1))), (7, .int (nI (k % 6))), (6, .int (nI (k / 6))), (4, .int (nI i)), (0, .ref g), (1, .int b0), (2, .int (kb pr0)), (3, .int 6)]) hx hb d_RM_run_278 hl (k := 2) rfl (nI_1 k) (by decide) rfl (fun ls hl => ?_)
                                              refine lv_goto (tgt := 164) hx hb d_RM_run_281 (by decide) ?_
                                              refine W.widen (k := 576 * i + 4 * (k + 1)) (n := 6912 * i + 48 * (k + 1)) (by omega) (by omega) ?_
                                              exact ih_164 (k + 1) tb2 lg2 wA2 wB2 bO2 ps2 tk2 (by omega) _ _ (hP.sub [6, 0, 1, 2, 3, 4, 5] rfl) (hD.sub [6, 0, 1, 2, 3, 4, 5] (by decide) rfl) hS ls (lv_sub hl [0, 3, 4, 5, 6, 7] rfl)
                                            · skip
                                              refine lv_aload_n hx hb d_RM_run_268 rfl (lv_at hl 4 rfl) ?_
                                              refine lv_iload hx hb d_RM_run_269 (lv_at hl 3 rfl) ?_
                                              refine lv_iload hx hb d_RM_run_271 (lv_at hl 1 rfl) ?_
                                              refine lv_iload hx hb d_RM_run_273 (lv_at hl 0 rfl) ?_
                                              have hpre_52 := kr_pre (wc := [(g, .inr (8, [.ref g_0, .ref g_1, .ref g_2, .ref g_3, .ref g_4, .int 0, .int 0, .int 65535, .int 0, .ref g_9, .ref g_10, .ref g_11, .ref g_12, .ref g_13, .ref g_14, .int tk2, .int 0, .int 0, .int ps2, .ref g_19, .ref g_20, .ref g_21, .int 0, .int 0, .int 0])), (g_9, .inl (cI, 16, .inl tb2)), (g_11, .inl (cI, 16, .inl lg2)), (g_12, .inl (cZ, 192, .inl wA2)), (g_13, .inl (cZ, 192, .inl wB2)), (g_14, .inl (cZ, 144, .inl bO2))]) (av := [.ref g, .int (nI i), .int (nI (k / 6)), .int (nI (k % 6))]) hK hP hD hS hA hSt [6, 0, 2, 3, 4, 5] rfl (by decide)
                                              refine kj_v (wc := [(g, .inr (8, [.ref g_0, .ref g_1, .ref g_2, .ref g_3, .ref g_4, .int 0, .int 0, .int 65535, .int 0, .ref g_9, .ref g_10, .ref g_11, .ref g_12, .ref g_13, .ref g_14, .int tk2, .int 0, .int 0, .int ps2, .ref g_19, .ref g_20, .ref g_21, .int 0, .int 0, .int 0])), (g_9, .inl (cI, 16, .inl tb2)), (g_11, .inl (cI, 16, .inl lg2)), (g_12, .inl (cZ, 192, .inl wA2)), (g_13, .inl (cZ, 192, .inl wB2)), (g_14, .inl (cZ, 144, .inl bO2))]) (wr := [(g_10, .inl (cI, 16, .inl (upd fb i 0)))]) (va_runV (As := [.int (nI i), .int (nI (k / 6)), .int (nI (k % 6))]) (rest := []) ⟨hx, hb, hml, hown, hts⟩ (rc_take l dC dI cI cJ cC cZ σ g g_0 g_1 g_2 g_3 g_4 g_9 g_10 g_11 g_12 g_13 g_14 g_19 g_20 g_21 wA2 wB2 bO2 tb2 lg2 ps2 tk2 0 0 i (k / 6) (k % 6) (by (try dsimp only) <;> first | assumption | omega) (by (try dsimp only) <;> first | assumption | omega) (by (try dsimp only) <;> first | assumption | omega) _) ⟨(callB_of 3 hts (kg wq_739) rfl rfl rfl hini_RM hm_165 (by decide +kernel) ⟨Nat.le_of_ble_eq_true rfl, Nat.le_of_ble_eq_true rfl⟩), hi_165, hv_165⟩ ⟨hpre_52.1, (va_recv hK hP (ci := 8) (q0 := 6) rfl rfl), hpre_52.2⟩ rfl rfl hl.1 rfl (lv_room (Nat.le_of_ble_eq_true rfl)) d_RM_run_275 ⟨by show 576 * i + 4 * k + 2 + 2 ≤ 9216; omega, by show 6912 * i + 48 * k + 24 + 24 ≤ 110592; omega⟩) hP hD hS hA [6, 0, 2, 3, 4, 5] [1] rfl rfl (by decide) (by decide) (fun u_51 H locs hP hD hS => ?_)
                                              obtain ⟨withA_51, withB_51, both_51, pairsSeen_51, taken_51, takenBy_51, ledger_51⟩ := u_51
                                              refine W.cs (cells' := 576 * i + 4 * k + 4) (slots' := 6912 * i + 48 * k + 48) rfl rfl ?_
                                              have hP : va_P (dC, dI) vwCl [(g_10, .inl (cI, 16, .inl (upd fb i 0))), (g, .inr (8, [.ref g_0, .ref g_1, .ref g_2, .ref g_3, .ref g_4, .int 0, .int 0, .int 65535, .int 0, .ref g_9, .ref g_10, .ref g_11, .ref g_12, .ref g_13, .ref g_14, .int taken_51, .int 0, .int 0, .int pairsSeen_51, .ref g_19, .ref g_20, .ref g_21, .int 0, .int 0, .int 0])), (g_9, .inl (cI, 16, .inl takenBy_51)), (g_11, .inl (cI, 16, .inl ledger_51)), (g_12, .inl (cZ, 192, .inl withA_51)), (g_13, .inl (cZ, 192, .inl withB_51)), (g_14, .inl (cZ, 144, .inl both_51))] H := hP
                                              have hD : va_D A [(g_10, .inl (cI, 16, .inl (upd fb i 0))), (g, .inr (8, [.ref g_0, .ref g_1, .ref g_2, .ref g_3, .ref g_4, .int 0, .int 0, .int 65535, .int 0, .ref g_9, .ref g_10, .ref g_11, .ref g_12, .ref g_13, .ref g_14, .int taken_51, .int 0, .int 0, .int pairsSeen_51, .ref g_19, .ref g_20, .ref g_21, .int 0, .int 0, .int 0])), (g_9, .inl (cI, 16, .inl takenBy_51)), (g_11, .inl (cI, 16, .inl ledger_51)), (g_12, .inl (cZ, 192, .inl withA_51)), (g_13, .inl (cZ, 192, .inl withB_51)), (g_14, .inl (cZ, 144, .inl both_51))] := hD
                                              refine lv_iinc (v := (nI (k + 1))) (lv' := [(5, .int (nI (k + 1))), (7, .int (nI (k % 6))), (6, .int (nI (k / 6))), (4, .int (nI i)), (0, .ref g), (1, .int b0), (2, .int (kb pr0)), (3, .int 6)]) hx hb d_RM_run_278 hl (k := 2) rfl (nI_1 k) (by decide) rfl (fun ls hl => ?_)
                                              refine lv_goto (tgt := 164) hx hb d_RM_run_281 (by decide) ?_
                                              refine W.widen (k := 576 * i + 4 * (k + 1)) (n := 6912 * i + 48 * (k + 1)) (by omega) (by omega) ?_
                                              exact ih_164 (k + 1) takenBy_51 ledger_51 withA_51 withB_51 both_51 pairsSeen_51 taken_51 (by omega) _ _ (hP.sub [1, 2, 0, 3, 4, 5, 6] rfl) (hD.sub [1, 2, 0, 3, 4, 5, 6] (by decide) rfl) hS ls (lv_sub hl [0, 3, 4, 5, 6, 7] rfl)
                                    · skip
                                      exact absurd c_40 (by decide)
                              refine W.widen (k := 576 * i + 4 * 0) (n := 6912 * i + 48 * 0) (by omega) (by omega) ?_
                              exact loop_164 36 0 (upd tb i 0) (upd lg i 0) wA wB bO ps tk (by omega) _ _ (hP.sub [0, 1, 2, 3, 4, 5, 6] rfl) (hD.sub [0, 1, 2, 3, 4, 5, 6] (by decide) rfl) hS ls (lv_sub hl [0, 1, 2, 3, 4, 5] rfl)
                            · skip
                              refine lv_goto (tgt := 284) hx hb d_RM_run_158 (by decide) ?_
                              refine lv_iinc (v := (nI (i + 1))) (lv' := [(4, .int (nI (i + 1))), (0, .ref g), (1, .int b0), (2, .int (kb pr0)), (3, .int 6)]) hx hb d_RM_run_284 hl (k := 0) rfl (nI_1 i) (by decide) rfl (fun ls hl => ?_)
                              refine lv_goto (tgt := 115) hx hb d_RM_run_287 (by decide) ?_
                              refine W.widen (k := 576 * (i + 1)) (n := 6912 * (i + 1)) (by omega) (by omega) ?_
                              exact ih_115 (i + 1) (upd tb i 0) (upd fb i 0) (upd lg i 0) wA wB bO ps tk (by omega) _ _ (hP.sub [0, 1, 2, 3, 4, 5, 6] rfl) (hD.sub [0, 1, 2, 3, 4, 5, 6] (by decide) rfl) hS ls (lv_sub hl [0, 1, 2, 3, 4] rfl)
                      refine W.widen (k := 576 * 0) (n := 6912 * 0) (by omega) (by omega) ?_
                      exact loop_115 16 0 (fun _ => 0) (fun _ => 0) (fun _ => 0) wa wb bo 0 0 (by omega) _ _ (hP.sub [0, 1, 2, 3, 4, 5, 6] rfl) (hD.sub [0, 1, 2, 3, 4, 5, 6] (by decide) rfl) hS ls (lv_sub hl [0, 1, 2, 3, 4] rfl)
                    · skip
                      have c_31 : ¬ 144 ≤ k := fun h9 => c_31 ((nI_leI (a := 144) (b := k) (by omega) (by omega)).mpr h9)
                      exfalso; omega
                  | succ n ih_90 =>
                    intro k bo hk H locs hP hD hS ls hl
                    refine lv_iload hx hb d_RM_run_90 (lv_at hl 0 rfl) ?_
                    refine lv_sipush (v := 144) hx hb d_RM_run_92 (by decide) ?_
                    refine lv_icmp_ge (tgt := 112) hx hb d_RM_run_95 (by decide) (fun c_53 => ?_) (fun c_53 => ?_)
                    · skip
                      have c_53 : 144 ≤ k := (nI_leI (a := 144) (b := k) (by omega) (by omega)).mp c_53
                      exfalso; omega
                    · skip
                      have c_53 : ¬ 144 ≤ k := fun h9 => c_53 ((nI_leI (a := 144) (b := k) (by omega) (by omega)).mpr h9)
                      refine lv_aload_n hx hb d_RM_run_98 rfl (lv_at hl 1 rfl) ?_
                      refine va_get (D := (dC, dI)) (ci := 8) (v := .ref g_14) (C := "KitRunnerModel") (T := T_RM) (N := 25) hx hb hts hin_RM hown hK hP 0 rfl rfl 14 (by decide) hf_46 (fun _ h9 => h9) rfl d_RM_run_99 ?_
                      refine lv_iload hx hb d_RM_run_102 (lv_at hl 0 rfl) ?_
                      refine lv_iconst (v := 0) hx hb d_RM_run_104 (by decide) ?_
                      refine kr_zast (k := k) hx hb hK hP hD hS 6 3 rfl rfl (by omega) (by first | decide | omega) rfl d_RM_run_105 (fun H locs hP hD hS => ?_)
                      have hP : va_P (dC, dI) vwCl [(g, .inr (8, [.ref g_0, .ref g_1, .ref g_2, .ref g_3, .ref g_4, .int 0, .int 0, .int 65535, .int 0, .ref g_9, .ref g_10, .ref g_11, .ref g_12, .ref g_13, .ref g_14, .int 0, .int 0, .int 0, .int 0, .ref g_19, .ref g_20, .ref g_21, .int 0, .int 0, .int 0])), (g_9, .inl (cI, 16, .inl (fun _ => 0))), (g_10, .inl (cI, 16, .inl (fun _ => 0))), (g_11, .inl (cI, 16, .inl (fun _ => 0))), (g_12, .inl (cZ, 192, .inl wa)), (g_13, .inl (cZ, 192, .inl wb)), (g_14, .inl (cZ, 144, .inl (upd bo k 0)))] H := hP
                      have hD : va_D A [(g, .inr (8, [.ref g_0, .ref g_1, .ref g_2, .ref g_3, .ref g_4, .int 0, .int 0, .int 65535, .int 0, .ref g_9, .ref g_10, .ref g_11, .ref g_12, .ref g_13, .ref g_14, .int 0, .int 0, .int 0, .int 0, .ref g_19, .ref g_20, .ref g_21, .int 0, .int 0, .int 0])), (g_9, .inl (cI, 16, .inl (fun _ => 0))), (g_10, .inl (cI, 16, .inl (fun _ => 0))), (g_11, .inl (cI, 16, .inl (fun _ => 0))), (g_12, .inl (cZ, 192, .inl wa)), (g_13, .inl (cZ, 192, .inl wb)), (g_14, .inl (cZ, 144, .inl (upd bo k 0)))] := hD
                      refine lv_iinc (v := (nI (k + 1))) (lv' := [(4, .int (nI (k + 1))), (0, .ref g), (1, .int b0), (2, .int (kb pr0)), (3, .int 6)]) hx hb d_RM_run_106 hl (k := 0) rfl (nI_1 k) (by decide) rfl (fun ls hl => ?_)
                      refine lv_goto (tgt := 90) hx hb d_RM_run_109 (by decide) ?_
                      exact ih_90 (k + 1) (upd bo k 0) (by omega) _ _ (hP.sub [0, 1, 2, 3, 4, 5, 6] rfl) (hD.sub [0, 1, 2, 3, 4, 5, 6] (by decide) rfl) hS ls (lv_sub hl [0, 1, 2, 3, 4] rfl)
                exact loop_90 144 0 (fun _ => 0) (by omega) _ _ (hP.sub [0, 1, 2, 3, 4, 5, 6] rfl) (hD.sub [0, 1, 2, 3, 4, 5, 6] (by decide) rfl) hS ls (lv_sub hl [0, 1, 2, 3, 4] rfl)
              · skip
                have c_30 : ¬ 192 ≤ k := fun h9 => c_30 ((nI_leI (a := 192) (b := k) (by omega) (by omega)).mpr h9)
                exfalso; omega
            | succ n ih_57 =>
              intro k wa wb hk H locs hP hD hS ls hl
              refine lv_iload hx hb d_RM_run_57 (lv_at hl 0 rfl) ?_
              refine lv_sipush (v := 192) hx hb d_RM_run_59 (by decide) ?_
              refine lv_icmp_ge (tgt := 87) hx hb d_RM_run_62 (by decide) (fun c_54 => ?_) (fun c_54 => ?_)
              · skip
                have c_54 : 192 ≤ k := (nI_leI (a := 192) (b := k) (by omega) (by omega)).mp c_54
                exfalso; omega
              · skip
                have c_54 : ¬ 192 ≤ k := fun h9 => c_54 ((nI_leI (a := 192) (b := k) (by omega) (by omega)).mpr h9)
                refine lv_aload_n hx hb d_RM_run_65 rfl (lv_at hl 1 rfl) ?_
                refine va_get (D := (dC, dI)) (ci := 8) (v := .ref g_12) (C := "KitRunnerModel") (T := T_RM) (N := 25) hx hb hts hin_RM hown hK hP 0 rfl rfl 12 (by decide) hf_39 (fun _ h9 => h9) rfl d_RM_run_66 ?_
                refine lv_iload hx hb d_RM_run_69 (lv_at hl 0 rfl) ?_
                refine lv_aload_n hx hb d_RM_run_71 rfl (lv_at hl 1 rfl) ?_
                refine va_get (D := (dC, dI)) (ci := 8) (v := .ref g_13) (C := "KitRunnerModel") (T := T_RM) (N := 25) hx hb hts hin_RM hown hK hP 0 rfl rfl 13 (by decide) hf_43 (fun _ h9 => h9) rfl d_RM_run_72 ?_
                refine lv_iload hx hb d_RM_run_75 (lv_at hl 0 rfl) ?_
                refine lv_iconst (v := 0) hx hb d_RM_run_77 (by decide) ?_
                refine lv_dup_x2 hx hb d_RM_run_78 rfl rfl rfl ?_
                refine kr_zast (k := k) hx hb hK hP hD hS 5 3 rfl rfl (by omega) (by first | decide | omega) rfl d_RM_run_79 (fun H locs hP hD hS => ?_)
                have hP : va_P (dC, dI) vwCl [(g, .inr (8, [.ref g_0, .ref g_1, .ref g_2, .ref g_3, .ref g_4, .int 0, .int 0, .int 65535, .int 0, .ref g_9, .ref g_10, .ref g_11, .ref g_12, .ref g_13, .ref g_14, .int 0, .int 0, .int 0, .int 0, .ref g_19, .ref g_20, .ref g_21, .int 0, .int 0, .int 0])), (g_9, .inl (cI, 16, .inl (fun _ => 0))), (g_10, .inl (cI, 16, .inl (fun _ => 0))), (g_11, .inl (cI, 16, .inl (fun _ => 0))), (g_12, .inl (cZ, 192, .inl wa)), (g_13, .inl (cZ, 192, .inl (upd wb k 0))), (g_14, .inl (cZ, 144, .inl (fun _ => 0)))] H := hP
                have hD : va_D A [(g, .inr (8, [.ref g_0, .ref g_1, .ref g_2, .ref g_3, .ref g_4, .int 0, .int 0, .int 65535, .int 0, .ref g_9, .ref g_10, .ref g_11, .ref g_12, .ref g_13, .ref g_14, .int 0, .int 0, .int 0, .int 0, .ref g_19, .ref g_20, .ref g_21, .int 0, .int 0, .int 0])), (g_9, .inl (cI, 16, .inl (fun _ => 0))), (g_10, .inl (cI, 16, .inl (fun _ => 0))), (g_11, .inl (cI, 16, .inl (fun _ => 0))), (g_12, .inl (cZ, 192, .inl wa)), (g_13, .inl (cZ, 192, .inl (upd wb k 0))), (g_14, .inl (cZ, 144, .inl (fun _ => 0)))] := hD
                refine kr_zast (k := k) hx hb hK hP hD hS 4 3 rfl rfl (by omega) (by first | decide | omega) rfl d_RM_run_80 (fun H locs hP hD hS => ?_)
                have hP : va_P (dC, dI) vwCl [(g, .inr (8, [.ref g_0, .ref g_1, .ref g_2, .ref g_3, .ref g_4, .int 0, .int 0, .int 65535, .int 0, .ref g_9, .ref g_10, .ref g_11, .ref g_12, .ref g_13, .ref g_14, .int 0, .int 0, .int 0, .int 0, .ref g_19, .ref g_20, .ref g_21, .int 0, .int 0, .int 0])), (g_9, .inl (cI, 16, .inl (fun _ => 0))), (g_10, .inl (cI, 16, .inl (fun _ => 0))), (g_11, .inl (cI, 16, .inl (fun _ => 0))), (g_12, .inl (cZ, 192, .inl (upd wa k 0))), (g_13, .inl (cZ, 192, .inl (upd wb k 0))), (g_14, .inl (cZ, 144, .inl (fun _ => 0)))] H := hP
                have hD : va_D A [(g, .inr (8, [.ref g_0, .ref g_1, .ref g_2, .ref g_3, .ref g_4, .int 0, .int 0, .int 65535, .int 0, .ref g_9, .ref g_10, .ref g_11, .ref g_12, .ref g_13, .ref g_14, .int 0, .int 0, .int 0, .int 0, .ref g_19, .ref g_20, .ref g_21, .int 0, .int 0, .int 0])), (g_9, .inl (cI, 16, .inl (fun _ => 0))), (g_10, .inl (cI, 16, .inl (fun _ => 0))), (g_11, .inl (cI, 16, .inl (fun _ => 0))), (g_12, .inl (cZ, 192, .inl (upd wa k 0))), (g_13, .inl (cZ, 192, .inl (upd wb k 0))), (g_14, .inl (cZ, 144, .inl (fun _ => 0)))] := hD
                refine lv_iinc (v := (nI (k + 1))) (lv' := [(4, .int (nI (k + 1))), (0, .ref g), (1, .int b0), (2, .int (kb pr0)), (3, .int 6)]) hx hb d_RM_run_81 hl (k := 0) rfl (nI_1 k) (by decide) rfl (fun ls hl => ?_)
                refine lv_goto (tgt := 57) hx hb d_RM_run_84 (by decide) ?_
                exact ih_57 (k + 1) (upd wa k 0) (upd wb k 0) (by omega) _ _ (hP.sub [0, 1, 2, 3, 4, 5, 6] rfl) (hD.sub [0, 1, 2, 3, 4, 5, 6] (by decide) rfl) hS ls (lv_sub hl [0, 1, 2, 3, 4] rfl)
          exact loop_57 192 0 (fun _ => 0) (fun _ => 0) (by omega) _ _ (hP.sub [0, 1, 2, 3, 4, 5, 6] rfl) (hD.sub [0, 1, 2, 3, 4, 5, 6] (by decide) rfl) hS ls (lv_sub hl [0, 2, 3, 4, 1] rfl)
      · skip
        refine lv_iconst (v := 3) hx hb d_RM_run_17 (by decide) ?_
        refine lv_goto (tgt := 33) hx hb d_RM_run_18 (by decide) ?_
        refine lv_istore_n (lv' := [(3, .int 3), (0, .ref g), (1, .int b0), (2, .int (kb pr0))]) hx hb d_RM_run_33 rfl hl (by decide) rfl (fun ls hl => ?_)
        refine lv_aload_n hx hb d_RM_run_34 rfl (lv_at hl 1 rfl) ?_
        refine lv_aload_n hx hb d_RM_run_35 rfl (lv_at hl 1 rfl) ?_
        refine lv_aload_n hx hb d_RM_run_36 rfl (lv_at hl 1 rfl) ?_
        refine lv_aload_n hx hb d_RM_run_37 rfl (lv_at hl 1 rfl) ?_
        refine lv_iconst (v := 0) hx hb d_RM_run_38 (by decide) ?_
        refine lv_dup_x1 hx hb d_RM_run_39 rfl rfl ?_
        refine va_put (D := (dC, dI)) (ci := 8) (v := .int 0) (ty := .int) (C := "KitRunnerModel") (T := T_RM) (N := 25) hx hb hts hin_RM ty_RM ty_RM_ok nm_RM hown hK hP hD hS 0 rfl rfl 18 (by decide) hf_149 (fun _ h9 => h9) rfl (by decide +kernel) rfl rfl (Nat.le_of_ble_eq_true rfl) d_RM_run_40 (fun H locs hP hD hS => ?_)
        have hP : va_P (dC, dI) vwCl [(g, .inr (8, [.ref g_0, .ref g_1, .ref g_2, .ref g_3, .ref g_4, .int 0, .int 0, .int 65535, .int 0, .ref g_9, .ref g_10, .ref g_11, .ref g_12, .ref g_13, .ref g_14, .int 0, .int 0, .int 0, .int 0, .ref g_19, .ref g_20, .ref g_21, .int 0, .int 0, .int 0])), (g_9, .inl (cI, 16, .inl (fun _ => 0))), (g_10, .inl (cI, 16, .inl (fun _ => 0))), (g_11, .inl (cI, 16, .inl (fun _ => 0))), (g_12, .inl (cZ, 192, .inl (fun _ => 0))), (g_13, .inl (cZ, 192, .inl (fun _ => 0))), (g_14, .inl (cZ, 144, .inl (fun _ => 0)))] H := hP
        have hD : va_D A [(g, .inr (8, [.ref g_0, .ref g_1, .ref g_2, .ref g_3, .ref g_4, .int 0, .int 0, .int 65535, .int 0, .ref g_9, .ref g_10, .ref g_11, .ref g_12, .ref g_13, .ref g_14, .int 0, .int 0, .int 0, .int 0, .ref g_19, .ref g_20, .ref g_21, .int 0, .int 0, .int 0])), (g_9, .inl (cI, 16, .inl (fun _ => 0))), (g_10, .inl (cI, 16, .inl (fun _ => 0))), (g_11, .inl (cI, 16, .inl (fun _ => 0))), (g_12, .inl (cZ, 192, .inl (fun _ => 0))), (g_13, .inl (cZ, 192, .inl (fun _ => 0))), (g_14, .inl (cZ, 144, .inl (fun _ => 0)))] := hD
        refine lv_dup_x1 hx hb d_RM_run_43 rfl rfl ?_
        refine va_put (D := (dC, dI)) (ci := 8) (v := .int 0) (ty := .int) (C := "KitRunnerModel") (T := T_RM) (N := 25) hx hb hts hin_RM ty_RM ty_RM_ok nm_RM hown hK hP hD hS 0 rfl rfl 17 (by decide) hf_158 (fun _ h9 => h9) rfl (by decide +kernel) rfl rfl (Nat.le_of_ble_eq_true rfl) d_RM_run_44 (fun H locs hP hD hS => ?_)
        have hP : va_P (dC, dI) vwCl [(g, .inr (8, [.ref g_0, .ref g_1, .ref g_2, .ref g_3, .ref g_4, .int 0, .int 0, .int 65535, .int 0, .ref g_9, .ref g_10, .ref g_11, .ref g_12, .ref g_13, .ref g_14, .int 0, .int 0, .int 0, .int 0, .ref g_19, .ref g_20, .ref g_21, .int 0, .int 0, .int 0])), (g_9, .inl (cI, 16, .inl (fun _ => 0))), (g_10, .inl (cI, 16, .inl (fun _ => 0))), (g_11, .inl (cI, 16, .inl (fun _ => 0))), (g_12, .inl (cZ, 192, .inl (fun _ => 0))), (g_13, .inl (cZ, 192, .inl (fun _ => 0))), (g_14, .inl (cZ, 144, .inl (fun _ => 0)))] H := hP
        have hD : va_D A [(g, .inr (8, [.ref g_0, .ref g_1, .ref g_2, .ref g_3, .ref g_4, .int 0, .int 0, .int 65535, .int 0, .ref g_9, .ref g_10, .ref g_11, .ref g_12, .ref g_13, .ref g_14, .int 0, .int 0, .int 0, .int 0, .ref g_19, .ref g_20, .ref g_21, .int 0, .int 0, .int 0])), (g_9, .inl (cI, 16, .inl (fun _ => 0))), (g_10, .inl (cI, 16, .inl (fun _ => 0))), (g_11, .inl (cI, 16, .inl (fun _ => 0))), (g_12, .inl (cZ, 192, .inl (fun _ => 0))), (g_13, .inl (cZ, 192, .inl (fun _ => 0))), (g_14, .inl (cZ, 144, .inl (fun _ => 0)))] := hD
        refine lv_dup_x1 hx hb d_RM_run_47 rfl rfl ?_
        refine va_put (D := (dC, dI)) (ci := 8) (v := .int 0) (ty := .int) (C := "KitRunnerModel") (T := T_RM) (N := 25) hx hb hts hin_RM ty_RM ty_RM_ok nm_RM hown hK hP hD hS 0 rfl rfl 16 (by decide) hf_155 (fun _ h9 => h9) rfl (by decide +kernel) rfl rfl (Nat.le_of_ble_eq_true rfl) d_RM_run_48 (fun H locs hP hD hS => ?_)
        have hP : va_P (dC, dI) vwCl [(g, .inr (8, [.ref g_0, .ref g_1, .ref g_2, .ref g_3, .ref g_4, .int 0, .int 0, .int 65535, .int 0, .ref g_9, .ref g_10, .ref g_11, .ref g_12, .ref g_13, .ref g_14, .int 0, .int 0, .int 0, .int 0, .ref g_19, .ref g_20, .ref g_21, .int 0, .int 0, .int 0])), (g_9, .inl (cI, 16, .inl (fun _ => 0))), (g_10, .inl (cI, 16, .inl (fun _ => 0))), (g_11, .inl (cI, 16, .inl (fun _ => 0))), (g_12, .inl (cZ, 192, .inl (fun _ => 0))), (g_13, .inl (cZ, 192, .inl (fun _ => 0))), (g_14, .inl (cZ, 144, .inl (fun _ => 0)))] H := hP
        have hD : va_D A [(g, .inr (8, [.ref g_0, .ref g_1, .ref g_2, .ref g_3, .ref g_4, .int 0, .int 0, .int 65535, .int 0, .ref g_9, .ref g_10, .ref g_11, .ref g_12, .ref g_13, .ref g_14, .int 0, .int 0, .int 0, .int 0, .ref g_19, .ref g_20, .ref g_21, .int 0, .int 0, .int 0])), (g_9, .inl (cI, 16, .inl (fun _ => 0))), (g_10, .inl (cI, 16, .inl (fun _ => 0))), (g_11, .inl (cI, 16, .inl (fun _ => 0))), (g_12, .inl (cZ, 192, .inl (fun _ => 0))), (g_13, .inl (cZ, 192, .inl (fun _ => 0))), (g_14, .inl (cZ, 144, .inl (fun _ => 0)))] := hD
        refine va_put (D := (dC, dI)) (ci := 8) (v := .int 0) (ty := .int) (C := "KitRunnerModel") (T := T_RM) (N := 25) hx hb hts hin_RM ty_RM ty_RM_ok nm_RM hown hK hP hD hS 0 rfl rfl 15 (by decide) hf_152 (fun _ h9 => h9) rfl (by decide +kernel) rfl rfl (Nat.le_of_ble_eq_true rfl) d_RM_run_51 (fun H locs hP hD hS => ?_)
        have hP : va_P (dC, dI) vwCl [(g, .inr (8, [.ref g_0, .ref g_1, .ref g_2, .ref g_3, .ref g_4, .int 0, .int 0, .int 65535, .int 0, .ref g_9, .ref g_10, .ref g_11, .ref g_12, .ref g_13, .ref g_14, .int 0, .int 0, .int 0, .int 0, .ref g_19, .ref g_20, .ref g_21, .int 0, .int 0, .int 0])), (g_9, .inl (cI, 16, .inl (fun _ => 0))), (g_10, .inl (cI, 16, .inl (fun _ => 0))), (g_11, .inl (cI, 16, .inl (fun _ => 0))), (g_12, .inl (cZ, 192, .inl (fun _ => 0))), (g_13, .inl (cZ, 192, .inl (fun _ => 0))), (g_14, .inl (cZ, 144, .inl (fun _ => 0)))] H := hP
        have hD : va_D A [(g, .inr (8, [.ref g_0, .ref g_1, .ref g_2, .ref g_3, .ref g_4, .int 0, .int 0, .int 65535, .int 0, .ref g_9, .ref g_10, .ref g_11, .ref g_12, .ref g_13, .ref g_14, .int 0, .int 0, .int 0, .int 0, .ref g_19, .ref g_20, .ref g_21, .int 0, .int 0, .int 0])), (g_9, .inl (cI, 16, .inl (fun _ => 0))), (g_10, .inl (cI, 16, .inl (fun _ => 0))), (g_11, .inl (cI, 16, .inl (fun _ => 0))), (g_12, .inl (cZ, 192, .inl (fun _ => 0))), (g_13, .inl (cZ, 192, .inl (fun _ => 0))), (g_14, .inl (cZ, 144, .inl (fun _ => 0)))] := hD
        refine lv_iconst (v := 0) hx hb d_RM_run_54 (by decide) ?_
        refine lv_istore (lv' := [(4, .int 0), (3, .int 3), (0, .ref g), (1, .int b0), (2, .int (kb pr0))]) hx hb d_RM_run_55 hl (by decide) rfl (fun ls hl => ?_)
        have loop_57 : ∀ (n : Nat) (k : Nat) (wa wb : Nat → Int32), (k + n = 192) → ∀ (H : Heap) (locs : List Loc), va_P (dC, dI) vwCl [(g, .inr (8, [.ref g_0, .ref g_1, .ref g_2, .ref g_3, .ref g_4, .int 0, .int 0, .int 65535, .int 0, .ref g_9, .ref g_10, .ref g_11, .ref g_12, .ref g_13, .ref g_14, .int 0, .int 0, .int 0, .int 0, .ref g_19, .ref g_20, .ref g_21, .int 0, .int 0, .int 0])), (g_9, .inl (cI, 16, .inl (fun _ => 0))), (g_10, .inl (cI, 16, .inl (fun _ => 0))), (g_11, .inl (cI, 16, .inl (fun _ => 0))), (g_12, .inl (cZ, 192, .inl wa)), (g_13, .inl (cZ, 192, .inl wb)), (g_14, .inl (cZ, 144, .inl (fun _ => 0)))] H → va_D A [(g, .inr (8, [.ref g_0, .ref g_1, .ref g_2, .ref g_3, .ref g_4, .int 0, .int 0, .int 65535, .int 0, .ref g_9, .ref g_10, .ref g_11, .ref g_12, .ref g_13, .ref g_14, .int 0, .int 0, .int 0, .int 0, .ref g_19, .ref g_20, .ref g_21, .int 0, .int 0, .int 0])), (g_9, .inl (cI, 16, .inl (fun _ => 0))), (g_10, .inl (cI, 16, .inl (fun _ => 0))), (g_11, .inl (cI, 16, .inl (fun _ => 0))), (g_12, .inl (cZ, 192, .inl wa)), (g_13, .inl (cZ, 192, .inl wb)), (g_14, .inl (cZ, 144, .inl (fun _ => 0)))] → va_S A s.heap H locs → ∀ ls : Array Slot, lv_has ls 8 [(4, .int (nI k)), (0, .ref g), (1, .int b0), (2, .int (kb pr0)), (3, .int 3)] → W p l e (kRm 4 9216 110592 101) s m args below meth c H locs 0 0 Q (F0 m 57 ls []) := by
          intro n
          induction n with
          | zero =>
            intro k wa wb hk H locs hP hD hS ls hl
            refine lv_iload hx hb d_RM_run_57 (lv_at hl 0 rfl) ?_
            refine lv_sipush (v := 192) hx hb d_RM_run_59 (by decide) ?_
            refine lv_icmp_ge (tgt := 87) hx hb d_RM_run_62 (by decide) (fun c_55 => ?_) (fun c_55 => ?_)
            · skip
              have c_55 : 192 ≤ k := (nI_leI (a := 192) (b := k) (by omega) (by omega)).mp c_55
              refine lv_iconst (v := 0) hx hb d_RM_run_87 (by decide) ?_
              refine lv_istore (lv' := [(4, .int 0), (0, .ref g), (1, .int b0), (2, .int (kb pr0)), (3, .int 3)]) hx hb d_RM_run_88 hl (by decide) rfl (fun ls hl => ?_)
              have loop_90 : ∀ (n : Nat) (k : Nat) (bo : Nat → Int32), (k + n = 144) → ∀ (H : Heap) (locs : List Loc), va_P (dC, dI) vwCl [(g, .inr (8, [.ref g_0, .ref g_1, .ref g_2, .ref g_3, .ref g_4, .int 0, .int 0, .int 65535, .int 0, .ref g_9, .ref g_10, .ref g_11, .ref g_12, .ref g_13, .ref g_14, .int 0, .int 0, .int 0, .int 0, .ref g_19, .ref g_20, .ref g_21, .int 0, .int 0, .int 0])), (g_9, .inl (cI, 16, .inl (fun _ => 0))), (g_10, .inl (cI, 16, .inl (fun _ => 0))), (g_11, .inl (cI, 16, .inl (fun _ => 0))), (g_12, .inl (cZ, 192, .inl wa)), (g_13, .inl (cZ, 192, .inl wb)), (g_14, .inl (cZ, 144, .inl bo))] H → va_D A [(g, .inr (8, [.ref g_0, .ref g_1, .ref g_2, .ref g_3, .ref g_4, .int 0, .int 0, .int 65535, .int 0, .ref g_9, .ref g_10, .ref g_11, .ref g_12, .ref g_13, .ref g_14, .int 0, .int 0, .int 0, .int 0, .ref g_19, .ref g_20, .ref g_21, .int 0, .int 0, .int 0])), (g_9, .inl (cI, 16, .inl (fun _ => 0))), (g_10, .inl (cI, 16, .inl (fun _ => 0))), (g_11, .inl (cI, 16, .inl (fun _ => 0))), (g_12, .inl (cZ, 192, .inl wa)), (g_13, .inl (cZ, 192, .inl wb)), (g_14, .inl (cZ, 144, .inl bo))] → va_S A s.heap H locs → ∀ ls : Array Slot, lv_has ls 8 [(4, .int (nI k)), (0, .ref g), (1, .int b0), (2, .int (kb pr0)), (3, .int 3)] → W p l e (kRm 4 9216 110592 101) s m args below meth c H locs 0 0 Q (F0 m 90 ls []) := by
                intro n
                induction n with
                | zero =>
                  intro k bo hk H locs hP hD hS ls hl
                  refine lv_iload hx hb d_RM_run_90 (lv_at hl 0 rfl) ?_
                  refine lv_sipush (v := 144) hx hb d_RM_run_92 (by decide) ?_
                  refine lv_icmp_ge (tgt := 112) hx hb d_RM_run_95 (by decide) (fun c_56 => ?_) (fun c_56 => ?_)
                  · skip
                    have c_56 : 144 ≤ k := (nI_leI (a := 144) (b := k) (by omega) (by omega)).mp c_56
                    refine lv_iconst (v := 0) hx hb d_RM_run_112 (by decide) ?_
                    refine lv_istore (lv' := [(4, .int 0), (0, .ref g), (1, .int b0), (2, .int (kb pr0)), (3, .int 3)]) hx hb d_RM_run_113 hl (by decide) rfl (fun ls hl => ?_)
                    have loop_115 : ∀ (n : Nat) (i : Nat) (tb fb lg wA wB bO : Nat → Int32) (ps tk : Int32), (i + n = 16) → ∀ (H : Heap) (locs : List Loc), va_P (dC, dI) vwCl [(g, .inr (8, [.ref g_0, .ref g_1, .ref g_2, .ref g_3, .ref g_4, .int 0, .int 0, .int 65535, .int 0, .ref g_9, .ref g_10, .ref g_11, .ref g_12, .ref g_13, .ref g_14, .int tk, .int 0, .int 0, .int ps, .ref g_19, .ref g_20, .ref g_21, .int 0, .int 0, .int 0])), (g_9, .inl (cI, 16, .inl tb)), (g_10, .inl (cI, 16, .inl fb)), (g_11, .inl (cI, 16, .inl lg)), (g_12, .inl (cZ, 192, .inl wA)), (g_13, .inl (cZ, 192, .inl wB)), (g_14, .inl (cZ, 144, .inl bO))] H → va_D A [(g, .inr (8, [.ref g_0, .ref g_1, .ref g_2, .ref g_3, .ref g_4, .int 0, .int 0, .int 65535, .int 0, .ref g_9, .ref g_10, .ref g_11, .ref g_12, .ref g_13, .ref g_14, .int tk, .int 0, .int 0, .int ps, .ref g_19, .ref g_20, .ref g_21, .int 0, .int 0, .int 0])), (g_9, .inl (cI, 16, .inl tb)), (g_10, .inl (cI, 16, .inl fb)), (g_11, .inl (cI, 16, .inl lg)), (g_12, .inl (cZ, 192, .inl wA)), (g_13, .inl (cZ, 192, .inl wB)), (g_14, .inl (cZ, 144, .inl bO))] → va_S A s.heap H locs → ∀ ls : Array Slot, lv_has ls 8 [(4, .int (nI i)), (0, .ref g), (1, .int b0), (2, .int (kb pr0)), (3, .int 3)] → W p l e (kRm 4 9216 110592 101) s m args below meth c H locs (576 * i) (6912 * i) Q (F0 m 115 ls []) := by
                      intro n
                      induction n with
                      | zero =>
                        intro i tb fb lg wA wB bO ps tk hi H locs hP hD hS ls hl
                        refine lv_iload hx hb d_RM_run_115 (lv_at hl 0 rfl) ?_
                        refine lv_bipush (v := 16) hx hb d_RM_run_117 (by decide) ?_
                        refine lv_icmp_ge (tgt := 290) hx hb d_RM_run_119 (by decide) (fun c_57 => ?_) (fun c_57 => ?_)
                        · skip
                          have c_57 : 16 ≤ i := (nI_leI (a := 16) (b := i) (by omega) (by omega)).mp c_57
                          refine lv_aload_n hx hb d_RM_run_290 rfl (lv_at hl 1 rfl) ?_
                          refine lv_dup hx hb d_RM_run_291 rfl ?_
                          refine va_get (D := (dC, dI)) (ci := 8) (v := .int 0) (C := "KitRunnerModel") (T := T_RM) (N := 25) hx hb hts hin_RM hown hK hP 0 rfl rfl 8 (by decide) hf_169 (fun _ h9 => h9) rfl d_RM_run_292 ?_
                          refine lv_iconst (v := 1) hx hb d_RM_run_295 (by decide) ?_
                          refine lv_iadd hx hb d_RM_run_296 ?_
                          refine kr_topi (x := (0 + 1 : Int32)) (y := 1) (by decide) ?_
                          refine va_put (D := (dC, dI)) (ci := 8) (v := .int 1) (ty := .int) (C := "KitRunnerModel") (T := T_RM) (N := 25) hx hb hts hin_RM ty_RM ty_RM_ok nm_RM hown hK hP hD hS 0 rfl rfl 8 (by decide) hf_169 (fun _ h9 => h9) rfl (by decide +kernel) rfl rfl (Nat.le_of_ble_eq_true rfl) d_RM_run_297 (fun H locs hP hD hS => ?_)
                          have hP : va_P (dC, dI) vwCl [(g, .inr (8, [.ref g_0, .ref g_1, .ref g_2, .ref g_3, .ref g_4, .int 0, .int 0, .int 65535, .int 1, .ref g_9, .ref g_10, .ref g_11, .ref g_12, .ref g_13, .ref g_14, .int tk, .int 0, .int 0, .int ps, .ref g_19, .ref g_20, .ref g_21, .int 0, .int 0, .int 0])), (g_9, .inl (cI, 16, .inl tb)), (g_10, .inl (cI, 16, .inl fb)), (g_11, .inl (cI, 16, .inl lg)), (g_12, .inl (cZ, 192, .inl wA)), (g_13, .inl (cZ, 192, .inl wB)), (g_14, .inl (cZ, 144, .inl bO))] H := hP
                          have hD : va_D A [(g, .inr (8, [.ref g_0, .ref g_1, .ref g_2, .ref g_3, .ref g_4, .int 0, .int 0, .int 65535, .int 1, .ref g_9, .ref g_10, .ref g_11, .ref g_12, .ref g_13, .ref g_14, .int tk, .int 0, .int 0, .int ps, .ref g_19, .ref g_20, .ref g_21, .int 0, .int 0, .int 0])), (g_9, .inl (cI, 16, .inl tb)), (g_10, .inl (cI, 16, .inl fb)), (g_11, .inl (cI, 16, .inl lg)), (g_12, .inl (cZ, 192, .inl wA)), (g_13, .inl (cZ, 192, .inl wB)), (g_14, .inl (cZ, 144, .inl bO))] := hD
                          refine lv_aload_n hx hb d_RM_run_300 rfl (lv_at hl 1 rfl) ?_
                          refine va_get (D := (dC, dI)) (ci := 8) (v := .int 0) (C := "KitRunnerModel") (T := T_RM) (N := 25) hx hb hts hin_RM hown hK hP 0 rfl rfl 16 (by decide) hf_155 (fun _ h9 => h9) rfl d_RM_run_301 ?_
                          have hpost : r_run b0 = 0 := by simp only [r_run, if_neg c_1, if_pos c_2]
                          refine W.widen (k := 9216) (n := 110592) (by omega) (by omega) ?_
                          have hP9 := hP.sub (ws' := []) [] rfl
                          have hD9 := hD.sub (ws' := []) [] (by decide) rfl
                          exact kr_iret (v := 0) hQ hx hb hr hlocks hK hP9 hD9 hS (by rw [hpost] <;> rfl) () rfl d_RM_run_304
                        · skip
                          have c_57 : ¬ 16 ≤ i := fun h9 => c_57 ((nI_leI (a := 16) (b := i) (by omega) (by omega)).mpr h9)
                          exfalso; omega
                      | succ n ih_115 =>
                        intro i tb fb lg wA wB bO ps tk hi H locs hP hD hS ls hl
                        refine lv_iload hx hb d_RM_run_115 (lv_at hl 0 rfl) ?_
                        refine lv_bipush (v := 16) hx hb d_RM_run_117 (by decide) ?_
                        refine lv_icmp_ge (tgt := 290) hx hb d_RM_run_119 (by decide) (fun c_58 => ?_) (fun c_58 => ?_)
                        · skip
                          have c_58 : 16 ≤ i := (nI_leI (a := 16) (b := i) (by omega) (by omega)).mp c_58
                          exfalso; omega
                        · skip
                          have c_58 : ¬ 16 ≤ i := fun h9 => c_58 ((nI_leI (a := 16) (b := i) (by omega) (by omega)).mpr h9)
                          refine lv_aload_n hx hb d_RM_run_122 rfl (lv_at hl 1 rfl) ?_
                          refine va_get (D := (dC, dI)) (ci := 8) (v := .ref g_9) (C := "KitRunnerModel") (T := T_RM) (N := 25) hx hb hts hin_RM hown hK hP 0 rfl rfl 9 (by decide) hf_30 (fun _ h9 => h9) rfl d_RM_run_123 ?_
                          refine lv_iload hx hb d_RM_run_126 (lv_at hl 0 rfl) ?_
                          refine lv_aload_n hx hb d_RM_run_128 rfl (lv_at hl 1 rfl) ?_
                          refine va_get (D := (dC, dI)) (ci := 8) (v := .ref g_10) (C := "KitRunnerModel") (T := T_RM) (N := 25) hx hb hts hin_RM hown hK hP 0 rfl rfl 10 (by decide) hf_33 (fun _ h9 => h9) rfl d_RM_run_129 ?_
                          refine lv_iload hx hb d_RM_run_132 (lv_at hl 0 rfl) ?_
                          refine lv_aload_n hx hb d_RM_run_134 rfl (lv_at hl 1 rfl) ?_
                          refine va_get (D := (dC, dI)) (ci := 8) (v := .ref g_11) (C := "KitRunnerModel") (T := T_RM) (N := 25) hx hb hts hin_RM hown hK hP 0 rfl rfl 11 (by decide) hf_36 (fun _ h9 => h9) rfl d_RM_run_135 ?_
                          refine lv_iload hx hb d_RM_run_138 (lv_at hl 0 rfl) ?_
                          refine lv_iconst (v := 0) hx hb d_RM_run_140 (by decide) ?_
                          refine lv_dup_x2 hx hb d_RM_run_141 rfl rfl rfl ?_
                          refine kr_iast (k := i) hx hb hK hP hD hS 3 0 rfl rfl (by omega) (by first | decide | omega) d_RM_run_142 (fun H locs hP hD hS => ?_)
                          have hP : va_P (dC, dI) vwCl [(g, .inr (8, [.ref g_0, .ref g_1, .ref g_2, .ref g_3, .ref g_4, .int 0, .int 0, .int 65535, .int 0, .ref g_9, .ref g_10, .ref g_11, .ref g_12, .ref g_13, .ref g_14, .int tk, .int 0, .int 0, .int ps, .ref g_19, .ref g_20, .ref g_21, .int 0, .int 0, .int 0])), (g_9, .inl (cI, 16, .inl tb)), (g_10, .inl (cI, 16, .inl fb)), (g_11, .inl (cI, 16, .inl (upd lg i 0))), (g_12, .inl (cZ, 192, .inl wA)), (g_13, .inl (cZ, 192, .inl wB)), (g_14, .inl (cZ, 144, .inl bO))] H := hP
                          have hD : va_D A [(g, .inr (8, [.ref g_0, .ref g_1, .ref g_2, .ref g_3, .ref g_4, .int 0, .int 0, .int 65535, .int 0, .ref g_9, .ref g_10, .ref g_11, .ref g_12, .ref g_13, .ref g_14, .int tk, .int 0, .int 0, .int ps, .ref g_19, .ref g_20, .ref g_21, .int 0, .int 0, .int 0])), (g_9, .inl (cI, 16, .inl tb)), (g_10, .inl (cI, 16, .inl fb)), (g_11, .inl (cI, 16, .inl (upd lg i 0))), (g_12, .inl (cZ, 192, .inl wA)), (g_13, .inl (cZ, 192, .inl wB)), (g_14, .inl (cZ, 144, .inl bO))] := hD
                          refine lv_dup_x2 hx hb d_RM_run_143 rfl rfl rfl ?_
                          refine kr_iast (k := i) hx hb hK hP hD hS 2 0 rfl rfl (by omega) (by first | decide | omega) d_RM_run_144 (fun H locs hP hD hS => ?_)
                          have hP : va_P (dC, dI) vwCl [(g, .inr (8, [.ref g_0, .ref g_1, .ref g_2, .ref g_3, .ref g_4, .int 0, .int 0, .int 65535, .int 0, .ref g_9, .ref g_10, .ref g_11, .ref g_12, .ref g_13, .ref g_14, .int tk, .int 0, .int 0, .int ps, .ref g_19, .ref g_20, .ref g_21, .int 0, .int 0, .int 0])), (g_9, .inl (cI, 16, .inl tb)), (g_10, .inl (cI, 16, .inl (upd fb i 0))), (g_11, .inl (cI, 16, .inl (upd lg i 0))), (g_12, .inl (cZ, 192, .inl wA)), (g_13, .inl (cZ, 192, .inl wB)), (g_14, .inl (cZ, 144, .inl bO))] H := hP
                          have hD : va_D A [(g, .inr (8, [.ref g_0, .ref g_1, .ref g_2, .ref g_3, .ref g_4, .int 0, .int 0, .int 65535, .int 0, .ref g_9, .ref g_10, .ref g_11, .ref g_12, .ref g_13, .ref g_14, .int tk, .int 0, .int 0, .int ps, .ref g_19, .ref g_20, .ref g_21, .int 0, .int 0, .int 0])), (g_9, .inl (cI, 16, .inl tb)), (g_10, .inl (cI, 16, .inl (upd fb i 0))), (g_11, .inl (cI, 16, .inl (upd lg i 0))), (g_12, .inl (cZ, 192, .inl wA)), (g_13, .inl (cZ, 192, .inl wB)), (g_14, .inl (cZ, 144, .inl bO))] := hD
                          refine kr_iast (k := i) hx hb hK hP hD hS 1 0 rfl rfl (by omega) (by first | decide | omega) d_RM_run_145 (fun H locs hP hD hS => ?_)
                          have hP : va_P (dC, dI) vwCl [(g, .inr (8, [.ref g_0, .ref g_1, .ref g_2, .ref g_3, .ref g_4, .int 0, .int 0, .int 65535, .int 0, .ref g_9, .ref g_10, .ref g_11, .ref g_12, .ref g_13, .ref g_14, .int tk, .int 0, .int 0, .int ps, .ref g_19, .ref g_20, .ref g_21, .int 0, .int 0, .int 0])), (g_9, .inl (cI, 16, .inl (upd tb i 0))), (g_10, .inl (cI, 16, .inl (upd fb i 0))), (g_11, .inl (cI, 16, .inl (upd lg i 0))), (g_12, .inl (cZ, 192, .inl wA)), (g_13, .inl (cZ, 192, .inl wB)), (g_14, .inl (cZ, 144, .inl bO))] H := hP
                          have hD : va_D A [(g, .inr (8, [.ref g_0, .ref g_1, .ref g_2, .ref g_3, .ref g_4, .int 0, .int 0, .int 65535, .int 0, .ref g_9, .ref g_10, .ref g_11, .ref g_12, .ref g_13, .ref g_14, .int tk, .int 0, .int 0, .int ps, .ref g_19, .ref g_20, .ref g_21, .int 0, .int 0, .int 0])), (g_9, .inl (cI, 16, .inl (upd tb i 0))), (g_10, .inl (cI, 16, .inl (upd fb i 0))), (g_11, .inl (cI, 16, .inl (upd lg i 0))), (g_12, .inl (cZ, 192, .inl wA)), (g_13, .inl (cZ, 192, .inl wB)), (g_14, .inl (cZ, 144, .inl bO))] := hD
                          refine lv_aload_n hx hb d_RM_run_146 rfl (lv_at hl 1 rfl) ?_
                          refine va_get (D := (dC, dI)) (ci := 8) (v := .int 65535) (C := "KitRunnerModel") (T := T_RM) (N := 25) hx hb hts hin_RM hown hK hP 0 rfl rfl 7 (by decide) hf_26 (fun _ h9 => h9) rfl d_RM_run_147 ?_
                          refine lv_iload hx hb d_RM_run_150 (lv_at hl 0 rfl) ?_
                          refine lv_ishr hx hb d_RM_run_152 ?_
                          refine lv_iconst (v := 1) hx hb d_RM_run_153 (by decide) ?_
                          refine lv_iand hx hb d_RM_run_154 ?_
                          refine lv_if_ne (tgt := 161) hx hb d_RM_run_155 (by decide) (fun c_59 => ?_) (fun c_59 => ?_)
                          · skip
                            refine lv_iconst (v := 0) hx hb d_RM_run_161 (by decide) ?_
                            refine lv_istore (lv' := [(5, .int 0), (4, .int (nI i)), (0, .ref g), (1, .int b0), (2, .int (kb pr0)), (3, .int 3)]) hx hb d_RM_run_162 hl (by decide) rfl (fun ls hl => ?_)
                            have loop_164 : ∀ (n2 : Nat) (k : Nat) (tb2 lg2 wA2 wB2 bO2 : Nat → Int32) (ps2 tk2 : Int32), (k + n2 = 9) → ∀ (H : Heap) (locs : List Loc), va_P (dC, dI) vwCl [(g, .inr (8, [.ref g_0, .ref g_1, .ref g_2, .ref g_3, .ref g_4, .int 0, .int 0, .int 65535, .int 0, .ref g_9, .ref g_10, .ref g_11, .ref g_12, .ref g_13, .ref g_14, .int tk2, .int 0, .int 0, .int ps2, .ref g_19, .ref g_20, .ref g_21, .int 0, .int 0, .int 0])), (g_9, .inl (cI, 16, .inl tb2)), (g_10, .inl (cI, 16, .inl (upd fb i 0))), (g_11, .inl (cI, 16, .inl lg2)), (g_12, .inl (cZ, 192, .inl wA2)), (g_13, .inl (cZ, 192, .inl wB2)), (g_14, .inl (cZ, 144, .inl bO2))] H → va_D A [(g, .inr (8, [.ref g_0, .ref g_1, .ref g_2, .ref g_3, .ref g_4, .int 0, .int 0, .int 65535, .int 0, .ref g_9, .ref g_10, .ref g_11, .ref g_12, .ref g_13, .ref g_14, .int tk2, .int 0, .int 0, .int ps2, .ref g_19, .ref g_20, .ref g_21, .int 0, .int 0, .int 0])), (g_9, .inl (cI, 16, .inl tb2)), (g_10, .inl (cI, 16, .inl (upd fb i 0))), (g_11, .inl (cI, 16, .inl lg2)), (g_12, .inl (cZ, 192, .inl wA2)), (g_13, .inl (cZ, 192, .inl wB2)), (g_14, .inl (cZ, 144, .inl bO2))] → va_S A s.heap H locs → ∀ ls : Array Slot, lv_has ls 8 [(5, .int (nI k)), (4, .int (nI i)), (0, .ref g), (1, .int b0), (2, .int (kb pr0)), (3, .int 3)] → W p l e (kRm 4 9216 110592 101) s m args below meth c H locs (576 * i + 4 * k) (6912 * i + 48 * k) Q (F0 m 164 ls []) := by
                              intro n2
                              induction n2 with
                              | zero =>
                                intro k tb2 lg2 wA2 wB2 bO2 ps2 tk2 hk H locs hP hD hS ls hl
                                refine lv_iload hx hb d_RM_run_164 (lv_at hl 0 rfl) ?_
                                refine lv_iload_n hx hb d_RM_run_166 rfl (lv_at hl 5 rfl) ?_
                                refine lv_iload_n hx hb d_RM_run_167 rfl (lv_at hl 5 rfl) ?_
                                refine lv_imul hx hb d_RM_run_168 ?_
                                refine kr_topi (x := (3 * 3 : Int32)) (y := 9) (by decide) ?_
                                refine lv_icmp_ge (tgt := 284) hx hb d_RM_run_169 (by decide) (fun c_60 => ?_) (fun c_60 => ?_)
                                · skip
                                  have c_60 : 9 ≤ k := (nI_leI (a := 9) (b := k) (by omega) (by omega)).mp c_60
                                  refine lv_iinc (v := (nI (i + 1))) (lv' := [(4, .int (nI (i + 1))), (5, .int (nI k)), (0, .ref g), (1, .int b0), (2, .int (kb pr0)), (3, .int 3)]) hx hb d_RM_run_284 hl (k := 1) rfl (nI_1 i) (by decide) rfl (fun ls hl => ?_)
                                  refine lv_goto (tgt := 115) hx hb d_RM_run_287 (by decide) ?_
                                  refine W.widen (k := 576 * (i + 1)) (n := 6912 * (i + 1)) (by omega) (by omega) ?_
                                  exact ih_115 (i + 1) tb2 (upd fb i 0) lg2 wA2 wB2 bO2 ps2 tk2 (by omega) _ _ (hP.sub [0, 1, 2, 3, 4, 5, 6] rfl) (hD.sub [0, 1, 2, 3, 4, 5, 6] (by decide) rfl) hS ls (lv_sub hl [0, 2, 3, 4, 5] rfl)
                                · skip
                                  have c_60 : ¬ 9 ≤ k := fun h9 => c_60 ((nI_leI (a := 9) (b := k) (by omega) (by omega)).mpr h9)
                                  exfalso; omega
                              | succ n2 ih_164 =>
                                intro k tb2 lg2 wA2 wB2 bO2 ps2 tk2 hk H locs hP hD hS ls hl
                                refine lv_iload hx hb d_RM_run_164 (lv_at hl 0 rfl) ?_
                                refine lv_iload_n hx hb d_RM_run_166 rfl (lv_at hl 5 rfl) ?_
                                refine lv_iload_n hx hb d_RM_run_167 rfl (lv_at hl 5 rfl) ?_
                                refine lv_imul hx hb d_RM_run_168 ?_
                                refine kr_topi (x := (3 * 3 : Int32)) (y := 9) (by decide) ?_
                                refine lv_icmp_ge (tgt := 284) hx hb d_RM_run_169 (by decide) (fun c_61 => ?_) (fun c_61 => ?_)
                                · skip
                                  have c_61 : 9 ≤ k := (nI_leI (a := 9) (b := k) (by omega) (by omega)).mp c_61
                                  exfalso; omega
                                · skip
                                  have c_61 : ¬ 9 ≤ k := fun h9 => c_61 ((nI_leI (a := 9) (b := k) (by omega) (by omega)).mpr h9)
                                  refine lv_iload hx hb d_RM_run_172 (lv_at hl 0 rfl) ?_
                                  refine lv_iload_n hx hb d_RM_run_174 rfl (lv_at hl 5 rfl) ?_
                                  refine lv_idiv hx hb d_RM_run_175 (by decide) ?_
                                  refine kr_topi (x := (nI k) / 3) (y := nI (k / 3)) (pk_div (a := k) (d := 3) (by omega) (by decide) (by decide)) ?_
                                  refine lv_istore (lv' := [(6, .int (nI (k / 3))), (5, .int (nI k)), (4, .int (nI i)), (0, .ref g), (1, .int b0), (2, .int (kb pr0)), (3, .int 3)]) hx hb d_RM_run_176 hl (by decide) rfl (fun ls hl => ?_)
                                  refine lv_iload hx hb d_RM_run_178 (lv_at hl 1 rfl) ?_
                                  refine lv_iload_n hx hb d_RM_run_180 rfl (lv_at hl 6 rfl) ?_
                                  refine lv_irem hx hb d_RM_run_181 (by decide) ?_
                                  refine kr_topi (x := (nI k) - (nI k) / 3 * 3) (y := nI (k % 3)) (pk_rem (a := k) (d := 3) (by omega) (by decide) (by decide)) ?_
                                  refine lv_istore (lv' := [(7, .int (nI (k % 3))), (6, .int (nI (k / 3))), (5, .int (nI k)), (4, .int (nI i)), (0, .ref g), (1, .int b0), (2, .int (kb pr0)), (3, .int 3)]) hx hb d_RM_run_182 hl (by decide) rfl (fun ls hl => ?_)
                                  refine lv_aload_n hx hb d_RM_run_184 rfl (lv_at hl 4 rfl) ?_
                                  refine lv_iload hx hb d_RM_run_185 (lv_at hl 3 rfl) ?_
                                  refine lv_iload hx hb d_RM_run_187 (lv_at hl 1 rfl) ?_
                                  have hpre_62 := kr_pre (wc := []) (av := [.int (nI (k / 3))]) hK hP hD hS hA hSt [] rfl (by decide)
                                  refine kj_im (wc := []) (wr := [(g, .inr (8, [.ref g_0, .ref g_1, .ref g_2, .ref g_3, .ref g_4, .int 0, .int 0, .int 65535, .int 0, .ref g_9, .ref g_10, .ref g_11, .ref g_12, .ref g_13, .ref g_14, .int tk2, .int 0, .int 0, .int ps2, .ref g_19, .ref g_20, .ref g_21, .int 0, .int 0, .int 0])), (g_9, .inl (cI, 16, .inl tb2)), (g_10, .inl (cI, 16, .inl (upd fb i 0))), (g_11, .inl (cI, 16, .inl lg2)), (g_12, .inl (cZ, 192, .inl wA2)), (g_13, .inl (cZ, 192, .inl wB2)), (g_14, .inl (cZ, 144, .inl bO2))]) (va_runS (As := [.int (nI (k / 3))]) (rest := [.int (nI i), .ref g]) ⟨hx, hb, hml, hown, hts⟩ (rc_lattice l dC dI cI cJ cC cZ σ (k / 3) (by (try dsimp only) <;> first | assumption | omega) _) ⟨(callB_of 1 hts (kg wq_728) rfl rfl rfl hini_RM hm_145 (by decide +kernel) ⟨Nat.le_of_ble_eq_true rfl, Nat.le_of_ble_eq_true rfl⟩), hs_145⟩ hpre_62 rfl rfl hl.1 rfl (lv_room (Nat.le_of_ble_eq_true rfl)) d_RM_run_189 ⟨by show 576 * i + 4 * k + 1 ≤ 9216; omega, by show 6912 * i + 48 * k + 12 ≤ 110592; omega⟩) hP hD hS hA [] [0, 1, 2, 3, 4, 5, 6] rfl rfl (by decide) (by decide) (fun _ H locs hP hD hS => ?_)
                                  refine W.cs (cells' := 576 * i + 4 * k + 1) (slots' := 6912 * i + 48 * k + 12) rfl rfl ?_
                                  have hP : va_P (dC, dI) vwCl [(g, .inr (8, [.ref g_0, .ref g_1, .ref g_2, .ref g_3, .ref g_4, .int 0, .int 0, .int 65535, .int 0, .ref g_9, .ref g_10, .ref g_11, .ref g_12, .ref g_13, .ref g_14, .int tk2, .int 0, .int 0, .int ps2, .ref g_19, .ref g_20, .ref g_21, .int 0, .int 0, .int 0])), (g_9, .inl (cI, 16, .inl tb2)), (g_10, .inl (cI, 16, .inl (upd fb i 0))), (g_11, .inl (cI, 16, .inl lg2)), (g_12, .inl (cZ, 192, .inl wA2)), (g_13, .inl (cZ, 192, .inl wB2)), (g_14, .inl (cZ, 144, .inl bO2))] H := hP
                                  have hD : va_D A [(g, .inr (8, [.ref g_0, .ref g_1, .ref g_2, .ref g_3, .ref g_4, .int 0, .int 0, .int 65535, .int 0, .ref g_9, .ref g_10, .ref g_11, .ref g_12, .ref g_13, .ref g_14, .int tk2, .int 0, .int 0, .int ps2, .ref g_19, .ref g_20, .ref g_21, .int 0, .int 0, .int 0])), (g_9, .inl (cI, 16, .inl tb2)), (g_10, .inl (cI, 16, .inl (upd fb i 0))), (g_11, .inl (cI, 16, .inl lg2)), (g_12, .inl (cZ, 192, .inl wA2)), (g_13, .inl (cZ, 192, .inl wB2)), (g_14, .inl (cZ, 144, .inl bO2))] := hD
                                  refine lv_iload hx hb d_RM_run_192 (lv_at hl 0 rfl) ?_
                                  have hpre_63 := kr_pre (wc := []) (av := [.int (nI (k % 3))]) hK hP hD hS hA hSt [] rfl (by decide)
                                  refine kj_im (wc := []) (wr := [(g, .inr (8, [.ref g_0, .ref g_1, .ref g_2, .ref g_3, .ref g_4, .int 0, .int 0, .int 65535, .int 0, .ref g_9, .ref g_10, .ref g_11, .ref g_12, .ref g_13, .ref g_14, .int tk2, .int 0, .int 0, .int ps2, .ref g_19, .ref g_20, .ref g_21, .int 0, .int 0, .int 0])), (g_9, .inl (cI, 16, .inl tb2)), (g_10, .inl (cI, 16, .inl (upd fb i 0))), (g_11, .inl (cI, 16, .inl lg2)), (g_12, .inl (cZ, 192, .inl wA2)), (g_13, .inl (cZ, 192, .inl wB2)), (g_14, .inl (cZ, 144, .inl bO2))]) (va_runS (As := [.int (nI (k % 3))]) (rest := [.int (kLat (k / 3)), .int (nI i), .ref g]) ⟨hx, hb, hml, hown, hts⟩ (rc_lattice l dC dI cI cJ cC cZ σ (k % 3) (by (try dsimp only) <;> first | assumption | omega) _) ⟨(callB_of 1 hts (kg wq_728) rfl rfl rfl hini_RM hm_145 (by decide +kernel) ⟨Nat.le_of_ble_eq_true rfl, Nat.le_of_ble_eq_true rfl⟩), hs_145⟩ hpre_63 rfl rfl hl.1 rfl (lv_room (Nat.le_of_ble_eq_true rfl)) d_RM_run_194 ⟨by show 576 * i + 4 * k + 1 + 1 ≤ 9216; omega, by show 6912 * i + 48 * k + 12 + 12 ≤ 110592; omega⟩) hP hD hS hA [] [0, 1, 2, 3, 4, 5, 6] rfl rfl (by decide) (by decide) (fun _ H locs hP hD hS => ?_)
                                  refine W.cs (cells' := 576 * i + 4 * k + 2) (slots' := 6912 * i + 48 * k + 24) rfl rfl ?_
                                  have hP : va_P (dC, dI) vwCl [(g, .inr (8, [.ref g_0, .ref g_1, .ref g_2, .ref g_3, .ref g_4, .int 0, .int 0, .int 65535, .int 0, .ref g_9, .ref g_10, .ref g_11, .ref g_12, .ref g_13, .ref g_14, .int tk2, .int 0, .int 0, .int ps2, .ref g_19, .ref g_20, .ref g_21, .int 0, .int 0, .int 0])), (g_9, .inl (cI, 16, .inl tb2)), (g_10, .inl (cI, 16, .inl (upd fb i 0))), (g_11, .inl (cI, 16, .inl lg2)), (g_12, .inl (cZ, 192, .inl wA2)), (g_13, .inl (cZ, 192, .inl wB2)), (g_14, .inl (cZ, 144, .inl bO2))] H := hP
                                  have hD : va_D A [(g, .inr (8, [.ref g_0, .ref g_1, .ref g_2, .ref g_3, .ref g_4, .int 0, .int 0, .int 65535, .int 0, .ref g_9, .ref g_10, .ref g_11, .ref g_12, .ref g_13, .ref g_14, .int tk2, .int 0, .int 0, .int ps2, .ref g_19, .ref g_20, .ref g_21, .int 0, .int 0, .int 0])), (g_9, .inl (cI, 16, .inl tb2)), (g_10, .inl (cI, 16, .inl (upd fb i 0))), (g_11, .inl (cI, 16, .inl lg2)), (g_12, .inl (cZ, 192, .inl wA2)), (g_13, .inl (cZ, 192, .inl wB2)), (g_14, .inl (cZ, 144, .inl bO2))] := hD
                                  have hpre_64 := kr_pre (wc := [(g, .inr (8, [.ref g_0, .ref g_1, .ref g_2, .ref g_3, .ref g_4, .int 0, .int 0, .int 65535, .int 0, .ref g_9, .ref g_10, .ref g_11, .ref g_12, .ref g_13, .ref g_14, .int tk2, .int 0, .int 0, .int ps2, .ref g_19, .ref g_20, .ref g_21, .int 0, .int 0, .int 0]))]) (av := [.ref g, .int (nI i), .int (kLat (k / 3)), .int (kLat (k % 3))]) hK hP hD hS hA hSt [0] rfl (by decide)
                                  refine kj_i (wc := [(g, .inr (8, [.ref g_0, .ref g_1, .ref g_2, .ref g_3, .ref g_4, .int 0, .int 0, .int 65535, .int 0, .ref g_9, .ref g_10, .ref g_11, .ref g_12, .ref g_13, .ref g_14, .int tk2, .int 0, .int 0, .int ps2, .ref g_19, .ref g_20, .ref g_21, .int 0, .int 0, .int 0]))]) (wr := [(g_9, .inl (cI, 16, .inl tb2)), (g_10, .inl (cI, 16, .inl (upd fb i 0))), (g_11, .inl (cI, 16, .inl lg2)), (g_12, .inl (cZ, 192, .inl wA2)), (g_13, .inl (cZ, 192, .inl wB2)), (g_14, .inl (cZ, 144, .inl bO2))]) (va_runV (As := [.int (nI i), .int (kLat (k / 3)), .int (kLat (k % 3))]) (rest := []) ⟨hx, hb, hml, hown, hts⟩ (rc_excluded l dC dI cI cJ cC cZ σ g g_0 g_1 g_2 g_3 g_4 g_9 g_10 g_11 g_12 g_13 g_14 g_19 g_20 g_21 ps2 tk2 0 0 (nI i) (kLat (k / 3)) (kLat (k % 3)) _) ⟨(callB_of 3 hts (kg wq_735) rfl rfl rfl hini_RM hm_161 (by decide +kernel) ⟨Nat.le_of_ble_eq_true rfl, Nat.le_of_ble_eq_true rfl⟩), hi_161, hv_161⟩ ⟨hpre_64.1, (va_recv hK hP (ci := 8) (q0 := 0) rfl rfl), hpre_64.2⟩ rfl rfl hl.1 rfl (lv_room (Nat.le_of_ble_eq_true rfl)) d_RM_run_197 ⟨by show 576 * i + 4 * k + 2 + 0 ≤ 9216; omega, by show 6912 * i + 48 * k + 24 + 0 ≤ 110592; omega⟩) hP hD hS hA [0] [1, 2, 3, 4, 5, 6] rfl rfl (by decide) (by decide) (fun _ H locs hP hD hS => ?_)
                                  have hP : va_P (dC, dI) vwCl [(g_9, .inl (cI, 16, .inl tb2)), (g_10, .inl (cI, 16, .inl (upd fb i 0))), (g_11, .inl (cI, 16, .inl lg2)), (g_12, .inl (cZ, 192, .inl wA2)), (g_13, .inl (cZ, 192, .inl wB2)), (g_14, .inl (cZ, 144, .inl bO2)), (g, .inr (8, [.ref g_0, .ref g_1, .ref g_2, .ref g_3, .ref g_4, .int 0, .int 0, .int 65535, .int 0, .ref g_9, .ref g_10, .ref g_11, .ref g_12, .ref g_13, .ref g_14, .int tk2, .int 0, .int 0, .int ps2, .ref g_19, .ref g_20, .ref g_21, .int 0, .int 0, .int 0]))] H := hP
                                  have hD : va_D A [(g_9, .inl (cI, 16, .inl tb2)), (g_10, .inl (cI, 16, .inl (upd fb i 0))), (g_11, .inl (cI, 16, .inl lg2)), (g_12, .inl (cZ, 192, .inl wA2)), (g_13, .inl (cZ, 192, .inl wB2)), (g_14, .inl (cZ, 144, .inl bO2)), (g, .inr (8, [.ref g_0, .ref g_1, .ref g_2, .ref g_3, .ref g_4, .int 0, .int 0, .int 65535, .int 0, .ref g_9, .ref g_10, .ref g_11, .ref g_12, .ref g_13, .ref g_14, .int tk2, .int 0, .int 0, .int ps2, .ref g_19, .ref g_20, .ref g_21, .int 0, .int 0, .int 0]))] := hD
                                  refine lv_if_eq (tgt := 216) hx hb d_RM_run_200 (by decide) (fun c_65 => ?_) (fun c_65 => ?_)
                                  · skip
                                    have c_65 : 0 = 0 := (nI_eq (a := 0) (b := 0) (by omega) (by omega)).mp c_65
                                    refine lv_iload_n hx hb d_RM_run_216 rfl (lv_at hl 6 rfl) ?_
                                    refine lv_if_eq (tgt := 268) hx hb d_RM_run_217 (by decide) (fun c_66 => ?_) (fun c_66 => ?_)
                                    · skip
                                      have c_66 : pr0 = false := kb_0.mp c_66
                                      refine lv_aload_n hx hb d_RM_run_268 rfl (lv_at hl 4 rfl) ?_
                                      refine lv_iload hx hb d_RM_run_269 (lv_at hl 3 rfl) ?_
                                      refine lv_iload hx hb d_RM_run_271 (lv_at hl 1 rfl) ?_
                                      refine lv_iload hx hb d_RM_run_273 (lv_at hl 0 rfl) ?_
                                      have hpre_68 := kr_pre (wc := [(g, .inr (8, [.ref g_0, .ref g_1, .ref g_2, .ref g_3, .ref g_4, .int 0, .int 0, .int 65535, .int 0, .ref g_9, .ref g_10, .ref g_11, .ref g_12, .ref g_13, .ref g_14, .int tk2, .int 0, .int 0, .int ps2, .ref g_19, .ref g_20, .ref g_21, .int 0, .int 0, .int 0])), (g_9, .inl (cI, 16, .inl tb2)), (g_11, .inl (cI, 16, .inl lg2)), (g_12, .inl (cZ, 192, .inl wA2)), (g_13, .inl (cZ, 192, .inl wB2)), (g_14, .inl (cZ, 144, .inl bO2))]) (av := [.ref g, .int (nI i), .int (nI (k / 3)), .int (nI (k % 3))]) hK hP hD hS hA hSt [6, 0, 2, 3, 4, 5] rfl (by decide)
                                      refine kj_v (wc := [(g, .inr (8, [.ref g_0, .ref g_1, .ref g_2, .ref g_3, .ref g_4, .int 0, .int 0, .int 65535, .int 0, .ref g_9, .ref g_10, .ref g_11, .ref g_12, .ref g_13, .ref g_14, .int tk2, .int 0, .int 0, .int ps2, .ref g_19, .ref g_20, .ref g_21, .int 0, .int 0, .int 0])), (g_9, .inl (cI, 16, .inl tb2)), (g_11, .inl (cI, 16, .inl lg2)), (g_12, .inl (cZ, 192, .inl wA2)), (g_13, .inl (cZ, 192, .inl wB2)), (g_14, .inl (cZ, 144, .inl bO2))]) (wr := [(g_10, .inl (cI, 16, .inl (upd fb i 0)))]) (va_runV (As := [.int (nI i), .int (nI (k / 3)), .int (nI (k % 3))]) (rest := []) ⟨hx, hb, hml, hown, hts⟩ (rc_take l dC dI cI cJ cC cZ σ g g_0 g_1 g_2 g_3 g_4 g_9 g_10 g_11 g_12 g_13 g_14 g_19 g_20 g_21 wA2 wB2 bO2 tb2 lg2 ps2 tk2 0 0 i (k / 3) (k % 3) (by (try dsimp only) <;> first | assumption | omega) (by (try dsimp only) <;> first | assumption | omega) (by (try dsimp only) <;> first | assumption | omega) _) ⟨(callB_of 3 hts (kg wq_739) rfl rfl rfl hini_RM hm_165 (by decide +kernel) ⟨Nat.le_of_ble_eq_true rfl, Nat.le_of_ble_eq_true rfl⟩), hi_165, hv_165⟩ ⟨hpre_68.1, (va_recv hK hP (ci := 8) (q0 := 6) rfl rfl), hpre_68.2⟩ rfl rfl hl.1 rfl (lv_room (Nat.le_of_ble_eq_true rfl)) d_RM_run_275 ⟨by show 576 * i + 4 * k + 2 + 2 ≤ 9216; omega, by show 6912 * i + 48 * k + 24 + 24 ≤ 110592; omega⟩) hP hD hS hA [6, 0, 2, 3, 4, 5] [1] rfl rfl (by decide) (by decide) (fun u_67 H locs hP hD hS => ?_)
                                      obtain ⟨withA_67, withB_67, both_67, pairsSeen_67, taken_67, takenBy_67, ledger_67⟩ := u_67
                                      refine W.cs (cells' := 576 * i + 4 * k + 4) (slots' := 6912 * i + 48 * k + 48) rfl rfl ?_
                                      have hP : va_P (dC, dI) vwCl [(g_10, .inl (cI, 16, .inl (upd fb i 0))), (g, .inr (8, [.ref g_0, .ref g_1, .ref g_2, .ref g_3, .ref g_4, .int 0, .int 0, .int 65535, .int 0, .ref g_9, .ref g_10, .ref g_11, .ref g_12, .ref g_13, .ref g_14, .int taken_67, .int 0, .int 0, .int pairsSeen_67, .ref g_19, .ref g_20, .ref g_21, .int 0, .int 0, .int 0])), (g_9, .inl (cI, 16, .inl takenBy_67)), (g_11, .inl (cI, 16, .inl ledger_67)), (g_12, .inl (cZ, 192, .inl withA_67)), (g_13, .inl (cZ, 192, .inl withB_67)), (g_14, .inl (cZ, 144, .inl both_67))] H := hP
                                      have hD : va_D A [(g_10, .inl (cI, 16, .inl (upd fb i 0))), (g, .inr (8, [.ref g_0, .ref g_1, .ref g_2, .ref g_3, .ref g_4, .int 0, .int 0, .int 65535, .int 0, .ref g_9, .ref g_10, .ref g_11, .ref g_12, .ref g_13, .ref g_14, .int taken_67, .int 0, .int 0, .int pairsSeen_67, .ref g_19, .ref g_20, .ref g_21, .int 0, .int 0, .int 0])), (g_9, .inl (cI, 16, .inl takenBy_67)), (g_11, .inl (cI, 16, .inl ledger_67)), (g_12, .inl (cZ, 192, .inl withA_67)), (g_13, .inl (cZ, 192, .inl withB_67)), (g_14, .inl (cZ, 144, .inl both_67))] := hD
                                      refine lv_iinc (v := (nI (k + 1))) (lv' := [(5, .int (nI (k + 1))), (7, .int (nI (k % 3))), (6, .int (nI (k / 3))), (4, .int (nI i)), (0, .ref g), (1, .int b0), (2, .int (kb pr0)), (3, .int 3)]) hx hb d_RM_run_278 hl (k := 2) rfl (nI_1 k) (by decide) rfl (fun ls hl => ?_)
                                      refine lv_goto (tgt := 164) hx hb d_RM_run_281 (by decide) ?_
                                      refine W.widen (k := 576 * i + 4 * (k + 1)) (n := 6912 * i + 48 * (k + 1)) (by omega) (by omega) ?_
                                      exact ih_164 (k + 1) takenBy_67 ledger_67 withA_67 withB_67 both_67 pairsSeen_67 taken_67 (by omega) _ _ (hP.sub [1, 2, 0, 3, 4, 5, 6] rfl) (hD.sub [1, 2, 0, 3, 4, 5, 6] (by decide) rfl) hS ls (lv_sub hl [0, 3, 4, 5, 6, 7] rfl)
                                    · skip
                                      have c_66 : pr0 = true := kb_n.mp c_66
                                      refine lv_aload_n hx hb d_RM_run_220 rfl (lv_at hl 4 rfl) ?_
                                      refine va_get (D := (dC, dI)) (ci := 8) (v := .ref g_12) (C := "KitRunnerModel") (T := T_RM) (N := 25) hx hb hts hin_RM hown hK hP 6 rfl rfl 12 (by decide) hf_39 (fun _ h9 => h9) rfl d_RM_run_221 ?_
                                      refine lv_iload hx hb d_RM_run_224 (lv_at hl 3 rfl) ?_
                                      refine lv_bipush (v := 12) hx hb d_RM_run_226 (by decide) ?_
                                      refine lv_imul hx hb d_RM_run_228 ?_
                                      refine kr_topi (x := (nI i) * 12) (y := nI (i * 12)) (pk_mul i 12) ?_
                                      refine lv_iload hx hb d_RM_run_229 (lv_at hl 1 rfl) ?_
                                      refine lv_iadd hx hb d_RM_run_231 ?_
                                      refine kr_topi (x := (nI (i * 12)) + (nI (k / 3))) (y := nI (i * 12 + k / 3)) (nI_add (i * 12) (k / 3)) ?_
                                      refine kr_zald (k := i * 12 + k / 3) hx hb hK hP 3 3 rfl rfl (by omega) (by first | decide | omega) d_RM_run_232 ?_
                                      refine lv_if_eq (tgt := 268) hx hb d_RM_run_233 (by decide) (fun c_69 => ?_) (fun c_69 => ?_)
                                      · skip
                                        refine lv_aload_n hx hb d_RM_run_268 rfl (lv_at hl 4 rfl) ?_
                                        refine lv_iload hx hb d_RM_run_269 (lv_at hl 3 rfl) ?_
                                        refine lv_iload hx hb d_RM_run_271 (lv_at hl 1 rfl) ?_
                                        refine lv_iload hx hb d_RM_run_273 (lv_at hl 0 rfl) ?_
                                        have hpre_71 := kr_pre (wc := [(g, .inr (8, [.ref g_0, .ref g_1, .ref g_2, .ref g_3, .ref g_4, .int 0, .int 0, .int 65535, .int 0, .ref g_9, .ref g_10, .ref g_11, .ref g_12, .ref g_13, .ref g_14, .int tk2, .int 0, .int 0, .int ps2, .ref g_19, .ref g_20, .ref g_21, .int 0, .int 0, .int 0])), (g_9, .inl (cI, 16, .inl tb2)), (g_11, .inl (cI, 16, .inl lg2)), (g_12, .inl (cZ, 192, .inl wA2)), (g_13, .inl (cZ, 192, .inl wB2)), (g_14, .inl (cZ, 144, .inl bO2))]) (av := [.ref g, .int (nI i), .int (nI (k / 3)), .int (nI (k % 3))]) hK hP hD hS hA hSt [6, 0, 2, 3, 4, 5] rfl (by decide)
                                        refine kj_v (wc := [(g, .inr (8, [.ref g_0, .ref g_1, .ref g_2, .ref g_3, .ref g_4, .int 0, .int 0, .int 65535, .int 0, .ref g_9, .ref g_10, .ref g_11, .ref g_12, .ref g_13, .ref g_14, .int tk2, .int 0, .int 0, .int ps2, .ref g_19, .ref g_20, .ref g_21, .int 0, .int 0, .int 0])), (g_9, .inl (cI, 16, .inl tb2)), (g_11, .inl (cI, 16, .inl lg2)), (g_12, .inl (cZ, 192, .inl wA2)), (g_13, .inl (cZ, 192, .inl wB2)), (g_14, .inl (cZ, 144, .inl bO2))]) (wr := [(g_10, .inl (cI, 16, .inl (upd fb i 0)))]) (va_runV (As := [.int (nI i), .int (nI (k / 3)), .int (nI (k % 3))]) (rest := []) ⟨hx, hb, hml, hown, hts⟩ (rc_take l dC dI cI cJ cC cZ σ g g_0 g_1 g_2 g_3 g_4 g_9 g_10 g_11 g_12 g_13 g_14 g_19 g_20 g_21 wA2 wB2 bO2 tb2 lg2 ps2 tk2 0 0 i (k / 3) (k % 3) (by (try dsimp only) <;> first | assumption | omega) (by (try dsimp only) <;> first | assumption | omega) (by (try dsimp only) <;> first | assumption | omega) _) ⟨(callB_of 3 hts (kg wq_739) rfl rfl rfl hini_RM hm_165 (by decide +kernel) ⟨Nat.le_of_ble_eq_true rfl, Nat.le_of_ble_eq_true rfl⟩), hi_165, hv_165⟩ ⟨hpre_71.1, (va_recv hK hP (ci := 8) (q0 := 6) rfl rfl), hpre_71.2⟩ rfl rfl hl.1 rfl (lv_room (Nat.le_of_ble_eq_true rfl)) d_RM_run_275 ⟨by show 576 * i + 4 * k + 2 + 2 ≤ 9216; omega, by show 6912 * i + 48 * k + 24 + 24 ≤ 110592; omega⟩) hP hD hS hA [6, 0, 2, 3, 4, 5] [1] rfl rfl (by decide) (by decide) (fun u_70 H locs hP hD hS => ?_)
                                        obtain ⟨withA_70, withB_70, both_70, pairsSeen_70, taken_70, takenBy_70, ledger_70⟩ := u_70
                                        refine W.cs (cells' := 576 * i + 4 * k + 4) (slots' := 6912 * i + 48 * k + 48) rfl rfl ?_
                                        have hP : va_P (dC, dI) vwCl [(g_10, .inl (cI, 16, .inl (upd fb i 0))), (g, .inr (8, [.ref g_0, .ref g_1, .ref g_2, .ref g_3, .ref g_4, .int 0, .int 0, .int 65535, .int 0, .ref g_9, .ref g_10, .ref g_11, .ref g_12, .ref g_13, .ref g_14, .int taken_70, .int 0, .int 0, .int pairsSeen_70, .ref g_19, .ref g_20, .ref g_21, .int 0, .int 0, .int 0])), (g_9, .inl (cI, 16, .inl takenBy_70)), (g_11, .inl (cI, 16, .inl ledger_70)), (g_12, .inl (cZ, 192, .inl withA_70)), (g_13, .inl (cZ, 192, .inl withB_70)), (g_14, .inl (cZ, 144, .inl both_70))] H := hP
                                        have hD : va_D A [(g_10, .inl (cI, 16, .inl (upd fb i 0))), (g, .inr (8, [.ref g_0, .ref g_1, .ref g_2, .ref g_3, .ref g_4, .int 0, .int 0, .int 65535, .int 0, .ref g_9, .ref g_10, .ref g_11, .ref g_12, .ref g_13, .ref g_14, .int taken_70, .int 0, .int 0, .int pairsSeen_70, .ref g_19, .ref g_20, .ref g_21, .int 0, .int 0, .int 0])), (g_9, .inl (cI, 16, .inl takenBy_70)), (g_11, .inl (cI, 16, .inl ledger_70)), (g_12, .inl (cZ, 192, .inl withA_70)), (g_13, .inl (cZ, 192, .inl withB_70)), (g_14, .inl (cZ, 144, .inl both_70))] := hD
                                        refine lv_iinc (v := (nI (k + 1))) (lv' := [(5, .int (nI (k + 1))), (7, .int (nI (k % 3))), (6, .int (nI (k / 3))), (4, .int (nI i)), (0, .ref g), (1, .int b0), (2, .int (kb pr0)), (3, .int 3)]) hx hb d_RM_run_278 hl (k := 2) rfl (nI_1 k) (by decide) rfl (fun ls hl => ?_)
                                        refine lv_goto (tgt := 164) hx hb d_RM_run_281 (by decide) ?_
                                        refine W.widen (k := 576 * i + 4 * (k + 1)) (n := 6912 * i + 48 * (k + 1)) (by omega) (by omega) ?_
                                        exact ih_164 (k + 1) takenBy_70 ledger_70 withA_70 withB_70 both_70 pairsSeen_70 taken_70 (by omega) _ _ (hP.sub [1, 2, 0, 3, 4, 5, 6] rfl) (hD.sub [1, 2, 0, 3, 4, 5, 6] (by decide) rfl) hS ls (lv_sub hl [0, 3, 4, 5, 6, 7] rfl)
                                      · skip
                                        refine lv_aload_n hx hb d_RM_run_236 rfl (lv_at hl 4 rfl) ?_
                                        refine va_get (D := (dC, dI)) (ci := 8) (v := .ref g_13) (C := "KitRunnerModel") (T := T_RM) (N := 25) hx hb hts hin_RM hown hK hP 6 rfl rfl 13 (by decide) hf_43 (fun _ h9 => h9) rfl d_RM_run_237 ?_
                                        refine lv_iload hx hb d_RM_run_240 (lv_at hl 3 rfl) ?_
                                        refine lv_bipush (v := 12) hx hb d_RM_run_242 (by decide) ?_
                                        refine lv_imul hx hb d_RM_run_244 ?_
                                        refine kr_topi (x := (nI i) * 12) (y := nI (i * 12)) (pk_mul i 12) ?_
                                        refine lv_iload hx hb d_RM_run_245 (lv_at hl 0 rfl) ?_
                                        refine lv_iadd hx hb d_RM_run_247 ?_
                                        refine kr_topi (x := (nI (i * 12)) + (nI (k % 3))) (y := nI (i * 12 + k % 3)) (nI_add (i * 12) (k % 3)) ?_
                                        refine kr_zald (k := i * 12 + k % 3) hx hb hK hP 4 3 rfl rfl (by omega) (by first | decide | omega) d_RM_run_248 ?_
                                        refine lv_if_eq (tgt := 268) hx hb d_RM_run_249 (by decide) (fun c_72 => ?_) (fun c_72 => ?_)
                                        · skip
                                          refine lv_aload_n hx hb d_RM_run_268 rfl (lv_at hl 4 rfl) ?_
                                          refine lv_iload hx hb d_RM_run_269 (lv_at hl 3 rfl) ?_
                                          refine lv_iload hx hb d_RM_run_271 (lv_at hl 1 rfl) ?_
                                          refine lv_iload hx hb d_RM_run_273 (lv_at hl 0 rfl) ?_
                                          have hpre_74 := kr_pre (wc := [(g, .inr (8, [.ref g_0, .ref g_1, .ref g_2, .ref g_3, .ref g_4, .int 0, .int 0, .int 65535, .int 0, .ref g_9, .ref g_10, .ref g_11, .ref g_12, .ref g_13, .ref g_14, .int tk2, .int 0, .int 0, .int ps2, .ref g_19, .ref g_20, .ref g_21, .int 0, .int 0, .int 0])), (g_9, .inl (cI, 16, .inl tb2)), (g_11, .inl (cI, 16, .inl lg2)), (g_12, .inl (cZ, 192, .inl wA2)), (g_13, .inl (cZ, 192, .inl wB2)), (g_14, .inl (cZ, 144, .inl bO2))]) (av := [.ref g, .int (nI i), .int (nI (k / 3)), .int (nI (k % 3))]) hK hP hD hS hA hSt [6, 0, 2, 3, 4, 5] rfl (by decide)
                                          refine kj_v (wc := [(g, .inr (8, [.ref g_0, .ref g_1, .ref g_2, .ref g_3, .ref g_4, .int 0, .int 0, .int 65535, .int 0, .ref g_9, .ref g_10, .ref g_11, .ref g_12, .ref g_13, .ref g_14, .int tk2, .int 0, .int 0, .int ps2, .ref g_19, .ref g_20, .ref g_21, .int 0, .int 0, .int 0])), (g_9, .inl (cI, 16, .inl tb2)), (g_11, .inl (cI, 16, .inl lg2)), (g_12, .inl (cZ, 192, .inl wA2)), (g_13, .inl (cZ, 192, .inl wB2)), (g_14, .inl (cZ, 144, .inl bO2))]) (wr := [(g_10, .inl (cI, 16, .inl (upd fb i 0)))]) (va_runV (As := [.int (nI i), .int (nI (k / 3)), .int (nI (k % 3))]) (rest := []) ⟨hx, hb, hml, hown, hts⟩ (rc_take l dC dI cI cJ cC cZ σ g g_0 g_1 g_2 g_3 g_4 g_9 g_10 g_11 g_12 g_13 g_14 g_19 g_20 g_21 wA2 wB2 bO2 tb2 lg2 ps2 tk2 0 0 i (k / 3) (k % 3) (by (try dsimp only) <;> first | assumption | omega) (by (try dsimp only) <;> first | assumption | omega) (by (try dsimp only) <;> first | assumption | omega) _) ⟨(callB_of 3 hts (kg wq_739) rfl rfl rfl hini_RM hm_165 (by decide +kernel) ⟨Nat.le_of_ble_eq_true rfl, Nat.le_of_ble_eq_true rfl⟩), hi_165, hv_165⟩ ⟨hpre_74.1, (va_recv hK hP (ci := 8) (q0 := 6) rfl rfl), hpre_74.2⟩ rfl rfl hl.1 rfl (lv_room (Nat.le_of_ble_eq_true rfl)) d_RM_run_275 ⟨by show 576 * i + 4 * k + 2 + 2 ≤ 9216; omega, by show 6912 * i + 48 * k + 24 + 24 ≤ 110592; omega⟩) hP hD hS hA [6, 0, 2, 3, 4, 5] [1] rfl rfl (by decide) (by decide) (fun u_73 H locs hP hD hS => ?_)
                                          obtain ⟨withA_73, withB_73, both_73, pairsSeen_73, taken_73, takenBy_73, ledger_73⟩ := u_73
                                          refine W.cs (cells' := 576 * i + 4 * k + 4) (slots' := 6912 * i + 48 * k + 48) rfl rfl ?_
                                          have hP : va_P (dC, dI) vwCl [(g_10, .inl (cI, 16, .inl (upd fb i 0))), (g, .inr (8, [.ref g_0, .ref g_1, .ref g_2, .ref g_3, .ref g_4, .int 0, .int 0, .int 65535, .int 0, .ref g_9, .ref g_10, .ref g_11, .ref g_12, .ref g_13, .ref g_14, .int taken_73, .int 0, .int 0, .int pairsSeen_73, .ref g_19, .ref g_20, .ref g_21, .int 0, .int 0, .int 0])), (g_9, .inl (cI, 16, .inl takenBy_73)), (g_11, .inl (cI, 16, .inl ledger_73)), (g_12, .inl (cZ, 192, .inl withA_73)), (g_13, .inl (cZ, 192, .inl withB_73)), (g_14, .inl (cZ, 144, .inl both_73))] H := hP
                                          have hD : va_D A [(g_10, .inl (cI, 16, .inl (upd fb i 0))), (g, .inr (8, [.ref g_0, .ref g_1, .ref g_2, .ref g_3, .ref g_4, .int 0, .int 0, .int 65535, .int 0, .ref g_9, .ref g_10, .ref g_11, .ref g_12, .ref g_13, .ref g_14, .int taken_73, .int 0, .int 0, .int pairsSeen_73, .ref g_19, .ref g_20, .ref g_21, .int 0, .int 0, .int 0])), (g_9, .inl (cI, 16, .inl takenBy_73)), (g_11, .inl (cI, 16, .inl ledger_73)), (g_12, .inl (cZ, 192, .inl withA_73)), (g_13, .inl (cZ, 192, .inl withB_73)), (g_14, .inl (cZ, 144, .inl both_73))] := hD
                                          refine lv_iinc (v := (nI (k + 1))) (lv' := [(5, .int (nI (k + 1))), (7, .int (nI (k % 3))), (6, .int (nI (k / 3))), (4, .int (nI i)), (0, .ref g), (1, .int b0), (2, .int (kb pr0)), (3, .int 3)]) hx hb d_RM_run_278 hl (k := 2) rfl (nI_1 k) (by decide) rfl (fun ls hl => ?_)
                                          refine lv_goto (tgt := 164) hx hb d_RM_run_281 (by decide) ?_
                                          refine W.widen (k := 576 * i + 4 * (k + 1)) (n := 6912 * i + 48 * (k + 1)) (by omega) (by omega) ?_
                                          exact ih_164 (k + 1) takenBy_73 ledger_73 withA_73 withB_73 both_73 pairsSeen_73 taken_73 (by omega) _ _ (hP.sub [1, 2, 0, 3, 4, 5, 6] rfl) (hD.sub [1, 2, 0, 3, 4, 5, 6] (by decide) rfl) hS ls (lv_sub hl [0, 3, 4, 5, 6, 7] rfl)
                                        · skip
                                          refine lv_aload_n hx hb d_RM_run_252 rfl (lv_at hl 4 rfl) ?_
                                          refine va_get (D := (dC, dI)) (ci := 8) (v := .ref g_14) (C := "KitRunnerModel") (T := T_RM) (N := 25) hx hb hts hin_RM hown hK hP 6 rfl rfl 14 (by decide) hf_46 (fun _ h9 => h9) rfl d_RM_run_253 ?_
                                          refine lv_iload hx hb d_RM_run_256 (lv_at hl 1 rfl) ?_
                                          refine lv_bipush (v := 12) hx hb d_RM_run_258 (by decide) ?_
                                          refine lv_imul hx hb d_RM_run_260 ?_
                                          refine kr_topi (x := (nI (k / 3)) * 12) (y := nI ((k / 3) * 12)) (pk_mul (k / 3) 12) ?_
                                          refine lv_iload hx hb d_RM_run_261 (lv_at hl 0 rfl) ?_
                                          refine lv_iadd hx hb d_RM_run_263 ?_
                                          refine kr_topi (x := (nI ((k / 3) * 12)) + (nI (k % 3))) (y := nI ((k / 3) * 12 + k % 3)) (nI_add ((k / 3) * 12) (k % 3)) ?_
                                          refine kr_zald (k := (k / 3) * 12 + k % 3) hx hb hK hP 5 3 rfl rfl (by omega) (by first | decide | omega) d_RM_run_264 ?_
                                          refine lv_if_ne (tgt := 278) hx hb d_RM_run_265 (by decide) (fun c_75 => ?_) (fun c_75 => ?_)
                                          · skip
                                            refine lv_iinc (v := (nI (k + 1))) (lv' := [(5, .int (nI (k + 1))), (7, .int (nI (k % 3))), (6, .int (nI (k / 3))), (4, .int (nI i)), (0, .ref g), (1, .int b0), (2, .int (kb pr0)), (3, .int 3)]) hx hb d_RM_run_278 hl (k := 2) rfl (nI_1 k) (by decide) rfl (fun ls hl => ?_)
                                            refine lv_goto (tgt := 164) hx hb d_RM_run_281 (by decide) ?_
                                            refine W.widen (k := 576 * i + 4 * (k + 1)) (n := 6912 * i + 48 * (k + 1)) (by omega) (by omega) ?_
                                            exact ih_164 (k + 1) tb2 lg2 wA2 wB2 bO2 ps2 tk2 (by omega) _ _ (hP.sub [6, 0, 1, 2, 3, 4, 5] rfl) (hD.sub [6, 0, 1, 2, 3, 4, 5] (by decide) rfl) hS ls (lv_sub hl [0, 3, 4, 5, 6, 7] rfl)
                                          · skip
                                            refine lv_aload_n hx hb d_RM_run_268 rfl (lv_at hl 4 rfl) ?_
                                            refine lv_iload hx hb d_RM_run_269 (lv_at hl 3 rfl) ?_
                                            refine lv_iload hx hb d_RM_run_271 (lv_at hl 1 rfl) ?_
                                            refine lv_iload hx hb d_RM_run_273 (lv_at hl 0 rfl) ?_
                                            have hpre_77 := kr_pre (wc := [(g, .inr (8, [.ref g_0, .ref g_1, .ref g_2, .ref g_3, .ref g_4, .int 0, .int 0, .int 65535, .int 0, .ref g_9, .ref g_10, .ref g_11, .ref g_12, .ref g_13, .ref g_14, .int tk2, .int 0, .int 0, .int ps2, .ref g_19, .ref g_20, .ref g_21, .int 0, .int 0, .int 0])), (g_9, .inl (cI, 16, .inl tb2)), (g_11, .inl (cI, 16, .inl lg2)), (g_12, .inl (cZ, 192, .inl wA2)), (g_13, .inl (cZ, 192, .inl wB2)), (g_14, .inl (cZ, 144, .inl bO2))]) (av := [.ref g, .int (nI i), .int (nI (k / 3)), .int (nI (k % 3))]) hK hP hD hS hA hSt [6, 0, 2, 3, 4, 5] rfl (by decide)
                                            refine kj_v (wc := [(g, .inr (8, [.ref g_0, .ref g_1, .ref g_2, .ref g_3, .ref g_4, .int 0, .int 0, .int 65535, .int 0, .ref g_9, .ref g_10, .ref g_11, .ref g_12, .ref g_13, .ref g_14, .int tk2, .int 0, .int 0, .int ps2, .ref g_19, .ref g_20, .ref g_21, .int 0, .int 0, .int 0])), (g_9, .inl (cI, 16, .inl tb2)), (g_11, .inl (cI, 16, .inl lg2)), (g_12, .inl (cZ, 192, .inl wA2)), (g_13, .inl (cZ, 192, .inl wB2)), (g_14, .inl (cZ, 144, .inl bO2))]) (wr := [(g_10, .inl (cI, 16, .inl (upd fb i 0)))]) (va_runV (As := [.int (nI i), .int (nI (k / 3)), .int (nI (k % 3))]) (rest := []) ⟨hx, hb, hml, hown, hts⟩ (rc_take l dC dI cI cJ cC cZ σ g g_0 g_1 g_2 g_3 g_4 g_9 g_10 g_11 g_12 g_13 g_14 g_19 g_20 g_21 wA2 wB2 bO2 tb2 lg2 ps2 tk2 0 0 i (k / 3) (k % 3) (by (try dsimp only) <;> first | assumption | omega) (by (try dsimp only) <;> first | assumption | omega) (by (try dsimp only) <;> first | assumption | omega) _) ⟨(callB_of 3 hts (kg wq_739) rfl rfl rfl hini_RM hm_165 (by decide +kernel) ⟨Nat.le_of_ble_eq_true rfl, Nat.le_of_ble_eq_true rfl⟩), hi_165, hv_165⟩ ⟨hpre_77.1, (va_recv hK hP (ci := 8) (q0 := 6) rfl rfl), hpre_77.2⟩ rfl rfl hl.1 rfl (lv_room (Nat.le_of_ble_eq_true rfl)) d_RM_run_275 ⟨by show 576 * i + 4 * k + 2 + 2 ≤ 9216; omega, by show 6912 * i + 48 * k + 24 + 24 ≤ 110592; omega⟩) hP hD hS hA [6, 0, 2, 3, 4, 5] [1] rfl rfl (by decide) (by decide) (fun u_76 H locs hP hD hS => ?_)
                                            obtain ⟨withA_76, withB_76, both_76, pairsSeen_76, taken_76, takenBy_76, ledger_76⟩ := u_76
                                            refine W.cs (cells' := 576 * i + 4 * k + 4) (slots' := 6912 * i + 48 * k + 48) rfl rfl ?_
                                            have hP : va_P (dC, dI) vwCl [(g_10, .inl (cI, 16, .inl (upd fb i 0))), (g, .inr (8, [.ref g_0, .ref g_1, .ref g_2, .ref g_3, .ref g_4, .int 0, .int 0, .int 65535, .int 0, .ref g_9, .ref g_10, .ref g_11, .ref g_12, .ref g_13, .ref g_14, .int taken_76, .int 0, .int 0, .int pairsSeen_76, .ref g_19, .ref g_20, .ref g_21, .int 0, .int 0, .int 0])), (g_9, .inl (cI, 16, .inl takenBy_76)), (g_11, .inl (cI, 16, .inl ledger_76)), (g_12, .inl (cZ, 192, .inl withA_76)), (g_13, .inl (cZ, 192, .inl withB_76)), (g_14, .inl (cZ, 144, .inl both_76))] H := hP
                                            have hD : va_D A [(g_10, .inl (cI, 16, .inl (upd fb i 0))), (g, .inr (8, [.ref g_0, .ref g_1, .ref g_2, .ref g_3, .ref g_4, .int 0, .int 0, .int 65535, .int 0, .ref g_9, .ref g_10, .ref g_11, .ref g_12, .ref g_13, .ref g_14, .int taken_76, .int 0, .int 0, .int pairsSeen_76, .ref g_19, .ref g_20, .ref g_21, .int 0, .int 0, .int 0])), (g_9, .inl (cI, 16, .inl takenBy_76)), (g_11, .inl (cI, 16, .inl ledger_76)), (g_12, .inl (cZ, 192, .inl withA_76)), (g_13, .inl (cZ, 192, .inl withB_76)), (g_14, .inl (cZ, 144, .inl both_76))] := hD
                                            refine lv_iinc (v := (nI (k + 1))) (lv' := [(5, .int (nI (k + 1))), (7, .int (nI (k % 3))), (6, .int (nI (k / 3))), (4, .int (nI i)), (0, .ref g), (1, .int b0), (2, .int (kb pr0)), (3, .int 3)]) hx hb d_RM_run_278 hl (k := 2) rfl (nI_1 k) (by decide) rfl (fun ls hl => ?_)
                                            refine lv_goto (tgt := 164) hx hb d_RM_run_281 (by decide) ?_
                                            refine W.widen (k := 576 * i + 4 * (k + 1)) (n := 6912 * i + 48 * (k + 1)) (by omega) (by omega) ?_
                                            exact ih_164 (k + 1) takenBy_76 ledger_76 withA_76 withB_76 both_76 pairsSeen_76 taken_76 (by omega) _ _ (hP.sub [1, 2, 0, 3, 4, 5, 6] rfl) (hD.sub [1, 2, 0, 3, 4, 5, 6] (by decide) rfl) hS ls (lv_sub hl [0, 3, 4, 5, 6, 7] rfl)
                                  · skip
                                    exact absurd c_65 (by decide)
                            refine W.widen (k := 576 * i + 4 * 0) (n := 6912 * i + 48 * 0) (by omega) (by omega) ?_
                            exact loop_164 9 0 (upd tb i 0) (upd lg i 0) wA wB bO ps tk (by omega) _ _ (hP.sub [0, 1, 2, 3, 4, 5, 6] rfl) (hD.sub [0, 1, 2, 3, 4, 5, 6] (by decide) rfl) hS ls (lv_sub hl [0, 1, 2, 3, 4, 5] rfl)
                          · skip
                            refine lv_goto (tgt := 284) hx hb d_RM_run_158 (by decide) ?_
                            refine lv_iinc (v := (nI (i + 1))) (lv' := [(4, .int (nI (i + 1))), (0, .ref g), (1, .int b0), (2, .int (kb pr0)), (3, .int 3)]) hx hb d_RM_run_284 hl (k := 0) rfl (nI_1 i) (by decide) rfl (fun ls hl => ?_)
                            refine lv_goto (tgt := 115) hx hb d_RM_run_287 (by decide) ?_
                            refine W.widen (k := 576 * (i + 1)) (n := 6912 * (i + 1)) (by omega) (by omega) ?_
                            exact ih_115 (i + 1) (upd tb i 0) (upd fb i 0) (upd lg i 0) wA wB bO ps tk (by omega) _ _ (hP.sub [0, 1, 2, 3, 4, 5, 6] rfl) (hD.sub [0, 1, 2, 3, 4, 5, 6] (by decide) rfl) hS ls (lv_sub hl [0, 1, 2, 3, 4] rfl)
                    refine W.widen (k := 576 * 0) (n := 6912 * 0) (by omega) (by omega) ?_
                    exact loop_115 16 0 (fun _ => 0) (fun _ => 0) (fun _ => 0) wa wb bo 0 0 (by omega) _ _ (hP.sub [0, 1, 2, 3, 4, 5, 6] rfl) (hD.sub [0, 1, 2, 3, 4, 5, 6] (by decide) rfl) hS ls (lv_sub hl [0, 1, 2, 3, 4] rfl)
                  · skip
                    have c_56 : ¬ 144 ≤ k := fun h9 => c_56 ((nI_leI (a := 144) (b := k) (by omega) (by omega)).mpr h9)
                    exfalso; omega
                | succ n ih_90 =>
                  intro k bo hk H locs hP hD hS ls hl
                  refine lv_iload hx hb d_RM_run_90 (lv_at hl 0 rfl) ?_
                  refine lv_sipush (v := 144) hx hb d_RM_run_92 (by decide) ?_
                  refine lv_icmp_ge (tgt := 112) hx hb d_RM_run_95 (by decide) (fun c_78 => ?_) (fun c_78 => ?_)
                  · skip
                    have c_78 : 144 ≤ k := (nI_leI (a := 144) (b := k) (by omega) (by omega)).mp c_78
                    exfalso; omega
                  · skip
                    have c_78 : ¬ 144 ≤ k := fun h9 => c_78 ((nI_leI (a := 144) (b := k) (by omega) (by omega)).mpr h9)
                    refine lv_aload_n hx hb d_RM_run_98 rfl (lv_at hl 1 rfl) ?_
                    refine va_get (D := (dC, dI)) (ci := 8) (v := .ref g_14) (C := "KitRunnerModel") (T := T_RM) (N := 25) hx hb hts hin_RM hown hK hP 0 rfl rfl 14 (by decide) hf_46 (fun _ h9 => h9) rfl d_RM_run_99 ?_
                    refine lv_iload hx hb d_RM_run_102 (lv_at hl 0 rfl) ?_
                    refine lv_iconst (v := 0) hx hb d_RM_run_104 (by decide) ?_
                    refine kr_zast (k := k) hx hb hK hP hD hS 6 3 rfl rfl (by omega) (by first | decide | omega) rfl d_RM_run_105 (fun H locs hP hD hS => ?_)
                    have hP : va_P (dC, dI) vwCl [(g, .inr (8, [.ref g_0, .ref g_1, .ref g_2, .ref g_3, .ref g_4, .int 0, .int 0, .int 65535, .int 0, .ref g_9, .ref g_10, .ref g_11, .ref g_12, .ref g_13, .ref g_14, .int 0, .int 0, .int 0, .int 0, .ref g_19, .ref g_20, .ref g_21, .int 0, .int 0, .int 0])), (g_9, .inl (cI, 16, .inl (fun _ => 0))), (g_10, .inl (cI, 16, .inl (fun _ => 0))), (g_11, .inl (cI, 16, .inl (fun _ => 0))), (g_12, .inl (cZ, 192, .inl wa)), (g_13, .inl (cZ, 192, .inl wb)), (g_14, .inl (cZ, 144, .inl (upd bo k 0)))] H := hP
                    have hD : va_D A [(g, .inr (8, [.ref g_0, .ref g_1, .ref g_2, .ref g_3, .ref g_4, .int 0, .int 0, .int 65535, .int 0, .ref g_9, .ref g_10, .ref g_11, .ref g_12, .ref g_13, .ref g_14, .int 0, .int 0, .int 0, .int 0, .ref g_19, .ref g_20, .ref g_21, .int 0, .int 0, .int 0])), (g_9, .inl (cI, 16, .inl (fun _ => 0))), (g_10, .inl (cI, 16, .inl (fun _ => 0))), (g_11, .inl (cI, 16, .inl (fun _ => 0))), (g_12, .inl (cZ, 192, .inl wa)), (g_13, .inl (cZ, 192, .inl wb)), (g_14, .inl (cZ, 144, .inl (upd bo k 0)))] := hD
                    refine lv_iinc (v := (nI (k + 1))) (lv' := [(4, .int (nI (k + 1))), (0, .ref g), (1, .int b0), (2, .int (kb pr0)), (3, .int 3)]) hx hb d_RM_run_106 hl (k := 0) rfl (nI_1 k) (by decide) rfl (fun ls hl => ?_)
                    refine lv_goto (tgt := 90) hx hb d_RM_run_109 (by decide) ?_
                    exact ih_90 (k + 1) (upd bo k 0) (by omega) _ _ (hP.sub [0, 1, 2, 3, 4, 5, 6] rfl) (hD.sub [0, 1, 2, 3, 4, 5, 6] (by decide) rfl) hS ls (lv_sub hl [0, 1, 2, 3, 4] rfl)
              exact loop_90 144 0 (fun _ => 0) (by omega) _ _ (hP.sub [0, 1, 2, 3, 4, 5, 6] rfl) (hD.sub [0, 1, 2, 3, 4, 5, 6] (by decide) rfl) hS ls (lv_sub hl [0, 1, 2, 3, 4] rfl)
            · skip
              have c_55 : ¬ 192 ≤ k := fun h9 => c_55 ((nI_leI (a := 192) (b := k) (by omega) (by omega)).mpr h9)
              exfalso; omega
          | succ n ih_57 =>
            intro k wa wb hk H locs hP hD hS ls hl
            refine lv_iload hx hb d_RM_run_57 (lv_at hl 0 rfl) ?_
            refine lv_sipush (v := 192) hx hb d_RM_run_59 (by decide) ?_
            refine lv_icmp_ge (tgt := 87) hx hb d_RM_run_62 (by decide) (fun c_79 => ?_) (fun c_79 => ?_)
            · skip
              have c_79 : 192 ≤ k := (nI_leI (a := 192) (b := k) (by omega) (by omega)).mp c_79
              exfalso; omega
            · skip
              have c_79 : ¬ 192 ≤ k := fun h9 => c_79 ((nI_leI (a := 192) (b := k) (by omega) (by omega)).mpr h9)
              refine lv_aload_n hx hb d_RM_run_65 rfl (lv_at hl 1 rfl) ?_
              refine va_get (D := (dC, dI)) (ci := 8) (v := .ref g_12) (C := "KitRunnerModel") (T := T_RM) (N := 25) hx hb hts hin_RM hown hK hP 0 rfl rfl 12 (by decide) hf_39 (fun _ h9 => h9) rfl d_RM_run_66 ?_
              refine lv_iload hx hb d_RM_run_69 (lv_at hl 0 rfl) ?_
              refine lv_aload_n hx hb d_RM_run_71 rfl (lv_at hl 1 rfl) ?_
              refine va_get (D := (dC, dI)) (ci := 8) (v := .ref g_13) (C := "KitRunnerModel") (T := T_RM) (N := 25) hx hb hts hin_RM hown hK hP 0 rfl rfl 13 (by decide) hf_43 (fun _ h9 => h9) rfl d_RM_run_72 ?_
              refine lv_iload hx hb d_RM_run_75 (lv_at hl 0 rfl) ?_
              refine lv_iconst (v := 0) hx hb d_RM_run_77 (by decide) ?_
              refine lv_dup_x2 hx hb d_RM_run_78 rfl rfl rfl ?_
              refine kr_zast (k := k) hx hb hK hP hD hS 5 3 rfl rfl (by omega) (by first | decide | omega) rfl d_RM_run_79 (fun H locs hP hD hS => ?_)
              have hP : va_P (dC, dI) vwCl [(g, .inr (8, [.ref g_0, .ref g_1, .ref g_2, .ref g_3, .ref g_4, .int 0, .int 0, .int 65535, .int 0, .ref g_9, .ref g_10, .ref g_11, .ref g_12, .ref g_13, .ref g_14, .int 0, .int 0, .int 0, .int 0, .ref g_19, .ref g_20, .ref g_21, .int 0, .int 0, .int 0])), (g_9, .inl (cI, 16, .inl (fun _ => 0))), (g_10, .inl (cI, 16, .inl (fun _ => 0))), (g_11, .inl (cI, 16, .inl (fun _ => 0))), (g_12, .inl (cZ, 192, .inl wa)), (g_13, .inl (cZ, 192, .inl (upd wb k 0))), (g_14, .inl (cZ, 144, .inl (fun _ => 0)))] H := hP
              have hD : va_D A [(g, .inr (8, [.ref g_0, .ref g_1, .ref g_2, .ref g_3, .ref g_4, .int 0, .int 0, .int 65535, .int 0, .ref g_9, .ref g_10, .ref g_11, .ref g_12, .ref g_13, .ref g_14, .int 0, .int 0, .int 0, .int 0, .ref g_19, .ref g_20, .ref g_21, .int 0, .int 0, .int 0])), (g_9, .inl (cI, 16, .inl (fun _ => 0))), (g_10, .inl (cI, 16, .inl (fun _ => 0))), (g_11, .inl (cI, 16, .inl (fun _ => 0))), (g_12, .inl (cZ, 192, .inl wa)), (g_13, .inl (cZ, 192, .inl (upd wb k 0))), (g_14, .inl (cZ, 144, .inl (fun _ => 0)))] := hD
              refine kr_zast (k := k) hx hb hK hP hD hS 4 3 rfl rfl (by omega) (by first | decide | omega) rfl d_RM_run_80 (fun H locs hP hD hS => ?_)
              have hP : va_P (dC, dI) vwCl [(g, .inr (8, [.ref g_0, .ref g_1, .ref g_2, .ref g_3, .ref g_4, .int 0, .int 0, .int 65535, .int 0, .ref g_9, .ref g_10, .ref g_11, .ref g_12, .ref g_13, .ref g_14, .int 0, .int 0, .int 0, .int 0, .ref g_19, .ref g_20, .ref g_21, .int 0, .int 0, .int 0])), (g_9, .inl (cI, 16, .inl (fun _ => 0))), (g_10, .inl (cI, 16, .inl (fun _ => 0))), (g_11, .inl (cI, 16, .inl (fun _ => 0))), (g_12, .inl (cZ, 192, .inl (upd wa k 0))), (g_13, .inl (cZ, 192, .inl (upd wb k 0))), (g_14, .inl (cZ, 144, .inl (fun _ => 0)))] H := hP
              have hD : va_D A [(g, .inr (8, [.ref g_0, .ref g_1, .ref g_2, .ref g_3, .ref g_4, .int 0, .int 0, .int 65535, .int 0, .ref g_9, .ref g_10, .ref g_11, .ref g_12, .ref g_13, .ref g_14, .int 0, .int 0, .int 0, .int 0, .ref g_19, .ref g_20, .ref g_21, .int 0, .int 0, .int 0])), (g_9, .inl (cI, 16, .inl (fun _ => 0))), (g_10, .inl (cI, 16, .inl (fun _ => 0))), (g_11, .inl (cI, 16, .inl (fun _ => 0))), (g_12, .inl (cZ, 192, .inl (upd wa k 0))), (g_13, .inl (cZ, 192, .inl (upd wb k 0))), (g_14, .inl (cZ, 144, .inl (fun _ => 0)))] := hD
              refine lv_iinc (v := (nI (k + 1))) (lv' := [(4, .int (nI (k + 1))), (0, .ref g), (1, .int b0), (2, .int (kb pr0)), (3, .int 3)]) hx hb d_RM_run_81 hl (k := 0) rfl (nI_1 k) (by decide) rfl (fun ls hl => ?_)
              refine lv_goto (tgt := 57) hx hb d_RM_run_84 (by decide) ?_
              exact ih_57 (k + 1) (upd wa k 0) (upd wb k 0) (by omega) _ _ (hP.sub [0, 1, 2, 3, 4, 5, 6] rfl) (hD.sub [0, 1, 2, 3, 4, 5, 6] (by decide) rfl) hS ls (lv_sub hl [0, 1, 2, 3, 4] rfl)
        exact loop_57 192 0 (fun _ => 0) (fun _ => 0) (by omega) _ _ (hP.sub [0, 1, 2, 3, 4, 5, 6] rfl) (hD.sub [0, 1, 2, 3, 4, 5, 6] (by decide) rfl) hS ls (lv_sub hl [0, 2, 3, 4, 1] rfl)
    · skip
      refine lv_iconst (v := (-1)) hx hb d_RM_run_10 (by decide) ?_
      have hpost : r_run b0 = -1 := by simp only [r_run, if_neg c_1, if_neg c_2]
      refine W.widen (k := 9216) (n := 110592) (by omega) (by omega) ?_
      have hP9 := hP.sub (ws' := []) [] rfl
      have hD9 := hD.sub (ws' := []) [] (by decide) rfl
      exact kr_iret (v := (-1)) hQ hx hb hr hlocks hK hP9 hD9 hS (by rw [hpost] <;> rfl) () rfl d_RM_run_11
