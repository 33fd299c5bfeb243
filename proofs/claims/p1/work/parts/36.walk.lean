set_option maxHeartbeats 4000000 in
set_option maxRecDepth 100000 in
theorem rc_take (l : Launch) (dC : Nat → ClassId) (dI : Nat → Nat → Nat) (cI cJ cC cZ : ClassId) (σ : kSg) (g g_0 g_1 g_2 g_3 g_4 g_9 g_10 g_11 g_12 g_13 g_14 g_19 g_20 g_21 : Nat) (wa : Nat → Int32) (wb : Nat → Int32) (bo : Nat → Int32) (tb : Nat → Int32) (lg : Nat → Int32) (ps : Int32) (tk : Int32) (lf : Int32) (rn : Int32) (e0 : Nat) (i0 : Nat) (j0 : Nat) (he : e0 < 16) (hi0 : i0 < 12) (hj0 : j0 < 12) : kC l y_RM_take ws_RM_take (kRm 3 2 24 72) (dC, dI) (kTy cI cJ cC cZ) σ ([(g, .inr (8, [.ref g_0, .ref g_1, .ref g_2, .ref g_3, .ref g_4, .int 0, .int 0, .int 65535, .int rn, .ref g_9, .ref g_10, .ref g_11, .ref g_12, .ref g_13, .ref g_14, .int tk, .int 0, .int lf, .int ps, .ref g_19, .ref g_20, .ref g_21, .int 0, .int 0, .int 0])), (g_9, .inl (cI, 16, .inl tb)), (g_11, .inl (cI, 16, .inl lg)), (g_12, .inl (cZ, 192, .inl wa)), (g_13, .inl (cZ, 192, .inl wb)), (g_14, .inl (cZ, 144, .inl bo))]) [.ref g, .int (nI e0), .int (nI i0), .int (nI j0)] (kQv (dC, dI) (kTy cI cJ cC cZ) (fun u : (Nat → Int32) × (Nat → Int32) × (Nat → Int32) × (Int32) × (Int32) × (Nat → Int32) × (Nat → Int32) => [(g, .inr (8, [.ref g_0, .ref g_1, .ref g_2, .ref g_3, .ref g_4, .int 0, .int 0, .int 65535, .int rn, .ref g_9, .ref g_10, .ref g_11, .ref g_12, .ref g_13, .ref g_14, .int u.2.2.2.2.1, .int 0, .int lf, .int u.2.2.2.1, .ref g_19, .ref g_20, .ref g_21, .int 0, .int 0, .int 0])), (g_9, .inl (cI, 16, .inl u.2.2.2.2.2.1)), (g_11, .inl (cI, 16, .inl u.2.2.2.2.2.2)), (g_12, .inl (cZ, 192, .inl u.1)), (g_13, .inl (cZ, 192, .inl u.2.1)), (g_14, .inl (cZ, 144, .inl u.2.2.1))])) 2 24 := by
  refine kr_met (cc := prog_12_method_15_code) (maxL := 10) (ret := none) (by decide) rfl (Nat.le_of_ble_eq_true rfl) ?_
  intro p e s m args below meth c A Q hQ hx hb hr hml hts hown hlocks hnm hA hP hK hD hSt ls hl
  have hS : va_S A s.heap s.heap [] := va_S.rf
  have hown : s.vm.findClass "KitRunnerModel" = some m.cls := hown
  have hl : lv_has ls 10 [(0, .ref g), (1, .int (nI e0)), (2, .int (nI i0)), (3, .int (nI j0))] := hl
  have hP : va_P (dC, dI) vwCl [(g, .inr (8, [.ref g_0, .ref g_1, .ref g_2, .ref g_3, .ref g_4, .int 0, .int 0, .int 65535, .int rn, .ref g_9, .ref g_10, .ref g_11, .ref g_12, .ref g_13, .ref g_14, .int tk, .int 0, .int lf, .int ps, .ref g_19, .ref g_20, .ref g_21, .int 0, .int 0, .int 0])), (g_9, .inl (cI, 16, .inl tb)), (g_11, .inl (cI, 16, .inl lg)), (g_12, .inl (cZ, 192, .inl wa)), (g_13, .inl (cZ, 192, .inl wb)), (g_14, .inl (cZ, 144, .inl bo))] s.heap := hP
  have hD : va_D A [(g, .inr (8, [.ref g_0, .ref g_1, .ref g_2, .ref g_3, .ref g_4, .int 0, .int 0, .int 65535, .int rn, .ref g_9, .ref g_10, .ref g_11, .ref g_12, .ref g_13, .ref g_14, .int tk, .int 0, .int lf, .int ps, .ref g_19, .ref g_20, .ref g_21, .int 0, .int 0, .int 0])), (g_9, .inl (cI, 16, .inl tb)), (g_11, .inl (cI, 16, .inl lg)), (g_12, .inl (cZ, 192, .inl wa)), (g_13, .inl (cZ, 192, .inl wb)), (g_14, .inl (cZ, 144, .inl bo))] := hD
  have hini_RM := hts _ (List.mem_cons_of_mem _ wq_9)
  have hm_145 := hts _ (List.mem_cons_of_mem _ wq_726)
  have hs_145 := hts _ (List.mem_cons_of_mem _ wq_727)
  have hf_39 := hts _ (List.mem_cons_of_mem _ wq_588)
  have hin_RM := fun w (h : w ∈ u_ws "KitRunnerModel" T_RM 25) => List.mem_cons_of_mem (Cond.code y_RM_take prog_12_method_15_code 10 none) (in_RM w h)
  have hf_43 := hts _ (List.mem_cons_of_mem _ wq_589)
  have hf_46 := hts _ (List.mem_cons_of_mem _ wq_590)
  have hf_152 := hts _ (List.mem_cons_of_mem _ wq_591)
  have hf_30 := hts _ (List.mem_cons_of_mem _ wq_585)
  have hm_132 := hts _ (List.mem_cons_of_mem _ wq_705)
  have hs_132 := hts _ (List.mem_cons_of_mem _ wq_706)
  have hm_142 := hts _ (List.mem_cons_of_mem _ wq_701)
  have hi_142 := hts _ (List.mem_cons_of_mem _ wq_703)
  have hv_142 := hts _ (List.mem_cons_of_mem _ sq_7)
  have hf_36 := hts _ (List.mem_cons_of_mem _ wq_587)
  have hm_136 := hts _ (List.mem_cons_of_mem _ wq_719)
  have hs_136 := hts _ (List.mem_cons_of_mem _ wq_720)
  have hk_110 := hts _ (List.mem_cons_of_mem _ wq_708)
  have hf_149 := hts _ (List.mem_cons_of_mem _ wq_594)
  refine lv_iload_n hx hb d_RM_take_0 rfl (lv_at hl 2 rfl) ?_
  have hpre_1 := kr_pre (wc := []) (av := [.int (nI i0)]) hK hP hD hS hA hSt [] rfl (by decide)
  refine kj_im (wc := []) (wr := [(g, .inr (8, [.ref g_0, .ref g_1, .ref g_2, .ref g_3, .ref g_4, .int 0, .int 0, .int 65535, .int rn, .ref g_9, .ref g_10, .ref g_11, .ref g_12, .ref g_13, .ref g_14, .int tk, .int 0, .int lf, .int ps, .ref g_19, .ref g_20, .ref g_21, .int 0, .int 0, .int 0])), (g_9, .inl (cI, 16, .inl tb)), (g_11, .inl (cI, 16, .inl lg)), (g_12, .inl (cZ, 192, .inl wa)), (g_13, .inl (cZ, 192, .inl wb)), (g_14, .inl (cZ, 144, .inl bo))]) (va_runS (As := [.int (nI i0)]) (rest := []) ⟨hx, hb, hml, hown, hts⟩ (rc_lattice l dC dI cI cJ cC cZ σ i0 (by (try dsimp only) <;> first | assumption | omega) _) ⟨(callB_of 1 hts (kg wq_728) rfl rfl rfl hini_RM hm_145 (by decide +kernel) ⟨Nat.le_of_ble_eq_true rfl, Nat.le_of_ble_eq_true rfl⟩), hs_145⟩ hpre_1 rfl rfl hl.1 rfl (lv_room (Nat.le_of_ble_eq_true rfl)) d_RM_take_1 ⟨Nat.le_of_ble_eq_true rfl, Nat.le_of_ble_eq_true rfl⟩) hP hD hS hA [] [0, 1, 2, 3, 4, 5] rfl rfl (by decide) (by decide) (fun _ H locs hP hD hS => ?_)
  refine W.cs (cells' := 1) (slots' := 12) rfl rfl ?_
  have hP : va_P (dC, dI) vwCl [(g, .inr (8, [.ref g_0, .ref g_1, .ref g_2, .ref g_3, .ref g_4, .int 0, .int 0, .int 65535, .int rn, .ref g_9, .ref g_10, .ref g_11, .ref g_12, .ref g_13, .ref g_14, .int tk, .int 0, .int lf, .int ps, .ref g_19, .ref g_20, .ref g_21, .int 0, .int 0, .int 0])), (g_9, .inl (cI, 16, .inl tb)), (g_11, .inl (cI, 16, .inl lg)), (g_12, .inl (cZ, 192, .inl wa)), (g_13, .inl (cZ, 192, .inl wb)), (g_14, .inl (cZ, 144, .inl bo))] H := hP
  have hD : va_D A [(g, .inr (8, [.ref g_0, .ref g_1, .ref g_2, .ref g_3, .ref g_4, .int 0, .int 0, .int 65535, .int rn, .ref g_9, .ref g_10, .ref g_11, .ref g_12, .ref g_13, .ref g_14, .int tk, .int 0, .int lf, .int ps, .ref g_19, .ref g_20, .ref g_21, .int 0, .int 0, .int 0])), (g_9, .inl (cI, 16, .inl tb)), (g_11, .inl (cI, 16, .inl lg)), (g_12, .inl (cZ, 192, .inl wa)), (g_13, .inl (cZ, 192, .inl wb)), (g_14, .inl (cZ, 144, .inl bo))] := hD
  refine lv_istore (lv' := [(4, .int (kLat i0)), (0, .ref g), (1, .int (nI e0)), (2, .int (nI i0)), (3, .int (nI j0))]) hx hb d_RM_take_4 hl (by decide) rfl (fun ls hl => ?_)
  refine lv_iload_n hx hb d_RM_take_6 rfl (lv_at hl 4 rfl) ?_
  have hpre_2 := kr_pre (wc := []) (av := [.int (nI j0)]) hK hP hD hS hA hSt [] rfl (by decide)
  refine kj_im (wc := []) (wr := [(g, .inr (8, [.ref g_0, .ref g_1, .ref g_2, .ref g_3, .ref g_4, .int 0, .int 0, .int 65535, .int rn, .ref g_9, .ref g_10, .ref g_11, .ref g_12, .ref g_13, .ref g_14, .int tk, .int 0, .int lf, .int ps, .ref g_19, .ref g_20, .ref g_21, .int 0, .int 0, .int 0])), (g_9, .inl (cI, 16, .inl tb)), (g_11, .inl (cI, 16, .inl lg)), (g_12, .inl (cZ, 192, .inl wa)), (g_13, .inl (cZ, 192, .inl wb)), (g_14, .inl (cZ, 144, .inl bo))]) (va_runS (As := [.int (nI j0)]) (rest := []) ⟨hx, hb, hml, hown, hts⟩ (rc_lattice l dC dI cI cJ cC cZ σ j0 (by (try dsimp only) <;> first | assumption | omega) _) ⟨(callB_of 1 hts (kg wq_728) rfl rfl rfl hini_RM hm_145 (by decide +kernel) ⟨Nat.le_of_ble_eq_true rfl, Nat.le_of_ble_eq_true rfl⟩), hs_145⟩ hpre_2 rfl rfl hl.1 rfl (lv_room (Nat.le_of_ble_eq_true rfl)) d_RM_take_7 ⟨Nat.le_of_ble_eq_true rfl, Nat.le_of_ble_eq_true rfl⟩) hP hD hS hA [] [0, 1, 2, 3, 4, 5] rfl rfl (by decide) (by decide) (fun _ H locs hP hD hS => ?_)
  refine W.cs (cells' := 2) (slots' := 24) rfl rfl ?_
  have hP : va_P (dC, dI) vwCl [(g, .inr (8, [.ref g_0, .ref g_1, .ref g_2, .ref g_3, .ref g_4, .int 0, .int 0, .int 65535, .int rn, .ref g_9, .ref g_10, .ref g_11, .ref g_12, .ref g_13, .ref g_14, .int tk, .int 0, .int lf, .int ps, .ref g_19, .ref g_20, .ref g_21, .int 0, .int 0, .int 0])), (g_9, .inl (cI, 16, .inl tb)), (g_11, .inl (cI, 16, .inl lg)), (g_12, .inl (cZ, 192, .inl wa)), (g_13, .inl (cZ, 192, .inl wb)), (g_14, .inl (cZ, 144, .inl bo))] H := hP
  have hD : va_D A [(g, .inr (8, [.ref g_0, .ref g_1, .ref g_2, .ref g_3, .ref g_4, .int 0, .int 0, .int 65535, .int rn, .ref g_9, .ref g_10, .ref g_11, .ref g_12, .ref g_13, .ref g_14, .int tk, .int 0, .int lf, .int ps, .ref g_19, .ref g_20, .ref g_21, .int 0, .int 0, .int 0])), (g_9, .inl (cI, 16, .inl tb)), (g_11, .inl (cI, 16, .inl lg)), (g_12, .inl (cZ, 192, .inl wa)), (g_13, .inl (cZ, 192, .inl wb)), (g_14, .inl (cZ, 144, .inl bo))] := hD
  refine lv_istore (lv' := [(5, .int (kLat j0)), (4, .int (kLat i0)), (0, .ref g), (1, .int (nI e0)), (2, .int (nI i0)), (3, .int (nI j0))]) hx hb d_RM_take_10 hl (by decide) rfl (fun ls hl => ?_)
  have cut_84_3 : ∀ (q : Int32) (H : Heap) (locs : List Loc), va_P (dC, dI) vwCl [(g, .inr (8, [.ref g_0, .ref g_1, .ref g_2, .ref g_3, .ref g_4, .int 0, .int 0, .int 65535, .int rn, .ref g_9, .ref g_10, .ref g_11, .ref g_12, .ref g_13, .ref g_14, .int tk, .int 0, .int lf, .int q, .ref g_19, .ref g_20, .ref g_21, .int 0, .int 0, .int 0])), (g_9, .inl (cI, 16, .inl tb)), (g_11, .inl (cI, 16, .inl lg)), (g_12, .inl (cZ, 192, .inl wa)), (g_13, .inl (cZ, 192, .inl wb)), (g_14, .inl (cZ, 144, .inl bo))] H → va_D A [(g, .inr (8, [.ref g_0, .ref g_1, .ref g_2, .ref g_3, .ref g_4, .int 0, .int 0, .int 65535, .int rn, .ref g_9, .ref g_10, .ref g_11, .ref g_12, .ref g_13, .ref g_14, .int tk, .int 0, .int lf, .int q, .ref g_19, .ref g_20, .ref g_21, .int 0, .int 0, .int 0])), (g_9, .inl (cI, 16, .inl tb)), (g_11, .inl (cI, 16, .inl lg)), (g_12, .inl (cZ, 192, .inl wa)), (g_13, .inl (cZ, 192, .inl wb)), (g_14, .inl (cZ, 144, .inl bo))] → va_S A s.heap H locs → ∀ ls : Array Slot, lv_has ls 10 [(5, .int (kLat j0)), (4, .int (kLat i0)), (0, .ref g), (1, .int (nI e0)), (2, .int (nI i0)), (3, .int (nI j0))] → W p l e (kRm 3 2 24 72) s m args below meth c H locs 2 24 Q (F0 m 84 ls []) := by
    intro q H locs hP hD hS ls hl
    refine lv_aload_n hx hb d_RM_take_84 rfl (lv_at hl 2 rfl) ?_
    refine va_get (D := (dC, dI)) (ci := 8) (v := .ref g_12) (C := "KitRunnerModel") (T := T_RM) (N := 25) hx hb hts hin_RM hown hK hP 0 rfl rfl 12 (by decide) hf_39 (fun _ h9 => h9) rfl d_RM_take_85 ?_
    refine lv_iload_n hx hb d_RM_take_88 rfl (lv_at hl 3 rfl) ?_
    refine lv_bipush (v := 12) hx hb d_RM_take_89 (by decide) ?_
    refine lv_imul hx hb d_RM_take_91 ?_
    refine kr_topi (x := (nI e0) * 12) (y := nI (e0 * 12)) (pk_mul e0 12) ?_
    refine lv_iload_n hx hb d_RM_take_92 rfl (lv_at hl 4 rfl) ?_
    refine lv_iadd hx hb d_RM_take_93 ?_
    refine kr_topi (x := (nI (e0 * 12)) + (nI i0)) (y := nI (e0 * 12 + i0)) (nI_add (e0 * 12) i0) ?_
    refine lv_aload_n hx hb d_RM_take_94 rfl (lv_at hl 2 rfl) ?_
    refine va_get (D := (dC, dI)) (ci := 8) (v := .ref g_13) (C := "KitRunnerModel") (T := T_RM) (N := 25) hx hb hts hin_RM hown hK hP 0 rfl rfl 13 (by decide) hf_43 (fun _ h9 => h9) rfl d_RM_take_95 ?_
    refine lv_iload_n hx hb d_RM_take_98 rfl (lv_at hl 3 rfl) ?_
    refine lv_bipush (v := 12) hx hb d_RM_take_99 (by decide) ?_
    refine lv_imul hx hb d_RM_take_101 ?_
    refine kr_topi (x := (nI e0) * 12) (y := nI (e0 * 12)) (pk_mul e0 12) ?_
    refine lv_iload_n hx hb d_RM_take_102 rfl (lv_at hl 5 rfl) ?_
    refine lv_iadd hx hb d_RM_take_103 ?_
    refine kr_topi (x := (nI (e0 * 12)) + (nI j0)) (y := nI (e0 * 12 + j0)) (nI_add (e0 * 12) j0) ?_
    refine lv_aload_n hx hb d_RM_take_104 rfl (lv_at hl 2 rfl) ?_
    refine va_get (D := (dC, dI)) (ci := 8) (v := .ref g_14) (C := "KitRunnerModel") (T := T_RM) (N := 25) hx hb hts hin_RM hown hK hP 0 rfl rfl 14 (by decide) hf_46 (fun _ h9 => h9) rfl d_RM_take_105 ?_
    refine lv_iload_n hx hb d_RM_take_108 rfl (lv_at hl 4 rfl) ?_
    refine lv_bipush (v := 12) hx hb d_RM_take_109 (by decide) ?_
    refine lv_imul hx hb d_RM_take_111 ?_
    refine kr_topi (x := (nI i0) * 12) (y := nI (i0 * 12)) (pk_mul i0 12) ?_
    refine lv_iload_n hx hb d_RM_take_112 rfl (lv_at hl 5 rfl) ?_
    refine lv_iadd hx hb d_RM_take_113 ?_
    refine kr_topi (x := (nI (i0 * 12)) + (nI j0)) (y := nI (i0 * 12 + j0)) (nI_add (i0 * 12) j0) ?_
    refine lv_iconst (v := 1) hx hb d_RM_take_114 (by decide) ?_
    refine lv_dup_x2 hx hb d_RM_take_115 rfl rfl rfl ?_
    refine kr_zast (k := i0 * 12 + j0) hx hb hK hP hD hS 5 3 rfl rfl (by omega) (by first | decide | omega) rfl d_RM_take_116 (fun H locs hP hD hS => ?_)
    have hP : va_P (dC, dI) vwCl [(g, .inr (8, [.ref g_0, .ref g_1, .ref g_2, .ref g_3, .ref g_4, .int 0, .int 0, .int 65535, .int rn, .ref g_9, .ref g_10, .ref g_11, .ref g_12, .ref g_13, .ref g_14, .int tk, .int 0, .int lf, .int q, .ref g_19, .ref g_20, .ref g_21, .int 0, .int 0, .int 0])), (g_9, .inl (cI, 16, .inl tb)), (g_11, .inl (cI, 16, .inl lg)), (g_12, .inl (cZ, 192, .inl wa)), (g_13, .inl (cZ, 192, .inl wb)), (g_14, .inl (cZ, 144, .inl (upd bo (i0 * 12 + j0) 1)))] H := hP
    have hD : va_D A [(g, .inr (8, [.ref g_0, .ref g_1, .ref g_2, .ref g_3, .ref g_4, .int 0, .int 0, .int 65535, .int rn, .ref g_9, .ref g_10, .ref g_11, .ref g_12, .ref g_13, .ref g_14, .int tk, .int 0, .int lf, .int q, .ref g_19, .ref g_20, .ref g_21, .int 0, .int 0, .int 0])), (g_9, .inl (cI, 16, .inl tb)), (g_11, .inl (cI, 16, .inl lg)), (g_12, .inl (cZ, 192, .inl wa)), (g_13, .inl (cZ, 192, .inl wb)), (g_14, .inl (cZ, 144, .inl (upd bo (i0 * 12 + j0) 1)))] := hD
    refine lv_dup_x2 hx hb d_RM_take_117 rfl rfl rfl ?_
    refine kr_zast (k := e0 * 12 + j0) hx hb hK hP hD hS 4 3 rfl rfl (by omega) (by first | decide | omega) rfl d_RM_take_118 (fun H locs hP hD hS => ?_)
    have hP : va_P (dC, dI) vwCl [(g, .inr (8, [.ref g_0, .ref g_1, .ref g_2, .ref g_3, .ref g_4, .int 0, .int 0, .int 65535, .int rn, .ref g_9, .ref g_10, .ref g_11, .ref g_12, .ref g_13, .ref g_14, .int tk, .int 0, .int lf, .int q, .ref g_19, .ref g_20, .ref g_21, .int 0, .int 0, .int 0])), (g_9, .inl (cI, 16, .inl tb)), (g_11, .inl (cI, 16, .inl lg)), (g_12, .inl (cZ, 192, .inl wa)), (g_13, .inl (cZ, 192, .inl (upd wb (e0 * 12 + j0) 1))), (g_14, .inl (cZ, 144, .inl (upd bo (i0 * 12 + j0) 1)))] H := hP
    have hD : va_D A [(g, .inr (8, [.ref g_0, .ref g_1, .ref g_2, .ref g_3, .ref g_4, .int 0, .int 0, .int 65535, .int rn, .ref g_9, .ref g_10, .ref g_11, .ref g_12, .ref g_13, .ref g_14, .int tk, .int 0, .int lf, .int q, .ref g_19, .ref g_20, .ref g_21, .int 0, .int 0, .int 0])), (g_9, .inl (cI, 16, .inl tb)), (g_11, .inl (cI, 16, .inl lg)), (g_12, .inl (cZ, 192, .inl wa)), (g_13, .inl (cZ, 192, .inl (upd wb (e0 * 12 + j0) 1))), (g_14, .inl (cZ, 144, .inl (upd bo (i0 * 12 + j0) 1)))] := hD
    refine kr_zast (k := e0 * 12 + i0) hx hb hK hP hD hS 3 3 rfl rfl (by omega) (by first | decide | omega) rfl d_RM_take_119 (fun H locs hP hD hS => ?_)
    have hP : va_P (dC, dI) vwCl [(g, .inr (8, [.ref g_0, .ref g_1, .ref g_2, .ref g_3, .ref g_4, .int 0, .int 0, .int 65535, .int rn, .ref g_9, .ref g_10, .ref g_11, .ref g_12, .ref g_13, .ref g_14, .int tk, .int 0, .int lf, .int q, .ref g_19, .ref g_20, .ref g_21, .int 0, .int 0, .int 0])), (g_9, .inl (cI, 16, .inl tb)), (g_11, .inl (cI, 16, .inl lg)), (g_12, .inl (cZ, 192, .inl (upd wa (e0 * 12 + i0) 1))), (g_13, .inl (cZ, 192, .inl (upd wb (e0 * 12 + j0) 1))), (g_14, .inl (cZ, 144, .inl (upd bo (i0 * 12 + j0) 1)))] H := hP
    have hD : va_D A [(g, .inr (8, [.ref g_0, .ref g_1, .ref g_2, .ref g_3, .ref g_4, .int 0, .int 0, .int 65535, .int rn, .ref g_9, .ref g_10, .ref g_11, .ref g_12, .ref g_13, .ref g_14, .int tk, .int 0, .int lf, .int q, .ref g_19, .ref g_20, .ref g_21, .int 0, .int 0, .int 0])), (g_9, .inl (cI, 16, .inl tb)), (g_11, .inl (cI, 16, .inl lg)), (g_12, .inl (cZ, 192, .inl (upd wa (e0 * 12 + i0) 1))), (g_13, .inl (cZ, 192, .inl (upd wb (e0 * 12 + j0) 1))), (g_14, .inl (cZ, 144, .inl (upd bo (i0 * 12 + j0) 1)))] := hD
    refine lv_aload_n hx hb d_RM_take_120 rfl (lv_at hl 2 rfl) ?_
    refine lv_dup hx hb d_RM_take_121 rfl ?_
    refine va_get (D := (dC, dI)) (ci := 8) (v := .int tk) (C := "KitRunnerModel") (T := T_RM) (N := 25) hx hb hts hin_RM hown hK hP 0 rfl rfl 15 (by decide) hf_152 (fun _ h9 => h9) rfl d_RM_take_122 ?_
    refine lv_iconst (v := 1) hx hb d_RM_take_125 (by decide) ?_
    refine lv_iadd hx hb d_RM_take_126 ?_
    refine va_put (D := (dC, dI)) (ci := 8) (v := .int (tk + 1)) (ty := .int) (C := "KitRunnerModel") (T := T_RM) (N := 25) hx hb hts hin_RM ty_RM ty_RM_ok nm_RM hown hK hP hD hS 0 rfl rfl 15 (by decide) hf_152 (fun _ h9 => h9) rfl (by decide +kernel) rfl rfl (Nat.le_of_ble_eq_true rfl) d_RM_take_127 (fun H locs hP hD hS => ?_)
    have hP : va_P (dC, dI) vwCl [(g, .inr (8, [.ref g_0, .ref g_1, .ref g_2, .ref g_3, .ref g_4, .int 0, .int 0, .int 65535, .int rn, .ref g_9, .ref g_10, .ref g_11, .ref g_12, .ref g_13, .ref g_14, .int (tk + 1), .int 0, .int lf, .int q, .ref g_19, .ref g_20, .ref g_21, .int 0, .int 0, .int 0])), (g_9, .inl (cI, 16, .inl tb)), (g_11, .inl (cI, 16, .inl lg)), (g_12, .inl (cZ, 192, .inl (upd wa (e0 * 12 + i0) 1))), (g_13, .inl (cZ, 192, .inl (upd wb (e0 * 12 + j0) 1))), (g_14, .inl (cZ, 144, .inl (upd bo (i0 * 12 + j0) 1)))] H := hP
    have hD : va_D A [(g, .inr (8, [.ref g_0, .ref g_1, .ref g_2, .ref g_3, .ref g_4, .int 0, .int 0, .int 65535, .int rn, .ref g_9, .ref g_10, .ref g_11, .ref g_12, .ref g_13, .ref g_14, .int (tk + 1), .int 0, .int lf, .int q, .ref g_19, .ref g_20, .ref g_21, .int 0, .int 0, .int 0])), (g_9, .inl (cI, 16, .inl tb)), (g_11, .inl (cI, 16, .inl lg)), (g_12, .inl (cZ, 192, .inl (upd wa (e0 * 12 + i0) 1))), (g_13, .inl (cZ, 192, .inl (upd wb (e0 * 12 + j0) 1))), (g_14, .inl (cZ, 144, .inl (upd bo (i0 * 12 + j0) 1)))] := hD
    refine lv_aload_n hx hb d_RM_take_130 rfl (lv_at hl 2 rfl) ?_
    refine va_get (D := (dC, dI)) (ci := 8) (v := .ref g_9) (C := "KitRunnerModel") (T := T_RM) (N := 25) hx hb hts hin_RM hown hK hP 0 rfl rfl 9 (by decide) hf_30 (fun _ h9 => h9) rfl d_RM_take_131 ?_
    refine lv_iload_n hx hb d_RM_take_134 rfl (lv_at hl 3 rfl) ?_
    refine lv_dup2_11 hx hb d_RM_take_135 rfl rfl ?_
    refine kr_iald (k := e0) hx hb hK hP 1 0 rfl rfl (by omega) (by first | decide | omega) d_RM_take_136 ?_
    refine lv_iconst (v := 1) hx hb d_RM_take_137 (by decide) ?_
    refine lv_iadd hx hb d_RM_take_138 ?_
    refine kr_iast (k := e0) hx hb hK hP hD hS 1 0 rfl rfl (by omega) (by first | decide | omega) d_RM_take_139 (fun H locs hP hD hS => ?_)
    have hP : va_P (dC, dI) vwCl [(g, .inr (8, [.ref g_0, .ref g_1, .ref g_2, .ref g_3, .ref g_4, .int 0, .int 0, .int 65535, .int rn, .ref g_9, .ref g_10, .ref g_11, .ref g_12, .ref g_13, .ref g_14, .int (tk + 1), .int 0, .int lf, .int q, .ref g_19, .ref g_20, .ref g_21, .int 0, .int 0, .int 0])), (g_9, .inl (cI, 16, .inl (upd tb e0 ((tb e0) + 1)))), (g_11, .inl (cI, 16, .inl lg)), (g_12, .inl (cZ, 192, .inl (upd wa (e0 * 12 + i0) 1))), (g_13, .inl (cZ, 192, .inl (upd wb (e0 * 12 + j0) 1))), (g_14, .inl (cZ, 144, .inl (upd bo (i0 * 12 + j0) 1)))] H := hP
    have hD : va_D A [(g, .inr (8, [.ref g_0, .ref g_1, .ref g_2, .ref g_3, .ref g_4, .int 0, .int 0, .int 65535, .int rn, .ref g_9, .ref g_10, .ref g_11, .ref g_12, .ref g_13, .ref g_14, .int (tk + 1), .int 0, .int lf, .int q, .ref g_19, .ref g_20, .ref g_21, .int 0, .int 0, .int 0])), (g_9, .inl (cI, 16, .inl (upd tb e0 ((tb e0) + 1)))), (g_11, .inl (cI, 16, .inl lg)), (g_12, .inl (cZ, 192, .inl (upd wa (e0 * 12 + i0) 1))), (g_13, .inl (cZ, 192, .inl (upd wb (e0 * 12 + j0) 1))), (g_14, .inl (cZ, 144, .inl (upd bo (i0 * 12 + j0) 1)))] := hD
    refine lv_iload_n hx hb d_RM_take_140 rfl (lv_at hl 3 rfl) ?_
    refine lv_iload hx hb d_RM_take_141 (lv_at hl 1 rfl) ?_
    refine lv_iload hx hb d_RM_take_143 (lv_at hl 0 rfl) ?_
    have hpre_4 := kr_pre (wc := []) (av := [.int (nI e0), .int (kLat i0), .int (kLat j0)]) hK hP hD hS hA hSt [] rfl (by decide)
    refine kj_l (wc := []) (wr := [(g, .inr (8, [.ref g_0, .ref g_1, .ref g_2, .ref g_3, .ref g_4, .int 0, .int 0, .int 65535, .int rn, .ref g_9, .ref g_10, .ref g_11, .ref g_12, .ref g_13, .ref g_14, .int (tk + 1), .int 0, .int lf, .int q, .ref g_19, .ref g_20, .ref g_21, .int 0, .int 0, .int 0])), (g_9, .inl (cI, 16, .inl (upd tb e0 ((tb e0) + 1)))), (g_11, .inl (cI, 16, .inl lg)), (g_12, .inl (cZ, 192, .inl (upd wa (e0 * 12 + i0) 1))), (g_13, .inl (cZ, 192, .inl (upd wb (e0 * 12 + j0) 1))), (g_14, .inl (cZ, 144, .inl (upd bo (i0 * 12 + j0) 1)))]) (va_runS (As := [.int (nI e0), .int (kLat i0), .int (kLat j0)]) (rest := []) ⟨hx, hb, hml, hown, hts⟩ (rc_foretold l dC dI cI cJ cC cZ σ (nI e0) (kLat i0) (kLat j0) _) ⟨(callB_of 3 hts (kg wq_707) rfl rfl rfl hini_RM hm_132 (by decide +kernel) ⟨Nat.le_of_ble_eq_true rfl, Nat.le_of_ble_eq_true rfl⟩), hs_132⟩ hpre_4 rfl rfl hl.1 rfl (lv_room (Nat.le_of_ble_eq_true rfl)) d_RM_take_145 ⟨Nat.le_of_ble_eq_true rfl, Nat.le_of_ble_eq_true rfl⟩) hP hD hS hA [] [0, 1, 2, 3, 4, 5] rfl rfl (by decide) (by decide) (fun _ H locs hP hD hS => ?_)
    have hP : va_P (dC, dI) vwCl [(g, .inr (8, [.ref g_0, .ref g_1, .ref g_2, .ref g_3, .ref g_4, .int 0, .int 0, .int 65535, .int rn, .ref g_9, .ref g_10, .ref g_11, .ref g_12, .ref g_13, .ref g_14, .int (tk + 1), .int 0, .int lf, .int q, .ref g_19, .ref g_20, .ref g_21, .int 0, .int 0, .int 0])), (g_9, .inl (cI, 16, .inl (upd tb e0 ((tb e0) + 1)))), (g_11, .inl (cI, 16, .inl lg)), (g_12, .inl (cZ, 192, .inl (upd wa (e0 * 12 + i0) 1))), (g_13, .inl (cZ, 192, .inl (upd wb (e0 * 12 + j0) 1))), (g_14, .inl (cZ, 144, .inl (upd bo (i0 * 12 + j0) 1)))] H := hP
    have hD : va_D A [(g, .inr (8, [.ref g_0, .ref g_1, .ref g_2, .ref g_3, .ref g_4, .int 0, .int 0, .int 65535, .int rn, .ref g_9, .ref g_10, .ref g_11, .ref g_12, .ref g_13, .ref g_14, .int (tk + 1), .int 0, .int lf, .int q, .ref g_19, .ref g_20, .ref g_21, .int 0, .int 0, .int 0])), (g_9, .inl (cI, 16, .inl (upd tb e0 ((tb e0) + 1)))), (g_11, .inl (cI, 16, .inl lg)), (g_12, .inl (cZ, 192, .inl (upd wa (e0 * 12 + i0) 1))), (g_13, .inl (cZ, 192, .inl (upd wb (e0 * 12 + j0) 1))), (g_14, .inl (cZ, 144, .inl (upd bo (i0 * 12 + j0) 1)))] := hD
    refine lv_lstore (lv' := [(6, .long (r_or (nI e0) (kLat i0) (kLat j0))), (5, .int (kLat j0)), (4, .int (kLat i0)), (0, .ref g), (1, .int (nI e0)), (2, .int (nI i0)), (3, .int (nI j0))]) hx hb d_RM_take_148 hl (by decide) rfl (fun ls hl => ?_)
    refine lv_aload_n hx hb d_RM_take_150 rfl (lv_at hl 3 rfl) ?_
    refine lv_iload_n hx hb d_RM_take_151 rfl (lv_at hl 4 rfl) ?_
    refine lv_iload hx hb d_RM_take_152 (lv_at hl 2 rfl) ?_
    refine lv_iload hx hb d_RM_take_154 (lv_at hl 1 rfl) ?_
    have hpre_5 := kr_pre (wc := [(g, .inr (8, [.ref g_0, .ref g_1, .ref g_2, .ref g_3, .ref g_4, .int 0, .int 0, .int 65535, .int rn, .ref g_9, .ref g_10, .ref g_11, .ref g_12, .ref g_13, .ref g_14, .int (tk + 1), .int 0, .int lf, .int q, .ref g_19, .ref g_20, .ref g_21, .int 0, .int 0, .int 0]))]) (av := [.ref g, .int (nI e0), .int (kLat i0), .int (kLat j0)]) hK hP hD hS hA hSt [0] rfl (by decide)
    refine kj_l (wc := [(g, .inr (8, [.ref g_0, .ref g_1, .ref g_2, .ref g_3, .ref g_4, .int 0, .int 0, .int 65535, .int rn, .ref g_9, .ref g_10, .ref g_11, .ref g_12, .ref g_13, .ref g_14, .int (tk + 1), .int 0, .int lf, .int q, .ref g_19, .ref g_20, .ref g_21, .int 0, .int 0, .int 0]))]) (wr := [(g_9, .inl (cI, 16, .inl (upd tb e0 ((tb e0) + 1)))), (g_11, .inl (cI, 16, .inl lg)), (g_12, .inl (cZ, 192, .inl (upd wa (e0 * 12 + i0) 1))), (g_13, .inl (cZ, 192, .inl (upd wb (e0 * 12 + j0) 1))), (g_14, .inl (cZ, 144, .inl (upd bo (i0 * 12 + j0) 1)))]) (va_runV (As := [.int (nI e0), .int (kLat i0), .int (kLat j0)]) (rest := []) ⟨hx, hb, hml, hown, hts⟩ (rc_given l dC dI cI cJ cC cZ σ g g_0 g_1 g_2 g_3 g_4 g_9 g_10 g_11 g_12 g_13 g_14 g_19 g_20 g_21 q (tk + 1) lf rn (nI e0) (kLat i0) (kLat j0) _) ⟨(callB_of 3 hts (kg wq_704) rfl rfl rfl hini_RM hm_142 (by decide +kernel) ⟨Nat.le_of_ble_eq_true rfl, Nat.le_of_ble_eq_true rfl⟩), hi_142, hv_142⟩ ⟨hpre_5.1, (va_recv hK hP (ci := 8) (q0 := 0) rfl rfl), hpre_5.2⟩ rfl rfl hl.1 rfl (lv_room (Nat.le_of_ble_eq_true rfl)) d_RM_take_156 ⟨Nat.le_of_ble_eq_true rfl, Nat.le_of_ble_eq_true rfl⟩) hP hD hS hA [0] [1, 2, 3, 4, 5] rfl rfl (by decide) (by decide) (fun _ H locs hP hD hS => ?_)
    have hP : va_P (dC, dI) vwCl [(g_9, .inl (cI, 16, .inl (upd tb e0 ((tb e0) + 1)))), (g_11, .inl (cI, 16, .inl lg)), (g_12, .inl (cZ, 192, .inl (upd wa (e0 * 12 + i0) 1))), (g_13, .inl (cZ, 192, .inl (upd wb (e0 * 12 + j0) 1))), (g_14, .inl (cZ, 144, .inl (upd bo (i0 * 12 + j0) 1))), (g, .inr (8, [.ref g_0, .ref g_1, .ref g_2, .ref g_3, .ref g_4, .int 0, .int 0, .int 65535, .int rn, .ref g_9, .ref g_10, .ref g_11, .ref g_12, .ref g_13, .ref g_14, .int (tk + 1), .int 0, .int lf, .int q, .ref g_19, .ref g_20, .ref g_21, .int 0, .int 0, .int 0]))] H := hP
    have hD : va_D A [(g_9, .inl (cI, 16, .inl (upd tb e0 ((tb e0) + 1)))), (g_11, .inl (cI, 16, .inl lg)), (g_12, .inl (cZ, 192, .inl (upd wa (e0 * 12 + i0) 1))), (g_13, .inl (cZ, 192, .inl (upd wb (e0 * 12 + j0) 1))), (g_14, .inl (cZ, 144, .inl (upd bo (i0 * 12 + j0) 1))), (g, .inr (8, [.ref g_0, .ref g_1, .ref g_2, .ref g_3, .ref g_4, .int 0, .int 0, .int 65535, .int rn, .ref g_9, .ref g_10, .ref g_11, .ref g_12, .ref g_13, .ref g_14, .int (tk + 1), .int 0, .int lf, .int q, .ref g_19, .ref g_20, .ref g_21, .int 0, .int 0, .int 0]))] := hD
    refine lv_lstore (lv' := [(8, .long (r_or (nI e0) (kLat i0) (kLat j0))), (6, .long (r_or (nI e0) (kLat i0) (kLat j0))), (5, .int (kLat j0)), (4, .int (kLat i0)), (0, .ref g), (1, .int (nI e0)), (2, .int (nI i0)), (3, .int (nI j0))]) hx hb d_RM_take_159 hl (by decide) rfl (fun ls hl => ?_)
    have cut_217_6 : ∀ (gg : Nat → Int32) (H : Heap) (locs : List Loc), va_P (dC, dI) vwCl [(g_9, .inl (cI, 16, .inl (upd tb e0 ((tb e0) + 1)))), (g_11, .inl (cI, 16, .inl gg)), (g_12, .inl (cZ, 192, .inl (upd wa (e0 * 12 + i0) 1))), (g_13, .inl (cZ, 192, .inl (upd wb (e0 * 12 + j0) 1))), (g_14, .inl (cZ, 144, .inl (upd bo (i0 * 12 + j0) 1))), (g, .inr (8, [.ref g_0, .ref g_1, .ref g_2, .ref g_3, .ref g_4, .int 0, .int 0, .int 65535, .int rn, .ref g_9, .ref g_10, .ref g_11, .ref g_12, .ref g_13, .ref g_14, .int (tk + 1), .int 0, .int lf, .int q, .ref g_19, .ref g_20, .ref g_21, .int 0, .int 0, .int 0]))] H → va_D A [(g_9, .inl (cI, 16, .inl (upd tb e0 ((tb e0) + 1)))), (g_11, .inl (cI, 16, .inl gg)), (g_12, .inl (cZ, 192, .inl (upd wa (e0 * 12 + i0) 1))), (g_13, .inl (cZ, 192, .inl (upd wb (e0 * 12 + j0) 1))), (g_14, .inl (cZ, 144, .inl (upd bo (i0 * 12 + j0) 1))), (g, .inr (8, [.ref g_0, .ref g_1, .ref g_2, .ref g_3, .ref g_4, .int 0, .int 0, .int 65535, .int rn, .ref g_9, .ref g_10, .ref g_11, .ref g_12, .ref g_13, .ref g_14, .int (tk + 1), .int 0, .int lf, .int q, .ref g_19, .ref g_20, .ref g_21, .int 0, .int 0, .int 0]))] → va_S A s.heap H locs → ∀ ls : Array Slot, lv_has ls 10 [(8, .long (r_or (nI e0) (kLat i0) (kLat j0))), (6, .long (r_or (nI e0) (kLat i0) (kLat j0))), (5, .int (kLat j0)), (4, .int (kLat i0)), (0, .ref g), (1, .int (nI e0)), (2, .int (nI i0)), (3, .int (nI j0))] → W p l e (kRm 3 2 24 72) s m args below meth c H locs 2 24 Q (F0 m 217 ls []) := by
      intro gg H locs hP hD hS ls hl
      refine lv_lload hx hb d_RM_take_217 (lv_at hl 1 rfl) ?_
      refine lv_lload hx hb d_RM_take_219 (lv_at hl 0 rfl) ?_
      refine W.lcmp hx hb d_RM_take_221 ?_
      refine lv_if_ne (tgt := 226) hx hb d_RM_take_222 (by decide) (fun c_7 => ?_) (fun c_7 => ?_)
      · skip
        have c_7 : ¬ (r_or (nI e0) (kLat i0) (kLat j0)) = (r_or (nI e0) (kLat i0) (kLat j0)) := fun h9 => c_7 ((lg_cmp_eq (r_or (nI e0) (kLat i0) (kLat j0)) (r_or (nI e0) (kLat i0) (kLat j0))).mpr h9)
        exact absurd rfl c_7
      · skip
        have c_7 : (r_or (nI e0) (kLat i0) (kLat j0)) = (r_or (nI e0) (kLat i0) (kLat j0)) := (lg_cmp_eq (r_or (nI e0) (kLat i0) (kLat j0)) (r_or (nI e0) (kLat i0) (kLat j0))).mp c_7
        have hP9 := hP.sub (ws' := [(g, .inr (8, [.ref g_0, .ref g_1, .ref g_2, .ref g_3, .ref g_4, .int 0, .int 0, .int 65535, .int rn, .ref g_9, .ref g_10, .ref g_11, .ref g_12, .ref g_13, .ref g_14, .int (tk + 1), .int 0, .int lf, .int q, .ref g_19, .ref g_20, .ref g_21, .int 0, .int 0, .int 0])), (g_9, .inl (cI, 16, .inl (upd tb e0 ((tb e0) + 1)))), (g_11, .inl (cI, 16, .inl gg)), (g_12, .inl (cZ, 192, .inl (upd wa (e0 * 12 + i0) 1))), (g_13, .inl (cZ, 192, .inl (upd wb (e0 * 12 + j0) 1))), (g_14, .inl (cZ, 144, .inl (upd bo (i0 * 12 + j0) 1)))]) [5, 0, 1, 2, 3, 4] rfl
        have hD9 := hD.sub (ws' := [(g, .inr (8, [.ref g_0, .ref g_1, .ref g_2, .ref g_3, .ref g_4, .int 0, .int 0, .int 65535, .int rn, .ref g_9, .ref g_10, .ref g_11, .ref g_12, .ref g_13, .ref g_14, .int (tk + 1), .int 0, .int lf, .int q, .ref g_19, .ref g_20, .ref g_21, .int 0, .int 0, .int 0])), (g_9, .inl (cI, 16, .inl (upd tb e0 ((tb e0) + 1)))), (g_11, .inl (cI, 16, .inl gg)), (g_12, .inl (cZ, 192, .inl (upd wa (e0 * 12 + i0) 1))), (g_13, .inl (cZ, 192, .inl (upd wb (e0 * 12 + j0) 1))), (g_14, .inl (cZ, 144, .inl (upd bo (i0 * 12 + j0) 1)))]) [5, 0, 1, 2, 3, 4] (by decide) rfl
        exact kr_vret hQ hx hb hr hlocks hK hP9 hD9 hS (upd wa (e0 * 12 + i0) 1, upd wb (e0 * 12 + j0) 1, upd bo (i0 * 12 + j0) 1, q, tk + 1, upd tb e0 ((tb e0) + 1), gg) rfl d_RM_take_225
    refine lv_aload_n hx hb d_RM_take_161 rfl (lv_at hl 4 rfl) ?_
    refine va_get (D := (dC, dI)) (ci := 8) (v := .ref g_11) (C := "KitRunnerModel") (T := T_RM) (N := 25) hx hb hts hin_RM hown hK hP 5 rfl rfl 11 (by decide) hf_36 (fun _ h9 => h9) rfl d_RM_take_162 ?_
    refine lv_iload_n hx hb d_RM_take_165 rfl (lv_at hl 5 rfl) ?_
    refine lv_aload_n hx hb d_RM_take_166 rfl (lv_at hl 4 rfl) ?_
    refine va_get (D := (dC, dI)) (ci := 8) (v := .ref g_11) (C := "KitRunnerModel") (T := T_RM) (N := 25) hx hb hts hin_RM hown hK hP 5 rfl rfl 11 (by decide) hf_36 (fun _ h9 => h9) rfl d_RM_take_167 ?_
    refine lv_iload_n hx hb d_RM_take_170 rfl (lv_at hl 5 rfl) ?_
    refine kr_iald (k := e0) hx hb hK hP 1 0 rfl rfl (by omega) (by first | decide | omega) d_RM_take_171 ?_
    refine lv_lload hx hb d_RM_take_172 (lv_at hl 0 rfl) ?_
    have hpre_8 := kr_pre (wc := []) (av := [.long (r_or (nI e0) (kLat i0) (kLat j0))]) hK hP hD hS hA hSt [] rfl (by decide)
    refine kj_i (wc := []) (wr := [(g_9, .inl (cI, 16, .inl (upd tb e0 ((tb e0) + 1)))), (g_11, .inl (cI, 16, .inl lg)), (g_12, .inl (cZ, 192, .inl (upd wa (e0 * 12 + i0) 1))), (g_13, .inl (cZ, 192, .inl (upd wb (e0 * 12 + j0) 1))), (g_14, .inl (cZ, 144, .inl (upd bo (i0 * 12 + j0) 1))), (g, .inr (8, [.ref g_0, .ref g_1, .ref g_2, .ref g_3, .ref g_4, .int 0, .int 0, .int 65535, .int rn, .ref g_9, .ref g_10, .ref g_11, .ref g_12, .ref g_13, .ref g_14, .int (tk + 1), .int 0, .int lf, .int q, .ref g_19, .ref g_20, .ref g_21, .int 0, .int 0, .int 0]))]) (va_runS (As := [.long (r_or (nI e0) (kLat i0) (kLat j0))]) (rest := [.int (lg e0), .int (nI e0), .ref g_11]) ⟨hx, hb, hml, hown, hts⟩ (rc_trouble l dC dI cI cJ cC cZ σ (r_or (nI e0) (kLat i0) (kLat j0)) _) ⟨(callB_of 1 hts (kg wq_721) rfl rfl rfl hini_RM hm_136 (by decide +kernel) ⟨Nat.le_of_ble_eq_true rfl, Nat.le_of_ble_eq_true rfl⟩), hs_136⟩ hpre_8 rfl rfl hl.1 rfl (lv_room (Nat.le_of_ble_eq_true rfl)) d_RM_take_174 ⟨Nat.le_of_ble_eq_true rfl, Nat.le_of_ble_eq_true rfl⟩) hP hD hS hA [] [0, 1, 2, 3, 4, 5] rfl rfl (by decide) (by decide) (fun _ H locs hP hD hS => ?_)
    have hP : va_P (dC, dI) vwCl [(g_9, .inl (cI, 16, .inl (upd tb e0 ((tb e0) + 1)))), (g_11, .inl (cI, 16, .inl lg)), (g_12, .inl (cZ, 192, .inl (upd wa (e0 * 12 + i0) 1))), (g_13, .inl (cZ, 192, .inl (upd wb (e0 * 12 + j0) 1))), (g_14, .inl (cZ, 144, .inl (upd bo (i0 * 12 + j0) 1))), (g, .inr (8, [.ref g_0, .ref g_1, .ref g_2, .ref g_3, .ref g_4, .int 0, .int 0, .int 65535, .int rn, .ref g_9, .ref g_10, .ref g_11, .ref g_12, .ref g_13, .ref g_14, .int (tk + 1), .int 0, .int lf, .int q, .ref g_19, .ref g_20, .ref g_21, .int 0, .int 0, .int 0]))] H := hP
    have hD : va_D A [(g_9, .inl (cI, 16, .inl (upd tb e0 ((tb e0) + 1)))), (g_11, .inl (cI, 16, .inl lg)), (g_12, .inl (cZ, 192, .inl (upd wa (e0 * 12 + i0) 1))), (g_13, .inl (cZ, 192, .inl (upd wb (e0 * 12 + j0) 1))), (g_14, .inl (cZ, 144, .inl (upd bo (i0 * 12 + j0) 1))), (g, .inr (8, [.ref g_0, .ref g_1, .ref g_2, .ref g_3, .ref g_4, .int 0, .int 0, .int 65535, .int rn, .ref g_9, .ref g_10, .ref g_11, .ref g_12, .ref g_13, .ref g_14, .int (tk + 1), .int 0, .int lf, .int q, .ref g_19, .ref g_20, .ref g_21, .int 0, .int 0, .int 0]))] := hD
    refine lv_if_eq (tgt := 192) hx hb d_RM_take_177 (by decide) (fun c_9 => ?_) (fun c_9 => ?_)
    · skip
      have c_9 : (k_isTr (r_or (nI e0) (kLat i0) (kLat j0))) = false := kb_0.mp c_9
      refine lv_lload hx hb d_RM_take_192 (lv_at hl 0 rfl) ?_
      refine lv_lconst (v := 0) hx hb d_RM_take_194 (by decide) ?_
      refine W.lcmp hx hb d_RM_take_195 ?_
      refine lv_if_ge (tgt := 203) hx hb d_RM_take_196 (by decide) (fun c_10 => ?_) (fun c_10 => ?_)
      · skip
        have c_10 : (0 : Int64) ≤ (r_or (nI e0) (kLat i0) (kLat j0)) := (lg_cmp_ge (r_or (nI e0) (kLat i0) (kLat j0)) (0 : Int64)).mp c_10
        refine lv_lload hx hb d_RM_take_203 (lv_at hl 0 rfl) ?_
        refine lv_lconst (v := 0) hx hb d_RM_take_205 (by decide) ?_
        refine W.lcmp hx hb d_RM_take_206 ?_
        refine lv_if_ne (tgt := 214) hx hb d_RM_take_207 (by decide) (fun c_11 => ?_) (fun c_11 => ?_)
        · skip
          have c_11 : ¬ (r_or (nI e0) (kLat i0) (kLat j0)) = (0 : Int64) := fun h9 => c_11 ((lg_cmp_eq (r_or (nI e0) (kLat i0) (kLat j0)) (0 : Int64)).mpr h9)
          refine lv_iconst (v := 4) hx hb d_RM_take_214 (by decide) ?_
          refine lv_ior hx hb d_RM_take_215 ?_
          refine kr_iast (k := e0) hx hb hK hP hD hS 1 0 rfl rfl (by omega) (by first | decide | omega) d_RM_take_216 (fun H locs hP hD hS => ?_)
          have hP : va_P (dC, dI) vwCl [(g_9, .inl (cI, 16, .inl (upd tb e0 ((tb e0) + 1)))), (g_11, .inl (cI, 16, .inl (upd lg e0 ((lg e0) ||| 4)))), (g_12, .inl (cZ, 192, .inl (upd wa (e0 * 12 + i0) 1))), (g_13, .inl (cZ, 192, .inl (upd wb (e0 * 12 + j0) 1))), (g_14, .inl (cZ, 144, .inl (upd bo (i0 * 12 + j0) 1))), (g, .inr (8, [.ref g_0, .ref g_1, .ref g_2, .ref g_3, .ref g_4, .int 0, .int 0, .int 65535, .int rn, .ref g_9, .ref g_10, .ref g_11, .ref g_12, .ref g_13, .ref g_14, .int (tk + 1), .int 0, .int lf, .int q, .ref g_19, .ref g_20, .ref g_21, .int 0, .int 0, .int 0]))] H := hP
          have hD : va_D A [(g_9, .inl (cI, 16, .inl (upd tb e0 ((tb e0) + 1)))), (g_11, .inl (cI, 16, .inl (upd lg e0 ((lg e0) ||| 4)))), (g_12, .inl (cZ, 192, .inl (upd wa (e0 * 12 + i0) 1))), (g_13, .inl (cZ, 192, .inl (upd wb (e0 * 12 + j0) 1))), (g_14, .inl (cZ, 144, .inl (upd bo (i0 * 12 + j0) 1))), (g, .inr (8, [.ref g_0, .ref g_1, .ref g_2, .ref g_3, .ref g_4, .int 0, .int 0, .int 65535, .int rn, .ref g_9, .ref g_10, .ref g_11, .ref g_12, .ref g_13, .ref g_14, .int (tk + 1), .int 0, .int lf, .int q, .ref g_19, .ref g_20, .ref g_21, .int 0, .int 0, .int 0]))] := hD
          exact cut_217_6 (upd lg e0 ((lg e0) ||| 4)) _ _ (hP.sub [0, 1, 2, 3, 4, 5] rfl) (hD.sub [0, 1, 2, 3, 4, 5] (by decide) rfl) hS ls (lv_sub hl [0, 1, 2, 3, 4, 5, 6, 7] rfl)
        · skip
          have c_11 : (r_or (nI e0) (kLat i0) (kLat j0)) = (0 : Int64) := (lg_cmp_eq (r_or (nI e0) (kLat i0) (kLat j0)) (0 : Int64)).mp c_11
          refine lv_iconst (v := 2) hx hb d_RM_take_210 (by decide) ?_
          refine lv_goto (tgt := 215) hx hb d_RM_take_211 (by decide) ?_
          refine lv_ior hx hb d_RM_take_215 ?_
          refine kr_iast (k := e0) hx hb hK hP hD hS 1 0 rfl rfl (by omega) (by first | decide | omega) d_RM_take_216 (fun H locs hP hD hS => ?_)
          have hP : va_P (dC, dI) vwCl [(g_9, .inl (cI, 16, .inl (upd tb e0 ((tb e0) + 1)))), (g_11, .inl (cI, 16, .inl (upd lg e0 ((lg e0) ||| 2)))), (g_12, .inl (cZ, 192, .inl (upd wa (e0 * 12 + i0) 1))), (g_13, .inl (cZ, 192, .inl (upd wb (e0 * 12 + j0) 1))), (g_14, .inl (cZ, 144, .inl (upd bo (i0 * 12 + j0) 1))), (g, .inr (8, [.ref g_0, .ref g_1, .ref g_2, .ref g_3, .ref g_4, .int 0, .int 0, .int 65535, .int rn, .ref g_9, .ref g_10, .ref g_11, .ref g_12, .ref g_13, .ref g_14, .int (tk + 1), .int 0, .int lf, .int q, .ref g_19, .ref g_20, .ref g_21, .int 0, .int 0, .int 0]))] H := hP
          have hD : va_D A [(g_9, .inl (cI, 16, .inl (upd tb e0 ((tb e0) + 1)))), (g_11, .inl (cI, 16, .inl (upd lg e0 ((lg e0) ||| 2)))), (g_12, .inl (cZ, 192, .inl (upd wa (e0 * 12 + i0) 1))), (g_13, .inl (cZ, 192, .inl (upd wb (e0 * 12 + j0) 1))), (g_14, .inl (cZ, 144, .inl (upd bo (i0 * 12 + j0) 1))), (g, .inr (8, [.ref g_0, .ref g_1, .ref g_2, .ref g_3, .ref g_4, .int 0, .int 0, .int 65535, .int rn, .ref g_9, .ref g_10, .ref g_11, .ref g_12, .ref g_13, .ref g_14, .int (tk + 1), .int 0, .int lf, .int q, .ref g_19, .ref g_20, .ref g_21, .int 0, .int 0, .int 0]))] := hD
          exact cut_217_6 (upd lg e0 ((lg e0) ||| 2)) _ _ (hP.sub [0, 1, 2, 3, 4, 5] rfl) (hD.sub [0, 1, 2, 3, 4, 5] (by decide) rfl) hS ls (lv_sub hl [0, 1, 2, 3, 4, 5, 6, 7] rfl)
      · skip
        have c_10 : ¬ (0 : Int64) ≤ (r_or (nI e0) (kLat i0) (kLat j0)) := fun h9 => c_10 ((lg_cmp_ge (r_or (nI e0) (kLat i0) (kLat j0)) (0 : Int64)).mpr h9)
        refine lv_iconst (v := 1) hx hb d_RM_take_199 (by decide) ?_
        refine lv_goto (tgt := 215) hx hb d_RM_take_200 (by decide) ?_
        refine lv_ior hx hb d_RM_take_215 ?_
        refine kr_iast (k := e0) hx hb hK hP hD hS 1 0 rfl rfl (by omega) (by first | decide | omega) d_RM_take_216 (fun H locs hP hD hS => ?_)
        have hP : va_P (dC, dI) vwCl [(g_9, .inl (cI, 16, .inl (upd tb e0 ((tb e0) + 1)))), (g_11, .inl (cI, 16, .inl (upd lg e0 ((lg e0) ||| 1)))), (g_12, .inl (cZ, 192, .inl (upd wa (e0 * 12 + i0) 1))), (g_13, .inl (cZ, 192, .inl (upd wb (e0 * 12 + j0) 1))), (g_14, .inl (cZ, 144, .inl (upd bo (i0 * 12 + j0) 1))), (g, .inr (8, [.ref g_0, .ref g_1, .ref g_2, .ref g_3, .ref g_4, .int 0, .int 0, .int 65535, .int rn, .ref g_9, .ref g_10, .ref g_11, .ref g_12, .ref g_13, .ref g_14, .int (tk + 1), .int 0, .int lf, .int q, .ref g_19, .ref g_20, .ref g_21, .int 0, .int 0, .int 0]))] H := hP
        have hD : va_D A [(g_9, .inl (cI, 16, .inl (upd tb e0 ((tb e0) + 1)))), (g_11, .inl (cI, 16, .inl (upd lg e0 ((lg e0) ||| 1)))), (g_12, .inl (cZ, 192, .inl (upd wa (e0 * 12 + i0) 1))), (g_13, .inl (cZ, 192, .inl (upd wb (e0 * 12 + j0) 1))), (g_14, .inl (cZ, 144, .inl (upd bo (i0 * 12 + j0) 1))), (g, .inr (8, [.ref g_0, .ref g_1, .ref g_2, .ref g_3, .ref g_4, .int 0, .int 0, .int 65535, .int rn, .ref g_9, .ref g_10, .ref g_11, .ref g_12, .ref g_13, .ref g_14, .int (tk + 1), .int 0, .int lf, .int q, .ref g_19, .ref g_20, .ref g_21, .int 0, .int 0, .int 0]))] := hD
        exact cut_217_6 (upd lg e0 ((lg e0) ||| 1)) _ _ (hP.sub [0, 1, 2, 3, 4, 5] rfl) (hD.sub [0, 1, 2, 3, 4, 5] (by decide) rfl) hS ls (lv_sub hl [0, 1, 2, 3, 4, 5, 6, 7] rfl)
    · skip
      have c_9 : (k_isTr (r_or (nI e0) (kLat i0) (kLat j0))) = true := kb_n.mp c_9
      refine lv_iconst (v := 4) hx hb d_RM_take_180 (by decide) ?_
      refine lv_lload hx hb d_RM_take_181 (lv_at hl 0 rfl) ?_
      refine lv_ldc2 (v := 10000000000) hx hb hown hk_110 d_RM_take_183 ?_
      refine lv_ldiv hx hb d_RM_take_186 (by decide) ?_
      refine lv_l2i hx hb d_RM_take_187 rfl ?_
      refine lv_ishl hx hb d_RM_take_188 ?_
      refine lv_goto (tgt := 215) hx hb d_RM_take_189 (by decide) ?_
      refine lv_ior hx hb d_RM_take_215 ?_
      refine kr_iast (k := e0) hx hb hK hP hD hS 1 0 rfl rfl (by omega) (by first | decide | omega) d_RM_take_216 (fun H locs hP hD hS => ?_)
      have hP : va_P (dC, dI) vwCl [(g_9, .inl (cI, 16, .inl (upd tb e0 ((tb e0) + 1)))), (g_11, .inl (cI, 16, .inl (upd lg e0 ((lg e0) ||| (4 <<< (((r_or (nI e0) (kLat i0) (kLat j0)) / 10000000000).toInt32 &&& 31)))))), (g_12, .inl (cZ, 192, .inl (upd wa (e0 * 12 + i0) 1))), (g_13, .inl (cZ, 192, .inl (upd wb (e0 * 12 + j0) 1))), (g_14, .inl (cZ, 144, .inl (upd bo (i0 * 12 + j0) 1))), (g, .inr (8, [.ref g_0, .ref g_1, .ref g_2, .ref g_3, .ref g_4, .int 0, .int 0, .int 65535, .int rn, .ref g_9, .ref g_10, .ref g_11, .ref g_12, .ref g_13, .ref g_14, .int (tk + 1), .int 0, .int lf, .int q, .ref g_19, .ref g_20, .ref g_21, .int 0, .int 0, .int 0]))] H := hP
      have hD : va_D A [(g_9, .inl (cI, 16, .inl (upd tb e0 ((tb e0) + 1)))), (g_11, .inl (cI, 16, .inl (upd lg e0 ((lg e0) ||| (4 <<< (((r_or (nI e0) (kLat i0) (kLat j0)) / 10000000000).toInt32 &&& 31)))))), (g_12, .inl (cZ, 192, .inl (upd wa (e0 * 12 + i0) 1))), (g_13, .inl (cZ, 192, .inl (upd wb (e0 * 12 + j0) 1))), (g_14, .inl (cZ, 144, .inl (upd bo (i0 * 12 + j0) 1))), (g, .inr (8, [.ref g_0, .ref g_1, .ref g_2, .ref g_3, .ref g_4, .int 0, .int 0, .int 65535, .int rn, .ref g_9, .ref g_10, .ref g_11, .ref g_12, .ref g_13, .ref g_14, .int (tk + 1), .int 0, .int lf, .int q, .ref g_19, .ref g_20, .ref g_21, .int 0, .int 0, .int 0]))] := hD
      exact cut_217_6 (upd lg e0 ((lg e0) ||| (4 <<< (((r_or (nI e0) (kLat i0) (kLat j0)) / 10000000000).toInt32 &&& 31)))) _ _ (hP.sub [0, 1, 2, 3, 4, 5] rfl) (hD.sub [0, 1, 2, 3, 4, 5] (by decide) rfl) hS ls (lv_sub hl [0, 1, 2, 3, 4, 5, 6, 7] rfl)
  refine lv_aload_n hx hb d_RM_take_12 rfl (lv_at hl 2 rfl) ?_
  refine va_get (D := (dC, dI)) (ci := 8) (v := .ref g_12) (C := "KitRunnerModel") (T := T_RM) (N := 25) hx hb hts hin_RM hown hK hP 0 rfl rfl 12 (by decide) hf_39 (fun _ h9 => h9) rfl d_RM_take_13 ?_
  refine lv_iload_n hx hb d_RM_take_16 rfl (lv_at hl 3 rfl) ?_
  refine lv_bipush (v := 12) hx hb d_RM_take_17 (by decide) ?_
  refine lv_imul hx hb d_RM_take_19 ?_
  refine kr_topi (x := (nI e0) * 12) (y := nI (e0 * 12)) (pk_mul e0 12) ?_
  refine lv_iload_n hx hb d_RM_take_20 rfl (lv_at hl 4 rfl) ?_
  refine lv_iadd hx hb d_RM_take_21 ?_
  refine kr_topi (x := (nI (e0 * 12)) + (nI i0)) (y := nI (e0 * 12 + i0)) (nI_add (e0 * 12) i0) ?_
  refine kr_zald (k := e0 * 12 + i0) hx hb hK hP 3 3 rfl rfl (by omega) (by first | decide | omega) d_RM_take_22 ?_
  refine lv_if_ne (tgt := 36) hx hb d_RM_take_23 (by decide) (fun c_12 => ?_) (fun c_12 => ?_)
  · skip
    refine lv_aload_n hx hb d_RM_take_36 rfl (lv_at hl 2 rfl) ?_
    refine va_get (D := (dC, dI)) (ci := 8) (v := .ref g_13) (C := "KitRunnerModel") (T := T_RM) (N := 25) hx hb hts hin_RM hown hK hP 0 rfl rfl 13 (by decide) hf_43 (fun _ h9 => h9) rfl d_RM_take_37 ?_
    refine lv_iload_n hx hb d_RM_take_40 rfl (lv_at hl 3 rfl) ?_
    refine lv_bipush (v := 12) hx hb d_RM_take_41 (by decide) ?_
    refine lv_imul hx hb d_RM_take_43 ?_
    refine kr_topi (x := (nI e0) * 12) (y := nI (e0 * 12)) (pk_mul e0 12) ?_
    refine lv_iload_n hx hb d_RM_take_44 rfl (lv_at hl 5 rfl) ?_
    refine lv_iadd hx hb d_RM_take_45 ?_
    refine kr_topi (x := (nI (e0 * 12)) + (nI j0)) (y := nI (e0 * 12 + j0)) (nI_add (e0 * 12) j0) ?_
    refine kr_zald (k := e0 * 12 + j0) hx hb hK hP 4 3 rfl rfl (by omega) (by first | decide | omega) d_RM_take_46 ?_
    refine lv_if_ne (tgt := 60) hx hb d_RM_take_47 (by decide) (fun c_13 => ?_) (fun c_13 => ?_)
    · skip
      refine lv_aload_n hx hb d_RM_take_60 rfl (lv_at hl 2 rfl) ?_
      refine va_get (D := (dC, dI)) (ci := 8) (v := .ref g_14) (C := "KitRunnerModel") (T := T_RM) (N := 25) hx hb hts hin_RM hown hK hP 0 rfl rfl 14 (by decide) hf_46 (fun _ h9 => h9) rfl d_RM_take_61 ?_
      refine lv_iload_n hx hb d_RM_take_64 rfl (lv_at hl 4 rfl) ?_
      refine lv_bipush (v := 12) hx hb d_RM_take_65 (by decide) ?_
      refine lv_imul hx hb d_RM_take_67 ?_
      refine kr_topi (x := (nI i0) * 12) (y := nI (i0 * 12)) (pk_mul i0 12) ?_
      refine lv_iload_n hx hb d_RM_take_68 rfl (lv_at hl 5 rfl) ?_
      refine lv_iadd hx hb d_RM_take_69 ?_
      refine kr_topi (x := (nI (i0 * 12)) + (nI j0)) (y := nI (i0 * 12 + j0)) (nI_add (i0 * 12) j0) ?_
      refine kr_zald (k := i0 * 12 + j0) hx hb hK hP 5 3 rfl rfl (by omega) (by first | decide | omega) d_RM_take_70 ?_
      refine lv_if_ne (tgt := 84) hx hb d_RM_take_71 (by decide) (fun c_14 => ?_) (fun c_14 => ?_)
      · skip
        exact cut_84_3 ps _ _ (hP.sub [0, 1, 2, 3, 4, 5] rfl) (hD.sub [0, 1, 2, 3, 4, 5] (by decide) rfl) hS ls (lv_sub hl [0, 1, 2, 3, 4, 5] rfl)
      · skip
        refine lv_aload_n hx hb d_RM_take_74 rfl (lv_at hl 2 rfl) ?_
        refine lv_dup hx hb d_RM_take_75 rfl ?_
        refine va_get (D := (dC, dI)) (ci := 8) (v := .int ps) (C := "KitRunnerModel") (T := T_RM) (N := 25) hx hb hts hin_RM hown hK hP 0 rfl rfl 18 (by decide) hf_149 (fun _ h9 => h9) rfl d_RM_take_76 ?_
        refine lv_iconst (v := 1) hx hb d_RM_take_79 (by decide) ?_
        refine lv_iadd hx hb d_RM_take_80 ?_
        refine va_put (D := (dC, dI)) (ci := 8) (v := .int (ps + 1)) (ty := .int) (C := "KitRunnerModel") (T := T_RM) (N := 25) hx hb hts hin_RM ty_RM ty_RM_ok nm_RM hown hK hP hD hS 0 rfl rfl 18 (by decide) hf_149 (fun _ h9 => h9) rfl (by decide +kernel) rfl rfl (Nat.le_of_ble_eq_true rfl) d_RM_take_81 (fun H locs hP hD hS => ?_)
        have hP : va_P (dC, dI) vwCl [(g, .inr (8, [.ref g_0, .ref g_1, .ref g_2, .ref g_3, .ref g_4, .int 0, .int 0, .int 65535, .int rn, .ref g_9, .ref g_10, .ref g_11, .ref g_12, .ref g_13, .ref g_14, .int tk, .int 0, .int lf, .int (ps + 1), .ref g_19, .ref g_20, .ref g_21, .int 0, .int 0, .int 0])), (g_9, .inl (cI, 16, .inl tb)), (g_11, .inl (cI, 16, .inl lg)), (g_12, .inl (cZ, 192, .inl wa)), (g_13, .inl (cZ, 192, .inl wb)), (g_14, .inl (cZ, 144, .inl bo))] H := hP
        have hD : va_D A [(g, .inr (8, [.ref g_0, .ref g_1, .ref g_2, .ref g_3, .ref g_4, .int 0, .int 0, .int 65535, .int rn, .ref g_9, .ref g_10, .ref g_11, .ref g_12, .ref g_13, .ref g_14, .int tk, .int 0, .int lf, .int (ps + 1), .ref g_19, .ref g_20, .ref g_21, .int 0, .int 0, .int 0])), (g_9, .inl (cI, 16, .inl tb)), (g_11, .inl (cI, 16, .inl lg)), (g_12, .inl (cZ, 192, .inl wa)), (g_13, .inl (cZ, 192, .inl wb)), (g_14, .inl (cZ, 144, .inl bo))] := hD
        exact cut_84_3 (ps + 1) _ _ (hP.sub [0, 1, 2, 3, 4, 5] rfl) (hD.sub [0, 1, 2, 3, 4, 5] (by decide) rfl) hS ls (lv_sub hl [0, 1, 2, 3, 4, 5] rfl)
    · skip
      refine lv_aload_n hx hb d_RM_take_50 rfl (lv_at hl 2 rfl) ?_
      refine lv_dup hx hb d_RM_take_51 rfl ?_
      refine va_get (D := (dC, dI)) (ci := 8) (v := .int ps) (C := "KitRunnerModel") (T := T_RM) (N := 25) hx hb hts hin_RM hown hK hP 0 rfl rfl 18 (by decide) hf_149 (fun _ h9 => h9) rfl d_RM_take_52 ?_
      refine lv_iconst (v := 1) hx hb d_RM_take_55 (by decide) ?_
      refine lv_iadd hx hb d_RM_take_56 ?_
      refine va_put (D := (dC, dI)) (ci := 8) (v := .int (ps + 1)) (ty := .int) (C := "KitRunnerModel") (T := T_RM) (N := 25) hx hb hts hin_RM ty_RM ty_RM_ok nm_RM hown hK hP hD hS 0 rfl rfl 18 (by decide) hf_149 (fun _ h9 => h9) rfl (by decide +kernel) rfl rfl (Nat.le_of_ble_eq_true rfl) d_RM_take_57 (fun H locs hP hD hS => ?_)
      have hP : va_P (dC, dI) vwCl [(g, .inr (8, [.ref g_0, .ref g_1, .ref g_2, .ref g_3, .ref g_4, .int 0, .int 0, .int 65535, .int rn, .ref g_9, .ref g_10, .ref g_11, .ref g_12, .ref g_13, .ref g_14, .int tk, .int 0, .int lf, .int (ps + 1), .ref g_19, .ref g_20, .ref g_21, .int 0, .int 0, .int 0])), (g_9, .inl (cI, 16, .inl tb)), (g_11, .inl (cI, 16, .inl lg)), (g_12, .inl (cZ, 192, .inl wa)), (g_13, .inl (cZ, 192, .inl wb)), (g_14, .inl (cZ, 144, .inl bo))] H := hP
      have hD : va_D A [(g, .inr (8, [.ref g_0, .ref g_1, .ref g_2, .ref g_3, .ref g_4, .int 0, .int 0, .int 65535, .int rn, .ref g_9, .ref g_10, .ref g_11, .ref g_12, .ref g_13, .ref g_14, .int tk, .int 0, .int lf, .int (ps + 1), .ref g_19, .ref g_20, .ref g_21, .int 0, .int 0, .int 0])), (g_9, .inl (cI, 16, .inl tb)), (g_11, .inl (cI, 16, .inl lg)), (g_12, .inl (cZ, 192, .inl wa)), (g_13, .inl (cZ, 192, .inl wb)), (g_14, .inl (cZ, 144, .inl bo))] := hD
      refine lv_aload_n hx hb d_RM_take_60 rfl (lv_at hl 2 rfl) ?_
      refine va_get (D := (dC, dI)) (ci := 8) (v := .ref g_14) (C := "KitRunnerModel") (T := T_RM) (N := 25) hx hb hts hin_RM hown hK hP 0 rfl rfl 14 (by decide) hf_46 (fun _ h9 => h9) rfl d_RM_take_61 ?_
      refine lv_iload_n hx hb d_RM_take_64 rfl (lv_at hl 4 rfl) ?_
      refine lv_bipush (v := 12) hx hb d_RM_take_65 (by decide) ?_
      refine lv_imul hx hb d_RM_take_67 ?_
      refine kr_topi (x := (nI i0) * 12) (y := nI (i0 * 12)) (pk_mul i0 12) ?_
      refine lv_iload_n hx hb d_RM_take_68 rfl (lv_at hl 5 rfl) ?_
      refine lv_iadd hx hb d_RM_take_69 ?_
      refine kr_topi (x := (nI (i0 * 12)) + (nI j0)) (y := nI (i0 * 12 + j0)) (nI_add (i0 * 12) j0) ?_
      refine kr_zald (k := i0 * 12 + j0) hx hb hK hP 5 3 rfl rfl (by omega) (by first | decide | omega) d_RM_take_70 ?_
      refine lv_if_ne (tgt := 84) hx hb d_RM_take_71 (by decide) (fun c_15 => ?_) (fun c_15 => ?_)
      · skip
        exact cut_84_3 (ps + 1) _ _ (hP.sub [0, 1, 2, 3, 4, 5] rfl) (hD.sub [0, 1, 2, 3, 4, 5] (by decide) rfl) hS ls (lv_sub hl [0, 1, 2, 3, 4, 5] rfl)
      · skip
        refine lv_aload_n hx hb d_RM_take_74 rfl (lv_at hl 2 rfl) ?_
        refine lv_dup hx hb d_RM_take_75 rfl ?_
        refine va_get (D := (dC, dI)) (ci := 8) (v := .int (ps + 1)) (C := "KitRunnerModel") (T := T_RM) (N := 25) hx hb hts hin_RM hown hK hP 0 rfl rfl 18 (by decide) hf_149 (fun _ h9 => h9) rfl d_RM_take_76 ?_
        refine lv_iconst (v := 1) hx hb d_RM_take_79 (by decide) ?_
        refine lv_iadd hx hb d_RM_take_80 ?_
        refine va_put (D := (dC, dI)) (ci := 8) (v := .int ((ps + 1) + 1)) (ty := .int) (C := "KitRunnerModel") (T := T_RM) (N := 25) hx hb hts hin_RM ty_RM ty_RM_ok nm_RM hown hK hP hD hS 0 rfl rfl 18 (by decide) hf_149 (fun _ h9 => h9) rfl (by decide +kernel) rfl rfl (Nat.le_of_ble_eq_true rfl) d_RM_take_81 (fun H locs hP hD hS => ?_)
        have hP : va_P (dC, dI) vwCl [(g, .inr (8, [.ref g_0, .ref g_1, .ref g_2, .ref g_3, .ref g_4, .int 0, .int 0, .int 65535, .int rn, .ref g_9, .ref g_10, .ref g_11, .ref g_12, .ref g_13, .ref g_14, .int tk, .int 0, .int lf, .int ((ps + 1) + 1), .ref g_19, .ref g_20, .ref g_21, .int 0, .int 0, .int 0])), (g_9, .inl (cI, 16, .inl tb)), (g_11, .inl (cI, 16, .inl lg)), (g_12, .inl (cZ, 192, .inl wa)), (g_13, .inl (cZ, 192, .inl wb)), (g_14, .inl (cZ, 144, .inl bo))] H := hP
        have hD : va_D A [(g, .inr (8, [.ref g_0, .ref g_1, .ref g_2, .ref g_3, .ref g_4, .int 0, .int 0, .int 65535, .int rn, .ref g_9, .ref g_10, .ref g_11, .ref g_12, .ref g_13, .ref g_14, .int tk, .int 0, .int lf, .int ((ps + 1) + 1), .ref g_19, .ref g_20, .ref g_21, .int 0, .int 0, .int 0])), (g_9, .inl (cI, 16, .inl tb)), (g_11, .inl (cI, 16, .inl lg)), (g_12, .inl (cZ, 192, .inl wa)), (g_13, .inl (cZ, 192, .inl wb)), (g_14, .inl (cZ, 144, .inl bo))] := hD
        exact cut_84_3 ((ps + 1) + 1) _ _ (hP.sub [0, 1, 2, 3, 4, 5] rfl) (hD.sub [0, 1, 2, 3, 4, 5] (by decide) rfl) hS ls (lv_sub hl [0, 1, 2, 3, 4, 5] rfl)
  · skip
    refine lv_aload_n hx hb d_RM_take_26 rfl (lv_at hl 2 rfl) ?_
    refine lv_dup hx hb d_RM_take_27 rfl ?_
    refine va_get (D := (dC, dI)) (ci := 8) (v := .int ps) (C := "KitRunnerModel") (T := T_RM) (N := 25) hx hb hts hin_RM hown hK hP 0 rfl rfl 18 (by decide) hf_149 (fun _ h9 => h9) rfl d_RM_take_28 ?_
    refine lv_iconst (v := 1) hx hb d_RM_take_31 (by decide) ?_
    refine lv_iadd hx hb d_RM_take_32 ?_
    refine va_put (D := (dC, dI)) (ci := 8) (v := .int (ps + 1)) (ty := .int) (C := "KitRunnerModel") (T := T_RM) (N := 25) hx hb hts hin_RM ty_RM ty_RM_ok nm_RM hown hK hP hD hS 0 rfl rfl 18 (by decide) hf_149 (fun _ h9 => h9) rfl (by decide +kernel) rfl rfl (Nat.le_of_ble_eq_true rfl) d_RM_take_33 (fun H locs hP hD hS => ?_)
    have hP : va_P (dC, dI) vwCl [(g, .inr (8, [.ref g_0, .ref g_1, .ref g_2, .ref g_3, .ref g_4, .int 0, .int 0, .int 65535, .int rn, .ref g_9, .ref g_10, .ref g_11, .ref g_12, .ref g_13, .ref g_14, .int tk, .int 0, .int lf, .int (ps + 1), .ref g_19, .ref g_20, .ref g_21, .int 0, .int 0, .int 0])), (g_9, .inl (cI, 16, .inl tb)), (g_11, .inl (cI, 16, .inl lg)), (g_12, .inl (cZ, 192, .inl wa)), (g_13, .inl (cZ, 192, .inl wb)), (g_14, .inl (cZ, 144, .inl bo))] H := hP
    have hD : va_D A [(g, .inr (8, [.ref g_0, .ref g_1, .ref g_2, .ref g_3, .ref g_4, .int 0, .int 0, .int 65535, .int rn, .ref g_9, .ref g_10, .ref g_11, .ref g_12, .ref g_13, .ref g_14, .int tk, .int 0, .int lf, .int (ps + 1), .ref g_19, .ref g_20, .ref g_21, .int 0, .int 0, .int 0])), (g_9, .inl (cI, 16, .inl tb)), (g_11, .inl (cI, 16, .inl lg)), (g_12, .inl (cZ, 192, .inl wa)), (g_13, .inl (cZ, 192, .inl wb)), (g_14, .inl (cZ, 144, .inl bo))] := hD
    refine lv_aload_n hx hb d_RM_take_36 rfl (lv_at hl 2 rfl) ?_
    refine va_get (D := (dC, dI)) (ci := 8) (v := .ref g_13) (C := "KitRunnerModel") (T := T_RM) (N := 25) hx hb hts hin_RM hown hK hP 0 rfl rfl 13 (by decide) hf_43 (fun _ h9 => h9) rfl d_RM_take_37 ?_
    refine lv_iload_n hx hb d_RM_take_40 rfl (lv_at hl 3 rfl) ?_
    refine lv_bipush (v := 12) hx hb d_RM_take_41 (by decide) ?_
    refine lv_imul hx hb d_RM_take_43 ?_
    refine kr_topi (x := (nI e0) * 12) (y := nI (e0 * 12)) (pk_mul e0 12) ?_
    refine lv_iload_n hx hb d_RM_take_44 rfl (lv_at hl 5 rfl) ?_
    refine lv_iadd hx hb d_RM_take_45 ?_
    refine kr_topi (x := (nI (e0 * 12)) + (nI j0)) (y := nI (e0 * 12 + j0)) (nI_add (e0 * 12) j0) ?_
    refine kr_zald (k := e0 * 12 + j0) hx hb hK hP 4 3 rfl rfl (by omega) (by first | decide | omega) d_RM_take_46 ?_
    refine lv_if_ne (tgt := 60) hx hb d_RM_take_47 (by decide) (fun c_16 => ?_) (fun c_16 => ?_)
    · skip
      refine lv_aload_n hx hb d_RM_take_60 rfl (lv_at hl 2 rfl) ?_
      refine va_get (D := (dC, dI)) (ci := 8) (v := .ref g_14) (C := "KitRunnerModel") (T := T_RM) (N := 25) hx hb hts hin_RM hown hK hP 0 rfl rfl 14 (by decide) hf_46 (fun _ h9 => h9) rfl d_RM_take_61 ?_
      refine lv_iload_n hx hb d_RM_take_64 rfl (lv_at hl 4 rfl) ?_
      refine lv_bipush (v := 12) hx hb d_RM_take_65 (by decide) ?_
      refine lv_imul hx hb d_RM_take_67 ?_
      refine kr_topi (x := (nI i0) * 12) (y := nI (i0 * 12)) (pk_mul i0 12) ?_
      refine lv_iload_n hx hb d_RM_take_68 rfl (lv_at hl 5 rfl) ?_
      refine lv_iadd hx hb d_RM_take_69 ?_
      refine kr_topi (x := (nI (i0 * 12)) + (nI j0)) (y := nI (i0 * 12 + j0)) (nI_add (i0 * 12) j0) ?_
      refine kr_zald (k := i0 * 12 + j0) hx hb hK hP 5 3 rfl rfl (by omega) (by first | decide | omega) d_RM_take_70 ?_
      refine lv_if_ne (tgt := 84) hx hb d_RM_take_71 (by decide) (fun c_17 => ?_) (fun c_17 => ?_)
      · skip
        exact cut_84_3 (ps + 1) _ _ (hP.sub [0, 1, 2, 3, 4, 5] rfl) (hD.sub [0, 1, 2, 3, 4, 5] (by decide) rfl) hS ls (lv_sub hl [0, 1, 2, 3, 4, 5] rfl)
      · skip
        refine lv_aload_n hx hb d_RM_take_74 rfl (lv_at hl 2 rfl) ?_
        refine lv_dup hx hb d_RM_take_75 rfl ?_
        refine va_get (D := (dC, dI)) (ci := 8) (v := .int (ps + 1)) (C := "KitRunnerModel") (T := T_RM) (N := 25) hx hb hts hin_RM hown hK hP 0 rfl rfl 18 (by decide) hf_149 (fun _ h9 => h9) rfl d_RM_take_76 ?_
        refine lv_iconst (v := 1) hx hb d_RM_take_79 (by decide) ?_
        refine lv_iadd hx hb d_RM_take_80 ?_
        refine va_put (D := (dC, dI)) (ci := 8) (v := .int ((ps + 1) + 1)) (ty := .int) (C := "KitRunnerModel") (T := T_RM) (N := 25) hx hb hts hin_RM ty_RM ty_RM_ok nm_RM hown hK hP hD hS 0 rfl rfl 18 (by decide) hf_149 (fun _ h9 => h9) rfl (by decide +kernel) rfl rfl (Nat.le_of_ble_eq_true rfl) d_RM_take_81 (fun H locs hP hD hS => ?_)
        have hP : va_P (dC, dI) vwCl [(g, .inr (8, [.ref g_0, .ref g_1, .ref g_2, .ref g_3, .ref g_4, .int 0, .int 0, .int 65535, .int rn, .ref g_9, .ref g_10, .ref g_11, .ref g_12, .ref g_13, .ref g_14, .int tk, .int 0, .int lf, .int ((ps + 1) + 1), .ref g_19, .ref g_20, .ref g_21, .int 0, .int 0, .int 0])), (g_9, .inl (cI, 16, .inl tb)), (g_11, .inl (cI, 16, .inl lg)), (g_12, .inl (cZ, 192, .inl wa)), (g_13, .inl (cZ, 192, .inl wb)), (g_14, .inl (cZ, 144, .inl bo))] H := hP
        have hD : va_D A [(g, .inr (8, [.ref g_0, .ref g_1, .ref g_2, .ref g_3, .ref g_4, .int 0, .int 0, .int 65535, .int rn, .ref g_9, .ref g_10, .ref g_11, .ref g_12, .ref g_13, .ref g_14, .int tk, .int 0, .int lf, .int ((ps + 1) + 1), .ref g_19, .ref g_20, .ref g_21, .int 0, .int 0, .int 0])), (g_9, .inl (cI, 16, .inl tb)), (g_11, .inl (cI, 16, .inl lg)), (g_12, .inl (cZ, 192, .inl wa)), (g_13, .inl (cZ, 192, .inl wb)), (g_14, .inl (cZ, 144, .inl bo))] := hD
        exact cut_84_3 ((ps + 1) + 1) _ _ (hP.sub [0, 1, 2, 3, 4, 5] rfl) (hD.sub [0, 1, 2, 3, 4, 5] (by decide) rfl) hS ls (lv_sub hl [0, 1, 2, 3, 4, 5] rfl)
    · skip
      refine lv_aload_n hx hb d_RM_take_50 rfl (lv_at hl 2 rfl) ?_
      refine lv_dup hx hb d_RM_take_51 rfl ?_
      refine va_get (D := (dC, dI)) (ci := 8) (v := .int (ps + 1)) (C := "KitRunnerModel") (T := T_RM) (N := 25) hx hb hts hin_RM hown hK hP 0 rfl rfl 18 (by decide) hf_149 (fun _ h9 => h9) rfl d_RM_take_52 ?_
      refine lv_iconst (v := 1) hx hb d_RM_take_55 (by decide) ?_
      refine lv_iadd hx hb d_RM_take_56 ?_
      refine va_put (D := (dC, dI)) (ci := 8) (v := .int ((ps + 1) + 1)) (ty := .int) (C := "KitRunnerModel") (T := T_RM) (N := 25) hx hb hts hin_RM ty_RM ty_RM_ok nm_RM hown hK hP hD hS 0 rfl rfl 18 (by decide) hf_149 (fun _ h9 => h9) rfl (by decide +kernel) rfl rfl (Nat.le_of_ble_eq_true rfl) d_RM_take_57 (fun H locs hP hD hS => ?_)
      have hP : va_P (dC, dI) vwCl [(g, .inr (8, [.ref g_0, .ref g_1, .ref g_2, .ref g_3, .ref g_4, .int 0, .int 0, .int 65535, .int rn, .ref g_9, .ref g_10, .ref g_11, .ref g_12, .ref g_13, .ref g_14, .int tk, .int 0, .int lf, .int ((ps + 1) + 1), .ref g_19, .ref g_20, .ref g_21, .int 0, .int 0, .int 0])), (g_9, .inl (cI, 16, .inl tb)), (g_11, .inl (cI, 16, .inl lg)), (g_12, .inl (cZ, 192, .inl wa)), (g_13, .inl (cZ, 192, .inl wb)), (g_14, .inl (cZ, 144, .inl bo))] H := hP
      have hD : va_D A [(g, .inr (8, [.ref g_0, .ref g_1, .ref g_2, .ref g_3, .ref g_4, .int 0, .int 0, .int 65535, .int rn, .ref g_9, .ref g_10, .ref g_11, .ref g_12, .ref g_13, .ref g_14, .int tk, .int 0, .int lf, .int ((ps + 1) + 1), .ref g_19, .ref g_20, .ref g_21, .int 0, .int 0, .int 0])), (g_9, .inl (cI, 16, .inl tb)), (g_11, .inl (cI, 16, .inl lg)), (g_12, .inl (cZ, 192, .inl wa)), (g_13, .inl (cZ, 192, .inl wb)), (g_14, .inl (cZ, 144, .inl bo))] := hD
      refine lv_aload_n hx hb d_RM_take_60 rfl (lv_at hl 2 rfl) ?_
      refine va_get (D := (dC, dI)) (ci := 8) (v := .ref g_14) (C := "KitRunnerModel") (T := T_RM) (N := 25) hx hb hts hin_RM hown hK hP 0 rfl rfl 14 (by decide) hf_46 (fun _ h9 => h9) rfl d_RM_take_61 ?_
      refine lv_iload_n hx hb d_RM_take_64 rfl (lv_at hl 4 rfl) ?_
      refine lv_bipush (v := 12) hx hb d_RM_take_65 (by decide) ?_
      refine lv_imul hx hb d_RM_take_67 ?_
      refine kr_topi (x := (nI i0) * 12) (y := nI (i0 * 12)) (pk_mul i0 12) ?_
      refine lv_iload_n hx hb d_RM_take_68 rfl (lv_at hl 5 rfl) ?_
      refine lv_iadd hx hb d_RM_take_69 ?_
      refine kr_topi (x := (nI (i0 * 12)) + (nI j0)) (y := nI (i0 * 12 + j0)) (nI_add (i0 * 12) j0) ?_
      refine kr_zald (k := i0 * 12 + j0) hx hb hK hP 5 3 rfl rfl (by omega) (by first | decide | omega) d_RM_take_70 ?_
      refine lv_if_ne (tgt := 84) hx hb d_RM_take_71 (by decide) (fun c_18 => ?_) (fun c_18 => ?_)
      · skip
        exact cut_84_3 ((ps + 1) + 1) _ _ (hP.sub [0, 1, 2, 3, 4, 5] rfl) (hD.sub [0, 1, 2, 3, 4, 5] (by decide) rfl) hS ls (lv_sub hl [0, 1, 2, 3, 4, 5] rfl)
      · skip
        refine lv_aload_n hx hb d_RM_take_74 rfl (lv_at hl 2 rfl) ?_
        refine lv_dup hx hb d_RM_take_75 rfl ?_
        refine va_get (D := (dC, dI)) (ci := 8) (v := .int ((ps + 1) + 1)) (C := "KitRunnerModel") (T := T_RM) (N := 25) hx hb hts hin_RM hown hK hP 0 rfl rfl 18 (by decide) hf_149 (fun _ h9 => h9) rfl d_RM_take_76 ?_
        refine lv_iconst (v := 1) hx hb d_RM_take_79 (by decide) ?_
        refine lv_iadd hx hb d_RM_take_80 ?_
        refine va_put (D := (dC, dI)) (ci := 8) (v := .int (((ps + 1) + 1) + 1)) (ty := .int) (C := "KitRunnerModel") (T := T_RM) (N := 25) hx hb hts hin_RM ty_RM ty_RM_ok nm_RM hown hK hP hD hS 0 rfl rfl 18 (by decide) hf_149 (fun _ h9 => h9) rfl (by decide +kernel) rfl rfl (Nat.le_of_ble_eq_true rfl) d_RM_take_81 (fun H locs hP hD hS => ?_)
        have hP : va_P (dC, dI) vwCl [(g, .inr (8, [.ref g_0, .ref g_1, .ref g_2, .ref g_3, .ref g_4, .int 0, .int 0, .int 65535, .int rn, .ref g_9, .ref g_10, .ref g_11, .ref g_12, .ref g_13, .ref g_14, .int tk, .int 0, .int lf, .int (((ps + 1) + 1) + 1), .ref g_19, .ref g_20, .ref g_21, .int 0, .int 0, .int 0])), (g_9, .inl (cI, 16, .inl tb)), (g_11, .inl (cI, 16, .inl lg)), (g_12, .inl (cZ, 192, .inl wa)), (g_13, .inl (cZ, 192, .inl wb)), (g_14, .inl (cZ, 144, .inl bo))] H := hP
        have hD : va_D A [(g, .inr (8, [.ref g_0, .ref g_1, .ref g_2, .ref g_3, .ref g_4, .int 0, .int 0, .int 65535, .int rn, .ref g_9, .ref g_10, .ref g_11, .ref g_12, .ref g_13, .ref g_14, .int tk, .int 0, .int lf, .int (((ps + 1) + 1) + 1), .ref g_19, .ref g_20, .ref g_21, .int 0, .int 0, .int 0])), (g_9, .inl (cI, 16, .inl tb)), (g_11, .inl (cI, 16, .inl lg)), (g_12, .inl (cZ, 192, .inl wa)), (g_13, .inl (cZ, 192, .inl wb)), (g_14, .inl (cZ, 144, .inl bo))] := hD
        exact cut_84_3 (((ps + 1) + 1) + 1) _ _ (hP.sub [0, 1, 2, 3, 4, 5] rfl) (hD.sub [0, 1, 2, 3, 4, 5] (by decide) rfl) hS ls (lv_sub hl [0, 1, 2, 3, 4, 5] rfl)
