set_option maxHeartbeats 4000000 in
set_option maxRecDepth 100000 in
theorem rc_lattice (l : Launch) (dC : Nat → ClassId) (dI : Nat → Nat → Nat) (cI cJ cC cZ : ClassId) (σ : kSg) (i0 : Nat) (hi0 : i0 < 12) : kC l y_RM_lattice ws_RM_lattice (kRm 0 1 12 0) (dC, dI) (kTy cI cJ cC cZ) σ ([]) [.int (nI i0)] (kQi (dC, dI) (kTy cI cJ cC cZ) (kLat i0) (fun _ : Unit => [])) 1 12 := by
  refine kr_met (cc := prog_12_method_3_code) (maxL := 2) (ret := (some .int)) (by decide) rfl (Nat.le_of_ble_eq_true rfl) ?_
  intro p e s m args below meth c A Q hQ hx hb hr hml hts hown hlocks hnm hA hP hK hD hSt ls hl
  have hS : va_S A s.heap s.heap [] := va_S.rf
  have hown : s.vm.findClass "KitRunnerModel" = some m.cls := hown
  have hl : lv_has ls 2 [(0, .int (nI i0))] := hl
  have hP : va_P (dC, dI) vwCl [] s.heap := hP
  have hD : va_D A [] := hD
  have ha_int := hts _ (List.mem_cons_of_mem _ wq_44)
  have hk_59 := hts _ (List.mem_cons_of_mem _ wq_729)
  have hk_60 := hts _ (List.mem_cons_of_mem _ wq_730)
  have hk_61 := hts _ (List.mem_cons_of_mem _ wq_731)
  refine lv_bipush (v := 12) hx hb d_RM_lattice_0 (by decide) ?_
  refine kr_newi (N := 12) hx hb ha_int hK hP hD hS hA 0 rfl (by decide) (by decide) (by decide) (Nat.le_of_ble_eq_true rfl) (Nat.le_of_ble_eq_true rfl) d_RM_lattice_2 (fun q_1 H hP hD hS => ?_)
  refine W.cs (cells' := 1) (slots' := 12) rfl rfl ?_
  have hP : va_P (dC, dI) vwCl [(q_1, .inl (cI, 12, .inl (fun _ => 0)))] H := hP
  have hD : va_D A [(q_1, .inl (cI, 12, .inl (fun _ => 0)))] := hD
  refine lv_dup hx hb d_RM_lattice_4 rfl ?_
  refine lv_iconst (v := 0) hx hb d_RM_lattice_5 (by decide) ?_
  refine lv_iconst (v := 0) hx hb d_RM_lattice_6 (by decide) ?_
  refine kr_iast (k := 0) hx hb hK hP hD hS 0 0 rfl rfl (by omega) (by first | decide | omega) d_RM_lattice_7 (fun H locs hP hD hS => ?_)
  have hP : va_P (dC, dI) vwCl [(q_1, .inl (cI, 12, .inl (upd (fun _ => 0) 0 0)))] H := hP
  have hD : va_D A [(q_1, .inl (cI, 12, .inl (upd (fun _ => 0) 0 0)))] := hD
  refine lv_dup hx hb d_RM_lattice_8 rfl ?_
  refine lv_iconst (v := 1) hx hb d_RM_lattice_9 (by decide) ?_
  refine lv_iconst (v := 1) hx hb d_RM_lattice_10 (by decide) ?_
  refine kr_iast (k := 1) hx hb hK hP hD hS 0 0 rfl rfl (by omega) (by first | decide | omega) d_RM_lattice_11 (fun H locs hP hD hS => ?_)
  have hP : va_P (dC, dI) vwCl [(q_1, .inl (cI, 12, .inl (upd (upd (fun _ => 0) 0 0) 1 1)))] H := hP
  have hD : va_D A [(q_1, .inl (cI, 12, .inl (upd (upd (fun _ => 0) 0 0) 1 1)))] := hD
  refine lv_dup hx hb d_RM_lattice_12 rfl ?_
  refine lv_iconst (v := 2) hx hb d_RM_lattice_13 (by decide) ?_
  refine lv_iconst (v := (-1)) hx hb d_RM_lattice_14 (by decide) ?_
  refine kr_iast (k := 2) hx hb hK hP hD hS 0 0 rfl rfl (by omega) (by first | decide | omega) d_RM_lattice_15 (fun H locs hP hD hS => ?_)
  have hP : va_P (dC, dI) vwCl [(q_1, .inl (cI, 12, .inl (upd (upd (upd (fun _ => 0) 0 0) 1 1) 2 (-1))))] H := hP
  have hD : va_D A [(q_1, .inl (cI, 12, .inl (upd (upd (upd (fun _ => 0) 0 0) 1 1) 2 (-1))))] := hD
  refine lv_dup hx hb d_RM_lattice_16 rfl ?_
  refine lv_iconst (v := 3) hx hb d_RM_lattice_17 (by decide) ?_
  refine lv_iconst (v := 2) hx hb d_RM_lattice_18 (by decide) ?_
  refine kr_iast (k := 3) hx hb hK hP hD hS 0 0 rfl rfl (by omega) (by first | decide | omega) d_RM_lattice_19 (fun H locs hP hD hS => ?_)
  have hP : va_P (dC, dI) vwCl [(q_1, .inl (cI, 12, .inl (upd (upd (upd (upd (fun _ => 0) 0 0) 1 1) 2 (-1)) 3 2)))] H := hP
  have hD : va_D A [(q_1, .inl (cI, 12, .inl (upd (upd (upd (upd (fun _ => 0) 0 0) 1 1) 2 (-1)) 3 2)))] := hD
  refine lv_dup hx hb d_RM_lattice_20 rfl ?_
  refine lv_iconst (v := 4) hx hb d_RM_lattice_21 (by decide) ?_
  refine lv_ldc (v := (-2147483648)) hx hb hown hk_59 d_RM_lattice_22 ?_
  refine kr_iast (k := 4) hx hb hK hP hD hS 0 0 rfl rfl (by omega) (by first | decide | omega) d_RM_lattice_24 (fun H locs hP hD hS => ?_)
  have hP : va_P (dC, dI) vwCl [(q_1, .inl (cI, 12, .inl (upd (upd (upd (upd (upd (fun _ => 0) 0 0) 1 1) 2 (-1)) 3 2) 4 (-2147483648))))] H := hP
  have hD : va_D A [(q_1, .inl (cI, 12, .inl (upd (upd (upd (upd (upd (fun _ => 0) 0 0) 1 1) 2 (-1)) 3 2) 4 (-2147483648))))] := hD
  refine lv_dup hx hb d_RM_lattice_25 rfl ?_
  refine lv_iconst (v := 5) hx hb d_RM_lattice_26 (by decide) ?_
  refine lv_ldc (v := 2147483647) hx hb hown hk_60 d_RM_lattice_27 ?_
  refine kr_iast (k := 5) hx hb hK hP hD hS 0 0 rfl rfl (by omega) (by first | decide | omega) d_RM_lattice_29 (fun H locs hP hD hS => ?_)
  have hP : va_P (dC, dI) vwCl [(q_1, .inl (cI, 12, .inl (upd (upd (upd (upd (upd (upd (fun _ => 0) 0 0) 1 1) 2 (-1)) 3 2) 4 (-2147483648)) 5 2147483647)))] H := hP
  have hD : va_D A [(q_1, .inl (cI, 12, .inl (upd (upd (upd (upd (upd (upd (fun _ => 0) 0 0) 1 1) 2 (-1)) 3 2) 4 (-2147483648)) 5 2147483647)))] := hD
  refine lv_dup hx hb d_RM_lattice_30 rfl ?_
  refine lv_bipush (v := 6) hx hb d_RM_lattice_31 (by decide) ?_
  refine lv_iconst (v := 3) hx hb d_RM_lattice_33 (by decide) ?_
  refine kr_iast (k := 6) hx hb hK hP hD hS 0 0 rfl rfl (by omega) (by first | decide | omega) d_RM_lattice_34 (fun H locs hP hD hS => ?_)
  have hP : va_P (dC, dI) vwCl [(q_1, .inl (cI, 12, .inl (upd (upd (upd (upd (upd (upd (upd (fun _ => 0) 0 0) 1 1) 2 (-1)) 3 2) 4 (-2147483648)) 5 2147483647) 6 3)))] H := hP
  have hD : va_D A [(q_1, .inl (cI, 12, .inl (upd (upd (upd (upd (upd (upd (upd (fun _ => 0) 0 0) 1 1) 2 (-1)) 3 2) 4 (-2147483648)) 5 2147483647) 6 3)))] := hD
  refine lv_dup hx hb d_RM_lattice_35 rfl ?_
  refine lv_bipush (v := 7) hx hb d_RM_lattice_36 (by decide) ?_
  refine lv_bipush (v := 31) hx hb d_RM_lattice_38 (by decide) ?_
  refine kr_iast (k := 7) hx hb hK hP hD hS 0 0 rfl rfl (by omega) (by first | decide | omega) d_RM_lattice_40 (fun H locs hP hD hS => ?_)
  have hP : va_P (dC, dI) vwCl [(q_1, .inl (cI, 12, .inl (upd (upd (upd (upd (upd (upd (upd (upd (fun _ => 0) 0 0) 1 1) 2 (-1)) 3 2) 4 (-2147483648)) 5 2147483647) 6 3) 7 31)))] H := hP
  have hD : va_D A [(q_1, .inl (cI, 12, .inl (upd (upd (upd (upd (upd (upd (upd (upd (fun _ => 0) 0 0) 1 1) 2 (-1)) 3 2) 4 (-2147483648)) 5 2147483647) 6 3) 7 31)))] := hD
  refine lv_dup hx hb d_RM_lattice_41 rfl ?_
  refine lv_bipush (v := 8) hx hb d_RM_lattice_42 (by decide) ?_
  refine lv_bipush (v := 32) hx hb d_RM_lattice_44 (by decide) ?_
  refine kr_iast (k := 8) hx hb hK hP hD hS 0 0 rfl rfl (by omega) (by first | decide | omega) d_RM_lattice_46 (fun H locs hP hD hS => ?_)
  have hP : va_P (dC, dI) vwCl [(q_1, .inl (cI, 12, .inl (upd (upd (upd (upd (upd (upd (upd (upd (upd (fun _ => 0) 0 0) 1 1) 2 (-1)) 3 2) 4 (-2147483648)) 5 2147483647) 6 3) 7 31) 8 32)))] H := hP
  have hD : va_D A [(q_1, .inl (cI, 12, .inl (upd (upd (upd (upd (upd (upd (upd (upd (upd (fun _ => 0) 0 0) 1 1) 2 (-1)) 3 2) 4 (-2147483648)) 5 2147483647) 6 3) 7 31) 8 32)))] := hD
  refine lv_dup hx hb d_RM_lattice_47 rfl ?_
  refine lv_bipush (v := 9) hx hb d_RM_lattice_48 (by decide) ?_
  refine lv_bipush (v := (-2)) hx hb d_RM_lattice_50 (by decide) ?_
  refine kr_iast (k := 9) hx hb hK hP hD hS 0 0 rfl rfl (by omega) (by first | decide | omega) d_RM_lattice_52 (fun H locs hP hD hS => ?_)
  have hP : va_P (dC, dI) vwCl [(q_1, .inl (cI, 12, .inl (upd (upd (upd (upd (upd (upd (upd (upd (upd (upd (fun _ => 0) 0 0) 1 1) 2 (-1)) 3 2) 4 (-2147483648)) 5 2147483647) 6 3) 7 31) 8 32) 9 (-2))))] H := hP
  have hD : va_D A [(q_1, .inl (cI, 12, .inl (upd (upd (upd (upd (upd (upd (upd (upd (upd (upd (fun _ => 0) 0 0) 1 1) 2 (-1)) 3 2) 4 (-2147483648)) 5 2147483647) 6 3) 7 31) 8 32) 9 (-2))))] := hD
  refine lv_dup hx hb d_RM_lattice_53 rfl ?_
  refine lv_bipush (v := 10) hx hb d_RM_lattice_54 (by decide) ?_
  refine lv_sipush (v := 128) hx hb d_RM_lattice_56 (by decide) ?_
  refine kr_iast (k := 10) hx hb hK hP hD hS 0 0 rfl rfl (by omega) (by first | decide | omega) d_RM_lattice_59 (fun H locs hP hD hS => ?_)
  have hP : va_P (dC, dI) vwCl [(q_1, .inl (cI, 12, .inl (upd (upd (upd (upd (upd (upd (upd (upd (upd (upd (upd (fun _ => 0) 0 0) 1 1) 2 (-1)) 3 2) 4 (-2147483648)) 5 2147483647) 6 3) 7 31) 8 32) 9 (-2)) 10 128)))] H := hP
  have hD : va_D A [(q_1, .inl (cI, 12, .inl (upd (upd (upd (upd (upd (upd (upd (upd (upd (upd (upd (fun _ => 0) 0 0) 1 1) 2 (-1)) 3 2) 4 (-2147483648)) 5 2147483647) 6 3) 7 31) 8 32) 9 (-2)) 10 128)))] := hD
  refine lv_dup hx hb d_RM_lattice_60 rfl ?_
  refine lv_bipush (v := 11) hx hb d_RM_lattice_61 (by decide) ?_
  refine lv_ldc (v := 65536) hx hb hown hk_61 d_RM_lattice_63 ?_
  refine kr_iast (k := 11) hx hb hK hP hD hS 0 0 rfl rfl (by omega) (by first | decide | omega) d_RM_lattice_65 (fun H locs hP hD hS => ?_)
  have hP : va_P (dC, dI) vwCl [(q_1, .inl (cI, 12, .inl (upd (upd (upd (upd (upd (upd (upd (upd (upd (upd (upd (upd (fun _ => 0) 0 0) 1 1) 2 (-1)) 3 2) 4 (-2147483648)) 5 2147483647) 6 3) 7 31) 8 32) 9 (-2)) 10 128) 11 65536)))] H := hP
  have hD : va_D A [(q_1, .inl (cI, 12, .inl (upd (upd (upd (upd (upd (upd (upd (upd (upd (upd (upd (upd (fun _ => 0) 0 0) 1 1) 2 (-1)) 3 2) 4 (-2147483648)) 5 2147483647) 6 3) 7 31) 8 32) 9 (-2)) 10 128) 11 65536)))] := hD
  refine lv_astore_n (lv' := [(1, .ref q_1), (0, .int (nI i0))]) hx hb d_RM_lattice_66 rfl hl (by decide) rfl (fun ls hl => ?_)
  refine lv_aload_n hx hb d_RM_lattice_67 rfl (lv_at hl 0 rfl) ?_
  refine lv_iload_n hx hb d_RM_lattice_68 rfl (lv_at hl 1 rfl) ?_
  refine kr_iald (k := i0) hx hb hK hP 0 0 rfl rfl (by omega) (by first | decide | omega) d_RM_lattice_69 ?_
  refine kr_topi (x := (upd (upd (upd (upd (upd (upd (upd (upd (upd (upd (upd (upd (fun _ => 0) 0 0) 1 1) 2 (-1)) 3 2) 4 (-2147483648)) 5 2147483647) 6 3) 7 31) 8 32) 9 (-2)) 10 128) 11 65536) i0) (y := kLat i0) ((by decide : ∀ i : Nat, i < 12 → (upd (upd (upd (upd (upd (upd (upd (upd (upd (upd (upd (upd (fun _ => 0) 0 0) 1 1) 2 (-1)) 3 2) 4 (-2147483648)) 5 2147483647) 6 3) 7 31) 8 32) 9 (-2)) 10 128) 11 65536) i = kLat i) i0 hi0) ?_
  have hP9 := hP.sub (ws' := []) [] rfl
  have hD9 := hD.sub (ws' := []) [] (by decide) rfl
  exact kr_iret (v := (kLat i0)) hQ hx hb hr hlocks hK hP9 hD9 hS rfl () rfl d_RM_lattice_70
set_option maxHeartbeats 4000000 in
set_option maxRecDepth 100000 in
theorem rc_name (l : Launch) (dC : Nat → ClassId) (dI : Nat → Nat → Nat) (cI cJ cC cZ : ClassId) (σ : kSg) (e0 : Int32) : kC l y_RM_name ws_RM_name (kRm 0 0 0 0) (dC, dI) (kTy cI cJ cC cZ) σ ([]) [.int e0] (kQl (dC, dI) (kTy cI cJ cC cZ) (r_nm e0) (fun _ : Unit => [])) 0 0 := by
  refine kr_met (cc := prog_12_method_4_code) (maxL := 1) (ret := (some .long)) (by decide) rfl (Nat.le_of_ble_eq_true rfl) ?_
  intro p e s m args below meth c A Q hQ hx hb hr hml hts hown hlocks hnm hA hP hK hD hSt ls hl
  have hS : va_S A s.heap s.heap [] := va_S.rf
  have hown : s.vm.findClass "KitRunnerModel" = some m.cls := hown
  have hl : lv_has ls 1 [(0, .int e0)] := hl
  have hP : va_P (dC, dI) vwCl [] s.heap := hP
  have hD : va_D A [] := hD
  have hk_62 := hts _ (List.mem_cons_of_mem _ wq_680)
  have hk_64 := hts _ (List.mem_cons_of_mem _ wq_681)
  have hk_66 := hts _ (List.mem_cons_of_mem _ wq_682)
  have hk_68 := hts _ (List.mem_cons_of_mem _ wq_683)
  have hk_70 := hts _ (List.mem_cons_of_mem _ wq_684)
  have hk_72 := hts _ (List.mem_cons_of_mem _ wq_685)
  have hk_74 := hts _ (List.mem_cons_of_mem _ wq_686)
  have hk_76 := hts _ (List.mem_cons_of_mem _ wq_687)
  have hk_78 := hts _ (List.mem_cons_of_mem _ wq_688)
  have hk_80 := hts _ (List.mem_cons_of_mem _ wq_689)
  have hk_82 := hts _ (List.mem_cons_of_mem _ wq_690)
  have hk_84 := hts _ (List.mem_cons_of_mem _ wq_691)
  have hk_86 := hts _ (List.mem_cons_of_mem _ wq_692)
  have hk_88 := hts _ (List.mem_cons_of_mem _ wq_693)
  have hk_90 := hts _ (List.mem_cons_of_mem _ wq_694)
  have hk_92 := hts _ (List.mem_cons_of_mem _ wq_695)
  refine lv_iload_n hx hb d_RM_name_0 rfl (lv_at hl 0 rfl) ?_
  rcases ks_14 e0 with c_1 | c_1 | c_1 | c_1 | c_1 | c_1 | c_1 | c_1 | c_1 | c_1 | c_1 | c_1 | c_1 | c_1 | c_1 | c_1
  · skip
    refine lv_tableIn (tgt := 76) hx hb d_RM_name_1 (by rw [c_1]; decide) (by rw [c_1]; decide) (by rw [c_1]; rfl) (by decide) ?_
    refine lv_ldc2 (v := 6382692) hx hb hown hk_62 d_RM_name_76 ?_
    have hpost : r_nm e0 = 6382692 := by simp only [r_nm, if_pos c_1, if_neg (ks_ne (b := 1) c_1 (by decide)), if_neg (ks_ne (b := 2) c_1 (by decide)), if_neg (ks_ne (b := 3) c_1 (by decide)), if_neg (ks_ne (b := 4) c_1 (by decide)), if_neg (ks_ne (b := 5) c_1 (by decide)), if_neg (ks_ne (b := 6) c_1 (by decide)), if_neg (ks_ne (b := 7) c_1 (by decide)), if_neg (ks_ne (b := 8) c_1 (by decide)), if_neg (ks_ne (b := 9) c_1 (by decide)), if_neg (ks_ne (b := 10) c_1 (by decide)), if_neg (ks_ne (b := 11) c_1 (by decide)), if_neg (ks_ne (b := 12) c_1 (by decide)), if_neg (ks_ne (b := 13) c_1 (by decide)), if_neg (ks_ne (b := 14) c_1 (by decide))]
    have hP9 := hP.sub (ws' := []) [] rfl
    have hD9 := hD.sub (ws' := []) [] (by decide) rfl
    exact kr_lret (v := 6382692) hQ hx hb hr hlocks hK hP9 hD9 hS (by rw [hpost] <;> rfl) () rfl d_RM_name_79
  · skip
    refine lv_tableIn (tgt := 80) hx hb d_RM_name_1 (by rw [c_1]; decide) (by rw [c_1]; decide) (by rw [c_1]; rfl) (by decide) ?_
    refine lv_ldc2 (v := 7566690) hx hb hown hk_64 d_RM_name_80 ?_
    have hpost : r_nm e0 = 7566690 := by simp only [r_nm, if_pos c_1, if_neg (ks_ne (b := 0) c_1 (by decide)), if_neg (ks_ne (b := 2) c_1 (by decide)), if_neg (ks_ne (b := 3) c_1 (by decide)), if_neg (ks_ne (b := 4) c_1 (by decide)), if_neg (ks_ne (b := 5) c_1 (by decide)), if_neg (ks_ne (b := 6) c_1 (by decide)), if_neg (ks_ne (b := 7) c_1 (by decide)), if_neg (ks_ne (b := 8) c_1 (by decide)), if_neg (ks_ne (b := 9) c_1 (by decide)), if_neg (ks_ne (b := 10) c_1 (by decide)), if_neg (ks_ne (b := 11) c_1 (by decide)), if_neg (ks_ne (b := 12) c_1 (by decide)), if_neg (ks_ne (b := 13) c_1 (by decide)), if_neg (ks_ne (b := 14) c_1 (by decide))]
    have hP9 := hP.sub (ws' := []) [] rfl
    have hD9 := hD.sub (ws' := []) [] (by decide) rfl
    exact kr_lret (v := 7566690) hQ hx hb hr hlocks hK hP9 hD9 hS (by rw [hpost] <;> rfl) () rfl d_RM_name_83
  · skip
    refine lv_tableIn (tgt := 84) hx hb d_RM_name_1 (by rw [c_1]; decide) (by rw [c_1]; decide) (by rw [c_1]; rfl) (by decide) ?_
    refine lv_ldc2 (v := 7173484) hx hb hown hk_66 d_RM_name_84 ?_
    have hpost : r_nm e0 = 7173484 := by simp only [r_nm, if_pos c_1, if_neg (ks_ne (b := 0) c_1 (by decide)), if_neg (ks_ne (b := 1) c_1 (by decide)), if_neg (ks_ne (b := 3) c_1 (by decide)), if_neg (ks_ne (b := 4) c_1 (by decide)), if_neg (ks_ne (b := 5) c_1 (by decide)), if_neg (ks_ne (b := 6) c_1 (by decide)), if_neg (ks_ne (b := 7) c_1 (by decide)), if_neg (ks_ne (b := 8) c_1 (by decide)), if_neg (ks_ne (b := 9) c_1 (by decide)), if_neg (ks_ne (b := 10) c_1 (by decide)), if_neg (ks_ne (b := 11) c_1 (by decide)), if_neg (ks_ne (b := 12) c_1 (by decide)), if_neg (ks_ne (b := 13) c_1 (by decide)), if_neg (ks_ne (b := 14) c_1 (by decide))]
    have hP9 := hP.sub (ws' := []) [] rfl
    have hD9 := hD.sub (ws' := []) [] (by decide) rfl
    exact kr_lret (v := 7173484) hQ hx hb hr hlocks hK hP9 hD9 hS (by rw [hpost] <;> rfl) () rfl d_RM_name_87
  · skip
    refine lv_tableIn (tgt := 88) hx hb d_RM_name_1 (by rw [c_1]; decide) (by rw [c_1]; decide) (by rw [c_1]; rfl) (by decide) ?_
    refine lv_ldc2 (v := 6580598) hx hb hown hk_68 d_RM_name_88 ?_
    have hpost : r_nm e0 = 6580598 := by simp only [r_nm, if_pos c_1, if_neg (ks_ne (b := 0) c_1 (by decide)), if_neg (ks_ne (b := 1) c_1 (by decide)), if_neg (ks_ne (b := 2) c_1 (by decide)), if_neg (ks_ne (b := 4) c_1 (by decide)), if_neg (ks_ne (b := 5) c_1 (by decide)), if_neg (ks_ne (b := 6) c_1 (by decide)), if_neg (ks_ne (b := 7) c_1 (by decide)), if_neg (ks_ne (b := 8) c_1 (by decide)), if_neg (ks_ne (b := 9) c_1 (by decide)), if_neg (ks_ne (b := 10) c_1 (by decide)), if_neg (ks_ne (b := 11) c_1 (by decide)), if_neg (ks_ne (b := 12) c_1 (by decide)), if_neg (ks_ne (b := 13) c_1 (by decide)), if_neg (ks_ne (b := 14) c_1 (by decide))]
    have hP9 := hP.sub (ws' := []) [] rfl
    have hD9 := hD.sub (ws' := []) [] (by decide) rfl
    exact kr_lret (v := 6580598) hQ hx hb hr hlocks hK hP9 hD9 hS (by rw [hpost] <;> rfl) () rfl d_RM_name_91
  · skip
    refine lv_tableIn (tgt := 92) hx hb d_RM_name_1 (by rw [c_1]; decide) (by rw [c_1]; decide) (by rw [c_1]; rfl) (by decide) ?_
    refine lv_ldc2 (v := 7497069) hx hb hown hk_70 d_RM_name_92 ?_
    have hpost : r_nm e0 = 7497069 := by simp only [r_nm, if_pos c_1, if_neg (ks_ne (b := 0) c_1 (by decide)), if_neg (ks_ne (b := 1) c_1 (by decide)), if_neg (ks_ne (b := 2) c_1 (by decide)), if_neg (ks_ne (b := 3) c_1 (by decide)), if_neg (ks_ne (b := 5) c_1 (by decide)), if_neg (ks_ne (b := 6) c_1 (by decide)), if_neg (ks_ne (b := 7) c_1 (by decide)), if_neg (ks_ne (b := 8) c_1 (by decide)), if_neg (ks_ne (b := 9) c_1 (by decide)), if_neg (ks_ne (b := 10) c_1 (by decide)), if_neg (ks_ne (b := 11) c_1 (by decide)), if_neg (ks_ne (b := 12) c_1 (by decide)), if_neg (ks_ne (b := 13) c_1 (by decide)), if_neg (ks_ne (b := 14) c_1 (by decide))]
    have hP9 := hP.sub (ws' := []) [] rfl
    have hD9 := hD.sub (ws' := []) [] (by decide) rfl
    exact kr_lret (v := 7497069) hQ hx hb hr hlocks hK hP9 hD9 hS (by rw [hpost] <;> rfl) () rfl d_RM_name_95
  · skip
    refine lv_tableIn (tgt := 96) hx hb d_RM_name_1 (by rw [c_1]; decide) (by rw [c_1]; decide) (by rw [c_1]; rfl) (by decide) ?_
    refine lv_ldc2 (v := 7563372) hx hb hown hk_72 d_RM_name_96 ?_
    have hpost : r_nm e0 = 7563372 := by simp only [r_nm, if_pos c_1, if_neg (ks_ne (b := 0) c_1 (by decide)), if_neg (ks_ne (b := 1) c_1 (by decide)), if_neg (ks_ne (b := 2) c_1 (by decide)), if_neg (ks_ne (b := 3) c_1 (by decide)), if_neg (ks_ne (b := 4) c_1 (by decide)), if_neg (ks_ne (b := 6) c_1 (by decide)), if_neg (ks_ne (b := 7) c_1 (by decide)), if_neg (ks_ne (b := 8) c_1 (by decide)), if_neg (ks_ne (b := 9) c_1 (by decide)), if_neg (ks_ne (b := 10) c_1 (by decide)), if_neg (ks_ne (b := 11) c_1 (by decide)), if_neg (ks_ne (b := 12) c_1 (by decide)), if_neg (ks_ne (b := 13) c_1 (by decide)), if_neg (ks_ne (b := 14) c_1 (by decide))]
    have hP9 := hP.sub (ws' := []) [] rfl
    have hD9 := hD.sub (ws' := []) [] (by decide) rfl
    exact kr_lret (v := 7563372) hQ hx hb hr hlocks hK hP9 hD9 hS (by rw [hpost] <;> rfl) () rfl d_RM_name_99
  · skip
    refine lv_tableIn (tgt := 100) hx hb d_RM_name_1 (by rw [c_1]; decide) (by rw [c_1]; decide) (by rw [c_1]; rfl) (by decide) ?_
    refine lv_ldc2 (v := 7563378) hx hb hown hk_74 d_RM_name_100 ?_
    have hpost : r_nm e0 = 7563378 := by simp only [r_nm, if_pos c_1, if_neg (ks_ne (b := 0) c_1 (by decide)), if_neg (ks_ne (b := 1) c_1 (by decide)), if_neg (ks_ne (b := 2) c_1 (by decide)), if_neg (ks_ne (b := 3) c_1 (by decide)), if_neg (ks_ne (b := 4) c_1 (by decide)), if_neg (ks_ne (b := 5) c_1 (by decide)), if_neg (ks_ne (b := 7) c_1 (by decide)), if_neg (ks_ne (b := 8) c_1 (by decide)), if_neg (ks_ne (b := 9) c_1 (by decide)), if_neg (ks_ne (b := 10) c_1 (by decide)), if_neg (ks_ne (b := 11) c_1 (by decide)), if_neg (ks_ne (b := 12) c_1 (by decide)), if_neg (ks_ne (b := 13) c_1 (by decide)), if_neg (ks_ne (b := 14) c_1 (by decide))]
    have hP9 := hP.sub (ws' := []) [] rfl
    have hD9 := hD.sub (ws' := []) [] (by decide) rfl
    exact kr_lret (v := 7563378) hQ hx hb hr hlocks hK hP9 hD9 hS (by rw [hpost] <;> rfl) () rfl d_RM_name_103
  · skip
    refine lv_tableIn (tgt := 104) hx hb d_RM_name_1 (by rw [c_1]; decide) (by rw [c_1]; decide) (by rw [c_1]; rfl) (by decide) ?_
    refine lv_ldc2 (v := 1970497650) hx hb hown hk_76 d_RM_name_104 ?_
    have hpost : r_nm e0 = 1970497650 := by simp only [r_nm, if_pos c_1, if_neg (ks_ne (b := 0) c_1 (by decide)), if_neg (ks_ne (b := 1) c_1 (by decide)), if_neg (ks_ne (b := 2) c_1 (by decide)), if_neg (ks_ne (b := 3) c_1 (by decide)), if_neg (ks_ne (b := 4) c_1 (by decide)), if_neg (ks_ne (b := 5) c_1 (by decide)), if_neg (ks_ne (b := 6) c_1 (by decide)), if_neg (ks_ne (b := 8) c_1 (by decide)), if_neg (ks_ne (b := 9) c_1 (by decide)), if_neg (ks_ne (b := 10) c_1 (by decide)), if_neg (ks_ne (b := 11) c_1 (by decide)), if_neg (ks_ne (b := 12) c_1 (by decide)), if_neg (ks_ne (b := 13) c_1 (by decide)), if_neg (ks_ne (b := 14) c_1 (by decide))]
    have hP9 := hP.sub (ws' := []) [] rfl
    have hD9 := hD.sub (ws' := []) [] (by decide) rfl
    exact kr_lret (v := 1970497650) hQ hx hb hr hlocks hK hP9 hD9 hS (by rw [hpost] <;> rfl) () rfl d_RM_name_107
  · skip
    refine lv_tableIn (tgt := 108) hx hb d_RM_name_1 (by rw [c_1]; decide) (by rw [c_1]; decide) (by rw [c_1]; rfl) (by decide) ?_
    refine lv_ldc2 (v := 1652126821) hx hb hown hk_78 d_RM_name_108 ?_
    have hpost : r_nm e0 = 1652126821 := by simp only [r_nm, if_pos c_1, if_neg (ks_ne (b := 0) c_1 (by decide)), if_neg (ks_ne (b := 1) c_1 (by decide)), if_neg (ks_ne (b := 2) c_1 (by decide)), if_neg (ks_ne (b := 3) c_1 (by decide)), if_neg (ks_ne (b := 4) c_1 (by decide)), if_neg (ks_ne (b := 5) c_1 (by decide)), if_neg (ks_ne (b := 6) c_1 (by decide)), if_neg (ks_ne (b := 7) c_1 (by decide)), if_neg (ks_ne (b := 9) c_1 (by decide)), if_neg (ks_ne (b := 10) c_1 (by decide)), if_neg (ks_ne (b := 11) c_1 (by decide)), if_neg (ks_ne (b := 12) c_1 (by decide)), if_neg (ks_ne (b := 13) c_1 (by decide)), if_neg (ks_ne (b := 14) c_1 (by decide))]
    have hP9 := hP.sub (ws' := []) [] rfl
    have hD9 := hD.sub (ws' := []) [] (by decide) rfl
    exact kr_lret (v := 1652126821) hQ hx hb hr hlocks hK hP9 hD9 hS (by rw [hpost] <;> rfl) () rfl d_RM_name_111
  · skip
    refine lv_tableIn (tgt := 112) hx hb d_RM_name_1 (by rw [c_1]; decide) (by rw [c_1]; decide) (by rw [c_1]; rfl) (by decide) ?_
    refine lv_ldc2 (v := 1667785074) hx hb hown hk_80 d_RM_name_112 ?_
    have hpost : r_nm e0 = 1667785074 := by simp only [r_nm, if_pos c_1, if_neg (ks_ne (b := 0) c_1 (by decide)), if_neg (ks_ne (b := 1) c_1 (by decide)), if_neg (ks_ne (b := 2) c_1 (by decide)), if_neg (ks_ne (b := 3) c_1 (by decide)), if_neg (ks_ne (b := 4) c_1 (by decide)), if_neg (ks_ne (b := 5) c_1 (by decide)), if_neg (ks_ne (b := 6) c_1 (by decide)), if_neg (ks_ne (b := 7) c_1 (by decide)), if_neg (ks_ne (b := 8) c_1 (by decide)), if_neg (ks_ne (b := 10) c_1 (by decide)), if_neg (ks_ne (b := 11) c_1 (by decide)), if_neg (ks_ne (b := 12) c_1 (by decide)), if_neg (ks_ne (b := 13) c_1 (by decide)), if_neg (ks_ne (b := 14) c_1 (by decide))]
    have hP9 := hP.sub (ws' := []) [] rfl
    have hD9 := hD.sub (ws' := []) [] (by decide) rfl
    exact kr_lret (v := 1667785074) hQ hx hb hr hlocks hK hP9 hD9 hS (by rw [hpost] <;> rfl) () rfl d_RM_name_115
  · skip
    refine lv_tableIn (tgt := 116) hx hb d_RM_name_1 (by rw [c_1]; decide) (by rw [c_1]; decide) (by rw [c_1]; rfl) (by decide) ?_
    refine lv_ldc2 (v := 24948) hx hb hown hk_82 d_RM_name_116 ?_
    have hpost : r_nm e0 = 24948 := by simp only [r_nm, if_pos c_1, if_neg (ks_ne (b := 0) c_1 (by decide)), if_neg (ks_ne (b := 1) c_1 (by decide)), if_neg (ks_ne (b := 2) c_1 (by decide)), if_neg (ks_ne (b := 3) c_1 (by decide)), if_neg (ks_ne (b := 4) c_1 (by decide)), if_neg (ks_ne (b := 5) c_1 (by decide)), if_neg (ks_ne (b := 6) c_1 (by decide)), if_neg (ks_ne (b := 7) c_1 (by decide)), if_neg (ks_ne (b := 8) c_1 (by decide)), if_neg (ks_ne (b := 9) c_1 (by decide)), if_neg (ks_ne (b := 11) c_1 (by decide)), if_neg (ks_ne (b := 12) c_1 (by decide)), if_neg (ks_ne (b := 13) c_1 (by decide)), if_neg (ks_ne (b := 14) c_1 (by decide))]
    have hP9 := hP.sub (ws' := []) [] rfl
    have hD9 := hD.sub (ws' := []) [] (by decide) rfl
    exact kr_lret (v := 24948) hQ hx hb hr hlocks hK hP9 hD9 hS (by rw [hpost] <;> rfl) () rfl d_RM_name_119
  · skip
    refine lv_tableIn (tgt := 120) hx hb d_RM_name_1 (by rw [c_1]; decide) (by rw [c_1]; decide) (by rw [c_1]; rfl) (by decide) ?_
    refine lv_ldc2 (v := 1667591276) hx hb hown hk_84 d_RM_name_120 ?_
    have hpost : r_nm e0 = 1667591276 := by simp only [r_nm, if_pos c_1, if_neg (ks_ne (b := 0) c_1 (by decide)), if_neg (ks_ne (b := 1) c_1 (by decide)), if_neg (ks_ne (b := 2) c_1 (by decide)), if_neg (ks_ne (b := 3) c_1 (by decide)), if_neg (ks_ne (b := 4) c_1 (by decide)), if_neg (ks_ne (b := 5) c_1 (by decide)), if_neg (ks_ne (b := 6) c_1 (by decide)), if_neg (ks_ne (b := 7) c_1 (by decide)), if_neg (ks_ne (b := 8) c_1 (by decide)), if_neg (ks_ne (b := 9) c_1 (by decide)), if_neg (ks_ne (b := 10) c_1 (by decide)), if_neg (ks_ne (b := 12) c_1 (by decide)), if_neg (ks_ne (b := 13) c_1 (by decide)), if_neg (ks_ne (b := 14) c_1 (by decide))]
    have hP9 := hP.sub (ws' := []) [] rfl
    have hD9 := hD.sub (ws' := []) [] (by decide) rfl
    exact kr_lret (v := 1667591276) hQ hx hb hr hlocks hK hP9 hD9 hS (by rw [hpost] <;> rfl) () rfl d_RM_name_123
  · skip
    refine lv_tableIn (tgt := 124) hx hb d_RM_name_1 (by rw [c_1]; decide) (by rw [c_1]; decide) (by rw [c_1]; rfl) (by decide) ?_
    refine lv_ldc2 (v := 1936292453) hx hb hown hk_86 d_RM_name_124 ?_
    have hpost : r_nm e0 = 1936292453 := by simp only [r_nm, if_pos c_1, if_neg (ks_ne (b := 0) c_1 (by decide)), if_neg (ks_ne (b := 1) c_1 (by decide)), if_neg (ks_ne (b := 2) c_1 (by decide)), if_neg (ks_ne (b := 3) c_1 (by decide)), if_neg (ks_ne (b := 4) c_1 (by decide)), if_neg (ks_ne (b := 5) c_1 (by decide)), if_neg (ks_ne (b := 6) c_1 (by decide)), if_neg (ks_ne (b := 7) c_1 (by decide)), if_neg (ks_ne (b := 8) c_1 (by decide)), if_neg (ks_ne (b := 9) c_1 (by decide)), if_neg (ks_ne (b := 10) c_1 (by decide)), if_neg (ks_ne (b := 11) c_1 (by decide)), if_neg (ks_ne (b := 13) c_1 (by decide)), if_neg (ks_ne (b := 14) c_1 (by decide))]
    have hP9 := hP.sub (ws' := []) [] rfl
    have hD9 := hD.sub (ws' := []) [] (by decide) rfl
    exact kr_lret (v := 1936292453) hQ hx hb hr hlocks hK hP9 hD9 hS (by rw [hpost] <;> rfl) () rfl d_RM_name_127
  · skip
    refine lv_tableIn (tgt := 128) hx hb d_RM_name_1 (by rw [c_1]; decide) (by rw [c_1]; decide) (by rw [c_1]; rfl) (by decide) ?_
    refine lv_ldc2 (v := 1667330932) hx hb hown hk_88 d_RM_name_128 ?_
    have hpost : r_nm e0 = 1667330932 := by simp only [r_nm, if_pos c_1, if_neg (ks_ne (b := 0) c_1 (by decide)), if_neg (ks_ne (b := 1) c_1 (by decide)), if_neg (ks_ne (b := 2) c_1 (by decide)), if_neg (ks_ne (b := 3) c_1 (by decide)), if_neg (ks_ne (b := 4) c_1 (by decide)), if_neg (ks_ne (b := 5) c_1 (by decide)), if_neg (ks_ne (b := 6) c_1 (by decide)), if_neg (ks_ne (b := 7) c_1 (by decide)), if_neg (ks_ne (b := 8) c_1 (by decide)), if_neg (ks_ne (b := 9) c_1 (by decide)), if_neg (ks_ne (b := 10) c_1 (by decide)), if_neg (ks_ne (b := 11) c_1 (by decide)), if_neg (ks_ne (b := 12) c_1 (by decide)), if_neg (ks_ne (b := 14) c_1 (by decide))]
    have hP9 := hP.sub (ws' := []) [] rfl
    have hD9 := hD.sub (ws' := []) [] (by decide) rfl
    exact kr_lret (v := 1667330932) hQ hx hb hr hlocks hK hP9 hD9 hS (by rw [hpost] <;> rfl) () rfl d_RM_name_131
  · skip
    refine lv_tableIn (tgt := 132) hx hb d_RM_name_1 (by rw [c_1]; decide) (by rw [c_1]; decide) (by rw [c_1]; rfl) (by decide) ?_
    refine lv_ldc2 (v := 1952807028) hx hb hown hk_90 d_RM_name_132 ?_
    have hpost : r_nm e0 = 1952807028 := by simp only [r_nm, if_pos c_1, if_neg (ks_ne (b := 0) c_1 (by decide)), if_neg (ks_ne (b := 1) c_1 (by decide)), if_neg (ks_ne (b := 2) c_1 (by decide)), if_neg (ks_ne (b := 3) c_1 (by decide)), if_neg (ks_ne (b := 4) c_1 (by decide)), if_neg (ks_ne (b := 5) c_1 (by decide)), if_neg (ks_ne (b := 6) c_1 (by decide)), if_neg (ks_ne (b := 7) c_1 (by decide)), if_neg (ks_ne (b := 8) c_1 (by decide)), if_neg (ks_ne (b := 9) c_1 (by decide)), if_neg (ks_ne (b := 10) c_1 (by decide)), if_neg (ks_ne (b := 11) c_1 (by decide)), if_neg (ks_ne (b := 12) c_1 (by decide)), if_neg (ks_ne (b := 13) c_1 (by decide))]
    have hP9 := hP.sub (ws' := []) [] rfl
    have hD9 := hD.sub (ws' := []) [] (by decide) rfl
    exact kr_lret (v := 1952807028) hQ hx hb hr hlocks hK hP9 hD9 hS (by rw [hpost] <;> rfl) () rfl d_RM_name_135
  · skip
    refine lv_tableOut (tgt := 136) hx hb d_RM_name_1 c_1 (by decide) ?_
    have c_1 := kn_14 c_1
    refine lv_ldc2 (v := 6516080) hx hb hown hk_92 d_RM_name_136 ?_
    have hpost : r_nm e0 = 6516080 := by simp only [r_nm, if_neg c_1.1, if_neg c_1.2.1, if_neg c_1.2.2.1, if_neg c_1.2.2.2.1, if_neg c_1.2.2.2.2.1, if_neg c_1.2.2.2.2.2.1, if_neg c_1.2.2.2.2.2.2.1, if_neg c_1.2.2.2.2.2.2.2.1, if_neg c_1.2.2.2.2.2.2.2.2.1, if_neg c_1.2.2.2.2.2.2.2.2.2.1, if_neg c_1.2.2.2.2.2.2.2.2.2.2.1, if_neg c_1.2.2.2.2.2.2.2.2.2.2.2.1, if_neg c_1.2.2.2.2.2.2.2.2.2.2.2.2.1, if_neg c_1.2.2.2.2.2.2.2.2.2.2.2.2.2.1, if_neg c_1.2.2.2.2.2.2.2.2.2.2.2.2.2.2]
    have hP9 := hP.sub (ws' := []) [] rfl
    have hD9 := hD.sub (ws' := []) [] (by decide) rfl
    exact kr_lret (v := 6516080) hQ hx hb hr hlocks hK hP9 hD9 hS (by rw [hpost] <;> rfl) () rfl d_RM_name_139
