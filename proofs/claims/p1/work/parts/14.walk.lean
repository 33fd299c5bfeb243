set_option maxHeartbeats 4000000 in
set_option maxRecDepth 100000 in
theorem c_EntryPoints_foretell (l : Launch) (dC : Nat → ClassId) (dI : Nat → Nat → Nat) (cI cJ cC cZ : ClassId) (σ : kSg) (e0 : Int32) (a0 : Int32) (b0 : Int32) : kC l y_K_EntryPoints_foretell ws_K_EntryPoints_foretell (kRm 4 0 0 85) (dC, dI) (kTy cI cJ cC cZ) σ ([]) [.int e0, .int a0, .int b0] (kQl (dC, dI) (kTy cI cJ cC cZ) (kOr e0 a0 b0) (fun _ : Unit => [])) 0 0 := by
  refine kr_met (cc := prog_2_method_3_code) (maxL := 3) (ret := (some .long)) (by decide) rfl (Nat.le_of_ble_eq_true rfl) ?_
  intro p e s m args below meth c A Q hQ hx hb hr hml hts hown hlocks hnm hA hP hK hD hSt ls hl
  have hS : va_S A s.heap s.heap [] := va_S.rf
  have hown : s.vm.findClass "KitRunner$EntryPoints" = some m.cls := hown
  have hl : lv_has ls 3 [(0, .int e0), (1, .int a0), (2, .int b0)] := hl
  have hP : va_P (dC, dI) vwCl [] s.heap := hP
  have hD : va_D A [] := hD
  have hk_41 := hts _ (List.mem_cons_of_mem _ wq_318)
  have hk_53 := hts _ (List.mem_cons_of_mem _ wq_321)
  have hini_String := hts _ (List.mem_cons_of_mem _ wq_11)
  have hm_47 := hts _ (List.mem_cons_of_mem _ wq_320)
  have hi_47 := hts _ (List.mem_cons_of_mem _ wq_258)
  have hv_47 := hts _ (List.mem_cons_of_mem _ wq_259)
  have hm_55 := hts _ (List.mem_cons_of_mem _ wq_322)
  have hi_55 := hts _ (List.mem_cons_of_mem _ wq_268)
  have hv_55 := hts _ (List.mem_cons_of_mem _ wq_269)
  have hf_59 := hts _ (List.mem_cons_of_mem _ wq_323)
  have hini_K_EntryPoints := hts _ (List.mem_cons_of_mem _ wq_10)
  have hm_63 := hts _ (List.mem_cons_of_mem _ wq_325)
  have hs_63 := hts _ (List.mem_cons_of_mem _ wq_326)
  have hk_67 := hts _ (List.mem_cons_of_mem _ wq_330)
  have hk_71 := hts _ (List.mem_cons_of_mem _ wq_332)
  have hk_69 := hts _ (List.mem_cons_of_mem _ wq_331)
  have hini_Integer := hts _ (List.mem_cons_of_mem _ wq_15)
  have hm_73 := hts _ (List.mem_cons_of_mem _ wq_333)
  have hs_73 := hts _ (List.mem_cons_of_mem _ wq_334)
  refine lv_iload_n hx hb d_K_EntryPoints_foretell_0 rfl (lv_at hl 0 rfl) ?_
  rcases ks_14 e0 with c_1 | c_1 | c_1 | c_1 | c_1 | c_1 | c_1 | c_1 | c_1 | c_1 | c_1 | c_1 | c_1 | c_1 | c_1 | c_1
  · skip
    refine lv_tableIn (tgt := 76) hx hb d_K_EntryPoints_foretell_1 (by rw [c_1]; decide) (by rw [c_1]; decide) (by rw [c_1]; rfl) (by decide) ?_
    refine lv_iload_n hx hb d_K_EntryPoints_foretell_76 rfl (lv_at hl 1 rfl) ?_
    refine lv_iload_n hx hb d_K_EntryPoints_foretell_77 rfl (lv_at hl 2 rfl) ?_
    refine lv_iadd hx hb d_K_EntryPoints_foretell_78 ?_
    refine lv_i2l hx hb d_K_EntryPoints_foretell_79 rfl ?_
    have hpost : kOr e0 a0 b0 = (a0 + b0).toInt64 := by simp only [kOr, if_pos c_1, if_neg (ks_ne (b := 1) c_1 (by decide)), if_neg (ks_ne (b := 2) c_1 (by decide)), if_neg (ks_ne (b := 3) c_1 (by decide)), if_neg (ks_ne (b := 4) c_1 (by decide)), if_neg (ks_ne (b := 5) c_1 (by decide)), if_neg (ks_ne (b := 6) c_1 (by decide)), if_neg (ks_ne (b := 7) c_1 (by decide)), if_neg (ks_ne (b := 8) c_1 (by decide)), if_neg (ks_ne (b := 9) c_1 (by decide)), if_neg (ks_ne (b := 10) c_1 (by decide)), if_neg (ks_ne (b := 11) c_1 (by decide)), if_neg (ks_ne (b := 12) c_1 (by decide)), if_neg (ks_ne (b := 13) c_1 (by decide)), if_neg (ks_ne (b := 14) c_1 (by decide))]
    have hP9 := hP.sub (ws' := []) [] rfl
    have hD9 := hD.sub (ws' := []) [] (by decide) rfl
    exact kr_lret (v := (a0 + b0).toInt64) hQ hx hb hr hlocks hK hP9 hD9 hS (by rw [hpost] <;> rfl) () rfl d_K_EntryPoints_foretell_80
  · skip
    refine lv_tableIn (tgt := 81) hx hb d_K_EntryPoints_foretell_1 (by rw [c_1]; decide) (by rw [c_1]; decide) (by rw [c_1]; rfl) (by decide) ?_
    refine lv_iload_n hx hb d_K_EntryPoints_foretell_81 rfl (lv_at hl 1 rfl) ?_
    refine lv_iload_n hx hb d_K_EntryPoints_foretell_82 rfl (lv_at hl 2 rfl) ?_
    refine lv_isub hx hb d_K_EntryPoints_foretell_83 ?_
    refine lv_i2l hx hb d_K_EntryPoints_foretell_84 rfl ?_
    have hpost : kOr e0 a0 b0 = (a0 - b0).toInt64 := by simp only [kOr, if_pos c_1, if_neg (ks_ne (b := 0) c_1 (by decide)), if_neg (ks_ne (b := 2) c_1 (by decide)), if_neg (ks_ne (b := 3) c_1 (by decide)), if_neg (ks_ne (b := 4) c_1 (by decide)), if_neg (ks_ne (b := 5) c_1 (by decide)), if_neg (ks_ne (b := 6) c_1 (by decide)), if_neg (ks_ne (b := 7) c_1 (by decide)), if_neg (ks_ne (b := 8) c_1 (by decide)), if_neg (ks_ne (b := 9) c_1 (by decide)), if_neg (ks_ne (b := 10) c_1 (by decide)), if_neg (ks_ne (b := 11) c_1 (by decide)), if_neg (ks_ne (b := 12) c_1 (by decide)), if_neg (ks_ne (b := 13) c_1 (by decide)), if_neg (ks_ne (b := 14) c_1 (by decide))]
    have hP9 := hP.sub (ws' := []) [] rfl
    have hD9 := hD.sub (ws' := []) [] (by decide) rfl
    exact kr_lret (v := (a0 - b0).toInt64) hQ hx hb hr hlocks hK hP9 hD9 hS (by rw [hpost] <;> rfl) () rfl d_K_EntryPoints_foretell_85
  · skip
    refine lv_tableIn (tgt := 86) hx hb d_K_EntryPoints_foretell_1 (by rw [c_1]; decide) (by rw [c_1]; decide) (by rw [c_1]; rfl) (by decide) ?_
    refine lv_iload_n hx hb d_K_EntryPoints_foretell_86 rfl (lv_at hl 1 rfl) ?_
    refine lv_iload_n hx hb d_K_EntryPoints_foretell_87 rfl (lv_at hl 2 rfl) ?_
    refine lv_imul hx hb d_K_EntryPoints_foretell_88 ?_
    refine lv_i2l hx hb d_K_EntryPoints_foretell_89 rfl ?_
    have hpost : kOr e0 a0 b0 = (a0 * b0).toInt64 := by simp only [kOr, if_pos c_1, if_neg (ks_ne (b := 0) c_1 (by decide)), if_neg (ks_ne (b := 1) c_1 (by decide)), if_neg (ks_ne (b := 3) c_1 (by decide)), if_neg (ks_ne (b := 4) c_1 (by decide)), if_neg (ks_ne (b := 5) c_1 (by decide)), if_neg (ks_ne (b := 6) c_1 (by decide)), if_neg (ks_ne (b := 7) c_1 (by decide)), if_neg (ks_ne (b := 8) c_1 (by decide)), if_neg (ks_ne (b := 9) c_1 (by decide)), if_neg (ks_ne (b := 10) c_1 (by decide)), if_neg (ks_ne (b := 11) c_1 (by decide)), if_neg (ks_ne (b := 12) c_1 (by decide)), if_neg (ks_ne (b := 13) c_1 (by decide)), if_neg (ks_ne (b := 14) c_1 (by decide))]
    have hP9 := hP.sub (ws' := []) [] rfl
    have hD9 := hD.sub (ws' := []) [] (by decide) rfl
    exact kr_lret (v := (a0 * b0).toInt64) hQ hx hb hr hlocks hK hP9 hD9 hS (by rw [hpost] <;> rfl) () rfl d_K_EntryPoints_foretell_90
  · skip
    refine lv_tableIn (tgt := 91) hx hb d_K_EntryPoints_foretell_1 (by rw [c_1]; decide) (by rw [c_1]; decide) (by rw [c_1]; rfl) (by decide) ?_
    refine lv_iload_n hx hb d_K_EntryPoints_foretell_91 rfl (lv_at hl 2 rfl) ?_
    refine lv_if_ne (tgt := 101) hx hb d_K_EntryPoints_foretell_92 (by decide) (fun c_2 => ?_) (fun c_2 => ?_)
    · skip
      refine lv_iload_n hx hb d_K_EntryPoints_foretell_101 rfl (lv_at hl 1 rfl) ?_
      refine lv_iload_n hx hb d_K_EntryPoints_foretell_102 rfl (lv_at hl 2 rfl) ?_
      refine lv_idiv hx hb d_K_EntryPoints_foretell_103 (by assumption) ?_
      refine lv_i2l hx hb d_K_EntryPoints_foretell_104 rfl ?_
      have hpost : kOr e0 a0 b0 = (a0 / b0).toInt64 := by simp only [kOr, if_pos c_1, if_neg (ks_ne (b := 0) c_1 (by decide)), if_neg (ks_ne (b := 1) c_1 (by decide)), if_neg (ks_ne (b := 2) c_1 (by decide)), if_neg (ks_ne (b := 4) c_1 (by decide)), if_neg (ks_ne (b := 5) c_1 (by decide)), if_neg (ks_ne (b := 6) c_1 (by decide)), if_neg (ks_ne (b := 7) c_1 (by decide)), if_neg (ks_ne (b := 8) c_1 (by decide)), if_neg (ks_ne (b := 9) c_1 (by decide)), if_neg (ks_ne (b := 10) c_1 (by decide)), if_neg (ks_ne (b := 11) c_1 (by decide)), if_neg (ks_ne (b := 12) c_1 (by decide)), if_neg (ks_ne (b := 13) c_1 (by decide)), if_neg (ks_ne (b := 14) c_1 (by decide)), if_neg c_2]
      have hP9 := hP.sub (ws' := []) [] rfl
      have hD9 := hD.sub (ws' := []) [] (by decide) rfl
      exact kr_lret (v := (a0 / b0).toInt64) hQ hx hb hr hlocks hK hP9 hD9 hS (by rw [hpost] <;> rfl) () rfl d_K_EntryPoints_foretell_105
    · skip
      refine lv_ldc2 (v := 10000000000) hx hb hown hk_41 d_K_EntryPoints_foretell_95 ?_
      refine lv_goto (tgt := 105) hx hb d_K_EntryPoints_foretell_98 (by decide) ?_
      have hpost : kOr e0 a0 b0 = 10000000000 := by simp only [kOr, if_pos c_1, if_neg (ks_ne (b := 0) c_1 (by decide)), if_neg (ks_ne (b := 1) c_1 (by decide)), if_neg (ks_ne (b := 2) c_1 (by decide)), if_neg (ks_ne (b := 4) c_1 (by decide)), if_neg (ks_ne (b := 5) c_1 (by decide)), if_neg (ks_ne (b := 6) c_1 (by decide)), if_neg (ks_ne (b := 7) c_1 (by decide)), if_neg (ks_ne (b := 8) c_1 (by decide)), if_neg (ks_ne (b := 9) c_1 (by decide)), if_neg (ks_ne (b := 10) c_1 (by decide)), if_neg (ks_ne (b := 11) c_1 (by decide)), if_neg (ks_ne (b := 12) c_1 (by decide)), if_neg (ks_ne (b := 13) c_1 (by decide)), if_neg (ks_ne (b := 14) c_1 (by decide)), if_pos c_2]
      have hP9 := hP.sub (ws' := []) [] rfl
      have hD9 := hD.sub (ws' := []) [] (by decide) rfl
      exact kr_lret (v := 10000000000) hQ hx hb hr hlocks hK hP9 hD9 hS (by rw [hpost] <;> rfl) () rfl d_K_EntryPoints_foretell_105
  · skip
    refine lv_tableIn (tgt := 106) hx hb d_K_EntryPoints_foretell_1 (by rw [c_1]; decide) (by rw [c_1]; decide) (by rw [c_1]; rfl) (by decide) ?_
    refine lv_iload_n hx hb d_K_EntryPoints_foretell_106 rfl (lv_at hl 2 rfl) ?_
    refine lv_if_ne (tgt := 116) hx hb d_K_EntryPoints_foretell_107 (by decide) (fun c_3 => ?_) (fun c_3 => ?_)
    · skip
      refine lv_iload_n hx hb d_K_EntryPoints_foretell_116 rfl (lv_at hl 1 rfl) ?_
      refine lv_iload_n hx hb d_K_EntryPoints_foretell_117 rfl (lv_at hl 2 rfl) ?_
      refine lv_irem hx hb d_K_EntryPoints_foretell_118 (by assumption) ?_
      refine lv_i2l hx hb d_K_EntryPoints_foretell_119 rfl ?_
      have hpost : kOr e0 a0 b0 = (a0 - a0 / b0 * b0).toInt64 := by simp only [kOr, if_pos c_1, if_neg (ks_ne (b := 0) c_1 (by decide)), if_neg (ks_ne (b := 1) c_1 (by decide)), if_neg (ks_ne (b := 2) c_1 (by decide)), if_neg (ks_ne (b := 3) c_1 (by decide)), if_neg (ks_ne (b := 5) c_1 (by decide)), if_neg (ks_ne (b := 6) c_1 (by decide)), if_neg (ks_ne (b := 7) c_1 (by decide)), if_neg (ks_ne (b := 8) c_1 (by decide)), if_neg (ks_ne (b := 9) c_1 (by decide)), if_neg (ks_ne (b := 10) c_1 (by decide)), if_neg (ks_ne (b := 11) c_1 (by decide)), if_neg (ks_ne (b := 12) c_1 (by decide)), if_neg (ks_ne (b := 13) c_1 (by decide)), if_neg (ks_ne (b := 14) c_1 (by decide)), if_neg c_3]
      have hP9 := hP.sub (ws' := []) [] rfl
      have hD9 := hD.sub (ws' := []) [] (by decide) rfl
      exact kr_lret (v := (a0 - a0 / b0 * b0).toInt64) hQ hx hb hr hlocks hK hP9 hD9 hS (by rw [hpost] <;> rfl) () rfl d_K_EntryPoints_foretell_120
    · skip
      refine lv_ldc2 (v := 10000000000) hx hb hown hk_41 d_K_EntryPoints_foretell_110 ?_
      refine lv_goto (tgt := 120) hx hb d_K_EntryPoints_foretell_113 (by decide) ?_
      have hpost : kOr e0 a0 b0 = 10000000000 := by simp only [kOr, if_pos c_1, if_neg (ks_ne (b := 0) c_1 (by decide)), if_neg (ks_ne (b := 1) c_1 (by decide)), if_neg (ks_ne (b := 2) c_1 (by decide)), if_neg (ks_ne (b := 3) c_1 (by decide)), if_neg (ks_ne (b := 5) c_1 (by decide)), if_neg (ks_ne (b := 6) c_1 (by decide)), if_neg (ks_ne (b := 7) c_1 (by decide)), if_neg (ks_ne (b := 8) c_1 (by decide)), if_neg (ks_ne (b := 9) c_1 (by decide)), if_neg (ks_ne (b := 10) c_1 (by decide)), if_neg (ks_ne (b := 11) c_1 (by decide)), if_neg (ks_ne (b := 12) c_1 (by decide)), if_neg (ks_ne (b := 13) c_1 (by decide)), if_neg (ks_ne (b := 14) c_1 (by decide)), if_pos c_3]
      have hP9 := hP.sub (ws' := []) [] rfl
      have hD9 := hD.sub (ws' := []) [] (by decide) rfl
      exact kr_lret (v := 10000000000) hQ hx hb hr hlocks hK hP9 hD9 hS (by rw [hpost] <;> rfl) () rfl d_K_EntryPoints_foretell_120
  · skip
    refine lv_tableIn (tgt := 121) hx hb d_K_EntryPoints_foretell_1 (by rw [c_1]; decide) (by rw [c_1]; decide) (by rw [c_1]; rfl) (by decide) ?_
    refine lv_iload_n hx hb d_K_EntryPoints_foretell_121 rfl (lv_at hl 1 rfl) ?_
    refine lv_iload_n hx hb d_K_EntryPoints_foretell_122 rfl (lv_at hl 2 rfl) ?_
    refine lv_ishl hx hb d_K_EntryPoints_foretell_123 ?_
    refine lv_i2l hx hb d_K_EntryPoints_foretell_124 rfl ?_
    have hpost : kOr e0 a0 b0 = (a0 <<< (b0 &&& 31)).toInt64 := by simp only [kOr, if_pos c_1, if_neg (ks_ne (b := 0) c_1 (by decide)), if_neg (ks_ne (b := 1) c_1 (by decide)), if_neg (ks_ne (b := 2) c_1 (by decide)), if_neg (ks_ne (b := 3) c_1 (by decide)), if_neg (ks_ne (b := 4) c_1 (by decide)), if_neg (ks_ne (b := 6) c_1 (by decide)), if_neg (ks_ne (b := 7) c_1 (by decide)), if_neg (ks_ne (b := 8) c_1 (by decide)), if_neg (ks_ne (b := 9) c_1 (by decide)), if_neg (ks_ne (b := 10) c_1 (by decide)), if_neg (ks_ne (b := 11) c_1 (by decide)), if_neg (ks_ne (b := 12) c_1 (by decide)), if_neg (ks_ne (b := 13) c_1 (by decide)), if_neg (ks_ne (b := 14) c_1 (by decide))]
    have hP9 := hP.sub (ws' := []) [] rfl
    have hD9 := hD.sub (ws' := []) [] (by decide) rfl
    exact kr_lret (v := (a0 <<< (b0 &&& 31)).toInt64) hQ hx hb hr hlocks hK hP9 hD9 hS (by rw [hpost] <;> rfl) () rfl d_K_EntryPoints_foretell_125
  · skip
    refine lv_tableIn (tgt := 126) hx hb d_K_EntryPoints_foretell_1 (by rw [c_1]; decide) (by rw [c_1]; decide) (by rw [c_1]; rfl) (by decide) ?_
    refine lv_iload_n hx hb d_K_EntryPoints_foretell_126 rfl (lv_at hl 1 rfl) ?_
    refine lv_iload_n hx hb d_K_EntryPoints_foretell_127 rfl (lv_at hl 2 rfl) ?_
    refine lv_ishr hx hb d_K_EntryPoints_foretell_128 ?_
    refine lv_i2l hx hb d_K_EntryPoints_foretell_129 rfl ?_
    have hpost : kOr e0 a0 b0 = (a0 >>> (b0 &&& 31)).toInt64 := by simp only [kOr, if_pos c_1, if_neg (ks_ne (b := 0) c_1 (by decide)), if_neg (ks_ne (b := 1) c_1 (by decide)), if_neg (ks_ne (b := 2) c_1 (by decide)), if_neg (ks_ne (b := 3) c_1 (by decide)), if_neg (ks_ne (b := 4) c_1 (by decide)), if_neg (ks_ne (b := 5) c_1 (by decide)), if_neg (ks_ne (b := 7) c_1 (by decide)), if_neg (ks_ne (b := 8) c_1 (by decide)), if_neg (ks_ne (b := 9) c_1 (by decide)), if_neg (ks_ne (b := 10) c_1 (by decide)), if_neg (ks_ne (b := 11) c_1 (by decide)), if_neg (ks_ne (b := 12) c_1 (by decide)), if_neg (ks_ne (b := 13) c_1 (by decide)), if_neg (ks_ne (b := 14) c_1 (by decide))]
    have hP9 := hP.sub (ws' := []) [] rfl
    have hD9 := hD.sub (ws' := []) [] (by decide) rfl
    exact kr_lret (v := (a0 >>> (b0 &&& 31)).toInt64) hQ hx hb hr hlocks hK hP9 hD9 hS (by rw [hpost] <;> rfl) () rfl d_K_EntryPoints_foretell_130
  · skip
    refine lv_tableIn (tgt := 131) hx hb d_K_EntryPoints_foretell_1 (by rw [c_1]; decide) (by rw [c_1]; decide) (by rw [c_1]; rfl) (by decide) ?_
    refine lv_iload_n hx hb d_K_EntryPoints_foretell_131 rfl (lv_at hl 1 rfl) ?_
    refine lv_iload_n hx hb d_K_EntryPoints_foretell_132 rfl (lv_at hl 2 rfl) ?_
    refine lv_iushr hx hb d_K_EntryPoints_foretell_133 rfl ?_
    refine lv_i2l hx hb d_K_EntryPoints_foretell_134 rfl ?_
    have hpost : kOr e0 a0 b0 = (a0.toUInt32 >>> (b0.toUInt32 &&& Int32.toUInt32 31)).toInt32.toInt64 := by simp only [kOr, if_pos c_1, if_neg (ks_ne (b := 0) c_1 (by decide)), if_neg (ks_ne (b := 1) c_1 (by decide)), if_neg (ks_ne (b := 2) c_1 (by decide)), if_neg (ks_ne (b := 3) c_1 (by decide)), if_neg (ks_ne (b := 4) c_1 (by decide)), if_neg (ks_ne (b := 5) c_1 (by decide)), if_neg (ks_ne (b := 6) c_1 (by decide)), if_neg (ks_ne (b := 8) c_1 (by decide)), if_neg (ks_ne (b := 9) c_1 (by decide)), if_neg (ks_ne (b := 10) c_1 (by decide)), if_neg (ks_ne (b := 11) c_1 (by decide)), if_neg (ks_ne (b := 12) c_1 (by decide)), if_neg (ks_ne (b := 13) c_1 (by decide)), if_neg (ks_ne (b := 14) c_1 (by decide))]
    have hP9 := hP.sub (ws' := []) [] rfl
    have hD9 := hD.sub (ws' := []) [] (by decide) rfl
    exact kr_lret (v := (a0.toUInt32 >>> (b0.toUInt32 &&& Int32.toUInt32 31)).toInt32.toInt64) hQ hx hb hr hlocks hK hP9 hD9 hS (by rw [hpost] <;> rfl) () rfl d_K_EntryPoints_foretell_135
  · skip
    refine lv_tableIn (tgt := 136) hx hb d_K_EntryPoints_foretell_1 (by rw [c_1]; decide) (by rw [c_1]; decide) (by rw [c_1]; rfl) (by decide) ?_
    refine lv_iload_n hx hb d_K_EntryPoints_foretell_136 rfl (lv_at hl 1 rfl) ?_
    refine lv_i2b hx hb d_K_EntryPoints_foretell_137 rfl ?_
    refine lv_i2l hx hb d_K_EntryPoints_foretell_138 rfl ?_
    have hpost : kOr e0 a0 b0 = a0.toInt8.toInt32.toInt64 := by simp only [kOr, if_pos c_1, if_neg (ks_ne (b := 0) c_1 (by decide)), if_neg (ks_ne (b := 1) c_1 (by decide)), if_neg (ks_ne (b := 2) c_1 (by decide)), if_neg (ks_ne (b := 3) c_1 (by decide)), if_neg (ks_ne (b := 4) c_1 (by decide)), if_neg (ks_ne (b := 5) c_1 (by decide)), if_neg (ks_ne (b := 6) c_1 (by decide)), if_neg (ks_ne (b := 7) c_1 (by decide)), if_neg (ks_ne (b := 9) c_1 (by decide)), if_neg (ks_ne (b := 10) c_1 (by decide)), if_neg (ks_ne (b := 11) c_1 (by decide)), if_neg (ks_ne (b := 12) c_1 (by decide)), if_neg (ks_ne (b := 13) c_1 (by decide)), if_neg (ks_ne (b := 14) c_1 (by decide))]
    have hP9 := hP.sub (ws' := []) [] rfl
    have hD9 := hD.sub (ws' := []) [] (by decide) rfl
    exact kr_lret (v := a0.toInt8.toInt32.toInt64) hQ hx hb hr hlocks hK hP9 hD9 hS (by rw [hpost] <;> rfl) () rfl d_K_EntryPoints_foretell_139
  · skip
    refine lv_tableIn (tgt := 140) hx hb d_K_EntryPoints_foretell_1 (by rw [c_1]; decide) (by rw [c_1]; decide) (by rw [c_1]; rfl) (by decide) ?_
    refine lv_iload_n hx hb d_K_EntryPoints_foretell_140 rfl (lv_at hl 1 rfl) ?_
    refine lv_i2c hx hb d_K_EntryPoints_foretell_141 rfl ?_
    refine lv_i2l hx hb d_K_EntryPoints_foretell_142 rfl ?_
    have hpost : kOr e0 a0 b0 = (a0.toUInt32 % 65536).toInt32.toInt64 := by simp only [kOr, if_pos c_1, if_neg (ks_ne (b := 0) c_1 (by decide)), if_neg (ks_ne (b := 1) c_1 (by decide)), if_neg (ks_ne (b := 2) c_1 (by decide)), if_neg (ks_ne (b := 3) c_1 (by decide)), if_neg (ks_ne (b := 4) c_1 (by decide)), if_neg (ks_ne (b := 5) c_1 (by decide)), if_neg (ks_ne (b := 6) c_1 (by decide)), if_neg (ks_ne (b := 7) c_1 (by decide)), if_neg (ks_ne (b := 8) c_1 (by decide)), if_neg (ks_ne (b := 10) c_1 (by decide)), if_neg (ks_ne (b := 11) c_1 (by decide)), if_neg (ks_ne (b := 12) c_1 (by decide)), if_neg (ks_ne (b := 13) c_1 (by decide)), if_neg (ks_ne (b := 14) c_1 (by decide))]
    have hP9 := hP.sub (ws' := []) [] rfl
    have hD9 := hD.sub (ws' := []) [] (by decide) rfl
    exact kr_lret (v := (a0.toUInt32 % 65536).toInt32.toInt64) hQ hx hb hr hlocks hK hP9 hD9 hS (by rw [hpost] <;> rfl) () rfl d_K_EntryPoints_foretell_143
  · skip
    refine lv_tableIn (tgt := 144) hx hb d_K_EntryPoints_foretell_1 (by rw [c_1]; decide) (by rw [c_1]; decide) (by rw [c_1]; rfl) (by decide) ?_
    refine lv_iload_n hx hb d_K_EntryPoints_foretell_144 rfl (lv_at hl 1 rfl) ?_
    refine lv_if_lt (tgt := 157) hx hb d_K_EntryPoints_foretell_145 (by decide) (fun c_4 => ?_) (fun c_4 => ?_)
    · skip
      refine lv_ldc2 (v := 20000000000) hx hb hown hk_53 d_K_EntryPoints_foretell_157 ?_
      refine lv_goto (tgt := 170) hx hb d_K_EntryPoints_foretell_160 (by decide) ?_
      have hpost : kOr e0 a0 b0 = 20000000000 := by simp only [kOr, if_pos c_1, if_neg (ks_ne (b := 0) c_1 (by decide)), if_neg (ks_ne (b := 1) c_1 (by decide)), if_neg (ks_ne (b := 2) c_1 (by decide)), if_neg (ks_ne (b := 3) c_1 (by decide)), if_neg (ks_ne (b := 4) c_1 (by decide)), if_neg (ks_ne (b := 5) c_1 (by decide)), if_neg (ks_ne (b := 6) c_1 (by decide)), if_neg (ks_ne (b := 7) c_1 (by decide)), if_neg (ks_ne (b := 8) c_1 (by decide)), if_neg (ks_ne (b := 9) c_1 (by decide)), if_neg (ks_ne (b := 11) c_1 (by decide)), if_neg (ks_ne (b := 12) c_1 (by decide)), if_neg (ks_ne (b := 13) c_1 (by decide)), if_neg (ks_ne (b := 14) c_1 (by decide)), if_pos c_4]
      have hP9 := hP.sub (ws' := []) [] rfl
      have hD9 := hD.sub (ws' := []) [] (by decide) rfl
      exact kr_lret (v := 20000000000) hQ hx hb hr hlocks hK hP9 hD9 hS (by rw [hpost] <;> rfl) () rfl d_K_EntryPoints_foretell_170
    · skip
      refine lv_iload_n hx hb d_K_EntryPoints_foretell_148 rfl (lv_at hl 1 rfl) ?_
      refine va_ldcS hx hb hown (hSt.2.2.2.2.2.2.1 16 (by decide)) d_K_EntryPoints_foretell_149 ?_
      have hpre_5 := kr_pre (wc := []) (av := [.ref (σ.1 16)]) hK hP hD hS hA hSt [] rfl (by decide)
      refine kj_i (wc := []) (wr := []) (va_runV (As := []) (rest := [.int a0]) ⟨hx, hb, hml, hown, hts⟩ (c_String_length l dC dI cI cJ cC cZ σ 16 (by first | decide | assumption) _) ⟨(callB_of 0 hts (kg wq_260) rfl rfl rfl hini_String hm_47 (by decide +kernel) ⟨Nat.le_of_ble_eq_true rfl, Nat.le_of_ble_eq_true rfl⟩), hi_47, hv_47⟩ ⟨hpre_5.1, (va_Orecv (hSt.2.2.2.2.2.1 16 (by first | decide | assumption)).1 hS), hpre_5.2⟩ rfl rfl hl.1 rfl (lv_room (Nat.le_of_ble_eq_true rfl)) d_K_EntryPoints_foretell_151 ⟨Nat.le_of_ble_eq_true rfl, Nat.le_of_ble_eq_true rfl⟩) hP hD hS hA [] [] rfl rfl (by decide) (by decide) (fun _ H locs hP hD hS => ?_)
      have hP : va_P (dC, dI) vwCl [] H := hP
      have hD : va_D A [] := hD
      refine kr_topi (x := nI (kTx 16).length) (y := 3) rfl ?_
      refine lv_icmp_lt (tgt := 163) hx hb d_K_EntryPoints_foretell_154 (by decide) (fun c_6 => ?_) (fun c_6 => ?_)
      · skip
        obtain ⟨k0, hk0, hxk⟩ := ks_in (n := 3) c_4 c_6 (by decide)
        refine va_ldcS hx hb hown (hSt.2.2.2.2.2.2.1 16 (by decide)) d_K_EntryPoints_foretell_163 ?_
        refine lv_iload_n hx hb d_K_EntryPoints_foretell_165 rfl (lv_at hl 1 rfl) ?_
        refine kr_topi (x := a0) (y := nI k0) hxk ?_
        have hpre_7 := kr_pre (wc := []) (av := [.ref (σ.1 16), .int (nI k0)]) hK hP hD hS hA hSt [] rfl (by decide)
        refine kj_i (wc := []) (wr := []) (va_runV (As := [.int (nI k0)]) (rest := []) ⟨hx, hb, hml, hown, hts⟩ (c_String_charAt l dC dI cI cJ cC cZ σ 16 k0 (by first | decide | assumption) (by first | assumption | omega) _) ⟨(callB_of 1 hts (kg wq_270) rfl rfl rfl hini_String hm_55 (by decide +kernel) ⟨Nat.le_of_ble_eq_true rfl, Nat.le_of_ble_eq_true rfl⟩), hi_55, hv_55⟩ ⟨hpre_7.1, (va_Orecv (hSt.2.2.2.2.2.1 16 (by first | decide | assumption)).1 hS), hpre_7.2⟩ rfl rfl hl.1 rfl (lv_room (Nat.le_of_ble_eq_true rfl)) d_K_EntryPoints_foretell_166 ⟨Nat.le_of_ble_eq_true rfl, Nat.le_of_ble_eq_true rfl⟩) hP hD hS hA [] [] rfl rfl (by decide) (by decide) (fun _ H locs hP hD hS => ?_)
        have hP : va_P (dC, dI) vwCl [] H := hP
        have hD : va_D A [] := hD
        refine lv_i2l hx hb d_K_EntryPoints_foretell_169 rfl ?_
        have hpost : kOr e0 a0 b0 = (kChr 16 k0).toInt64 := by simp only [kOr, if_pos c_1, if_neg (ks_ne (b := 0) c_1 (by decide)), if_neg (ks_ne (b := 1) c_1 (by decide)), if_neg (ks_ne (b := 2) c_1 (by decide)), if_neg (ks_ne (b := 3) c_1 (by decide)), if_neg (ks_ne (b := 4) c_1 (by decide)), if_neg (ks_ne (b := 5) c_1 (by decide)), if_neg (ks_ne (b := 6) c_1 (by decide)), if_neg (ks_ne (b := 7) c_1 (by decide)), if_neg (ks_ne (b := 8) c_1 (by decide)), if_neg (ks_ne (b := 9) c_1 (by decide)), if_neg (ks_ne (b := 11) c_1 (by decide)), if_neg (ks_ne (b := 12) c_1 (by decide)), if_neg (ks_ne (b := 13) c_1 (by decide)), if_neg (ks_ne (b := 14) c_1 (by decide)), if_neg c_4, if_pos c_6]; rw [hxk, nI_clamp (by omega)]
        have hP9 := hP.sub (ws' := []) [] rfl
        have hD9 := hD.sub (ws' := []) [] (by decide) rfl
        exact kr_lret (v := (kChr 16 k0).toInt64) hQ hx hb hr hlocks hK hP9 hD9 hS (by rw [hpost] <;> rfl) () rfl d_K_EntryPoints_foretell_170
      · skip
        refine lv_ldc2 (v := 20000000000) hx hb hown hk_53 d_K_EntryPoints_foretell_157 ?_
        refine lv_goto (tgt := 170) hx hb d_K_EntryPoints_foretell_160 (by decide) ?_
        have hpost : kOr e0 a0 b0 = 20000000000 := by simp only [kOr, if_pos c_1, if_neg (ks_ne (b := 0) c_1 (by decide)), if_neg (ks_ne (b := 1) c_1 (by decide)), if_neg (ks_ne (b := 2) c_1 (by decide)), if_neg (ks_ne (b := 3) c_1 (by decide)), if_neg (ks_ne (b := 4) c_1 (by decide)), if_neg (ks_ne (b := 5) c_1 (by decide)), if_neg (ks_ne (b := 6) c_1 (by decide)), if_neg (ks_ne (b := 7) c_1 (by decide)), if_neg (ks_ne (b := 8) c_1 (by decide)), if_neg (ks_ne (b := 9) c_1 (by decide)), if_neg (ks_ne (b := 11) c_1 (by decide)), if_neg (ks_ne (b := 12) c_1 (by decide)), if_neg (ks_ne (b := 13) c_1 (by decide)), if_neg (ks_ne (b := 14) c_1 (by decide)), if_neg c_4, if_neg c_6]
        have hP9 := hP.sub (ws' := []) [] rfl
        have hD9 := hD.sub (ws' := []) [] (by decide) rfl
        exact kr_lret (v := 20000000000) hQ hx hb hr hlocks hK hP9 hD9 hS (by rw [hpost] <;> rfl) () rfl d_K_EntryPoints_foretell_170
  · skip
    refine lv_tableIn (tgt := 171) hx hb d_K_EntryPoints_foretell_1 (by rw [c_1]; decide) (by rw [c_1]; decide) (by rw [c_1]; rfl) (by decide) ?_
    refine lv_iload_n hx hb d_K_EntryPoints_foretell_171 rfl (lv_at hl 2 rfl) ?_
    refine lv_if_lt (tgt := 180) hx hb d_K_EntryPoints_foretell_172 (by decide) (fun c_8 => ?_) (fun c_8 => ?_)
    · skip
      refine lv_ldc2 (v := 20000000000) hx hb hown hk_53 d_K_EntryPoints_foretell_180 ?_
      refine lv_goto (tgt := 192) hx hb d_K_EntryPoints_foretell_183 (by decide) ?_
      have hpost : kOr e0 a0 b0 = 20000000000 := by simp only [kOr, if_pos c_1, if_neg (ks_ne (b := 0) c_1 (by decide)), if_neg (ks_ne (b := 1) c_1 (by decide)), if_neg (ks_ne (b := 2) c_1 (by decide)), if_neg (ks_ne (b := 3) c_1 (by decide)), if_neg (ks_ne (b := 4) c_1 (by decide)), if_neg (ks_ne (b := 5) c_1 (by decide)), if_neg (ks_ne (b := 6) c_1 (by decide)), if_neg (ks_ne (b := 7) c_1 (by decide)), if_neg (ks_ne (b := 8) c_1 (by decide)), if_neg (ks_ne (b := 9) c_1 (by decide)), if_neg (ks_ne (b := 10) c_1 (by decide)), if_neg (ks_ne (b := 12) c_1 (by decide)), if_neg (ks_ne (b := 13) c_1 (by decide)), if_neg (ks_ne (b := 14) c_1 (by decide)), if_pos c_8]
      have hP9 := hP.sub (ws' := []) [] rfl
      have hD9 := hD.sub (ws' := []) [] (by decide) rfl
      exact kr_lret (v := 20000000000) hQ hx hb hr hlocks hK hP9 hD9 hS (by rw [hpost] <;> rfl) () rfl d_K_EntryPoints_foretell_192
    · skip
      refine lv_iload_n hx hb d_K_EntryPoints_foretell_175 rfl (lv_at hl 2 rfl) ?_
      refine lv_iconst (v := 3) hx hb d_K_EntryPoints_foretell_176 (by decide) ?_
      refine lv_icmp_lt (tgt := 186) hx hb d_K_EntryPoints_foretell_177 (by decide) (fun c_9 => ?_) (fun c_9 => ?_)
      · skip
        obtain ⟨k0, hk0, hxk⟩ := ks_in (n := 3) c_8 c_9 (by decide)
        refine va_gets hx hb hSt.2.2.1 hS hown hf_59 (fun _ h9 => h9) d_K_EntryPoints_foretell_186 ?_
        refine lv_iload_n hx hb d_K_EntryPoints_foretell_189 rfl (lv_at hl 2 rfl) ?_
        refine kr_topi (x := b0) (y := nI k0) hxk ?_
        refine kr_ti (k := k0) (g := kCel) hx hb hSt.2.2.2.1 hS (by omega) (by first | decide | omega) d_K_EntryPoints_foretell_190 ?_
        refine lv_i2l hx hb d_K_EntryPoints_foretell_191 rfl ?_
        have hpost : kOr e0 a0 b0 = (kCel k0).toInt64 := by simp only [kOr, if_pos c_1, if_neg (ks_ne (b := 0) c_1 (by decide)), if_neg (ks_ne (b := 1) c_1 (by decide)), if_neg (ks_ne (b := 2) c_1 (by decide)), if_neg (ks_ne (b := 3) c_1 (by decide)), if_neg (ks_ne (b := 4) c_1 (by decide)), if_neg (ks_ne (b := 5) c_1 (by decide)), if_neg (ks_ne (b := 6) c_1 (by decide)), if_neg (ks_ne (b := 7) c_1 (by decide)), if_neg (ks_ne (b := 8) c_1 (by decide)), if_neg (ks_ne (b := 9) c_1 (by decide)), if_neg (ks_ne (b := 10) c_1 (by decide)), if_neg (ks_ne (b := 12) c_1 (by decide)), if_neg (ks_ne (b := 13) c_1 (by decide)), if_neg (ks_ne (b := 14) c_1 (by decide)), if_neg c_8, if_pos c_9]; rw [hxk, nI_clamp (by omega)]
        have hP9 := hP.sub (ws' := []) [] rfl
        have hD9 := hD.sub (ws' := []) [] (by decide) rfl
        exact kr_lret (v := (kCel k0).toInt64) hQ hx hb hr hlocks hK hP9 hD9 hS (by rw [hpost] <;> rfl) () rfl d_K_EntryPoints_foretell_192
      · skip
        refine lv_ldc2 (v := 20000000000) hx hb hown hk_53 d_K_EntryPoints_foretell_180 ?_
        refine lv_goto (tgt := 192) hx hb d_K_EntryPoints_foretell_183 (by decide) ?_
        have hpost : kOr e0 a0 b0 = 20000000000 := by simp only [kOr, if_pos c_1, if_neg (ks_ne (b := 0) c_1 (by decide)), if_neg (ks_ne (b := 1) c_1 (by decide)), if_neg (ks_ne (b := 2) c_1 (by decide)), if_neg (ks_ne (b := 3) c_1 (by decide)), if_neg (ks_ne (b := 4) c_1 (by decide)), if_neg (ks_ne (b := 5) c_1 (by decide)), if_neg (ks_ne (b := 6) c_1 (by decide)), if_neg (ks_ne (b := 7) c_1 (by decide)), if_neg (ks_ne (b := 8) c_1 (by decide)), if_neg (ks_ne (b := 9) c_1 (by decide)), if_neg (ks_ne (b := 10) c_1 (by decide)), if_neg (ks_ne (b := 12) c_1 (by decide)), if_neg (ks_ne (b := 13) c_1 (by decide)), if_neg (ks_ne (b := 14) c_1 (by decide)), if_neg c_8, if_neg c_9]
        have hP9 := hP.sub (ws' := []) [] rfl
        have hD9 := hD.sub (ws' := []) [] (by decide) rfl
        exact kr_lret (v := 20000000000) hQ hx hb hr hlocks hK hP9 hD9 hS (by rw [hpost] <;> rfl) () rfl d_K_EntryPoints_foretell_192
  · skip
    refine lv_tableIn (tgt := 193) hx hb d_K_EntryPoints_foretell_1 (by rw [c_1]; decide) (by rw [c_1]; decide) (by rw [c_1]; rfl) (by decide) ?_
    refine lv_iload_n hx hb d_K_EntryPoints_foretell_193 rfl (lv_at hl 1 rfl) ?_
    have hpre_10 := kr_pre (wc := []) (av := [.int a0]) hK hP hD hS hA hSt [] rfl (by decide)
    refine kj_l (wc := []) (wr := []) (va_runS (As := [.int a0]) (rest := []) ⟨hx, hb, hml, hown, hts⟩ (c_EntryPoints_sizeOf l dC dI cI cJ cC cZ σ a0 _) ⟨(callB_of 1 hts (kg wq_327) rfl rfl rfl hini_K_EntryPoints hm_63 (by decide +kernel) ⟨Nat.le_of_ble_eq_true rfl, Nat.le_of_ble_eq_true rfl⟩), hs_63⟩ hpre_10 rfl rfl hl.1 rfl (lv_room (Nat.le_of_ble_eq_true rfl)) d_K_EntryPoints_foretell_194 ⟨Nat.le_of_ble_eq_true rfl, Nat.le_of_ble_eq_true rfl⟩) hP hD hS hA [] [] rfl rfl (by decide) (by decide) (fun _ H locs hP hD hS => ?_)
    have hP : va_P (dC, dI) vwCl [] H := hP
    have hD : va_D A [] := hD
    have hpost : kOr e0 a0 b0 = k_size a0 := by simp only [kOr, if_pos c_1, if_neg (ks_ne (b := 0) c_1 (by decide)), if_neg (ks_ne (b := 1) c_1 (by decide)), if_neg (ks_ne (b := 2) c_1 (by decide)), if_neg (ks_ne (b := 3) c_1 (by decide)), if_neg (ks_ne (b := 4) c_1 (by decide)), if_neg (ks_ne (b := 5) c_1 (by decide)), if_neg (ks_ne (b := 6) c_1 (by decide)), if_neg (ks_ne (b := 7) c_1 (by decide)), if_neg (ks_ne (b := 8) c_1 (by decide)), if_neg (ks_ne (b := 9) c_1 (by decide)), if_neg (ks_ne (b := 10) c_1 (by decide)), if_neg (ks_ne (b := 11) c_1 (by decide)), if_neg (ks_ne (b := 13) c_1 (by decide)), if_neg (ks_ne (b := 14) c_1 (by decide))]
    have hP9 := hP.sub (ws' := []) [] rfl
    have hD9 := hD.sub (ws' := []) [] (by decide) rfl
    exact kr_lret (v := (k_size a0)) hQ hx hb hr hlocks hK hP9 hD9 hS (by rw [hpost] <;> rfl) () rfl d_K_EntryPoints_foretell_197
  · skip
    refine lv_tableIn (tgt := 198) hx hb d_K_EntryPoints_foretell_1 (by rw [c_1]; decide) (by rw [c_1]; decide) (by rw [c_1]; rfl) (by decide) ?_
    refine lv_iload_n hx hb d_K_EntryPoints_foretell_198 rfl (lv_at hl 1 rfl) ?_
    refine lv_iload_n hx hb d_K_EntryPoints_foretell_199 rfl (lv_at hl 2 rfl) ?_
    refine lv_icmp_ne (tgt := 208) hx hb d_K_EntryPoints_foretell_200 (by decide) (fun c_11 => ?_) (fun c_11 => ?_)
    · skip
      refine lv_ldc2 (v := 40000000000) hx hb hown hk_67 d_K_EntryPoints_foretell_208 ?_
      have hpost : kOr e0 a0 b0 = 40000000000 := by simp only [kOr, if_pos c_1, if_neg (ks_ne (b := 0) c_1 (by decide)), if_neg (ks_ne (b := 1) c_1 (by decide)), if_neg (ks_ne (b := 2) c_1 (by decide)), if_neg (ks_ne (b := 3) c_1 (by decide)), if_neg (ks_ne (b := 4) c_1 (by decide)), if_neg (ks_ne (b := 5) c_1 (by decide)), if_neg (ks_ne (b := 6) c_1 (by decide)), if_neg (ks_ne (b := 7) c_1 (by decide)), if_neg (ks_ne (b := 8) c_1 (by decide)), if_neg (ks_ne (b := 9) c_1 (by decide)), if_neg (ks_ne (b := 10) c_1 (by decide)), if_neg (ks_ne (b := 11) c_1 (by decide)), if_neg (ks_ne (b := 12) c_1 (by decide)), if_neg (ks_ne (b := 14) c_1 (by decide)), if_neg c_11]
      have hP9 := hP.sub (ws' := []) [] rfl
      have hD9 := hD.sub (ws' := []) [] (by decide) rfl
      exact kr_lret (v := 40000000000) hQ hx hb hr hlocks hK hP9 hD9 hS (by rw [hpost] <;> rfl) () rfl d_K_EntryPoints_foretell_211
    · skip
      refine lv_iload_n hx hb d_K_EntryPoints_foretell_203 rfl (lv_at hl 1 rfl) ?_
      refine lv_i2l hx hb d_K_EntryPoints_foretell_204 rfl ?_
      refine lv_goto (tgt := 211) hx hb d_K_EntryPoints_foretell_205 (by decide) ?_
      have hpost : kOr e0 a0 b0 = a0.toInt64 := by simp only [kOr, if_pos c_1, if_neg (ks_ne (b := 0) c_1 (by decide)), if_neg (ks_ne (b := 1) c_1 (by decide)), if_neg (ks_ne (b := 2) c_1 (by decide)), if_neg (ks_ne (b := 3) c_1 (by decide)), if_neg (ks_ne (b := 4) c_1 (by decide)), if_neg (ks_ne (b := 5) c_1 (by decide)), if_neg (ks_ne (b := 6) c_1 (by decide)), if_neg (ks_ne (b := 7) c_1 (by decide)), if_neg (ks_ne (b := 8) c_1 (by decide)), if_neg (ks_ne (b := 9) c_1 (by decide)), if_neg (ks_ne (b := 10) c_1 (by decide)), if_neg (ks_ne (b := 11) c_1 (by decide)), if_neg (ks_ne (b := 12) c_1 (by decide)), if_neg (ks_ne (b := 14) c_1 (by decide)), if_pos c_11]
      have hP9 := hP.sub (ws' := []) [] rfl
      have hD9 := hD.sub (ws' := []) [] (by decide) rfl
      exact kr_lret (v := a0.toInt64) hQ hx hb hr hlocks hK hP9 hD9 hS (by rw [hpost] <;> rfl) () rfl d_K_EntryPoints_foretell_211
  · skip
    refine lv_tableIn (tgt := 212) hx hb d_K_EntryPoints_foretell_1 (by rw [c_1]; decide) (by rw [c_1]; decide) (by rw [c_1]; rfl) (by decide) ?_
    refine lv_iload_n hx hb d_K_EntryPoints_foretell_212 rfl (lv_at hl 1 rfl) ?_
    refine lv_iload_n hx hb d_K_EntryPoints_foretell_213 rfl (lv_at hl 2 rfl) ?_
    refine lv_icmp_le (tgt := 223) hx hb d_K_EntryPoints_foretell_214 (by decide) (fun c_12 => ?_) (fun c_12 => ?_)
    · skip
      refine lv_ldc2 (v := 50000000000) hx hb hown hk_71 d_K_EntryPoints_foretell_223 ?_
      have hpost : kOr e0 a0 b0 = 50000000000 := by simp only [kOr, if_pos c_1, if_neg (ks_ne (b := 0) c_1 (by decide)), if_neg (ks_ne (b := 1) c_1 (by decide)), if_neg (ks_ne (b := 2) c_1 (by decide)), if_neg (ks_ne (b := 3) c_1 (by decide)), if_neg (ks_ne (b := 4) c_1 (by decide)), if_neg (ks_ne (b := 5) c_1 (by decide)), if_neg (ks_ne (b := 6) c_1 (by decide)), if_neg (ks_ne (b := 7) c_1 (by decide)), if_neg (ks_ne (b := 8) c_1 (by decide)), if_neg (ks_ne (b := 9) c_1 (by decide)), if_neg (ks_ne (b := 10) c_1 (by decide)), if_neg (ks_ne (b := 11) c_1 (by decide)), if_neg (ks_ne (b := 12) c_1 (by decide)), if_neg (ks_ne (b := 13) c_1 (by decide)), if_pos c_12]
      have hP9 := hP.sub (ws' := []) [] rfl
      have hD9 := hD.sub (ws' := []) [] (by decide) rfl
      exact kr_lret (v := 50000000000) hQ hx hb hr hlocks hK hP9 hD9 hS (by rw [hpost] <;> rfl) () rfl d_K_EntryPoints_foretell_226
    · skip
      refine lv_ldc2 (v := 4) hx hb hown hk_69 d_K_EntryPoints_foretell_217 ?_
      refine lv_goto (tgt := 226) hx hb d_K_EntryPoints_foretell_220 (by decide) ?_
      have hpost : kOr e0 a0 b0 = 4 := by simp only [kOr, if_pos c_1, if_neg (ks_ne (b := 0) c_1 (by decide)), if_neg (ks_ne (b := 1) c_1 (by decide)), if_neg (ks_ne (b := 2) c_1 (by decide)), if_neg (ks_ne (b := 3) c_1 (by decide)), if_neg (ks_ne (b := 4) c_1 (by decide)), if_neg (ks_ne (b := 5) c_1 (by decide)), if_neg (ks_ne (b := 6) c_1 (by decide)), if_neg (ks_ne (b := 7) c_1 (by decide)), if_neg (ks_ne (b := 8) c_1 (by decide)), if_neg (ks_ne (b := 9) c_1 (by decide)), if_neg (ks_ne (b := 10) c_1 (by decide)), if_neg (ks_ne (b := 11) c_1 (by decide)), if_neg (ks_ne (b := 12) c_1 (by decide)), if_neg (ks_ne (b := 13) c_1 (by decide)), if_neg c_12]
      have hP9 := hP.sub (ws' := []) [] rfl
      have hD9 := hD.sub (ws' := []) [] (by decide) rfl
      exact kr_lret (v := 4) hQ hx hb hr hlocks hK hP9 hD9 hS (by rw [hpost] <;> rfl) () rfl d_K_EntryPoints_foretell_226
  · skip
    refine lv_tableOut (tgt := 227) hx hb d_K_EntryPoints_foretell_1 c_1 (by decide) ?_
    have c_1 := kn_14 c_1
    refine lv_iload_n hx hb d_K_EntryPoints_foretell_227 rfl (lv_at hl 1 rfl) ?_
    refine lv_iload_n hx hb d_K_EntryPoints_foretell_228 rfl (lv_at hl 2 rfl) ?_
    have hpre_13 := kr_pre (wc := []) (av := [.int a0, .int b0]) hK hP hD hS hA hSt [] rfl (by decide)
    refine kj_i (wc := []) (wr := []) (va_runS (As := [.int a0, .int b0]) (rest := []) ⟨hx, hb, hml, hown, hts⟩ (c_Integer_compare l dC dI cI cJ cC cZ σ a0 b0 _) ⟨(callB_of 2 hts (kg wq_335) rfl rfl rfl hini_Integer hm_73 (by decide +kernel) ⟨Nat.le_of_ble_eq_true rfl, Nat.le_of_ble_eq_true rfl⟩), hs_73⟩ hpre_13 rfl rfl hl.1 rfl (lv_room (Nat.le_of_ble_eq_true rfl)) d_K_EntryPoints_foretell_229 ⟨Nat.le_of_ble_eq_true rfl, Nat.le_of_ble_eq_true rfl⟩) hP hD hS hA [] [] rfl rfl (by decide) (by decide) (fun _ H locs hP hD hS => ?_)
    have hP : va_P (dC, dI) vwCl [] H := hP
    have hD : va_D A [] := hD
    refine lv_i2l hx hb d_K_EntryPoints_foretell_232 rfl ?_
    have hpost : kOr e0 a0 b0 = (k_cmp a0 b0).toInt64 := by simp only [kOr, if_neg c_1.1, if_neg c_1.2.1, if_neg c_1.2.2.1, if_neg c_1.2.2.2.1, if_neg c_1.2.2.2.2.1, if_neg c_1.2.2.2.2.2.1, if_neg c_1.2.2.2.2.2.2.1, if_neg c_1.2.2.2.2.2.2.2.1, if_neg c_1.2.2.2.2.2.2.2.2.1, if_neg c_1.2.2.2.2.2.2.2.2.2.1, if_neg c_1.2.2.2.2.2.2.2.2.2.2.1, if_neg c_1.2.2.2.2.2.2.2.2.2.2.2.1, if_neg c_1.2.2.2.2.2.2.2.2.2.2.2.2.1, if_neg c_1.2.2.2.2.2.2.2.2.2.2.2.2.2.1, if_neg c_1.2.2.2.2.2.2.2.2.2.2.2.2.2.2]
    have hP9 := hP.sub (ws' := []) [] rfl
    have hD9 := hD.sub (ws' := []) [] (by decide) rfl
    exact kr_lret (v := (k_cmp a0 b0).toInt64) hQ hx hb hr hlocks hK hP9 hD9 hS (by rw [hpost] <;> rfl) () rfl d_K_EntryPoints_foretell_233
set_option maxHeartbeats 4000000 in
set_option maxRecDepth 100000 in
theorem c_Machine_give (l : Launch) (dC : Nat → ClassId) (dI : Nat → Nat → Nat) (cI cJ cC cZ : ClassId) (σ : kSg) (h h_0 h_1 h_2 : Nat) (P : kMach) (e0 : Int32) (a0 : Int32) (b0 : Int32) (hk : P.2.2.2 ≤ 4) : kC l y_K_Machine_give ws_K_Machine_give (kRm 5 0 0 107) (dC, dI) (kTy cI cJ cC cZ) σ (wMach cI cJ cC cZ h h_0 h_1 h_2 P) [.ref h, .int e0, .int a0, .int b0] (kQl (dC, dI) (kTy cI cJ cC cZ) (k_give P e0 a0 b0) (fun _ : Unit => wMach cI cJ cC cZ h h_0 h_1 h_2 P)) 0 0 := by
  refine kr_met (cc := prog_5_method_5_code) (maxL := 7) (ret := (some .long)) (by decide) rfl (Nat.le_of_ble_eq_true rfl) ?_
  intro p e s m args below meth c A Q hQ hx hb hr hml hts hown hlocks hnm hA hP hK hD hSt ls hl
  have hS : va_S A s.heap s.heap [] := va_S.rf
  have hown : s.vm.findClass "KitRunner$Machine" = some m.cls := hown
  have hl : lv_has ls 7 [(0, .ref h), (1, .int e0), (2, .int a0), (3, .int b0)] := hl
  have hP : va_P (dC, dI) vwCl [(h, .inr (1, [.ref h_0, .ref h_1, .ref h_2, .int (nI P.2.2.2)])), (h_0, .inl (cI, 4, .inl P.1)), (h_1, .inl (cI, 4, .inl P.2.1)), (h_2, .inl (cI, 4, .inl P.2.2.1))] s.heap := hP
  have hD : va_D A [(h, .inr (1, [.ref h_0, .ref h_1, .ref h_2, .int (nI P.2.2.2)])), (h_0, .inl (cI, 4, .inl P.1)), (h_1, .inl (cI, 4, .inl P.2.1)), (h_2, .inl (cI, 4, .inl P.2.2.1))] := hD
  have hini_K_EntryPoints := hts _ (List.mem_cons_of_mem _ wq_10)
  have hm_25 := hts _ (List.mem_cons_of_mem _ wq_315)
  have hs_25 := hts _ (List.mem_cons_of_mem _ wq_316)
  have hf_21 := hts _ (List.mem_cons_of_mem _ wq_34)
  have hin_K_Machine := fun w (h : w ∈ u_ws "KitRunner$Machine" T_K_Machine 4) => List.mem_cons_of_mem (Cond.code y_K_Machine_give prog_5_method_5_code 7 (some .long)) (in_K_Machine w h)
  have hf_9 := hts _ (List.mem_cons_of_mem _ wq_31)
  have hf_15 := hts _ (List.mem_cons_of_mem _ wq_32)
  have hf_18 := hts _ (List.mem_cons_of_mem _ wq_33)
  have hini_K_Machine := hts _ (List.mem_cons_of_mem _ wq_2)
  have hm_31 := hts _ (List.mem_cons_of_mem _ wq_336)
  have hs_31 := hts _ (List.mem_cons_of_mem _ wq_337)
  have hm_35 := hts _ (List.mem_cons_of_mem _ wq_343)
  have hs_35 := hts _ (List.mem_cons_of_mem _ wq_344)
  refine lv_iload_n hx hb d_K_Machine_give_0 rfl (lv_at hl 1 rfl) ?_
  refine lv_iload_n hx hb d_K_Machine_give_1 rfl (lv_at hl 2 rfl) ?_
  refine lv_iload_n hx hb d_K_Machine_give_2 rfl (lv_at hl 3 rfl) ?_
  have hpre_1 := kr_pre (wc := []) (av := [.int e0, .int a0, .int b0]) hK hP hD hS hA hSt [] rfl (by decide)
  refine kj_l (wc := []) (wr := [(h, .inr (1, [.ref h_0, .ref h_1, .ref h_2, .int (nI P.2.2.2)])), (h_0, .inl (cI, 4, .inl P.1)), (h_1, .inl (cI, 4, .inl P.2.1)), (h_2, .inl (cI, 4, .inl P.2.2.1))]) (va_runS (As := [.int e0, .int a0, .int b0]) (rest := []) ⟨hx, hb, hml, hown, hts⟩ (c_EntryPoints_foretell l dC dI cI cJ cC cZ σ e0 a0 b0 _) ⟨(callB_of 3 hts (kg wq_317) rfl rfl rfl hini_K_EntryPoints hm_25 (by decide +kernel) ⟨Nat.le_of_ble_eq_true rfl, Nat.le_of_ble_eq_true rfl⟩), hs_25⟩ hpre_1 rfl rfl hl.1 rfl (lv_room (Nat.le_of_ble_eq_true rfl)) d_K_Machine_give_3 ⟨Nat.le_of_ble_eq_true rfl, Nat.le_of_ble_eq_true rfl⟩) hP hD hS hA [] [0, 1, 2, 3] rfl rfl (by decide) (by decide) (fun _ H locs hP hD hS => ?_)
  have hP : va_P (dC, dI) vwCl [(h, .inr (1, [.ref h_0, .ref h_1, .ref h_2, .int (nI P.2.2.2)])), (h_0, .inl (cI, 4, .inl P.1)), (h_1, .inl (cI, 4, .inl P.2.1)), (h_2, .inl (cI, 4, .inl P.2.2.1))] H := hP
  have hD : va_D A [(h, .inr (1, [.ref h_0, .ref h_1, .ref h_2, .int (nI P.2.2.2)])), (h_0, .inl (cI, 4, .inl P.1)), (h_1, .inl (cI, 4, .inl P.2.1)), (h_2, .inl (cI, 4, .inl P.2.2.1))] := hD
  refine lv_lstore (lv' := [(4, .long (kOr e0 a0 b0)), (0, .ref h), (1, .int e0), (2, .int a0), (3, .int b0)]) hx hb d_K_Machine_give_6 hl (by decide) rfl (fun ls hl => ?_)
  refine lv_iconst (v := 0) hx hb d_K_Machine_give_8 (by decide) ?_
  refine lv_istore (lv' := [(6, .int 0), (4, .long (kOr e0 a0 b0)), (0, .ref h), (1, .int e0), (2, .int a0), (3, .int b0)]) hx hb d_K_Machine_give_9 hl (by decide) rfl (fun ls hl => ?_)
  have loop_11 : ∀ (n : Nat) (i : Nat), (i + n = P.2.2.2) → (k_give P e0 a0 b0 = k_giveL P e0 a0 b0 n i) → ∀ (H : Heap) (locs : List Loc), va_P (dC, dI) vwCl [(h, .inr (1, [.ref h_0, .ref h_1, .ref h_2, .int (nI P.2.2.2)])), (h_0, .inl (cI, 4, .inl P.1)), (h_1, .inl (cI, 4, .inl P.2.1)), (h_2, .inl (cI, 4, .inl P.2.2.1))] H → va_D A [(h, .inr (1, [.ref h_0, .ref h_1, .ref h_2, .int (nI P.2.2.2)])), (h_0, .inl (cI, 4, .inl P.1)), (h_1, .inl (cI, 4, .inl P.2.1)), (h_2, .inl (cI, 4, .inl P.2.2.1))] → va_S A s.heap H locs → ∀ ls : Array Slot, lv_has ls 7 [(6, .int (nI i)), (4, .long (kOr e0 a0 b0)), (0, .ref h), (1, .int e0), (2, .int a0), (3, .int b0)] → W p l e (kRm 5 0 0 107) s m args below meth c H locs 0 0 Q (F0 m 11 ls []) := by
    intro n
    induction n with
    | zero =>
      intro i hi hinv H locs hP hD hS ls hl
      refine lv_iload hx hb d_K_Machine_give_11 (lv_at hl 0 rfl) ?_
      refine lv_aload_n hx hb d_K_Machine_give_13 rfl (lv_at hl 2 rfl) ?_
      refine va_get (D := (dC, dI)) (ci := 1) (v := .int (nI P.2.2.2)) (C := "KitRunner$Machine") (T := T_K_Machine) (N := 4) hx hb hts hin_K_Machine hown hK hP 0 rfl rfl 3 (by decide) hf_21 (fun _ h9 => h9) rfl d_K_Machine_give_14 ?_
      refine lv_icmp_ge (tgt := 81) hx hb d_K_Machine_give_17 (by decide) (fun c_2 => ?_) (fun c_2 => ?_)
      · skip
        have c_2 : P.2.2.2 ≤ i := (nI_leI (a := P.2.2.2) (b := i) (by omega) (by omega)).mp c_2
        refine lv_lload hx hb d_K_Machine_give_81 (lv_at hl 1 rfl) ?_
        have hpost : k_give P e0 a0 b0 = kOr e0 a0 b0 := hinv.trans (by simp only [k_giveL, if_pos c_2])
        have hP9 := hP.sub (ws' := [(h, .inr (1, [.ref h_0, .ref h_1, .ref h_2, .int (nI P.2.2.2)])), (h_0, .inl (cI, 4, .inl P.1)), (h_1, .inl (cI, 4, .inl P.2.1)), (h_2, .inl (cI, 4, .inl P.2.2.1))]) [0, 1, 2, 3] rfl
        have hD9 := hD.sub (ws' := [(h, .inr (1, [.ref h_0, .ref h_1, .ref h_2, .int (nI P.2.2.2)])), (h_0, .inl (cI, 4, .inl P.1)), (h_1, .inl (cI, 4, .inl P.2.1)), (h_2, .inl (cI, 4, .inl P.2.2.1))]) [0, 1, 2, 3] (by decide) rfl
        exact kr_lret (v := (kOr e0 a0 b0)) hQ hx hb hr hlocks hK hP9 hD9 hS (by rw [hpost] <;> rfl) () rfl d_K_Machine_give_83
      · skip
        have c_2 : ¬ P.2.2.2 ≤ i := fun h9 => c_2 ((nI_leI (a := P.2.2.2) (b := i) (by omega) (by omega)).mpr h9)
        exfalso; omega
    | succ n ih_11 =>
      intro i hi hinv H locs hP hD hS ls hl
      refine lv_iload hx hb d_K_Machine_give_11 (lv_at hl 0 rfl) ?_
      refine lv_aload_n hx hb d_K_Machine_give_13 rfl (lv_at hl 2 rfl) ?_
      refine va_get (D := (dC, dI)) (ci := 1) (v := .int (nI P.2.2.2)) (C := "KitRunner$Machine") (T := T_K_Machine) (N := 4) hx hb hts hin_K_Machine hown hK hP 0 rfl rfl 3 (by decide) hf_21 (fun _ h9 => h9) rfl d_K_Machine_give_14 ?_
      refine lv_icmp_ge (tgt := 81) hx hb d_K_Machine_give_17 (by decide) (fun c_3 => ?_) (fun c_3 => ?_)
      · skip
        have c_3 : P.2.2.2 ≤ i := (nI_leI (a := P.2.2.2) (b := i) (by omega) (by omega)).mp c_3
        exfalso; omega
      · skip
        have c_3 : ¬ P.2.2.2 ≤ i := fun h9 => c_3 ((nI_leI (a := P.2.2.2) (b := i) (by omega) (by omega)).mpr h9)
        refine lv_aload_n hx hb d_K_Machine_give_20 rfl (lv_at hl 2 rfl) ?_
        refine va_get (D := (dC, dI)) (ci := 1) (v := .ref h_0) (C := "KitRunner$Machine") (T := T_K_Machine) (N := 4) hx hb hts hin_K_Machine hown hK hP 0 rfl rfl 0 (by decide) hf_9 (fun _ h9 => h9) rfl d_K_Machine_give_21 ?_
        refine lv_iload hx hb d_K_Machine_give_24 (lv_at hl 0 rfl) ?_
        refine kr_iald (k := i) hx hb hK hP 1 0 rfl rfl (by omega) (by first | decide | omega) d_K_Machine_give_26 ?_
        refine lv_iload_n hx hb d_K_Machine_give_27 rfl (lv_at hl 3 rfl) ?_
        refine lv_icmp_ne (tgt := 75) hx hb d_K_Machine_give_28 (by decide) (fun c_4 => ?_) (fun c_4 => ?_)
        · skip
          refine lv_iinc (v := (nI (i + 1))) (lv' := [(6, .int (nI (i + 1))), (4, .long (kOr e0 a0 b0)), (0, .ref h), (1, .int e0), (2, .int a0), (3, .int b0)]) hx hb d_K_Machine_give_75 hl (k := 0) rfl (nI_1 i) (by decide) rfl (fun ls hl => ?_)
          refine lv_goto (tgt := 11) hx hb d_K_Machine_give_78 (by decide) ?_
          exact ih_11 (i + 1) (by omega) (hinv.trans (by simp only [k_giveL, if_neg c_3, if_neg c_4])) _ _ (hP.sub [0, 1, 2, 3] rfl) (hD.sub [0, 1, 2, 3] (by decide) rfl) hS ls (lv_sub hl [0, 1, 2, 3, 4, 5] rfl)
        · skip
          refine lv_aload_n hx hb d_K_Machine_give_31 rfl (lv_at hl 2 rfl) ?_
          refine va_get (D := (dC, dI)) (ci := 1) (v := .ref h_1) (C := "KitRunner$Machine") (T := T_K_Machine) (N := 4) hx hb hts hin_K_Machine hown hK hP 0 rfl rfl 1 (by decide) hf_15 (fun _ h9 => h9) rfl d_K_Machine_give_32 ?_
          refine lv_iload hx hb d_K_Machine_give_35 (lv_at hl 0 rfl) ?_
          refine kr_iald (k := i) hx hb hK hP 2 0 rfl rfl (by omega) (by first | decide | omega) d_K_Machine_give_37 ?_
          refine lv_aload_n hx hb d_K_Machine_give_38 rfl (lv_at hl 2 rfl) ?_
          refine va_get (D := (dC, dI)) (ci := 1) (v := .ref h_2) (C := "KitRunner$Machine") (T := T_K_Machine) (N := 4) hx hb hts hin_K_Machine hown hK hP 0 rfl rfl 2 (by decide) hf_18 (fun _ h9 => h9) rfl d_K_Machine_give_39 ?_
          refine lv_iload hx hb d_K_Machine_give_42 (lv_at hl 0 rfl) ?_
          refine kr_iald (k := i) hx hb hK hP 3 0 rfl rfl (by omega) (by first | decide | omega) d_K_Machine_give_44 ?_
          refine lv_iload_n hx hb d_K_Machine_give_45 rfl (lv_at hl 4 rfl) ?_
          refine lv_iload_n hx hb d_K_Machine_give_46 rfl (lv_at hl 5 rfl) ?_
          refine lv_lload hx hb d_K_Machine_give_47 (lv_at hl 1 rfl) ?_
          have hpre_5 := kr_pre (wc := []) (av := [.int (P.2.1 i), .int (P.2.2.1 i), .int a0, .int b0, .long (kOr e0 a0 b0)]) hK hP hD hS hA hSt [] rfl (by decide)
          refine kj_i (wc := []) (wr := [(h, .inr (1, [.ref h_0, .ref h_1, .ref h_2, .int (nI P.2.2.2)])), (h_0, .inl (cI, 4, .inl P.1)), (h_1, .inl (cI, 4, .inl P.2.1)), (h_2, .inl (cI, 4, .inl P.2.2.1))]) (va_runS (As := [.int (P.2.1 i), .int (P.2.2.1 i), .int a0, .int b0, .long (kOr e0 a0 b0)]) (rest := []) ⟨hx, hb, hml, hown, hts⟩ (c_Machine_applies l dC dI cI cJ cC cZ σ (P.2.1 i) (P.2.2.1 i) a0 b0 (kOr e0 a0 b0) _) ⟨(callB_of 5 hts (kg wq_338) rfl rfl rfl hini_K_Machine hm_31 (by decide +kernel) ⟨Nat.le_of_ble_eq_true rfl, Nat.le_of_ble_eq_true rfl⟩), hs_31⟩ hpre_5 rfl rfl hl.1 rfl (lv_room (Nat.le_of_ble_eq_true rfl)) d_K_Machine_give_49 ⟨Nat.le_of_ble_eq_true rfl, Nat.le_of_ble_eq_true rfl⟩) hP hD hS hA [] [0, 1, 2, 3] rfl rfl (by decide) (by decide) (fun _ H locs hP hD hS => ?_)
          have hP : va_P (dC, dI) vwCl [(h, .inr (1, [.ref h_0, .ref h_1, .ref h_2, .int (nI P.2.2.2)])), (h_0, .inl (cI, 4, .inl P.1)), (h_1, .inl (cI, 4, .inl P.2.1)), (h_2, .inl (cI, 4, .inl P.2.2.1))] H := hP
          have hD : va_D A [(h, .inr (1, [.ref h_0, .ref h_1, .ref h_2, .int (nI P.2.2.2)])), (h_0, .inl (cI, 4, .inl P.1)), (h_1, .inl (cI, 4, .inl P.2.1)), (h_2, .inl (cI, 4, .inl P.2.2.1))] := hD
          refine lv_if_eq (tgt := 75) hx hb d_K_Machine_give_52 (by decide) (fun c_6 => ?_) (fun c_6 => ?_)
          · skip
            have c_6 : (k_app (P.2.1 i) (P.2.2.1 i) a0 b0 (kOr e0 a0 b0)) = false := kb_0.mp c_6
            refine lv_iinc (v := (nI (i + 1))) (lv' := [(6, .int (nI (i + 1))), (4, .long (kOr e0 a0 b0)), (0, .ref h), (1, .int e0), (2, .int a0), (3, .int b0)]) hx hb d_K_Machine_give_75 hl (k := 0) rfl (nI_1 i) (by decide) rfl (fun ls hl => ?_)
            refine lv_goto (tgt := 11) hx hb d_K_Machine_give_78 (by decide) ?_
            exact ih_11 (i + 1) (by omega) (hinv.trans (by simp only [k_giveL, if_neg c_3, if_pos c_4, if_neg (k_bf c_6)])) _ _ (hP.sub [0, 1, 2, 3] rfl) (hD.sub [0, 1, 2, 3] (by decide) rfl) hS ls (lv_sub hl [0, 1, 2, 3, 4, 5] rfl)
          · skip
            have c_6 : (k_app (P.2.1 i) (P.2.2.1 i) a0 b0 (kOr e0 a0 b0)) = true := kb_n.mp c_6
            refine lv_aload_n hx hb d_K_Machine_give_55 rfl (lv_at hl 2 rfl) ?_
            refine va_get (D := (dC, dI)) (ci := 1) (v := .ref h_1) (C := "KitRunner$Machine") (T := T_K_Machine) (N := 4) hx hb hts hin_K_Machine hown hK hP 0 rfl rfl 1 (by decide) hf_15 (fun _ h9 => h9) rfl d_K_Machine_give_56 ?_
            refine lv_iload hx hb d_K_Machine_give_59 (lv_at hl 0 rfl) ?_
            refine kr_iald (k := i) hx hb hK hP 2 0 rfl rfl (by omega) (by first | decide | omega) d_K_Machine_give_61 ?_
            refine lv_aload_n hx hb d_K_Machine_give_62 rfl (lv_at hl 2 rfl) ?_
            refine va_get (D := (dC, dI)) (ci := 1) (v := .ref h_2) (C := "KitRunner$Machine") (T := T_K_Machine) (N := 4) hx hb hts hin_K_Machine hown hK hP 0 rfl rfl 2 (by decide) hf_18 (fun _ h9 => h9) rfl d_K_Machine_give_63 ?_
            refine lv_iload hx hb d_K_Machine_give_66 (lv_at hl 0 rfl) ?_
            refine kr_iald (k := i) hx hb hK hP 3 0 rfl rfl (by omega) (by first | decide | omega) d_K_Machine_give_68 ?_
            refine lv_lload hx hb d_K_Machine_give_69 (lv_at hl 1 rfl) ?_
            have hpre_7 := kr_pre (wc := []) (av := [.int (P.2.1 i), .int (P.2.2.1 i), .long (kOr e0 a0 b0)]) hK hP hD hS hA hSt [] rfl (by decide)
            refine kj_l (wc := []) (wr := [(h, .inr (1, [.ref h_0, .ref h_1, .ref h_2, .int (nI P.2.2.2)])), (h_0, .inl (cI, 4, .inl P.1)), (h_1, .inl (cI, 4, .inl P.2.1)), (h_2, .inl (cI, 4, .inl P.2.2.1))]) (va_runS (As := [.int (P.2.1 i), .int (P.2.2.1 i), .long (kOr e0 a0 b0)]) (rest := []) ⟨hx, hb, hml, hown, hts⟩ (c_Machine_changed l dC dI cI cJ cC cZ σ (P.2.1 i) (P.2.2.1 i) (kOr e0 a0 b0) _) ⟨(callB_of 3 hts (kg wq_345) rfl rfl rfl hini_K_Machine hm_35 (by decide +kernel) ⟨Nat.le_of_ble_eq_true rfl, Nat.le_of_ble_eq_true rfl⟩), hs_35⟩ hpre_7 rfl rfl hl.1 rfl (lv_room (Nat.le_of_ble_eq_true rfl)) d_K_Machine_give_71 ⟨Nat.le_of_ble_eq_true rfl, Nat.le_of_ble_eq_true rfl⟩) hP hD hS hA [] [0, 1, 2, 3] rfl rfl (by decide) (by decide) (fun _ H locs hP hD hS => ?_)
            have hP : va_P (dC, dI) vwCl [(h, .inr (1, [.ref h_0, .ref h_1, .ref h_2, .int (nI P.2.2.2)])), (h_0, .inl (cI, 4, .inl P.1)), (h_1, .inl (cI, 4, .inl P.2.1)), (h_2, .inl (cI, 4, .inl P.2.2.1))] H := hP
            have hD : va_D A [(h, .inr (1, [.ref h_0, .ref h_1, .ref h_2, .int (nI P.2.2.2)])), (h_0, .inl (cI, 4, .inl P.1)), (h_1, .inl (cI, 4, .inl P.2.1)), (h_2, .inl (cI, 4, .inl P.2.2.1))] := hD
            have hpost : k_give P e0 a0 b0 = k_chg (P.2.1 i) (P.2.2.1 i) (kOr e0 a0 b0) := hinv.trans (by simp only [k_giveL, if_neg c_3, if_pos c_4, if_pos c_6])
            have hP9 := hP.sub (ws' := [(h, .inr (1, [.ref h_0, .ref h_1, .ref h_2, .int (nI P.2.2.2)])), (h_0, .inl (cI, 4, .inl P.1)), (h_1, .inl (cI, 4, .inl P.2.1)), (h_2, .inl (cI, 4, .inl P.2.2.1))]) [0, 1, 2, 3] rfl
            have hD9 := hD.sub (ws' := [(h, .inr (1, [.ref h_0, .ref h_1, .ref h_2, .int (nI P.2.2.2)])), (h_0, .inl (cI, 4, .inl P.1)), (h_1, .inl (cI, 4, .inl P.2.1)), (h_2, .inl (cI, 4, .inl P.2.2.1))]) [0, 1, 2, 3] (by decide) rfl
            exact kr_lret (v := (k_chg (P.2.1 i) (P.2.2.1 i) (kOr e0 a0 b0))) hQ hx hb hr hlocks hK hP9 hD9 hS (by rw [hpost] <;> rfl) () rfl d_K_Machine_give_74
  exact loop_11 P.2.2.2 0 (by omega) rfl _ _ (hP.sub [0, 1, 2, 3] rfl) (hD.sub [0, 1, 2, 3] (by decide) rfl) hS ls (lv_sub hl [0, 1, 2, 3, 4, 5] rfl)
