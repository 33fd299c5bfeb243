set_option maxHeartbeats 4000000 in
set_option maxRecDepth 100000 in
theorem rc_foretold (l : Launch) (dC : Nat → ClassId) (dI : Nat → Nat → Nat) (cI cJ cC cZ : ClassId) (σ : kSg) (e0 : Int32) (a0 : Int32) (b0 : Int32) : kC l y_RM_foretold ws_RM_foretold (kRm 1 0 0 21) (dC, dI) (kTy cI cJ cC cZ) σ ([]) [.int e0, .int a0, .int b0] (kQl (dC, dI) (kTy cI cJ cC cZ) (r_or e0 a0 b0) (fun _ : Unit => [])) 0 0 := by
  refine kr_met (cc := prog_12_method_10_code) (maxL := 3) (ret := (some .long)) (by decide) rfl (Nat.le_of_ble_eq_true rfl) ?_
  intro p e s m args below meth c A Q hQ hx hb hr hml hts hown hlocks hnm hA hP hK hD hSt ls hl
  have hS : va_S A s.heap s.heap [] := va_S.rf
  have hown : s.vm.findClass "KitRunnerModel" = some m.cls := hown
  have hl : lv_has ls 3 [(0, .int e0), (1, .int a0), (2, .int b0)] := hl
  have hP : va_P (dC, dI) vwCl [] s.heap := hP
  have hD : va_D A [] := hD
  have hk_110 := hts _ (List.mem_cons_of_mem _ wq_708)
  have hk_118 := hts _ (List.mem_cons_of_mem _ wq_712)
  have hk_116 := hts _ (List.mem_cons_of_mem _ wq_711)
  have hk_114 := hts _ (List.mem_cons_of_mem _ wq_710)
  have hk_112 := hts _ (List.mem_cons_of_mem _ wq_709)
  have hini_RM := hts _ (List.mem_cons_of_mem _ wq_9)
  have hm_94 := hts _ (List.mem_cons_of_mem _ wq_657)
  have hs_94 := hts _ (List.mem_cons_of_mem _ wq_658)
  have hk_122 := hts _ (List.mem_cons_of_mem _ wq_714)
  have hk_120 := hts _ (List.mem_cons_of_mem _ wq_713)
  have hk_124 := hts _ (List.mem_cons_of_mem _ wq_715)
  have hk_128 := hts _ (List.mem_cons_of_mem _ wq_717)
  have hk_126 := hts _ (List.mem_cons_of_mem _ wq_716)
  have hk_130 := hts _ (List.mem_cons_of_mem _ wq_718)
  refine lv_iload_n hx hb d_RM_foretold_0 rfl (lv_at hl 0 rfl) ?_
  rcases ks_14 e0 with c_1 | c_1 | c_1 | c_1 | c_1 | c_1 | c_1 | c_1 | c_1 | c_1 | c_1 | c_1 | c_1 | c_1 | c_1 | c_1
  · skip
    refine lv_tableIn (tgt := 76) hx hb d_RM_foretold_1 (by rw [c_1]; decide) (by rw [c_1]; decide) (by rw [c_1]; rfl) (by decide) ?_
    refine lv_iload_n hx hb d_RM_foretold_76 rfl (lv_at hl 1 rfl) ?_
    refine lv_iload_n hx hb d_RM_foretold_77 rfl (lv_at hl 2 rfl) ?_
    refine lv_iadd hx hb d_RM_foretold_78 ?_
    refine lv_i2l hx hb d_RM_foretold_79 rfl ?_
    have hpost : r_or e0 a0 b0 = (a0 + b0).toInt64 := by simp only [r_or, if_pos c_1, if_neg (ks_ne (b := 1) c_1 (by decide)), if_neg (ks_ne (b := 2) c_1 (by decide)), if_neg (ks_ne (b := 3) c_1 (by decide)), if_neg (ks_ne (b := 4) c_1 (by decide)), if_neg (ks_ne (b := 5) c_1 (by decide)), if_neg (ks_ne (b := 6) c_1 (by decide)), if_neg (ks_ne (b := 7) c_1 (by decide)), if_neg (ks_ne (b := 8) c_1 (by decide)), if_neg (ks_ne (b := 9) c_1 (by decide)), if_neg (ks_ne (b := 10) c_1 (by decide)), if_neg (ks_ne (b := 11) c_1 (by decide)), if_neg (ks_ne (b := 12) c_1 (by decide)), if_neg (ks_ne (b := 13) c_1 (by decide)), if_neg (ks_ne (b := 14) c_1 (by decide))]
    have hP9 := hP.sub (ws' := []) [] rfl
    have hD9 := hD.sub (ws' := []) [] (by decide) rfl
    exact kr_lret (v := (a0 + b0).toInt64) hQ hx hb hr hlocks hK hP9 hD9 hS (by rw [hpost] <;> rfl) () rfl d_RM_foretold_80
  · skip
    refine lv_tableIn (tgt := 81) hx hb d_RM_foretold_1 (by rw [c_1]; decide) (by rw [c_1]; decide) (by rw [c_1]; rfl) (by decide) ?_
    refine lv_iload_n hx hb d_RM_foretold_81 rfl (lv_at hl 1 rfl) ?_
    refine lv_iload_n hx hb d_RM_foretold_82 rfl (lv_at hl 2 rfl) ?_
    refine lv_isub hx hb d_RM_foretold_83 ?_
    refine lv_i2l hx hb d_RM_foretold_84 rfl ?_
    have hpost : r_or e0 a0 b0 = (a0 - b0).toInt64 := by simp only [r_or, if_pos c_1, if_neg (ks_ne (b := 0) c_1 (by decide)), if_neg (ks_ne (b := 2) c_1 (by decide)), if_neg (ks_ne (b := 3) c_1 (by decide)), if_neg (ks_ne (b := 4) c_1 (by decide)), if_neg (ks_ne (b := 5) c_1 (by decide)), if_neg (ks_ne (b := 6) c_1 (by decide)), if_neg (ks_ne (b := 7) c_1 (by decide)), if_neg (ks_ne (b := 8) c_1 (by decide)), if_neg (ks_ne (b := 9) c_1 (by decide)), if_neg (ks_ne (b := 10) c_1 (by decide)), if_neg (ks_ne (b := 11) c_1 (by decide)), if_neg (ks_ne (b := 12) c_1 (by decide)), if_neg (ks_ne (b := 13) c_1 (by decide)), if_neg (ks_ne (b := 14) c_1 (by decide))]
    have hP9 := hP.sub (ws' := []) [] rfl
    have hD9 := hD.sub (ws' := []) [] (by decide) rfl
    exact kr_lret (v := (a0 - b0).toInt64) hQ hx hb hr hlocks hK hP9 hD9 hS (by rw [hpost] <;> rfl) () rfl d_RM_foretold_85
  · skip
    refine lv_tableIn (tgt := 86) hx hb d_RM_foretold_1 (by rw [c_1]; decide) (by rw [c_1]; decide) (by rw [c_1]; rfl) (by decide) ?_
    refine lv_iload_n hx hb d_RM_foretold_86 rfl (lv_at hl 1 rfl) ?_
    refine lv_iload_n hx hb d_RM_foretold_87 rfl (lv_at hl 2 rfl) ?_
    refine lv_imul hx hb d_RM_foretold_88 ?_
    refine lv_i2l hx hb d_RM_foretold_89 rfl ?_
    have hpost : r_or e0 a0 b0 = (a0 * b0).toInt64 := by simp only [r_or, if_pos c_1, if_neg (ks_ne (b := 0) c_1 (by decide)), if_neg (ks_ne (b := 1) c_1 (by decide)), if_neg (ks_ne (b := 3) c_1 (by decide)), if_neg (ks_ne (b := 4) c_1 (by decide)), if_neg (ks_ne (b := 5) c_1 (by decide)), if_neg (ks_ne (b := 6) c_1 (by decide)), if_neg (ks_ne (b := 7) c_1 (by decide)), if_neg (ks_ne (b := 8) c_1 (by decide)), if_neg (ks_ne (b := 9) c_1 (by decide)), if_neg (ks_ne (b := 10) c_1 (by decide)), if_neg (ks_ne (b := 11) c_1 (by decide)), if_neg (ks_ne (b := 12) c_1 (by decide)), if_neg (ks_ne (b := 13) c_1 (by decide)), if_neg (ks_ne (b := 14) c_1 (by decide))]
    have hP9 := hP.sub (ws' := []) [] rfl
    have hD9 := hD.sub (ws' := []) [] (by decide) rfl
    exact kr_lret (v := (a0 * b0).toInt64) hQ hx hb hr hlocks hK hP9 hD9 hS (by rw [hpost] <;> rfl) () rfl d_RM_foretold_90
  · skip
    refine lv_tableIn (tgt := 91) hx hb d_RM_foretold_1 (by rw [c_1]; decide) (by rw [c_1]; decide) (by rw [c_1]; rfl) (by decide) ?_
    refine lv_iload_n hx hb d_RM_foretold_91 rfl (lv_at hl 2 rfl) ?_
    refine lv_if_ne (tgt := 101) hx hb d_RM_foretold_92 (by decide) (fun c_2 => ?_) (fun c_2 => ?_)
    · skip
      refine lv_iload_n hx hb d_RM_foretold_101 rfl (lv_at hl 1 rfl) ?_
      refine lv_iload_n hx hb d_RM_foretold_102 rfl (lv_at hl 2 rfl) ?_
      refine lv_idiv hx hb d_RM_foretold_103 (by assumption) ?_
      refine lv_i2l hx hb d_RM_foretold_104 rfl ?_
      have hpost : r_or e0 a0 b0 = (a0 / b0).toInt64 := by simp only [r_or, if_pos c_1, if_neg (ks_ne (b := 0) c_1 (by decide)), if_neg (ks_ne (b := 1) c_1 (by decide)), if_neg (ks_ne (b := 2) c_1 (by decide)), if_neg (ks_ne (b := 4) c_1 (by decide)), if_neg (ks_ne (b := 5) c_1 (by decide)), if_neg (ks_ne (b := 6) c_1 (by decide)), if_neg (ks_ne (b := 7) c_1 (by decide)), if_neg (ks_ne (b := 8) c_1 (by decide)), if_neg (ks_ne (b := 9) c_1 (by decide)), if_neg (ks_ne (b := 10) c_1 (by decide)), if_neg (ks_ne (b := 11) c_1 (by decide)), if_neg (ks_ne (b := 12) c_1 (by decide)), if_neg (ks_ne (b := 13) c_1 (by decide)), if_neg (ks_ne (b := 14) c_1 (by decide)), if_neg c_2]
      have hP9 := hP.sub (ws' := []) [] rfl
      have hD9 := hD.sub (ws' := []) [] (by decide) rfl
      exact kr_lret (v := (a0 / b0).toInt64) hQ hx hb hr hlocks hK hP9 hD9 hS (by rw [hpost] <;> rfl) () rfl d_RM_foretold_105
    · skip
      refine lv_ldc2 (v := 10000000000) hx hb hown hk_110 d_RM_foretold_95 ?_
      refine lv_goto (tgt := 105) hx hb d_RM_foretold_98 (by decide) ?_
      have hpost : r_or e0 a0 b0 = 10000000000 := by simp only [r_or, if_pos c_1, if_neg (ks_ne (b := 0) c_1 (by decide)), if_neg (ks_ne (b := 1) c_1 (by decide)), if_neg (ks_ne (b := 2) c_1 (by decide)), if_neg (ks_ne (b := 4) c_1 (by decide)), if_neg (ks_ne (b := 5) c_1 (by decide)), if_neg (ks_ne (b := 6) c_1 (by decide)), if_neg (ks_ne (b := 7) c_1 (by decide)), if_neg (ks_ne (b := 8) c_1 (by decide)), if_neg (ks_ne (b := 9) c_1 (by decide)), if_neg (ks_ne (b := 10) c_1 (by decide)), if_neg (ks_ne (b := 11) c_1 (by decide)), if_neg (ks_ne (b := 12) c_1 (by decide)), if_neg (ks_ne (b := 13) c_1 (by decide)), if_neg (ks_ne (b := 14) c_1 (by decide)), if_pos c_2]
      have hP9 := hP.sub (ws' := []) [] rfl
      have hD9 := hD.sub (ws' := []) [] (by decide) rfl
      exact kr_lret (v := 10000000000) hQ hx hb hr hlocks hK hP9 hD9 hS (by rw [hpost] <;> rfl) () rfl d_RM_foretold_105
  · skip
    refine lv_tableIn (tgt := 106) hx hb d_RM_foretold_1 (by rw [c_1]; decide) (by rw [c_1]; decide) (by rw [c_1]; rfl) (by decide) ?_
    refine lv_iload_n hx hb d_RM_foretold_106 rfl (lv_at hl 2 rfl) ?_
    refine lv_if_ne (tgt := 116) hx hb d_RM_foretold_107 (by decide) (fun c_3 => ?_) (fun c_3 => ?_)
    · skip
      refine lv_iload_n hx hb d_RM_foretold_116 rfl (lv_at hl 1 rfl) ?_
      refine lv_iload_n hx hb d_RM_foretold_117 rfl (lv_at hl 2 rfl) ?_
      refine lv_irem hx hb d_RM_foretold_118 (by assumption) ?_
      refine lv_i2l hx hb d_RM_foretold_119 rfl ?_
      have hpost : r_or e0 a0 b0 = (a0 - a0 / b0 * b0).toInt64 := by simp only [r_or, if_pos c_1, if_neg (ks_ne (b := 0) c_1 (by decide)), if_neg (ks_ne (b := 1) c_1 (by decide)), if_neg (ks_ne (b := 2) c_1 (by decide)), if_neg (ks_ne (b := 3) c_1 (by decide)), if_neg (ks_ne (b := 5) c_1 (by decide)), if_neg (ks_ne (b := 6) c_1 (by decide)), if_neg (ks_ne (b := 7) c_1 (by decide)), if_neg (ks_ne (b := 8) c_1 (by decide)), if_neg (ks_ne (b := 9) c_1 (by decide)), if_neg (ks_ne (b := 10) c_1 (by decide)), if_neg (ks_ne (b := 11) c_1 (by decide)), if_neg (ks_ne (b := 12) c_1 (by decide)), if_neg (ks_ne (b := 13) c_1 (by decide)), if_neg (ks_ne (b := 14) c_1 (by decide)), if_neg c_3]
      have hP9 := hP.sub (ws' := []) [] rfl
      have hD9 := hD.sub (ws' := []) [] (by decide) rfl
      exact kr_lret (v := (a0 - a0 / b0 * b0).toInt64) hQ hx hb hr hlocks hK hP9 hD9 hS (by rw [hpost] <;> rfl) () rfl d_RM_foretold_120
    · skip
      refine lv_ldc2 (v := 10000000000) hx hb hown hk_110 d_RM_foretold_110 ?_
      refine lv_goto (tgt := 120) hx hb d_RM_foretold_113 (by decide) ?_
      have hpost : r_or e0 a0 b0 = 10000000000 := by simp only [r_or, if_pos c_1, if_neg (ks_ne (b := 0) c_1 (by decide)), if_neg (ks_ne (b := 1) c_1 (by decide)), if_neg (ks_ne (b := 2) c_1 (by decide)), if_neg (ks_ne (b := 3) c_1 (by decide)), if_neg (ks_ne (b := 5) c_1 (by decide)), if_neg (ks_ne (b := 6) c_1 (by decide)), if_neg (ks_ne (b := 7) c_1 (by decide)), if_neg (ks_ne (b := 8) c_1 (by decide)), if_neg (ks_ne (b := 9) c_1 (by decide)), if_neg (ks_ne (b := 10) c_1 (by decide)), if_neg (ks_ne (b := 11) c_1 (by decide)), if_neg (ks_ne (b := 12) c_1 (by decide)), if_neg (ks_ne (b := 13) c_1 (by decide)), if_neg (ks_ne (b := 14) c_1 (by decide)), if_pos c_3]
      have hP9 := hP.sub (ws' := []) [] rfl
      have hD9 := hD.sub (ws' := []) [] (by decide) rfl
      exact kr_lret (v := 10000000000) hQ hx hb hr hlocks hK hP9 hD9 hS (by rw [hpost] <;> rfl) () rfl d_RM_foretold_120
  · skip
    refine lv_tableIn (tgt := 121) hx hb d_RM_foretold_1 (by rw [c_1]; decide) (by rw [c_1]; decide) (by rw [c_1]; rfl) (by decide) ?_
    refine lv_iload_n hx hb d_RM_foretold_121 rfl (lv_at hl 1 rfl) ?_
    refine lv_iload_n hx hb d_RM_foretold_122 rfl (lv_at hl 2 rfl) ?_
    refine lv_ishl hx hb d_RM_foretold_123 ?_
    refine lv_i2l hx hb d_RM_foretold_124 rfl ?_
    have hpost : r_or e0 a0 b0 = (a0 <<< (b0 &&& 31)).toInt64 := by simp only [r_or, if_pos c_1, if_neg (ks_ne (b := 0) c_1 (by decide)), if_neg (ks_ne (b := 1) c_1 (by decide)), if_neg (ks_ne (b := 2) c_1 (by decide)), if_neg (ks_ne (b := 3) c_1 (by decide)), if_neg (ks_ne (b := 4) c_1 (by decide)), if_neg (ks_ne (b := 6) c_1 (by decide)), if_neg (ks_ne (b := 7) c_1 (by decide)), if_neg (ks_ne (b := 8) c_1 (by decide)), if_neg (ks_ne (b := 9) c_1 (by decide)), if_neg (ks_ne (b := 10) c_1 (by decide)), if_neg (ks_ne (b := 11) c_1 (by decide)), if_neg (ks_ne (b := 12) c_1 (by decide)), if_neg (ks_ne (b := 13) c_1 (by decide)), if_neg (ks_ne (b := 14) c_1 (by decide))]
    have hP9 := hP.sub (ws' := []) [] rfl
    have hD9 := hD.sub (ws' := []) [] (by decide) rfl
    exact kr_lret (v := (a0 <<< (b0 &&& 31)).toInt64) hQ hx hb hr hlocks hK hP9 hD9 hS (by rw [hpost] <;> rfl) () rfl d_RM_foretold_125
  · skip
    refine lv_tableIn (tgt := 126) hx hb d_RM_foretold_1 (by rw [c_1]; decide) (by rw [c_1]; decide) (by rw [c_1]; rfl) (by decide) ?_
    refine lv_iload_n hx hb d_RM_foretold_126 rfl (lv_at hl 1 rfl) ?_
    refine lv_iload_n hx hb d_RM_foretold_127 rfl (lv_at hl 2 rfl) ?_
    refine lv_ishr hx hb d_RM_foretold_128 ?_
    refine lv_i2l hx hb d_RM_foretold_129 rfl ?_
    have hpost : r_or e0 a0 b0 = (a0 >>> (b0 &&& 31)).toInt64 := by simp only [r_or, if_pos c_1, if_neg (ks_ne (b := 0) c_1 (by decide)), if_neg (ks_ne (b := 1) c_1 (by decide)), if_neg (ks_ne (b := 2) c_1 (by decide)), if_neg (ks_ne (b := 3) c_1 (by decide)), if_neg (ks_ne (b := 4) c_1 (by decide)), if_neg (ks_ne (b := 5) c_1 (by decide)), if_neg (ks_ne (b := 7) c_1 (by decide)), if_neg (ks_ne (b := 8) c_1 (by decide)), if_neg (ks_ne (b := 9) c_1 (by decide)), if_neg (ks_ne (b := 10) c_1 (by decide)), if_neg (ks_ne (b := 11) c_1 (by decide)), if_neg (ks_ne (b := 12) c_1 (by decide)), if_neg (ks_ne (b := 13) c_1 (by decide)), if_neg (ks_ne (b := 14) c_1 (by decide))]
    have hP9 := hP.sub (ws' := []) [] rfl
    have hD9 := hD.sub (ws' := []) [] (by decide) rfl
    exact kr_lret (v := (a0 >>> (b0 &&& 31)).toInt64) hQ hx hb hr hlocks hK hP9 hD9 hS (by rw [hpost] <;> rfl) () rfl d_RM_foretold_130
  · skip
    refine lv_tableIn (tgt := 131) hx hb d_RM_foretold_1 (by rw [c_1]; decide) (by rw [c_1]; decide) (by rw [c_1]; rfl) (by decide) ?_
    refine lv_iload_n hx hb d_RM_foretold_131 rfl (lv_at hl 1 rfl) ?_
    refine lv_iload_n hx hb d_RM_foretold_132 rfl (lv_at hl 2 rfl) ?_
    refine lv_iushr hx hb d_RM_foretold_133 rfl ?_
    refine lv_i2l hx hb d_RM_foretold_134 rfl ?_
    have hpost : r_or e0 a0 b0 = (a0.toUInt32 >>> (b0.toUInt32 &&& Int32.toUInt32 31)).toInt32.toInt64 := by simp only [r_or, if_pos c_1, if_neg (ks_ne (b := 0) c_1 (by decide)), if_neg (ks_ne (b := 1) c_1 (by decide)), if_neg (ks_ne (b := 2) c_1 (by decide)), if_neg (ks_ne (b := 3) c_1 (by decide)), if_neg (ks_ne (b := 4) c_1 (by decide)), if_neg (ks_ne (b := 5) c_1 (by decide)), if_neg (ks_ne (b := 6) c_1 (by decide)), if_neg (ks_ne (b := 8) c_1 (by decide)), if_neg (ks_ne (b := 9) c_1 (by decide)), if_neg (ks_ne (b := 10) c_1 (by decide)), if_neg (ks_ne (b := 11) c_1 (by decide)), if_neg (ks_ne (b := 12) c_1 (by decide)), if_neg (ks_ne (b := 13) c_1 (by decide)), if_neg (ks_ne (b := 14) c_1 (by decide))]
    have hP9 := hP.sub (ws' := []) [] rfl
    have hD9 := hD.sub (ws' := []) [] (by decide) rfl
    exact kr_lret (v := (a0.toUInt32 >>> (b0.toUInt32 &&& Int32.toUInt32 31)).toInt32.toInt64) hQ hx hb hr hlocks hK hP9 hD9 hS (by rw [hpost] <;> rfl) () rfl d_RM_foretold_135
  · skip
    refine lv_tableIn (tgt := 136) hx hb d_RM_foretold_1 (by rw [c_1]; decide) (by rw [c_1]; decide) (by rw [c_1]; rfl) (by decide) ?_
    refine lv_iload_n hx hb d_RM_foretold_136 rfl (lv_at hl 1 rfl) ?_
    refine lv_i2b hx hb d_RM_foretold_137 rfl ?_
    refine lv_i2l hx hb d_RM_foretold_138 rfl ?_
    have hpost : r_or e0 a0 b0 = a0.toInt8.toInt32.toInt64 := by simp only [r_or, if_pos c_1, if_neg (ks_ne (b := 0) c_1 (by decide)), if_neg (ks_ne (b := 1) c_1 (by decide)), if_neg (ks_ne (b := 2) c_1 (by decide)), if_neg (ks_ne (b := 3) c_1 (by decide)), if_neg (ks_ne (b := 4) c_1 (by decide)), if_neg (ks_ne (b := 5) c_1 (by decide)), if_neg (ks_ne (b := 6) c_1 (by decide)), if_neg (ks_ne (b := 7) c_1 (by decide)), if_neg (ks_ne (b := 9) c_1 (by decide)), if_neg (ks_ne (b := 10) c_1 (by decide)), if_neg (ks_ne (b := 11) c_1 (by decide)), if_neg (ks_ne (b := 12) c_1 (by decide)), if_neg (ks_ne (b := 13) c_1 (by decide)), if_neg (ks_ne (b := 14) c_1 (by decide))]
    have hP9 := hP.sub (ws' := []) [] rfl
    have hD9 := hD.sub (ws' := []) [] (by decide) rfl
    exact kr_lret (v := a0.toInt8.toInt32.toInt64) hQ hx hb hr hlocks hK hP9 hD9 hS (by rw [hpost] <;> rfl) () rfl d_RM_foretold_139
  · skip
    refine lv_tableIn (tgt := 140) hx hb d_RM_foretold_1 (by rw [c_1]; decide) (by rw [c_1]; decide) (by rw [c_1]; rfl) (by decide) ?_
    refine lv_iload_n hx hb d_RM_foretold_140 rfl (lv_at hl 1 rfl) ?_
    refine lv_i2c hx hb d_RM_foretold_141 rfl ?_
    refine lv_i2l hx hb d_RM_foretold_142 rfl ?_
    have hpost : r_or e0 a0 b0 = (a0.toUInt32 % 65536).toInt32.toInt64 := by simp only [r_or, if_pos c_1, if_neg (ks_ne (b := 0) c_1 (by decide)), if_neg (ks_ne (b := 1) c_1 (by decide)), if_neg (ks_ne (b := 2) c_1 (by decide)), if_neg (ks_ne (b := 3) c_1 (by decide)), if_neg (ks_ne (b := 4) c_1 (by decide)), if_neg (ks_ne (b := 5) c_1 (by decide)), if_neg (ks_ne (b := 6) c_1 (by decide)), if_neg (ks_ne (b := 7) c_1 (by decide)), if_neg (ks_ne (b := 8) c_1 (by decide)), if_neg (ks_ne (b := 10) c_1 (by decide)), if_neg (ks_ne (b := 11) c_1 (by decide)), if_neg (ks_ne (b := 12) c_1 (by decide)), if_neg (ks_ne (b := 13) c_1 (by decide)), if_neg (ks_ne (b := 14) c_1 (by decide))]
    have hP9 := hP.sub (ws' := []) [] rfl
    have hD9 := hD.sub (ws' := []) [] (by decide) rfl
    exact kr_lret (v := (a0.toUInt32 % 65536).toInt32.toInt64) hQ hx hb hr hlocks hK hP9 hD9 hS (by rw [hpost] <;> rfl) () rfl d_RM_foretold_143
  · skip
    refine lv_tableIn (tgt := 144) hx hb d_RM_foretold_1 (by rw [c_1]; decide) (by rw [c_1]; decide) (by rw [c_1]; rfl) (by decide) ?_
    refine lv_iload_n hx hb d_RM_foretold_144 rfl (lv_at hl 1 rfl) ?_
    refine lv_if_ne (tgt := 154) hx hb d_RM_foretold_145 (by decide) (fun c_4 => ?_) (fun c_4 => ?_)
    · skip
      refine lv_iload_n hx hb d_RM_foretold_154 rfl (lv_at hl 1 rfl) ?_
      refine lv_iconst (v := 1) hx hb d_RM_foretold_155 (by decide) ?_
      refine lv_icmp_ne (tgt := 165) hx hb d_RM_foretold_156 (by decide) (fun c_5 => ?_) (fun c_5 => ?_)
      · skip
        refine lv_iload_n hx hb d_RM_foretold_165 rfl (lv_at hl 1 rfl) ?_
        refine lv_iconst (v := 2) hx hb d_RM_foretold_166 (by decide) ?_
        refine lv_icmp_ne (tgt := 176) hx hb d_RM_foretold_167 (by decide) (fun c_6 => ?_) (fun c_6 => ?_)
        · skip
          refine lv_ldc2 (v := 20000000000) hx hb hown hk_118 d_RM_foretold_176 ?_
          have hpost : r_or e0 a0 b0 = 20000000000 := by simp only [r_or, if_pos c_1, if_neg (ks_ne (b := 0) c_1 (by decide)), if_neg (ks_ne (b := 1) c_1 (by decide)), if_neg (ks_ne (b := 2) c_1 (by decide)), if_neg (ks_ne (b := 3) c_1 (by decide)), if_neg (ks_ne (b := 4) c_1 (by decide)), if_neg (ks_ne (b := 5) c_1 (by decide)), if_neg (ks_ne (b := 6) c_1 (by decide)), if_neg (ks_ne (b := 7) c_1 (by decide)), if_neg (ks_ne (b := 8) c_1 (by decide)), if_neg (ks_ne (b := 9) c_1 (by decide)), if_neg (ks_ne (b := 11) c_1 (by decide)), if_neg (ks_ne (b := 12) c_1 (by decide)), if_neg (ks_ne (b := 13) c_1 (by decide)), if_neg (ks_ne (b := 14) c_1 (by decide)), if_neg c_4, if_neg c_5, if_neg c_6]
          have hP9 := hP.sub (ws' := []) [] rfl
          have hD9 := hD.sub (ws' := []) [] (by decide) rfl
          exact kr_lret (v := 20000000000) hQ hx hb hr hlocks hK hP9 hD9 hS (by rw [hpost] <;> rfl) () rfl d_RM_foretold_179
        · skip
          refine lv_ldc2 (v := 116) hx hb hown hk_116 d_RM_foretold_170 ?_
          refine lv_goto (tgt := 179) hx hb d_RM_foretold_173 (by decide) ?_
          have hpost : r_or e0 a0 b0 = 116 := by simp only [r_or, if_pos c_1, if_neg (ks_ne (b := 0) c_1 (by decide)), if_neg (ks_ne (b := 1) c_1 (by decide)), if_neg (ks_ne (b := 2) c_1 (by decide)), if_neg (ks_ne (b := 3) c_1 (by decide)), if_neg (ks_ne (b := 4) c_1 (by decide)), if_neg (ks_ne (b := 5) c_1 (by decide)), if_neg (ks_ne (b := 6) c_1 (by decide)), if_neg (ks_ne (b := 7) c_1 (by decide)), if_neg (ks_ne (b := 8) c_1 (by decide)), if_neg (ks_ne (b := 9) c_1 (by decide)), if_neg (ks_ne (b := 11) c_1 (by decide)), if_neg (ks_ne (b := 12) c_1 (by decide)), if_neg (ks_ne (b := 13) c_1 (by decide)), if_neg (ks_ne (b := 14) c_1 (by decide)), if_neg c_4, if_neg c_5, if_pos c_6]
          have hP9 := hP.sub (ws' := []) [] rfl
          have hD9 := hD.sub (ws' := []) [] (by decide) rfl
          exact kr_lret (v := 116) hQ hx hb hr hlocks hK hP9 hD9 hS (by rw [hpost] <;> rfl) () rfl d_RM_foretold_179
      · skip
        refine lv_ldc2 (v := 105) hx hb hown hk_114 d_RM_foretold_159 ?_
        refine lv_goto (tgt := 179) hx hb d_RM_foretold_162 (by decide) ?_
        have hpost : r_or e0 a0 b0 = 105 := by simp only [r_or, if_pos c_1, if_neg (ks_ne (b := 0) c_1 (by decide)), if_neg (ks_ne (b := 1) c_1 (by decide)), if_neg (ks_ne (b := 2) c_1 (by decide)), if_neg (ks_ne (b := 3) c_1 (by decide)), if_neg (ks_ne (b := 4) c_1 (by decide)), if_neg (ks_ne (b := 5) c_1 (by decide)), if_neg (ks_ne (b := 6) c_1 (by decide)), if_neg (ks_ne (b := 7) c_1 (by decide)), if_neg (ks_ne (b := 8) c_1 (by decide)), if_neg (ks_ne (b := 9) c_1 (by decide)), if_neg (ks_ne (b := 11) c_1 (by decide)), if_neg (ks_ne (b := 12) c_1 (by decide)), if_neg (ks_ne (b := 13) c_1 (by decide)), if_neg (ks_ne (b := 14) c_1 (by decide)), if_neg c_4, if_pos c_5]
        have hP9 := hP.sub (ws' := []) [] rfl
        have hD9 := hD.sub (ws' := []) [] (by decide) rfl
        exact kr_lret (v := 105) hQ hx hb hr hlocks hK hP9 hD9 hS (by rw [hpost] <;> rfl) () rfl d_RM_foretold_179
    · skip
      refine lv_ldc2 (v := 107) hx hb hown hk_112 d_RM_foretold_148 ?_
      refine lv_goto (tgt := 179) hx hb d_RM_foretold_151 (by decide) ?_
      have hpost : r_or e0 a0 b0 = 107 := by simp only [r_or, if_pos c_1, if_neg (ks_ne (b := 0) c_1 (by decide)), if_neg (ks_ne (b := 1) c_1 (by decide)), if_neg (ks_ne (b := 2) c_1 (by decide)), if_neg (ks_ne (b := 3) c_1 (by decide)), if_neg (ks_ne (b := 4) c_1 (by decide)), if_neg (ks_ne (b := 5) c_1 (by decide)), if_neg (ks_ne (b := 6) c_1 (by decide)), if_neg (ks_ne (b := 7) c_1 (by decide)), if_neg (ks_ne (b := 8) c_1 (by decide)), if_neg (ks_ne (b := 9) c_1 (by decide)), if_neg (ks_ne (b := 11) c_1 (by decide)), if_neg (ks_ne (b := 12) c_1 (by decide)), if_neg (ks_ne (b := 13) c_1 (by decide)), if_neg (ks_ne (b := 14) c_1 (by decide)), if_pos c_4]
      have hP9 := hP.sub (ws' := []) [] rfl
      have hD9 := hD.sub (ws' := []) [] (by decide) rfl
      exact kr_lret (v := 107) hQ hx hb hr hlocks hK hP9 hD9 hS (by rw [hpost] <;> rfl) () rfl d_RM_foretold_179
  · skip
    refine lv_tableIn (tgt := 180) hx hb d_RM_foretold_1 (by rw [c_1]; decide) (by rw [c_1]; decide) (by rw [c_1]; rfl) (by decide) ?_
    refine lv_iload_n hx hb d_RM_foretold_180 rfl (lv_at hl 2 rfl) ?_
    refine lv_iconst (v := 3) hx hb d_RM_foretold_181 (by decide) ?_
    have hpre_7 := kr_pre (wc := []) (av := [.int b0, .int 3]) hK hP hD hS hA hSt [] rfl (by decide)
    refine kj_i (wc := []) (wr := []) (va_runS (As := [.int b0, .int 3]) (rest := []) ⟨hx, hb, hml, hown, hts⟩ (rc_in l dC dI cI cJ cC cZ σ b0 3 _) ⟨(callB_of 2 hts (kg wq_659) rfl rfl rfl hini_RM hm_94 (by decide +kernel) ⟨Nat.le_of_ble_eq_true rfl, Nat.le_of_ble_eq_true rfl⟩), hs_94⟩ hpre_7 rfl rfl hl.1 rfl (lv_room (Nat.le_of_ble_eq_true rfl)) d_RM_foretold_182 ⟨Nat.le_of_ble_eq_true rfl, Nat.le_of_ble_eq_true rfl⟩) hP hD hS hA [] [] rfl rfl (by decide) (by decide) (fun _ H locs hP hD hS => ?_)
    have hP : va_P (dC, dI) vwCl [] H := hP
    have hD : va_D A [] := hD
    refine lv_if_eq (tgt := 199) hx hb d_RM_foretold_185 (by decide) (fun c_8 => ?_) (fun c_8 => ?_)
    · skip
      have c_8 : (r_inb b0 3) = false := kb_0.mp c_8
      refine lv_ldc2 (v := 20000000000) hx hb hown hk_118 d_RM_foretold_199 ?_
      have hpost : r_or e0 a0 b0 = 20000000000 := by simp only [r_or, if_pos c_1, if_neg (ks_ne (b := 0) c_1 (by decide)), if_neg (ks_ne (b := 1) c_1 (by decide)), if_neg (ks_ne (b := 2) c_1 (by decide)), if_neg (ks_ne (b := 3) c_1 (by decide)), if_neg (ks_ne (b := 4) c_1 (by decide)), if_neg (ks_ne (b := 5) c_1 (by decide)), if_neg (ks_ne (b := 6) c_1 (by decide)), if_neg (ks_ne (b := 7) c_1 (by decide)), if_neg (ks_ne (b := 8) c_1 (by decide)), if_neg (ks_ne (b := 9) c_1 (by decide)), if_neg (ks_ne (b := 10) c_1 (by decide)), if_neg (ks_ne (b := 12) c_1 (by decide)), if_neg (ks_ne (b := 13) c_1 (by decide)), if_neg (ks_ne (b := 14) c_1 (by decide)), if_neg (k_bf c_8)]
      have hP9 := hP.sub (ws' := []) [] rfl
      have hD9 := hD.sub (ws' := []) [] (by decide) rfl
      exact kr_lret (v := 20000000000) hQ hx hb hr hlocks hK hP9 hD9 hS (by rw [hpost] <;> rfl) () rfl d_RM_foretold_202
    · skip
      have c_8 : (r_inb b0 3) = true := kb_n.mp c_8
      refine lv_bipush (v := 70) hx hb d_RM_foretold_188 (by decide) ?_
      refine lv_bipush (v := 10) hx hb d_RM_foretold_190 (by decide) ?_
      refine lv_iload_n hx hb d_RM_foretold_192 rfl (lv_at hl 2 rfl) ?_
      refine lv_imul hx hb d_RM_foretold_193 ?_
      refine lv_iadd hx hb d_RM_foretold_194 ?_
      refine lv_i2l hx hb d_RM_foretold_195 rfl ?_
      refine lv_goto (tgt := 202) hx hb d_RM_foretold_196 (by decide) ?_
      have hpost : r_or e0 a0 b0 = (70 + (10 * b0)).toInt64 := by simp only [r_or, if_pos c_1, if_neg (ks_ne (b := 0) c_1 (by decide)), if_neg (ks_ne (b := 1) c_1 (by decide)), if_neg (ks_ne (b := 2) c_1 (by decide)), if_neg (ks_ne (b := 3) c_1 (by decide)), if_neg (ks_ne (b := 4) c_1 (by decide)), if_neg (ks_ne (b := 5) c_1 (by decide)), if_neg (ks_ne (b := 6) c_1 (by decide)), if_neg (ks_ne (b := 7) c_1 (by decide)), if_neg (ks_ne (b := 8) c_1 (by decide)), if_neg (ks_ne (b := 9) c_1 (by decide)), if_neg (ks_ne (b := 10) c_1 (by decide)), if_neg (ks_ne (b := 12) c_1 (by decide)), if_neg (ks_ne (b := 13) c_1 (by decide)), if_neg (ks_ne (b := 14) c_1 (by decide)), if_pos c_8]
      have hP9 := hP.sub (ws' := []) [] rfl
      have hD9 := hD.sub (ws' := []) [] (by decide) rfl
      exact kr_lret (v := (70 + (10 * b0)).toInt64) hQ hx hb hr hlocks hK hP9 hD9 hS (by rw [hpost] <;> rfl) () rfl d_RM_foretold_202
  · skip
    refine lv_tableIn (tgt := 203) hx hb d_RM_foretold_1 (by rw [c_1]; decide) (by rw [c_1]; decide) (by rw [c_1]; rfl) (by decide) ?_
    refine lv_iload_n hx hb d_RM_foretold_203 rfl (lv_at hl 1 rfl) ?_
    refine lv_if_ge (tgt := 213) hx hb d_RM_foretold_204 (by decide) (fun c_9 => ?_) (fun c_9 => ?_)
    · skip
      refine lv_iload_n hx hb d_RM_foretold_213 rfl (lv_at hl 1 rfl) ?_
      refine lv_bipush (v := 64) hx hb d_RM_foretold_214 (by decide) ?_
      refine lv_icmp_le (tgt := 225) hx hb d_RM_foretold_216 (by decide) (fun c_10 => ?_) (fun c_10 => ?_)
      · skip
        refine lv_iload_n hx hb d_RM_foretold_225 rfl (lv_at hl 1 rfl) ?_
        refine lv_i2l hx hb d_RM_foretold_226 rfl ?_
        have hpost : r_or e0 a0 b0 = a0.toInt64 := by simp only [r_or, if_pos c_1, if_neg (ks_ne (b := 0) c_1 (by decide)), if_neg (ks_ne (b := 1) c_1 (by decide)), if_neg (ks_ne (b := 2) c_1 (by decide)), if_neg (ks_ne (b := 3) c_1 (by decide)), if_neg (ks_ne (b := 4) c_1 (by decide)), if_neg (ks_ne (b := 5) c_1 (by decide)), if_neg (ks_ne (b := 6) c_1 (by decide)), if_neg (ks_ne (b := 7) c_1 (by decide)), if_neg (ks_ne (b := 8) c_1 (by decide)), if_neg (ks_ne (b := 9) c_1 (by decide)), if_neg (ks_ne (b := 10) c_1 (by decide)), if_neg (ks_ne (b := 11) c_1 (by decide)), if_neg (ks_ne (b := 13) c_1 (by decide)), if_neg (ks_ne (b := 14) c_1 (by decide)), if_pos c_9, if_pos c_10]
        have hP9 := hP.sub (ws' := []) [] rfl
        have hD9 := hD.sub (ws' := []) [] (by decide) rfl
        exact kr_lret (v := a0.toInt64) hQ hx hb hr hlocks hK hP9 hD9 hS (by rw [hpost] <;> rfl) () rfl d_RM_foretold_227
      · skip
        refine lv_ldc2 (v := 64) hx hb hown hk_122 d_RM_foretold_219 ?_
        refine lv_goto (tgt := 227) hx hb d_RM_foretold_222 (by decide) ?_
        have hpost : r_or e0 a0 b0 = 64 := by simp only [r_or, if_pos c_1, if_neg (ks_ne (b := 0) c_1 (by decide)), if_neg (ks_ne (b := 1) c_1 (by decide)), if_neg (ks_ne (b := 2) c_1 (by decide)), if_neg (ks_ne (b := 3) c_1 (by decide)), if_neg (ks_ne (b := 4) c_1 (by decide)), if_neg (ks_ne (b := 5) c_1 (by decide)), if_neg (ks_ne (b := 6) c_1 (by decide)), if_neg (ks_ne (b := 7) c_1 (by decide)), if_neg (ks_ne (b := 8) c_1 (by decide)), if_neg (ks_ne (b := 9) c_1 (by decide)), if_neg (ks_ne (b := 10) c_1 (by decide)), if_neg (ks_ne (b := 11) c_1 (by decide)), if_neg (ks_ne (b := 13) c_1 (by decide)), if_neg (ks_ne (b := 14) c_1 (by decide)), if_pos c_9, if_neg c_10]
        have hP9 := hP.sub (ws' := []) [] rfl
        have hD9 := hD.sub (ws' := []) [] (by decide) rfl
        exact kr_lret (v := 64) hQ hx hb hr hlocks hK hP9 hD9 hS (by rw [hpost] <;> rfl) () rfl d_RM_foretold_227
    · skip
      refine lv_ldc2 (v := 30000000000) hx hb hown hk_120 d_RM_foretold_207 ?_
      refine lv_goto (tgt := 227) hx hb d_RM_foretold_210 (by decide) ?_
      have hpost : r_or e0 a0 b0 = 30000000000 := by simp only [r_or, if_pos c_1, if_neg (ks_ne (b := 0) c_1 (by decide)), if_neg (ks_ne (b := 1) c_1 (by decide)), if_neg (ks_ne (b := 2) c_1 (by decide)), if_neg (ks_ne (b := 3) c_1 (by decide)), if_neg (ks_ne (b := 4) c_1 (by decide)), if_neg (ks_ne (b := 5) c_1 (by decide)), if_neg (ks_ne (b := 6) c_1 (by decide)), if_neg (ks_ne (b := 7) c_1 (by decide)), if_neg (ks_ne (b := 8) c_1 (by decide)), if_neg (ks_ne (b := 9) c_1 (by decide)), if_neg (ks_ne (b := 10) c_1 (by decide)), if_neg (ks_ne (b := 11) c_1 (by decide)), if_neg (ks_ne (b := 13) c_1 (by decide)), if_neg (ks_ne (b := 14) c_1 (by decide)), if_neg c_9]
      have hP9 := hP.sub (ws' := []) [] rfl
      have hD9 := hD.sub (ws' := []) [] (by decide) rfl
      exact kr_lret (v := 30000000000) hQ hx hb hr hlocks hK hP9 hD9 hS (by rw [hpost] <;> rfl) () rfl d_RM_foretold_227
  · skip
    refine lv_tableIn (tgt := 228) hx hb d_RM_foretold_1 (by rw [c_1]; decide) (by rw [c_1]; decide) (by rw [c_1]; rfl) (by decide) ?_
    refine lv_iload_n hx hb d_RM_foretold_228 rfl (lv_at hl 1 rfl) ?_
    refine lv_iload_n hx hb d_RM_foretold_229 rfl (lv_at hl 2 rfl) ?_
    refine lv_icmp_ne (tgt := 238) hx hb d_RM_foretold_230 (by decide) (fun c_11 => ?_) (fun c_11 => ?_)
    · skip
      refine lv_ldc2 (v := 40000000000) hx hb hown hk_124 d_RM_foretold_238 ?_
      have hpost : r_or e0 a0 b0 = 40000000000 := by simp only [r_or, if_pos c_1, if_neg (ks_ne (b := 0) c_1 (by decide)), if_neg (ks_ne (b := 1) c_1 (by decide)), if_neg (ks_ne (b := 2) c_1 (by decide)), if_neg (ks_ne (b := 3) c_1 (by decide)), if_neg (ks_ne (b := 4) c_1 (by decide)), if_neg (ks_ne (b := 5) c_1 (by decide)), if_neg (ks_ne (b := 6) c_1 (by decide)), if_neg (ks_ne (b := 7) c_1 (by decide)), if_neg (ks_ne (b := 8) c_1 (by decide)), if_neg (ks_ne (b := 9) c_1 (by decide)), if_neg (ks_ne (b := 10) c_1 (by decide)), if_neg (ks_ne (b := 11) c_1 (by decide)), if_neg (ks_ne (b := 12) c_1 (by decide)), if_neg (ks_ne (b := 14) c_1 (by decide)), if_neg c_11]
      have hP9 := hP.sub (ws' := []) [] rfl
      have hD9 := hD.sub (ws' := []) [] (by decide) rfl
      exact kr_lret (v := 40000000000) hQ hx hb hr hlocks hK hP9 hD9 hS (by rw [hpost] <;> rfl) () rfl d_RM_foretold_241
    · skip
      refine lv_iload_n hx hb d_RM_foretold_233 rfl (lv_at hl 1 rfl) ?_
      refine lv_i2l hx hb d_RM_foretold_234 rfl ?_
      refine lv_goto (tgt := 241) hx hb d_RM_foretold_235 (by decide) ?_
      have hpost : r_or e0 a0 b0 = a0.toInt64 := by simp only [r_or, if_pos c_1, if_neg (ks_ne (b := 0) c_1 (by decide)), if_neg (ks_ne (b := 1) c_1 (by decide)), if_neg (ks_ne (b := 2) c_1 (by decide)), if_neg (ks_ne (b := 3) c_1 (by decide)), if_neg (ks_ne (b := 4) c_1 (by decide)), if_neg (ks_ne (b := 5) c_1 (by decide)), if_neg (ks_ne (b := 6) c_1 (by decide)), if_neg (ks_ne (b := 7) c_1 (by decide)), if_neg (ks_ne (b := 8) c_1 (by decide)), if_neg (ks_ne (b := 9) c_1 (by decide)), if_neg (ks_ne (b := 10) c_1 (by decide)), if_neg (ks_ne (b := 11) c_1 (by decide)), if_neg (ks_ne (b := 12) c_1 (by decide)), if_neg (ks_ne (b := 14) c_1 (by decide)), if_pos c_11]
      have hP9 := hP.sub (ws' := []) [] rfl
      have hD9 := hD.sub (ws' := []) [] (by decide) rfl
      exact kr_lret (v := a0.toInt64) hQ hx hb hr hlocks hK hP9 hD9 hS (by rw [hpost] <;> rfl) () rfl d_RM_foretold_241
  · skip
    refine lv_tableIn (tgt := 242) hx hb d_RM_foretold_1 (by rw [c_1]; decide) (by rw [c_1]; decide) (by rw [c_1]; rfl) (by decide) ?_
    refine lv_iload_n hx hb d_RM_foretold_242 rfl (lv_at hl 1 rfl) ?_
    refine lv_iload_n hx hb d_RM_foretold_243 rfl (lv_at hl 2 rfl) ?_
    refine lv_icmp_le (tgt := 253) hx hb d_RM_foretold_244 (by decide) (fun c_12 => ?_) (fun c_12 => ?_)
    · skip
      refine lv_ldc2 (v := 50000000000) hx hb hown hk_128 d_RM_foretold_253 ?_
      have hpost : r_or e0 a0 b0 = 50000000000 := by simp only [r_or, if_pos c_1, if_neg (ks_ne (b := 0) c_1 (by decide)), if_neg (ks_ne (b := 1) c_1 (by decide)), if_neg (ks_ne (b := 2) c_1 (by decide)), if_neg (ks_ne (b := 3) c_1 (by decide)), if_neg (ks_ne (b := 4) c_1 (by decide)), if_neg (ks_ne (b := 5) c_1 (by decide)), if_neg (ks_ne (b := 6) c_1 (by decide)), if_neg (ks_ne (b := 7) c_1 (by decide)), if_neg (ks_ne (b := 8) c_1 (by decide)), if_neg (ks_ne (b := 9) c_1 (by decide)), if_neg (ks_ne (b := 10) c_1 (by decide)), if_neg (ks_ne (b := 11) c_1 (by decide)), if_neg (ks_ne (b := 12) c_1 (by decide)), if_neg (ks_ne (b := 13) c_1 (by decide)), if_pos c_12]
      have hP9 := hP.sub (ws' := []) [] rfl
      have hD9 := hD.sub (ws' := []) [] (by decide) rfl
      exact kr_lret (v := 50000000000) hQ hx hb hr hlocks hK hP9 hD9 hS (by rw [hpost] <;> rfl) () rfl d_RM_foretold_256
    · skip
      refine lv_ldc2 (v := 4) hx hb hown hk_126 d_RM_foretold_247 ?_
      refine lv_goto (tgt := 256) hx hb d_RM_foretold_250 (by decide) ?_
      have hpost : r_or e0 a0 b0 = 4 := by simp only [r_or, if_pos c_1, if_neg (ks_ne (b := 0) c_1 (by decide)), if_neg (ks_ne (b := 1) c_1 (by decide)), if_neg (ks_ne (b := 2) c_1 (by decide)), if_neg (ks_ne (b := 3) c_1 (by decide)), if_neg (ks_ne (b := 4) c_1 (by decide)), if_neg (ks_ne (b := 5) c_1 (by decide)), if_neg (ks_ne (b := 6) c_1 (by decide)), if_neg (ks_ne (b := 7) c_1 (by decide)), if_neg (ks_ne (b := 8) c_1 (by decide)), if_neg (ks_ne (b := 9) c_1 (by decide)), if_neg (ks_ne (b := 10) c_1 (by decide)), if_neg (ks_ne (b := 11) c_1 (by decide)), if_neg (ks_ne (b := 12) c_1 (by decide)), if_neg (ks_ne (b := 13) c_1 (by decide)), if_neg c_12]
      have hP9 := hP.sub (ws' := []) [] rfl
      have hD9 := hD.sub (ws' := []) [] (by decide) rfl
      exact kr_lret (v := 4) hQ hx hb hr hlocks hK hP9 hD9 hS (by rw [hpost] <;> rfl) () rfl d_RM_foretold_256
  · skip
    refine lv_tableOut (tgt := 257) hx hb d_RM_foretold_1 c_1 (by decide) ?_
    have c_1 := kn_14 c_1
    refine lv_iload_n hx hb d_RM_foretold_257 rfl (lv_at hl 1 rfl) ?_
    refine lv_iload_n hx hb d_RM_foretold_258 rfl (lv_at hl 2 rfl) ?_
    refine lv_icmp_ge (tgt := 268) hx hb d_RM_foretold_259 (by decide) (fun c_13 => ?_) (fun c_13 => ?_)
    · skip
      refine lv_iload_n hx hb d_RM_foretold_268 rfl (lv_at hl 1 rfl) ?_
      refine lv_iload_n hx hb d_RM_foretold_269 rfl (lv_at hl 2 rfl) ?_
      refine lv_icmp_le (tgt := 277) hx hb d_RM_foretold_270 (by decide) (fun c_14 => ?_) (fun c_14 => ?_)
      · skip
        refine lv_lconst (v := 0) hx hb d_RM_foretold_277 (by decide) ?_
        have hpost : r_or e0 a0 b0 = 0 := by simp only [r_or, if_neg c_1.1, if_neg c_1.2.1, if_neg c_1.2.2.1, if_neg c_1.2.2.2.1, if_neg c_1.2.2.2.2.1, if_neg c_1.2.2.2.2.2.1, if_neg c_1.2.2.2.2.2.2.1, if_neg c_1.2.2.2.2.2.2.2.1, if_neg c_1.2.2.2.2.2.2.2.2.1, if_neg c_1.2.2.2.2.2.2.2.2.2.1, if_neg c_1.2.2.2.2.2.2.2.2.2.2.1, if_neg c_1.2.2.2.2.2.2.2.2.2.2.2.1, if_neg c_1.2.2.2.2.2.2.2.2.2.2.2.2.1, if_neg c_1.2.2.2.2.2.2.2.2.2.2.2.2.2.1, if_neg c_1.2.2.2.2.2.2.2.2.2.2.2.2.2.2, if_pos c_13, if_pos c_14]
        have hP9 := hP.sub (ws' := []) [] rfl
        have hD9 := hD.sub (ws' := []) [] (by decide) rfl
        exact kr_lret (v := 0) hQ hx hb hr hlocks hK hP9 hD9 hS (by rw [hpost] <;> rfl) () rfl d_RM_foretold_278
      · skip
        refine lv_lconst (v := 1) hx hb d_RM_foretold_273 (by decide) ?_
        refine lv_goto (tgt := 278) hx hb d_RM_foretold_274 (by decide) ?_
        have hpost : r_or e0 a0 b0 = 1 := by simp only [r_or, if_neg c_1.1, if_neg c_1.2.1, if_neg c_1.2.2.1, if_neg c_1.2.2.2.1, if_neg c_1.2.2.2.2.1, if_neg c_1.2.2.2.2.2.1, if_neg c_1.2.2.2.2.2.2.1, if_neg c_1.2.2.2.2.2.2.2.1, if_neg c_1.2.2.2.2.2.2.2.2.1, if_neg c_1.2.2.2.2.2.2.2.2.2.1, if_neg c_1.2.2.2.2.2.2.2.2.2.2.1, if_neg c_1.2.2.2.2.2.2.2.2.2.2.2.1, if_neg c_1.2.2.2.2.2.2.2.2.2.2.2.2.1, if_neg c_1.2.2.2.2.2.2.2.2.2.2.2.2.2.1, if_neg c_1.2.2.2.2.2.2.2.2.2.2.2.2.2.2, if_pos c_13, if_neg c_14]
        have hP9 := hP.sub (ws' := []) [] rfl
        have hD9 := hD.sub (ws' := []) [] (by decide) rfl
        exact kr_lret (v := 1) hQ hx hb hr hlocks hK hP9 hD9 hS (by rw [hpost] <;> rfl) () rfl d_RM_foretold_278
    · skip
      refine lv_ldc2 (v := (-1)) hx hb hown hk_130 d_RM_foretold_262 ?_
      refine lv_goto (tgt := 278) hx hb d_RM_foretold_265 (by decide) ?_
      have hpost : r_or e0 a0 b0 = -1 := by simp only [r_or, if_neg c_1.1, if_neg c_1.2.1, if_neg c_1.2.2.1, if_neg c_1.2.2.2.1, if_neg c_1.2.2.2.2.1, if_neg c_1.2.2.2.2.2.1, if_neg c_1.2.2.2.2.2.2.1, if_neg c_1.2.2.2.2.2.2.2.1, if_neg c_1.2.2.2.2.2.2.2.2.1, if_neg c_1.2.2.2.2.2.2.2.2.2.1, if_neg c_1.2.2.2.2.2.2.2.2.2.2.1, if_neg c_1.2.2.2.2.2.2.2.2.2.2.2.1, if_neg c_1.2.2.2.2.2.2.2.2.2.2.2.2.1, if_neg c_1.2.2.2.2.2.2.2.2.2.2.2.2.2.1, if_neg c_1.2.2.2.2.2.2.2.2.2.2.2.2.2.2, if_neg c_13]
      have hP9 := hP.sub (ws' := []) [] rfl
      have hD9 := hD.sub (ws' := []) [] (by decide) rfl
      exact kr_lret (v := (-1)) hQ hx hb hr hlocks hK hP9 hD9 hS (by rw [hpost] <;> rfl) () rfl d_RM_foretold_278
set_option maxHeartbeats 4000000 in
set_option maxRecDepth 100000 in
theorem rc_trouble (l : Launch) (dC : Nat → ClassId) (dI : Nat → Nat → Nat) (cI cJ cC cZ : ClassId) (σ : kSg) (f0 : Int64) : kC l y_RM_trouble ws_RM_trouble (kRm 0 0 0 0) (dC, dI) (kTy cI cJ cC cZ) σ ([]) [.long f0] (kQi (dC, dI) (kTy cI cJ cC cZ) (kb (k_isTr f0)) (fun _ : Unit => [])) 0 0 := by
  refine kr_met (cc := prog_12_method_11_code) (maxL := 2) (ret := (some .boolean)) (by decide) rfl (Nat.le_of_ble_eq_true rfl) ?_
  intro p e s m args below meth c A Q hQ hx hb hr hml hts hown hlocks hnm hA hP hK hD hSt ls hl
  have hS : va_S A s.heap s.heap [] := va_S.rf
  have hown : s.vm.findClass "KitRunnerModel" = some m.cls := hown
  have hl : lv_has ls 2 [(0, .long f0)] := hl
  have hP : va_P (dC, dI) vwCl [] s.heap := hP
  have hD : va_D A [] := hD
  have hk_110 := hts _ (List.mem_cons_of_mem _ wq_708)
  refine lv_lload_n hx hb d_RM_trouble_0 rfl (lv_at hl 0 rfl) ?_
  refine lv_ldc2 (v := 10000000000) hx hb hown hk_110 d_RM_trouble_1 ?_
  refine W.lcmp hx hb d_RM_trouble_4 ?_
  refine lv_if_lt (tgt := 12) hx hb d_RM_trouble_5 (by decide) (fun c_1 => ?_) (fun c_1 => ?_)
  · skip
    have c_1 : f0 < (10000000000 : Int64) := (lg_cmp_lt f0 (10000000000 : Int64)).mp c_1
    refine lv_iconst (v := 0) hx hb d_RM_trouble_12 (by decide) ?_
    have hpost : k_isTr f0 = false := by simp only [k_isTr, if_pos c_1]
    have hP9 := hP.sub (ws' := []) [] rfl
    have hD9 := hD.sub (ws' := []) [] (by decide) rfl
    exact kr_zret (v := 0) hQ hx hb hr hlocks hK hP9 hD9 hS (by rw [hpost] <;> rfl) rfl () rfl d_RM_trouble_13
  · skip
    have c_1 : ¬ f0 < (10000000000 : Int64) := fun h9 => c_1 ((lg_cmp_lt f0 (10000000000 : Int64)).mpr h9)
    refine lv_iconst (v := 1) hx hb d_RM_trouble_8 (by decide) ?_
    refine lv_goto (tgt := 13) hx hb d_RM_trouble_9 (by decide) ?_
    have hpost : k_isTr f0 = true := by simp only [k_isTr, if_neg c_1]
    have hP9 := hP.sub (ws' := []) [] rfl
    have hD9 := hD.sub (ws' := []) [] (by decide) rfl
    exact kr_zret (v := 1) hQ hx hb hr hlocks hK hP9 hD9 hS (by rw [hpost] <;> rfl) rfl () rfl d_RM_trouble_13
set_option maxHeartbeats 4000000 in
set_option maxRecDepth 100000 in
theorem rc_given (l : Launch) (dC : Nat → ClassId) (dI : Nat → Nat → Nat) (cI cJ cC cZ : ClassId) (σ : kSg) (g g_0 g_1 g_2 g_3 g_4 g_9 g_10 g_11 g_12 g_13 g_14 g_19 g_20 g_21 : Nat) (ps : Int32) (tk : Int32) (lf : Int32) (rn : Int32) (e0 : Int32) (a0 : Int32) (b0 : Int32) : kC l y_RM_given ws_RM_given (kRm 2 0 0 43) (dC, dI) (kTy cI cJ cC cZ) σ ([(g, .inr (8, [.ref g_0, .ref g_1, .ref g_2, .ref g_3, .ref g_4, .int 0, .int 0, .int 65535, .int rn, .ref g_9, .ref g_10, .ref g_11, .ref g_12, .ref g_13, .ref g_14, .int tk, .int 0, .int lf, .int ps, .ref g_19, .ref g_20, .ref g_21, .int 0, .int 0, .int 0]))]) [.ref g, .int e0, .int a0, .int b0] (kQl (dC, dI) (kTy cI cJ cC cZ) (r_or e0 a0 b0) (fun _ : Unit => [(g, .inr (8, [.ref g_0, .ref g_1, .ref g_2, .ref g_3, .ref g_4, .int 0, .int 0, .int 65535, .int rn, .ref g_9, .ref g_10, .ref g_11, .ref g_12, .ref g_13, .ref g_14, .int tk, .int 0, .int lf, .int ps, .ref g_19, .ref g_20, .ref g_21, .int 0, .int 0, .int 0]))])) 0 0 := by
  refine kr_met (cc := prog_12_method_12_code) (maxL := 10) (ret := (some .long)) (by decide) rfl (Nat.le_of_ble_eq_true rfl) ?_
  intro p e s m args below meth c A Q hQ hx hb hr hml hts hown hlocks hnm hA hP hK hD hSt ls hl
  have hS : va_S A s.heap s.heap [] := va_S.rf
  have hown : s.vm.findClass "KitRunnerModel" = some m.cls := hown
  have hl : lv_has ls 10 [(0, .ref g), (1, .int e0), (2, .int a0), (3, .int b0)] := hl
  have hP : va_P (dC, dI) vwCl [(g, .inr (8, [.ref g_0, .ref g_1, .ref g_2, .ref g_3, .ref g_4, .int 0, .int 0, .int 65535, .int rn, .ref g_9, .ref g_10, .ref g_11, .ref g_12, .ref g_13, .ref g_14, .int tk, .int 0, .int lf, .int ps, .ref g_19, .ref g_20, .ref g_21, .int 0, .int 0, .int 0]))] s.heap := hP
  have hD : va_D A [(g, .inr (8, [.ref g_0, .ref g_1, .ref g_2, .ref g_3, .ref g_4, .int 0, .int 0, .int 65535, .int rn, .ref g_9, .ref g_10, .ref g_11, .ref g_12, .ref g_13, .ref g_14, .int tk, .int 0, .int lf, .int ps, .ref g_19, .ref g_20, .ref g_21, .int 0, .int 0, .int 0]))] := hD
  have hini_RM := hts _ (List.mem_cons_of_mem _ wq_9)
  have hm_132 := hts _ (List.mem_cons_of_mem _ wq_705)
  have hs_132 := hts _ (List.mem_cons_of_mem _ wq_706)
  have hm_136 := hts _ (List.mem_cons_of_mem _ wq_719)
  have hs_136 := hts _ (List.mem_cons_of_mem _ wq_720)
  have hf_98 := hts _ (List.mem_cons_of_mem _ wq_581)
  have hin_RM := fun w (h : w ∈ u_ws "KitRunnerModel" T_RM 25) => List.mem_cons_of_mem (Cond.code y_RM_given prog_12_method_12_code 10 (some .long)) (in_RM w h)
  refine lv_iload_n hx hb d_RM_given_0 rfl (lv_at hl 1 rfl) ?_
  refine lv_iload_n hx hb d_RM_given_1 rfl (lv_at hl 2 rfl) ?_
  refine lv_iload_n hx hb d_RM_given_2 rfl (lv_at hl 3 rfl) ?_
  have hpre_1 := kr_pre (wc := []) (av := [.int e0, .int a0, .int b0]) hK hP hD hS hA hSt [] rfl (by decide)
  refine kj_l (wc := []) (wr := [(g, .inr (8, [.ref g_0, .ref g_1, .ref g_2, .ref g_3, .ref g_4, .int 0, .int 0, .int 65535, .int rn, .ref g_9, .ref g_10, .ref g_11, .ref g_12, .ref g_13, .ref g_14, .int tk, .int 0, .int lf, .int ps, .ref g_19, .ref g_20, .ref g_21, .int 0, .int 0, .int 0]))]) (va_runS (As := [.int e0, .int a0, .int b0]) (rest := []) ⟨hx, hb, hml, hown, hts⟩ (rc_foretold l dC dI cI cJ cC cZ σ e0 a0 b0 _) ⟨(callB_of 3 hts (kg wq_707) rfl rfl rfl hini_RM hm_132 (by decide +kernel) ⟨Nat.le_of_ble_eq_true rfl, Nat.le_of_ble_eq_true rfl⟩), hs_132⟩ hpre_1 rfl rfl hl.1 rfl (lv_room (Nat.le_of_ble_eq_true rfl)) d_RM_given_3 ⟨Nat.le_of_ble_eq_true rfl, Nat.le_of_ble_eq_true rfl⟩) hP hD hS hA [] [0] rfl rfl (by decide) (by decide) (fun _ H locs hP hD hS => ?_)
  have hP : va_P (dC, dI) vwCl [(g, .inr (8, [.ref g_0, .ref g_1, .ref g_2, .ref g_3, .ref g_4, .int 0, .int 0, .int 65535, .int rn, .ref g_9, .ref g_10, .ref g_11, .ref g_12, .ref g_13, .ref g_14, .int tk, .int 0, .int lf, .int ps, .ref g_19, .ref g_20, .ref g_21, .int 0, .int 0, .int 0]))] H := hP
  have hD : va_D A [(g, .inr (8, [.ref g_0, .ref g_1, .ref g_2, .ref g_3, .ref g_4, .int 0, .int 0, .int 65535, .int rn, .ref g_9, .ref g_10, .ref g_11, .ref g_12, .ref g_13, .ref g_14, .int tk, .int 0, .int lf, .int ps, .ref g_19, .ref g_20, .ref g_21, .int 0, .int 0, .int 0]))] := hD
  refine lv_lstore (lv' := [(4, .long (r_or e0 a0 b0)), (0, .ref g), (1, .int e0), (2, .int a0), (3, .int b0)]) hx hb d_RM_given_6 hl (by decide) rfl (fun ls hl => ?_)
  refine lv_lload hx hb d_RM_given_8 (lv_at hl 0 rfl) ?_
  have hpre_2 := kr_pre (wc := []) (av := [.long (r_or e0 a0 b0)]) hK hP hD hS hA hSt [] rfl (by decide)
  refine kj_i (wc := []) (wr := [(g, .inr (8, [.ref g_0, .ref g_1, .ref g_2, .ref g_3, .ref g_4, .int 0, .int 0, .int 65535, .int rn, .ref g_9, .ref g_10, .ref g_11, .ref g_12, .ref g_13, .ref g_14, .int tk, .int 0, .int lf, .int ps, .ref g_19, .ref g_20, .ref g_21, .int 0, .int 0, .int 0]))]) (va_runS (As := [.long (r_or e0 a0 b0)]) (rest := []) ⟨hx, hb, hml, hown, hts⟩ (rc_trouble l dC dI cI cJ cC cZ σ (r_or e0 a0 b0) _) ⟨(callB_of 1 hts (kg wq_721) rfl rfl rfl hini_RM hm_136 (by decide +kernel) ⟨Nat.le_of_ble_eq_true rfl, Nat.le_of_ble_eq_true rfl⟩), hs_136⟩ hpre_2 rfl rfl hl.1 rfl (lv_room (Nat.le_of_ble_eq_true rfl)) d_RM_given_10 ⟨Nat.le_of_ble_eq_true rfl, Nat.le_of_ble_eq_true rfl⟩) hP hD hS hA [] [0] rfl rfl (by decide) (by decide) (fun _ H locs hP hD hS => ?_)
  have hP : va_P (dC, dI) vwCl [(g, .inr (8, [.ref g_0, .ref g_1, .ref g_2, .ref g_3, .ref g_4, .int 0, .int 0, .int 65535, .int rn, .ref g_9, .ref g_10, .ref g_11, .ref g_12, .ref g_13, .ref g_14, .int tk, .int 0, .int lf, .int ps, .ref g_19, .ref g_20, .ref g_21, .int 0, .int 0, .int 0]))] H := hP
  have hD : va_D A [(g, .inr (8, [.ref g_0, .ref g_1, .ref g_2, .ref g_3, .ref g_4, .int 0, .int 0, .int 65535, .int rn, .ref g_9, .ref g_10, .ref g_11, .ref g_12, .ref g_13, .ref g_14, .int tk, .int 0, .int lf, .int ps, .ref g_19, .ref g_20, .ref g_21, .int 0, .int 0, .int 0]))] := hD
  refine lv_istore (lv' := [(6, .int (kb (k_isTr (r_or e0 a0 b0)))), (4, .long (r_or e0 a0 b0)), (0, .ref g), (1, .int e0), (2, .int a0), (3, .int b0)]) hx hb d_RM_given_13 hl (by decide) rfl (fun ls hl => ?_)
  refine lv_iconst (v := 0) hx hb d_RM_given_15 (by decide) ?_
  refine lv_istore (lv' := [(7, .int 0), (6, .int (kb (k_isTr (r_or e0 a0 b0)))), (4, .long (r_or e0 a0 b0)), (0, .ref g), (1, .int e0), (2, .int a0), (3, .int b0)]) hx hb d_RM_given_16 hl (by decide) rfl (fun ls hl => ?_)
  refine lv_iload hx hb d_RM_given_18 (lv_at hl 0 rfl) ?_
  refine lv_aload_n hx hb d_RM_given_20 rfl (lv_at hl 3 rfl) ?_
  refine va_get (D := (dC, dI)) (ci := 8) (v := .int 0) (C := "KitRunnerModel") (T := T_RM) (N := 25) hx hb hts hin_RM hown hK hP 0 rfl rfl 5 (by decide) hf_98 (fun _ h9 => h9) rfl d_RM_given_21 ?_
  refine lv_icmp_ge (tgt := 181) hx hb d_RM_given_24 (by decide) (fun c_3 => ?_) (fun c_3 => ?_)
  · skip
    have c_3 : 0 ≤ 0 := (nI_leI (a := 0) (b := 0) (by omega) (by omega)).mp c_3
    refine lv_lload hx hb d_RM_given_181 (lv_at hl 2 rfl) ?_
    have hP9 := hP.sub (ws' := [(g, .inr (8, [.ref g_0, .ref g_1, .ref g_2, .ref g_3, .ref g_4, .int 0, .int 0, .int 65535, .int rn, .ref g_9, .ref g_10, .ref g_11, .ref g_12, .ref g_13, .ref g_14, .int tk, .int 0, .int lf, .int ps, .ref g_19, .ref g_20, .ref g_21, .int 0, .int 0, .int 0]))]) [0] rfl
    have hD9 := hD.sub (ws' := [(g, .inr (8, [.ref g_0, .ref g_1, .ref g_2, .ref g_3, .ref g_4, .int 0, .int 0, .int 65535, .int rn, .ref g_9, .ref g_10, .ref g_11, .ref g_12, .ref g_13, .ref g_14, .int tk, .int 0, .int lf, .int ps, .ref g_19, .ref g_20, .ref g_21, .int 0, .int 0, .int 0]))]) [0] (by decide) rfl
    exact kr_lret (v := (r_or e0 a0 b0)) hQ hx hb hr hlocks hK hP9 hD9 hS rfl () rfl d_RM_given_183
  · skip
    exact absurd c_3 (by decide)
set_option maxHeartbeats 4000000 in
set_option maxRecDepth 100000 in
theorem rc_excluded (l : Launch) (dC : Nat → ClassId) (dI : Nat → Nat → Nat) (cI cJ cC cZ : ClassId) (σ : kSg) (g g_0 g_1 g_2 g_3 g_4 g_9 g_10 g_11 g_12 g_13 g_14 g_19 g_20 g_21 : Nat) (ps : Int32) (tk : Int32) (lf : Int32) (rn : Int32) (e0 : Int32) (a0 : Int32) (b0 : Int32) : kC l y_RM_excluded ws_RM_excluded (kRm 0 0 0 0) (dC, dI) (kTy cI cJ cC cZ) σ ([(g, .inr (8, [.ref g_0, .ref g_1, .ref g_2, .ref g_3, .ref g_4, .int 0, .int 0, .int 65535, .int rn, .ref g_9, .ref g_10, .ref g_11, .ref g_12, .ref g_13, .ref g_14, .int tk, .int 0, .int lf, .int ps, .ref g_19, .ref g_20, .ref g_21, .int 0, .int 0, .int 0]))]) [.ref g, .int e0, .int a0, .int b0] (kQi (dC, dI) (kTy cI cJ cC cZ) 0 (fun _ : Unit => [(g, .inr (8, [.ref g_0, .ref g_1, .ref g_2, .ref g_3, .ref g_4, .int 0, .int 0, .int 65535, .int rn, .ref g_9, .ref g_10, .ref g_11, .ref g_12, .ref g_13, .ref g_14, .int tk, .int 0, .int lf, .int ps, .ref g_19, .ref g_20, .ref g_21, .int 0, .int 0, .int 0]))])) 0 0 := by
  refine kr_met (cc := prog_12_method_14_code) (maxL := 5) (ret := (some .boolean)) (by decide) rfl (Nat.le_of_ble_eq_true rfl) ?_
  intro p e s m args below meth c A Q hQ hx hb hr hml hts hown hlocks hnm hA hP hK hD hSt ls hl
  have hS : va_S A s.heap s.heap [] := va_S.rf
  have hown : s.vm.findClass "KitRunnerModel" = some m.cls := hown
  have hl : lv_has ls 5 [(0, .ref g), (1, .int e0), (2, .int a0), (3, .int b0)] := hl
  have hP : va_P (dC, dI) vwCl [(g, .inr (8, [.ref g_0, .ref g_1, .ref g_2, .ref g_3, .ref g_4, .int 0, .int 0, .int 65535, .int rn, .ref g_9, .ref g_10, .ref g_11, .ref g_12, .ref g_13, .ref g_14, .int tk, .int 0, .int lf, .int ps, .ref g_19, .ref g_20, .ref g_21, .int 0, .int 0, .int 0]))] s.heap := hP
  have hD : va_D A [(g, .inr (8, [.ref g_0, .ref g_1, .ref g_2, .ref g_3, .ref g_4, .int 0, .int 0, .int 65535, .int rn, .ref g_9, .ref g_10, .ref g_11, .ref g_12, .ref g_13, .ref g_14, .int tk, .int 0, .int lf, .int ps, .ref g_19, .ref g_20, .ref g_21, .int 0, .int 0, .int 0]))] := hD
  have hf_101 := hts _ (List.mem_cons_of_mem _ wq_582)
  have hin_RM := fun w (h : w ∈ u_ws "KitRunnerModel" T_RM 25) => List.mem_cons_of_mem (Cond.code y_RM_excluded prog_12_method_14_code 5 (some .boolean)) (in_RM w h)
  refine lv_iconst (v := 0) hx hb d_RM_excluded_0 (by decide) ?_
  refine lv_istore (lv' := [(4, .int 0), (0, .ref g), (1, .int e0), (2, .int a0), (3, .int b0)]) hx hb d_RM_excluded_1 hl (by decide) rfl (fun ls hl => ?_)
  refine lv_iload hx hb d_RM_excluded_3 (lv_at hl 0 rfl) ?_
  refine lv_aload_n hx hb d_RM_excluded_5 rfl (lv_at hl 1 rfl) ?_
  refine va_get (D := (dC, dI)) (ci := 8) (v := .int 0) (C := "KitRunnerModel") (T := T_RM) (N := 25) hx hb hts hin_RM hown hK hP 0 rfl rfl 6 (by decide) hf_101 (fun _ h9 => h9) rfl d_RM_excluded_6 ?_
  refine lv_icmp_ge (tgt := 53) hx hb d_RM_excluded_9 (by decide) (fun c_1 => ?_) (fun c_1 => ?_)
  · skip
    have c_1 : 0 ≤ 0 := (nI_leI (a := 0) (b := 0) (by omega) (by omega)).mp c_1
    refine lv_iconst (v := 0) hx hb d_RM_excluded_53 (by decide) ?_
    have hP9 := hP.sub (ws' := [(g, .inr (8, [.ref g_0, .ref g_1, .ref g_2, .ref g_3, .ref g_4, .int 0, .int 0, .int 65535, .int rn, .ref g_9, .ref g_10, .ref g_11, .ref g_12, .ref g_13, .ref g_14, .int tk, .int 0, .int lf, .int ps, .ref g_19, .ref g_20, .ref g_21, .int 0, .int 0, .int 0]))]) [0] rfl
    have hD9 := hD.sub (ws' := [(g, .inr (8, [.ref g_0, .ref g_1, .ref g_2, .ref g_3, .ref g_4, .int 0, .int 0, .int 65535, .int rn, .ref g_9, .ref g_10, .ref g_11, .ref g_12, .ref g_13, .ref g_14, .int tk, .int 0, .int lf, .int ps, .ref g_19, .ref g_20, .ref g_21, .int 0, .int 0, .int 0]))]) [0] (by decide) rfl
    exact kr_zret (v := 0) hQ hx hb hr hlocks hK hP9 hD9 hS rfl rfl () rfl d_RM_excluded_54
  · skip
    exact absurd c_1 (by decide)
