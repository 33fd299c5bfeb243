set_option maxHeartbeats 4000000 in
set_option maxRecDepth 100000 in
theorem c_Integer_compare (l : Launch) (dC : Nat → ClassId) (dI : Nat → Nat → Nat) (cI cJ cC cZ : ClassId) (σ : kSg) (a0 : Int32) (b0 : Int32) : kC l y_Integer_compare ws_Integer_compare (kRm 0 0 0 0) (dC, dI) (kTy cI cJ cC cZ) σ ([]) [.int a0, .int b0] (kQi (dC, dI) (kTy cI cJ cC cZ) (k_cmp a0 b0) (fun _ : Unit => [])) 0 0 := by
  refine kr_met (cc := prog_13_method_40_code) (maxL := 2) (ret := (some .int)) (by decide) rfl (Nat.le_of_ble_eq_true rfl) ?_
  intro p e s m args below meth c A Q hQ hx hb hr hml hts hown hlocks hnm hA hP hK hD hSt ls hl
  have hS : va_S A s.heap s.heap [] := va_S.rf
  have hown : s.vm.findClass "java/lang/Integer" = some m.cls := hown
  have hl : lv_has ls 2 [(0, .int a0), (1, .int b0)] := hl
  have hP : va_P (dC, dI) vwCl [] s.heap := hP
  have hD : va_D A [] := hD
  refine lv_iload_n hx hb d_Integer_compare_0 rfl (lv_at hl 0 rfl) ?_
  refine lv_iload_n hx hb d_Integer_compare_1 rfl (lv_at hl 1 rfl) ?_
  refine lv_icmp_ge (tgt := 9) hx hb d_Integer_compare_2 (by decide) (fun c_1 => ?_) (fun c_1 => ?_)
  · skip
    refine lv_iload_n hx hb d_Integer_compare_9 rfl (lv_at hl 0 rfl) ?_
    refine lv_iload_n hx hb d_Integer_compare_10 rfl (lv_at hl 1 rfl) ?_
    refine lv_icmp_ne (tgt := 18) hx hb d_Integer_compare_11 (by decide) (fun c_2 => ?_) (fun c_2 => ?_)
    · skip
      refine lv_iconst (v := 1) hx hb d_Integer_compare_18 (by decide) ?_
      have hpost : k_cmp a0 b0 = 1 := by simp only [k_cmp, if_pos c_1, if_neg c_2]
      have hP9 := hP.sub (ws' := []) [] rfl
      have hD9 := hD.sub (ws' := []) [] (by decide) rfl
      exact kr_iret (v := 1) hQ hx hb hr hlocks hK hP9 hD9 hS (by rw [hpost] <;> rfl) () rfl d_Integer_compare_19
    · skip
      refine lv_iconst (v := 0) hx hb d_Integer_compare_14 (by decide) ?_
      refine lv_goto (tgt := 19) hx hb d_Integer_compare_15 (by decide) ?_
      have hpost : k_cmp a0 b0 = 0 := by simp only [k_cmp, if_pos c_1, if_pos c_2]
      have hP9 := hP.sub (ws' := []) [] rfl
      have hD9 := hD.sub (ws' := []) [] (by decide) rfl
      exact kr_iret (v := 0) hQ hx hb hr hlocks hK hP9 hD9 hS (by rw [hpost] <;> rfl) () rfl d_Integer_compare_19
  · skip
    refine lv_iconst (v := (-1)) hx hb d_Integer_compare_5 (by decide) ?_
    refine lv_goto (tgt := 19) hx hb d_Integer_compare_6 (by decide) ?_
    have hpost : k_cmp a0 b0 = -1 := by simp only [k_cmp, if_neg c_1]
    have hP9 := hP.sub (ws' := []) [] rfl
    have hD9 := hD.sub (ws' := []) [] (by decide) rfl
    exact kr_iret (v := (-1)) hQ hx hb hr hlocks hK hP9 hD9 hS (by rw [hpost] <;> rfl) () rfl d_Integer_compare_19
set_option maxHeartbeats 4000000 in
set_option maxRecDepth 100000 in
theorem c_Integer_bitCount (l : Launch) (dC : Nat → ClassId) (dI : Nat → Nat → Nat) (cI cJ cC cZ : ClassId) (σ : kSg) (i0 : Int32) : kC l y_Integer_bitCount ws_Integer_bitCount (kRm 0 0 0 0) (dC, dI) (kTy cI cJ cC cZ) σ ([]) [.int i0] (kQi (dC, dI) (kTy cI cJ cC cZ) (k_bitc i0) (fun _ : Unit => [])) 0 0 := by
  refine kr_met (cc := prog_13_method_49_code) (maxL := 1) (ret := (some .int)) (by decide) rfl (Nat.le_of_ble_eq_true rfl) ?_
  intro p e s m args below meth c A Q hQ hx hb hr hml hts hown hlocks hnm hA hP hK hD hSt ls hl
  have hS : va_S A s.heap s.heap [] := va_S.rf
  have hown : s.vm.findClass "java/lang/Integer" = some m.cls := hown
  have hl : lv_has ls 1 [(0, .int i0)] := hl
  have hP : va_P (dC, dI) vwCl [] s.heap := hP
  have hD : va_D A [] := hD
  have hk_265 := hts _ (List.mem_cons_of_mem _ wq_562)
  have hk_266 := hts _ (List.mem_cons_of_mem _ wq_563)
  have hk_267 := hts _ (List.mem_cons_of_mem _ wq_564)
  refine lv_iload_n hx hb d_Integer_bitCount_0 rfl (lv_at hl 0 rfl) ?_
  refine lv_iload_n hx hb d_Integer_bitCount_1 rfl (lv_at hl 0 rfl) ?_
  refine lv_iconst (v := 1) hx hb d_Integer_bitCount_2 (by decide) ?_
  refine lv_iushr hx hb d_Integer_bitCount_3 rfl ?_
  refine lv_ldcw (v := 1431655765) hx hb hown hk_265 d_Integer_bitCount_4 ?_
  refine lv_iand hx hb d_Integer_bitCount_7 ?_
  refine lv_isub hx hb d_Integer_bitCount_8 ?_
  refine lv_istore_n (lv' := [(0, .int (i0 - ((i0.toUInt32 >>> ((1 : Int32).toUInt32 &&& Int32.toUInt32 31)).toInt32 &&& 1431655765)))]) hx hb d_Integer_bitCount_9 rfl hl (by decide) rfl (fun ls hl => ?_)
  refine lv_iload_n hx hb d_Integer_bitCount_10 rfl (lv_at hl 0 rfl) ?_
  refine lv_ldcw (v := 858993459) hx hb hown hk_266 d_Integer_bitCount_11 ?_
  refine lv_iand hx hb d_Integer_bitCount_14 ?_
  refine lv_iload_n hx hb d_Integer_bitCount_15 rfl (lv_at hl 0 rfl) ?_
  refine lv_iconst (v := 2) hx hb d_Integer_bitCount_16 (by decide) ?_
  refine lv_iushr hx hb d_Integer_bitCount_17 rfl ?_
  refine lv_ldcw (v := 858993459) hx hb hown hk_266 d_Integer_bitCount_18 ?_
  refine lv_iand hx hb d_Integer_bitCount_21 ?_
  refine lv_iadd hx hb d_Integer_bitCount_22 ?_
  refine lv_istore_n (lv' := [(0, .int (((i0 - ((i0.toUInt32 >>> ((1 : Int32).toUInt32 &&& Int32.toUInt32 31)).toInt32 &&& 1431655765)) &&& 858993459) + (((i0 - ((i0.toUInt32 >>> ((1 : Int32).toUInt32 &&& Int32.toUInt32 31)).toInt32 &&& 1431655765)).toUInt32 >>> ((2 : Int32).toUInt32 &&& Int32.toUInt32 31)).toInt32 &&& 858993459)))]) hx hb d_Integer_bitCount_23 rfl hl (by decide) rfl (fun ls hl => ?_)
  refine lv_iload_n hx hb d_Integer_bitCount_24 rfl (lv_at hl 0 rfl) ?_
  refine lv_iload_n hx hb d_Integer_bitCount_25 rfl (lv_at hl 0 rfl) ?_
  refine lv_iconst (v := 4) hx hb d_Integer_bitCount_26 (by decide) ?_
  refine lv_iushr hx hb d_Integer_bitCount_27 rfl ?_
  refine lv_iadd hx hb d_Integer_bitCount_28 ?_
  refine lv_ldcw (v := 252645135) hx hb hown hk_267 d_Integer_bitCount_29 ?_
  refine lv_iand hx hb d_Integer_bitCount_32 ?_
  refine lv_istore_n (lv' := [(0, .int (((((i0 - ((i0.toUInt32 >>> ((1 : Int32).toUInt32 &&& Int32.toUInt32 31)).toInt32 &&& 1431655765)) &&& 858993459) + (((i0 - ((i0.toUInt32 >>> ((1 : Int32).toUInt32 &&& Int32.toUInt32 31)).toInt32 &&& 1431655765)).toUInt32 >>> ((2 : Int32).toUInt32 &&& Int32.toUInt32 31)).toInt32 &&& 858993459)) + ((((i0 - ((i0.toUInt32 >>> ((1 : Int32).toUInt32 &&& Int32.toUInt32 31)).toInt32 &&& 1431655765)) &&& 858993459) + (((i0 - ((i0.toUInt32 >>> ((1 : Int32).toUInt32 &&& Int32.toUInt32 31)).toInt32 &&& 1431655765)).toUInt32 >>> ((2 : Int32).toUInt32 &&& Int32.toUInt32 31)).toInt32 &&& 858993459)).toUInt32 >>> ((4 : Int32).toUInt32 &&& Int32.toUInt32 31)).toInt32) &&& 252645135))]) hx hb d_Integer_bitCount_33 rfl hl (by decide) rfl (fun ls hl => ?_)
  refine lv_iload_n hx hb d_Integer_bitCount_34 rfl (lv_at hl 0 rfl) ?_
  refine lv_iload_n hx hb d_Integer_bitCount_35 rfl (lv_at hl 0 rfl) ?_
  refine lv_bipush (v := 8) hx hb d_Integer_bitCount_36 (by decide) ?_
  refine lv_iushr hx hb d_Integer_bitCount_38 rfl ?_
  refine lv_iadd hx hb d_Integer_bitCount_39 ?_
  refine lv_istore_n (lv' := [(0, .int ((((((i0 - ((i0.toUInt32 >>> ((1 : Int32).toUInt32 &&& Int32.toUInt32 31)).toInt32 &&& 1431655765)) &&& 858993459) + (((i0 - ((i0.toUInt32 >>> ((1 : Int32).toUInt32 &&& Int32.toUInt32 31)).toInt32 &&& 1431655765)).toUInt32 >>> ((2 : Int32).toUInt32 &&& Int32.toUInt32 31)).toInt32 &&& 858993459)) + ((((i0 - ((i0.toUInt32 >>> ((1 : Int32).toUInt32 &&& Int32.toUInt32 31)).toInt32 &&& 1431655765)) &&& 858993459) + (((i0 - ((i0.toUInt32 >>> ((1 : Int32).toUInt32 &&& Int32.toUInt32 31)).toInt32 &&& 1431655765)).toUInt32 >>> ((2 : Int32).toUInt32 &&& Int32.toUInt32 31)).toInt32 &&& 858993459)).toUInt32 >>> ((4 : Int32).toUInt32 &&& Int32.toUInt32 31)).toInt32) &&& 252645135) + ((((((i0 - ((i0.toUInt32 >>> ((1 : Int32).toUInt32 &&& Int32.toUInt32 31)).toInt32 &&& 1431655765)) &&& 858993459) + (((i0 - ((i0.toUInt32 >>> ((1 : Int32).toUInt32 &&& Int32.toUInt32 31)).toInt32 &&& 1431655765)).toUInt32 >>> ((2 : Int32).toUInt32 &&& Int32.toUInt32 31)).toInt32 &&& 858993459)) + ((((i0 - ((i0.toUInt32 >>> ((1 : Int32).toUInt32 &&& Int32.toUInt32 31)).toInt32 &&& 1431655765)) &&& 858993459) + (((i0 - ((i0.toUInt32 >>> ((1 : Int32).toUInt32 &&& Int32.toUInt32 31)).toInt32 &&& 1431655765)).toUInt32 >>> ((2 : Int32).toUInt32 &&& Int32.toUInt32 31)).toInt32 &&& 858993459)).toUInt32 >>> ((4 : Int32).toUInt32 &&& Int32.toUInt32 31)).toInt32) &&& 252645135).toUInt32 >>> ((8 : Int32).toUInt32 &&& Int32.toUInt32 31)).toInt32))]) hx hb d_Integer_bitCount_40 rfl hl (by decide) rfl (fun ls hl => ?_)
  refine lv_iload_n hx hb d_Integer_bitCount_41 rfl (lv_at hl 0 rfl) ?_
  refine lv_iload_n hx hb d_Integer_bitCount_42 rfl (lv_at hl 0 rfl) ?_
  refine lv_bipush (v := 16) hx hb d_Integer_bitCount_43 (by decide) ?_
  refine lv_iushr hx hb d_Integer_bitCount_45 rfl ?_
  refine lv_iadd hx hb d_Integer_bitCount_46 ?_
  refine lv_istore_n (lv' := [(0, .int (((((((i0 - ((i0.toUInt32 >>> ((1 : Int32).toUInt32 &&& Int32.toUInt32 31)).toInt32 &&& 1431655765)) &&& 858993459) + (((i0 - ((i0.toUInt32 >>> ((1 : Int32).toUInt32 &&& Int32.toUInt32 31)).toInt32 &&& 1431655765)).toUInt32 >>> ((2 : Int32).toUInt32 &&& Int32.toUInt32 31)).toInt32 &&& 858993459)) + ((((i0 - ((i0.toUInt32 >>> ((1 : Int32).toUInt32 &&& Int32.toUInt32 31)).toInt32 &&& 1431655765)) &&& 858993459) + (((i0 - ((i0.toUInt32 >>> ((1 : Int32).toUInt32 &&& Int32.toUInt32 31)).toInt32 &&& 1431655765)).toUInt32 >>> ((2 : Int32).toUInt32 &&& Int32.toUInt32 31)).toInt32 &&& 858993459)).toUInt32 >>> ((4 : Int32).toUInt32 &&& Int32.toUInt32 31)).toInt32) &&& 252645135) + ((((((i0 - ((i0.toUInt32 >>> ((1 : Int32).toUInt32 &&& Int32.toUInt32 31)).toInt32 &&& 1431655765)) &&& 858993459) + (((i0 - ((i0.toUInt32 >>> ((1 : Int32).toUInt32 &&& Int32.toUInt32 31)).toInt32 &&& 1431655765)).toUInt32 >>> ((2 : Int32).toUInt32 &&& Int32.toUInt32 31)).toInt32 &&& 858993459)) + ((((i0 - ((i0.toUInt32 >>> ((1 : Int32).toUInt32 &&& Int32.toUInt32 31)).toInt32 &&& 1431655765)) &&& 858993459) + (((i0 - ((i0.toUInt32 >>> ((1 : Int32).toUInt32 &&& Int32.toUInt32 31)).toInt32 &&& 1431655765)).toUInt32 >>> ((2 : Int32).toUInt32 &&& Int32.toUInt32 31)).toInt32 &&& 858993459)).toUInt32 >>> ((4 : Int32).toUInt32 &&& Int32.toUInt32 31)).toInt32) &&& 252645135).toUInt32 >>> ((8 : Int32).toUInt32 &&& Int32.toUInt32 31)).toInt32) + (((((((i0 - ((i0.toUInt32 >>> ((1 : Int32).toUInt32 &&& Int32.toUInt32 31)).toInt32 &&& 1431655765)) &&& 858993459) + (((i0 - ((i0.toUInt32 >>> ((1 : Int32).toUInt32 &&& Int32.toUInt32 31)).toInt32 &&& 1431655765)).toUInt32 >>> ((2 : Int32).toUInt32 &&& Int32.toUInt32 31)).toInt32 &&& 858993459)) + ((((i0 - ((i0.toUInt32 >>> ((1 : Int32).toUInt32 &&& Int32.toUInt32 31)).toInt32 &&& 1431655765)) &&& 858993459) + (((i0 - ((i0.toUInt32 >>> ((1 : Int32).toUInt32 &&& Int32.toUInt32 31)).toInt32 &&& 1431655765)).toUInt32 >>> ((2 : Int32).toUInt32 &&& Int32.toUInt32 31)).toInt32 &&& 858993459)).toUInt32 >>> ((4 : Int32).toUInt32 &&& Int32.toUInt32 31)).toInt32) &&& 252645135) + ((((((i0 - ((i0.toUInt32 >>> ((1 : Int32).toUInt32 &&& Int32.toUInt32 31)).toInt32 &&& 1431655765)) &&& 858993459) + (((i0 - ((i0.toUInt32 >>> ((1 : Int32).toUInt32 &&& Int32.toUInt32 31)).toInt32 &&& 1431655765)).toUInt32 >>> ((2 : Int32).toUInt32 &&& Int32.toUInt32 31)).toInt32 &&& 858993459)) + ((((i0 - ((i0.toUInt32 >>> ((1 : Int32).toUInt32 &&& Int32.toUInt32 31)).toInt32 &&& 1431655765)) &&& 858993459) + (((i0 - ((i0.toUInt32 >>> ((1 : Int32).toUInt32 &&& Int32.toUInt32 31)).toInt32 &&& 1431655765)).toUInt32 >>> ((2 : Int32).toUInt32 &&& Int32.toUInt32 31)).toInt32 &&& 858993459)).toUInt32 >>> ((4 : Int32).toUInt32 &&& Int32.toUInt32 31)).toInt32) &&& 252645135).toUInt32 >>> ((8 : Int32).toUInt32 &&& Int32.toUInt32 31)).toInt32).toUInt32 >>> ((16 : Int32).toUInt32 &&& Int32.toUInt32 31)).toInt32))]) hx hb d_Integer_bitCount_47 rfl hl (by decide) rfl (fun ls hl => ?_)
  refine lv_iload_n hx hb d_Integer_bitCount_48 rfl (lv_at hl 0 rfl) ?_
  refine lv_bipush (v := 63) hx hb d_Integer_bitCount_49 (by decide) ?_
  refine lv_iand hx hb d_Integer_bitCount_51 ?_
  have hpost : k_bitc i0 = (((((((i0 - ((i0.toUInt32 >>> ((1 : Int32).toUInt32 &&& Int32.toUInt32 31)).toInt32 &&& 1431655765)) &&& 858993459) + (((i0 - ((i0.toUInt32 >>> ((1 : Int32).toUInt32 &&& Int32.toUInt32 31)).toInt32 &&& 1431655765)).toUInt32 >>> ((2 : Int32).toUInt32 &&& Int32.toUInt32 31)).toInt32 &&& 858993459)) + ((((i0 - ((i0.toUInt32 >>> ((1 : Int32).toUInt32 &&& Int32.toUInt32 31)).toInt32 &&& 1431655765)) &&& 858993459) + (((i0 - ((i0.toUInt32 >>> ((1 : Int32).toUInt32 &&& Int32.toUInt32 31)).toInt32 &&& 1431655765)).toUInt32 >>> ((2 : Int32).toUInt32 &&& Int32.toUInt32 31)).toInt32 &&& 858993459)).toUInt32 >>> ((4 : Int32).toUInt32 &&& Int32.toUInt32 31)).toInt32) &&& 252645135) + ((((((i0 - ((i0.toUInt32 >>> ((1 : Int32).toUInt32 &&& Int32.toUInt32 31)).toInt32 &&& 1431655765)) &&& 858993459) + (((i0 - ((i0.toUInt32 >>> ((1 : Int32).toUInt32 &&& Int32.toUInt32 31)).toInt32 &&& 1431655765)).toUInt32 >>> ((2 : Int32).toUInt32 &&& Int32.toUInt32 31)).toInt32 &&& 858993459)) + ((((i0 - ((i0.toUInt32 >>> ((1 : Int32).toUInt32 &&& Int32.toUInt32 31)).toInt32 &&& 1431655765)) &&& 858993459) + (((i0 - ((i0.toUInt32 >>> ((1 : Int32).toUInt32 &&& Int32.toUInt32 31)).toInt32 &&& 1431655765)).toUInt32 >>> ((2 : Int32).toUInt32 &&& Int32.toUInt32 31)).toInt32 &&& 858993459)).toUInt32 >>> ((4 : Int32).toUInt32 &&& Int32.toUInt32 31)).toInt32) &&& 252645135).toUInt32 >>> ((8 : Int32).toUInt32 &&& Int32.toUInt32 31)).toInt32) + (((((((i0 - ((i0.toUInt32 >>> ((1 : Int32).toUInt32 &&& Int32.toUInt32 31)).toInt32 &&& 1431655765)) &&& 858993459) + (((i0 - ((i0.toUInt32 >>> ((1 : Int32).toUInt32 &&& Int32.toUInt32 31)).toInt32 &&& 1431655765)).toUInt32 >>> ((2 : Int32).toUInt32 &&& Int32.toUInt32 31)).toInt32 &&& 858993459)) + ((((i0 - ((i0.toUInt32 >>> ((1 : Int32).toUInt32 &&& Int32.toUInt32 31)).toInt32 &&& 1431655765)) &&& 858993459) + (((i0 - ((i0.toUInt32 >>> ((1 : Int32).toUInt32 &&& Int32.toUInt32 31)).toInt32 &&& 1431655765)).toUInt32 >>> ((2 : Int32).toUInt32 &&& Int32.toUInt32 31)).toInt32 &&& 858993459)).toUInt32 >>> ((4 : Int32).toUInt32 &&& Int32.toUInt32 31)).toInt32) &&& 252645135) + ((((((i0 - ((i0.toUInt32 >>> ((1 : Int32).toUInt32 &&& Int32.toUInt32 31)).toInt32 &&& 1431655765)) &&& 858993459) + (((i0 - ((i0.toUInt32 >>> ((1 : Int32).toUInt32 &&& Int32.toUInt32 31)).toInt32 &&& 1431655765)).toUInt32 >>> ((2 : Int32).toUInt32 &&& Int32.toUInt32 31)).toInt32 &&& 858993459)) + ((((i0 - ((i0.toUInt32 >>> ((1 : Int32).toUInt32 &&& Int32.toUInt32 31)).toInt32 &&& 1431655765)) &&& 858993459) + (((i0 - ((i0.toUInt32 >>> ((1 : Int32).toUInt32 &&& Int32.toUInt32 31)).toInt32 &&& 1431655765)).toUInt32 >>> ((2 : Int32).toUInt32 &&& Int32.toUInt32 31)).toInt32 &&& 858993459)).toUInt32 >>> ((4 : Int32).toUInt32 &&& Int32.toUInt32 31)).toInt32) &&& 252645135).toUInt32 >>> ((8 : Int32).toUInt32 &&& Int32.toUInt32 31)).toInt32).toUInt32 >>> ((16 : Int32).toUInt32 &&& Int32.toUInt32 31)).toInt32) &&& 63 := rfl
  have hP9 := hP.sub (ws' := []) [] rfl
  have hD9 := hD.sub (ws' := []) [] (by decide) rfl
  exact kr_iret (v := ((((((((i0 - ((i0.toUInt32 >>> ((1 : Int32).toUInt32 &&& Int32.toUInt32 31)).toInt32 &&& 1431655765)) &&& 858993459) + (((i0 - ((i0.toUInt32 >>> ((1 : Int32).toUInt32 &&& Int32.toUInt32 31)).toInt32 &&& 1431655765)).toUInt32 >>> ((2 : Int32).toUInt32 &&& Int32.toUInt32 31)).toInt32 &&& 858993459)) + ((((i0 - ((i0.toUInt32 >>> ((1 : Int32).toUInt32 &&& Int32.toUInt32 31)).toInt32 &&& 1431655765)) &&& 858993459) + (((i0 - ((i0.toUInt32 >>> ((1 : Int32).toUInt32 &&& Int32.toUInt32 31)).toInt32 &&& 1431655765)).toUInt32 >>> ((2 : Int32).toUInt32 &&& Int32.toUInt32 31)).toInt32 &&& 858993459)).toUInt32 >>> ((4 : Int32).toUInt32 &&& Int32.toUInt32 31)).toInt32) &&& 252645135) + ((((((i0 - ((i0.toUInt32 >>> ((1 : Int32).toUInt32 &&& Int32.toUInt32 31)).toInt32 &&& 1431655765)) &&& 858993459) + (((i0 - ((i0.toUInt32 >>> ((1 : Int32).toUInt32 &&& Int32.toUInt32 31)).toInt32 &&& 1431655765)).toUInt32 >>> ((2 : Int32).toUInt32 &&& Int32.toUInt32 31)).toInt32 &&& 858993459)) + ((((i0 - ((i0.toUInt32 >>> ((1 : Int32).toUInt32 &&& Int32.toUInt32 31)).toInt32 &&& 1431655765)) &&& 858993459) + (((i0 - ((i0.toUInt32 >>> ((1 : Int32).toUInt32 &&& Int32.toUInt32 31)).toInt32 &&& 1431655765)).toUInt32 >>> ((2 : Int32).toUInt32 &&& Int32.toUInt32 31)).toInt32 &&& 858993459)).toUInt32 >>> ((4 : Int32).toUInt32 &&& Int32.toUInt32 31)).toInt32) &&& 252645135).toUInt32 >>> ((8 : Int32).toUInt32 &&& Int32.toUInt32 31)).toInt32) + (((((((i0 - ((i0.toUInt32 >>> ((1 : Int32).toUInt32 &&& Int32.toUInt32 31)).toInt32 &&& 1431655765)) &&& 858993459) + (((i0 - ((i0.toUInt32 >>> ((1 : Int32).toUInt32 &&& Int32.toUInt32 31)).toInt32 &&& 1431655765)).toUInt32 >>> ((2 : Int32).toUInt32 &&& Int32.toUInt32 31)).toInt32 &&& 858993459)) + ((((i0 - ((i0.toUInt32 >>> ((1 : Int32).toUInt32 &&& Int32.toUInt32 31)).toInt32 &&& 1431655765)) &&& 858993459) + (((i0 - ((i0.toUInt32 >>> ((1 : Int32).toUInt32 &&& Int32.toUInt32 31)).toInt32 &&& 1431655765)).toUInt32 >>> ((2 : Int32).toUInt32 &&& Int32.toUInt32 31)).toInt32 &&& 858993459)).toUInt32 >>> ((4 : Int32).toUInt32 &&& Int32.toUInt32 31)).toInt32) &&& 252645135) + ((((((i0 - ((i0.toUInt32 >>> ((1 : Int32).toUInt32 &&& Int32.toUInt32 31)).toInt32 &&& 1431655765)) &&& 858993459) + (((i0 - ((i0.toUInt32 >>> ((1 : Int32).toUInt32 &&& Int32.toUInt32 31)).toInt32 &&& 1431655765)).toUInt32 >>> ((2 : Int32).toUInt32 &&& Int32.toUInt32 31)).toInt32 &&& 858993459)) + ((((i0 - ((i0.toUInt32 >>> ((1 : Int32).toUInt32 &&& Int32.toUInt32 31)).toInt32 &&& 1431655765)) &&& 858993459) + (((i0 - ((i0.toUInt32 >>> ((1 : Int32).toUInt32 &&& Int32.toUInt32 31)).toInt32 &&& 1431655765)).toUInt32 >>> ((2 : Int32).toUInt32 &&& Int32.toUInt32 31)).toInt32 &&& 858993459)).toUInt32 >>> ((4 : Int32).toUInt32 &&& Int32.toUInt32 31)).toInt32) &&& 252645135).toUInt32 >>> ((8 : Int32).toUInt32 &&& Int32.toUInt32 31)).toInt32).toUInt32 >>> ((16 : Int32).toUInt32 &&& Int32.toUInt32 31)).toInt32) &&& 63)) hQ hx hb hr hlocks hK hP9 hD9 hS (by rw [hpost] <;> rfl) () rfl d_Integer_bitCount_52
set_option maxHeartbeats 4000000 in
set_option maxRecDepth 100000 in
theorem c_Arrays_fill (l : Launch) (dC : Nat → ClassId) (dI : Nat → Nat → Nat) (cI cJ cC cZ : ClassId) (σ : kSg) (q0 : Nat) (nn : Nat) (f : Nat → Int32) (v0 : Int32) (hnn : nn < 2 ^ 31) : kC l y_Arrays_fill ws_Arrays_fill (kRm 0 0 0 0) (dC, dI) (kTy cI cJ cC cZ) σ ([(q0, .inl (cI, nn, .inl f))]) [.ref q0, .int v0] (kQv (dC, dI) (kTy cI cJ cC cZ) (fun _ : Unit => [(q0, .inl (cI, nn, .inl (fun _ => v0)))])) 0 0 := by
  refine kr_met (cc := prog_17_method_103_code) (maxL := 4) (ret := none) (by decide) rfl (Nat.le_of_ble_eq_true rfl) ?_
  intro p e s m args below meth c A Q hQ hx hb hr hml hts hown hlocks hnm hA hP hK hD hSt ls hl
  have hS : va_S A s.heap s.heap [] := va_S.rf
  have hown : s.vm.findClass "java/util/Arrays" = some m.cls := hown
  have hl : lv_has ls 4 [(0, .ref q0), (1, .int v0)] := hl
  have hP : va_P (dC, dI) vwCl [(q0, .inl (cI, nn, .inl f))] s.heap := hP
  have hD : va_D A [(q0, .inl (cI, nn, .inl f))] := hD
  refine lv_iconst (v := 0) hx hb d_Arrays_fill_0 (by decide) ?_
  refine lv_istore_n (lv' := [(2, .int 0), (0, .ref q0), (1, .int v0)]) hx hb d_Arrays_fill_1 rfl hl (by decide) rfl (fun ls hl => ?_)
  refine lv_aload_n hx hb d_Arrays_fill_2 rfl (lv_at hl 1 rfl) ?_
  refine va_alen (v := nI nn) hx hb hK hP 0 0 rfl rfl rfl d_Arrays_fill_3 ?_
  refine lv_istore_n (lv' := [(3, .int (nI nn)), (2, .int 0), (0, .ref q0), (1, .int v0)]) hx hb d_Arrays_fill_4 rfl hl (by decide) rfl (fun ls hl => ?_)
  have loop_5 : ∀ (n : Nat) (i : Nat) (g : Nat → Int32), (i + n = nn) → (∀ j : Nat, j < i → g j = v0) → ∀ (H : Heap) (locs : List Loc), va_P (dC, dI) vwCl [(q0, .inl (cI, nn, .inl g))] H → va_D A [(q0, .inl (cI, nn, .inl g))] → va_S A s.heap H locs → ∀ ls : Array Slot, lv_has ls 4 [(2, .int (nI i)), (3, .int (nI nn)), (0, .ref q0), (1, .int v0)] → W p l e (kRm 0 0 0 0) s m args below meth c H locs 0 0 Q (F0 m 5 ls []) := by
    intro n
    induction n with
    | zero =>
      intro i g hi hf H locs hP hD hS ls hl
      refine lv_iload_n hx hb d_Arrays_fill_5 rfl (lv_at hl 0 rfl) ?_
      refine lv_iload_n hx hb d_Arrays_fill_6 rfl (lv_at hl 1 rfl) ?_
      refine lv_icmp_ge (tgt := 20) hx hb d_Arrays_fill_7 (by decide) (fun c_1 => ?_) (fun c_1 => ?_)
      · skip
        have c_1 : nn ≤ i := (nI_leI (a := nn) (b := i) (by omega) (by omega)).mp c_1
        have hP := kf_fill (v := v0) hP (fun j h => hf j (by omega))
        have hD := kf_fillD (v := v0) hD
        have hP9 := hP.sub (ws' := [(q0, .inl (cI, nn, .inl (fun _ => v0)))]) [0] rfl
        have hD9 := hD.sub (ws' := [(q0, .inl (cI, nn, .inl (fun _ => v0)))]) [0] (by decide) rfl
        exact kr_vret hQ hx hb hr hlocks hK hP9 hD9 hS () rfl d_Arrays_fill_20
      · skip
        have c_1 : ¬ nn ≤ i := fun h9 => c_1 ((nI_leI (a := nn) (b := i) (by omega) (by omega)).mpr h9)
        exfalso; omega
    | succ n ih_5 =>
      intro i g hi hf H locs hP hD hS ls hl
      refine lv_iload_n hx hb d_Arrays_fill_5 rfl (lv_at hl 0 rfl) ?_
      refine lv_iload_n hx hb d_Arrays_fill_6 rfl (lv_at hl 1 rfl) ?_
      refine lv_icmp_ge (tgt := 20) hx hb d_Arrays_fill_7 (by decide) (fun c_2 => ?_) (fun c_2 => ?_)
      · skip
        have c_2 : nn ≤ i := (nI_leI (a := nn) (b := i) (by omega) (by omega)).mp c_2
        exfalso; omega
      · skip
        have c_2 : ¬ nn ≤ i := fun h9 => c_2 ((nI_leI (a := nn) (b := i) (by omega) (by omega)).mpr h9)
        refine lv_aload_n hx hb d_Arrays_fill_10 rfl (lv_at hl 2 rfl) ?_
        refine lv_iload_n hx hb d_Arrays_fill_11 rfl (lv_at hl 0 rfl) ?_
        refine lv_iload_n hx hb d_Arrays_fill_12 rfl (lv_at hl 3 rfl) ?_
        refine kr_iast (k := i) hx hb hK hP hD hS 0 0 rfl rfl (by omega) (by first | decide | omega) d_Arrays_fill_13 (fun H locs hP hD hS => ?_)
        have hP : va_P (dC, dI) vwCl [(q0, .inl (cI, nn, .inl (upd g i v0)))] H := hP
        have hD : va_D A [(q0, .inl (cI, nn, .inl (upd g i v0)))] := hD
        refine lv_iinc (v := (nI (i + 1))) (lv' := [(2, .int (nI (i + 1))), (3, .int (nI nn)), (0, .ref q0), (1, .int v0)]) hx hb d_Arrays_fill_14 hl (k := 0) rfl (nI_1 i) (by decide) rfl (fun ls hl => ?_)
        refine lv_goto (tgt := 5) hx hb d_Arrays_fill_17 (by decide) ?_
        exact ih_5 (i + 1) (upd g i v0) (by omega) (kf_step hf) _ _ (hP.sub [0] rfl) (hD.sub [0] (by decide) rfl) hS ls (lv_sub hl [0, 1, 2, 3] rfl)
  exact loop_5 nn 0 f (by omega) (fun j h => absurd h (Nat.not_lt_zero j)) _ _ (hP.sub [0] rfl) (hD.sub [0] (by decide) rfl) hS ls (lv_sub hl [1, 0, 2, 3] rfl)
set_option maxHeartbeats 4000000 in
set_option maxRecDepth 100000 in
theorem c_String_coder (l : Launch) (dC : Nat → ClassId) (dI : Nat → Nat → Nat) (cI cJ cC cZ : ClassId) (σ : kSg) (j0 : Nat) (hj : j0 < nTx) : kC l y_String_coder ws_String_coder (kRm 0 0 0 0) (dC, dI) (kTy cI cJ cC cZ) σ ([]) [.ref (σ.1 j0)] (kQi (dC, dI) (kTy cI cJ cC cZ) 0 (fun _ : Unit => [])) 0 0 := by
  refine kr_met (cc := prog_14_method_152_code) (maxL := 1) (ret := (some .byte)) (by decide) rfl (Nat.le_of_ble_eq_true rfl) ?_
  intro p e s m args below meth c A Q hQ hx hb hr hml hts hown hlocks hnm hA hP hK hD hSt ls hl
  have hS : va_S A s.heap s.heap [] := va_S.rf
  have hown : s.vm.findClass "java/lang/String" = some m.cls := hown
  have hl : lv_has ls 1 [(0, .ref (σ.1 j0))] := hl
  have hP : va_P (dC, dI) vwCl [] s.heap := hP
  have hD : va_D A [] := hD
  have hf_38 := hts _ (List.mem_cons_of_mem _ wq_265)
  have hf_15 := hts _ (List.mem_cons_of_mem _ wq_789)
  refine va_gets hx hb hSt.2.2.2.2.1 hS hown hf_38 (fun _ h9 => h9) d_String_coder_0 ?_
  refine lv_if_eq (tgt := 13) hx hb d_String_coder_3 (by decide) (fun c_1 => ?_) (fun c_1 => ?_)
  · skip
    exact absurd c_1 (by decide)
  · skip
    have c_1 : ¬ 1 = 0 := fun h9 => c_1 ((nI_eq (a := 1) (b := 0) (by omega) (by omega)).mpr h9)
    refine lv_aload_n hx hb d_String_coder_6 rfl (lv_at hl 0 rfl) ?_
    refine vk_getf hx hb (hSt.2.2.2.2.2.1 j0 (by first | decide | assumption)).2.1 hS hown hf_15 (fun _ h9 => h9) d_String_coder_7 ?_
    refine lv_goto (tgt := 14) hx hb d_String_coder_10 (by decide) ?_
    have hP9 := hP.sub (ws' := []) [] rfl
    have hD9 := hD.sub (ws' := []) [] (by decide) rfl
    exact kr_zret (v := 0) hQ hx hb hr hlocks hK hP9 hD9 hS rfl rfl () rfl d_String_coder_14
set_option maxHeartbeats 4000000 in
set_option maxRecDepth 100000 in
theorem c_String_isLatin1 (l : Launch) (dC : Nat → ClassId) (dI : Nat → Nat → Nat) (cI cJ cC cZ : ClassId) (σ : kSg) (j0 : Nat) (hj : j0 < nTx) : kC l y_String_isLatin1 ws_String_isLatin1 (kRm 0 0 0 0) (dC, dI) (kTy cI cJ cC cZ) σ ([]) [.ref (σ.1 j0)] (kQi (dC, dI) (kTy cI cJ cC cZ) 1 (fun _ : Unit => [])) 0 0 := by
  refine kr_met (cc := prog_14_method_154_code) (maxL := 1) (ret := (some .boolean)) (by decide) rfl (Nat.le_of_ble_eq_true rfl) ?_
  intro p e s m args below meth c A Q hQ hx hb hr hml hts hown hlocks hnm hA hP hK hD hSt ls hl
  have hS : va_S A s.heap s.heap [] := va_S.rf
  have hown : s.vm.findClass "java/lang/String" = some m.cls := hown
  have hl : lv_has ls 1 [(0, .ref (σ.1 j0))] := hl
  have hP : va_P (dC, dI) vwCl [] s.heap := hP
  have hD : va_D A [] := hD
  have hf_38 := hts _ (List.mem_cons_of_mem _ wq_265)
  have hf_15 := hts _ (List.mem_cons_of_mem _ wq_789)
  refine va_gets hx hb hSt.2.2.2.2.1 hS hown hf_38 (fun _ h9 => h9) d_String_isLatin1_0 ?_
  refine lv_if_eq (tgt := 17) hx hb d_String_isLatin1_3 (by decide) (fun c_1 => ?_) (fun c_1 => ?_)
  · skip
    exact absurd c_1 (by decide)
  · skip
    have c_1 : ¬ 1 = 0 := fun h9 => c_1 ((nI_eq (a := 1) (b := 0) (by omega) (by omega)).mpr h9)
    refine lv_aload_n hx hb d_String_isLatin1_6 rfl (lv_at hl 0 rfl) ?_
    refine vk_getf hx hb (hSt.2.2.2.2.2.1 j0 (by first | decide | assumption)).2.1 hS hown hf_15 (fun _ h9 => h9) d_String_isLatin1_7 ?_
    refine lv_if_ne (tgt := 17) hx hb d_String_isLatin1_10 (by decide) (fun c_2 => ?_) (fun c_2 => ?_)
    · skip
      exact absurd c_2 (by decide)
    · skip
      have c_2 : 0 = 0 := (nI_eq (a := 0) (b := 0) (by omega) (by omega)).mp c_2
      refine lv_iconst (v := 1) hx hb d_String_isLatin1_13 (by decide) ?_
      refine lv_goto (tgt := 18) hx hb d_String_isLatin1_14 (by decide) ?_
      have hP9 := hP.sub (ws' := []) [] rfl
      have hD9 := hD.sub (ws' := []) [] (by decide) rfl
      exact kr_zret (v := 1) hQ hx hb hr hlocks hK hP9 hD9 hS rfl rfl () rfl d_String_isLatin1_18
set_option maxHeartbeats 4000000 in
set_option maxRecDepth 100000 in
theorem c_String_length (l : Launch) (dC : Nat → ClassId) (dI : Nat → Nat → Nat) (cI cJ cC cZ : ClassId) (σ : kSg) (j0 : Nat) (hj : j0 < nTx) : kC l y_String_length ws_String_length (kRm 1 0 0 20) (dC, dI) (kTy cI cJ cC cZ) σ ([]) [.ref (σ.1 j0)] (kQi (dC, dI) (kTy cI cJ cC cZ) (nI (kTx j0).length) (fun _ : Unit => [])) 0 0 := by
  refine kr_met (cc := prog_14_method_54_code) (maxL := 1) (ret := (some .int)) (by decide) rfl (Nat.le_of_ble_eq_true rfl) ?_
  intro p e s m args below meth c A Q hQ hx hb hr hml hts hown hlocks hnm hA hP hK hD hSt ls hl
  have hS : va_S A s.heap s.heap [] := va_S.rf
  have hown : s.vm.findClass "java/lang/String" = some m.cls := hown
  have hl : lv_has ls 1 [(0, .ref (σ.1 j0))] := hl
  have hP : va_P (dC, dI) vwCl [] s.heap := hP
  have hD : va_D A [] := hD
  have hf_9 := hts _ (List.mem_cons_of_mem _ wq_788)
  have hini_String := hts _ (List.mem_cons_of_mem _ wq_11)
  have hm_335 := hts _ (List.mem_cons_of_mem _ wq_261)
  have hi_335 := hts _ (List.mem_cons_of_mem _ wq_262)
  have hv_335 := hts _ (List.mem_cons_of_mem _ wq_263)
  refine lv_aload_n hx hb d_String_length_0 rfl (lv_at hl 0 rfl) ?_
  refine vk_getf hx hb (hSt.2.2.2.2.2.1 j0 (by first | decide | assumption)).2.2.1 hS hown hf_9 (fun _ h9 => h9) d_String_length_1 ?_
  refine va_tlen (v := nI (kTx j0).length) hx hb (hSt.2.2.2.2.2.1 j0 (by first | decide | assumption)).2.2.2 hS rfl d_String_length_4 ?_
  refine lv_aload_n hx hb d_String_length_5 rfl (lv_at hl 0 rfl) ?_
  have hpre_1 := kr_pre (wc := []) (av := [.ref (σ.1 j0)]) hK hP hD hS hA hSt [] rfl (by decide)
  refine kj_i (wc := []) (wr := []) (va_runV (As := []) (rest := [.int (nI (kTx j0).length)]) ⟨hx, hb, hml, hown, hts⟩ (c_String_coder l dC dI cI cJ cC cZ σ j0 (by first | decide | assumption) _) ⟨(callB_of 0 hts (kg wq_264) rfl rfl rfl hini_String hm_335 (by decide +kernel) ⟨Nat.le_of_ble_eq_true rfl, Nat.le_of_ble_eq_true rfl⟩), hi_335, hv_335⟩ ⟨hpre_1.1, (va_Orecv (hSt.2.2.2.2.2.1 j0 (by first | decide | assumption)).1 hS), hpre_1.2⟩ rfl rfl hl.1 rfl (lv_room (Nat.le_of_ble_eq_true rfl)) d_String_length_6 ⟨Nat.le_of_ble_eq_true rfl, Nat.le_of_ble_eq_true rfl⟩) hP hD hS hA [] [] rfl rfl (by decide) (by decide) (fun _ H locs hP hD hS => ?_)
  have hP : va_P (dC, dI) vwCl [] H := hP
  have hD : va_D A [] := hD
  refine lv_ishr hx hb d_String_length_9 ?_
  refine kr_topi (x := nI (kTx j0).length >>> (0 &&& 31)) (y := nI (kTx j0).length) (sb_shr0 _) ?_
  have hP9 := hP.sub (ws' := []) [] rfl
  have hD9 := hD.sub (ws' := []) [] (by decide) rfl
  exact kr_iret (v := (nI (kTx j0).length)) hQ hx hb hr hlocks hK hP9 hD9 hS rfl () rfl d_String_length_10
set_option maxHeartbeats 4000000 in
set_option maxRecDepth 100000 in
theorem c_Prec_checkIndex_r (l : Launch) (dC : Nat → ClassId) (dI : Nat → Nat → Nat) (cI cJ cC cZ : ClassId) (σ : kSg) (i0 : Nat) (n0 : Nat) (fm : Nat) (hi : i0 < n0) (hn : n0 < 2 ^ 31) : kC l y_Preconditions_checkIndex ws_Preconditions_checkIndex (kRm 0 0 0 0) (dC, dI) (kTy cI cJ cC cZ) σ ([]) [.int (nI i0), .int (nI n0), .ref fm] (kQi (dC, dI) (kTy cI cJ cC cZ) (nI i0) (fun _ : Unit => [])) 0 0 := by
  refine kr_met (cc := prog_18_method_11_code) (maxL := 3) (ret := (some .int)) (by decide) rfl (Nat.le_of_ble_eq_true rfl) ?_
  intro p e s m args below meth c A Q hQ hx hb hr hml hts hown hlocks hnm hA hP hK hD hSt ls hl
  have hS : va_S A s.heap s.heap [] := va_S.rf
  have hown : s.vm.findClass "jdk/internal/util/Preconditions" = some m.cls := hown
  have hl : lv_has ls 3 [(0, .int (nI i0)), (1, .int (nI n0)), (2, .ref fm)] := hl
  have hP : va_P (dC, dI) vwCl [] s.heap := hP
  have hD : va_D A [] := hD
  refine lv_iload_n hx hb d_Preconditions_checkIndex_0 rfl (lv_at hl 0 rfl) ?_
  refine lv_if_lt (tgt := 9) hx hb d_Preconditions_checkIndex_1 (by decide) (fun c_1 => ?_) (fun c_1 => ?_)
  · skip
    have c_1 : i0 < 0 := (nI_ltI (a := i0) (b := 0) (by omega) (by omega)).mp c_1
    exfalso; omega
  · skip
    have c_1 : ¬ i0 < 0 := fun h9 => c_1 ((nI_ltI (a := i0) (b := 0) (by omega) (by omega)).mpr h9)
    refine lv_iload_n hx hb d_Preconditions_checkIndex_4 rfl (lv_at hl 0 rfl) ?_
    refine lv_iload_n hx hb d_Preconditions_checkIndex_5 rfl (lv_at hl 1 rfl) ?_
    refine lv_icmp_lt (tgt := 16) hx hb d_Preconditions_checkIndex_6 (by decide) (fun c_2 => ?_) (fun c_2 => ?_)
    · skip
      have c_2 : i0 < n0 := (nI_ltI (a := i0) (b := n0) (by omega) (by omega)).mp c_2
      refine lv_iload_n hx hb d_Preconditions_checkIndex_16 rfl (lv_at hl 0 rfl) ?_
      have hP9 := hP.sub (ws' := []) [] rfl
      have hD9 := hD.sub (ws' := []) [] (by decide) rfl
      exact kr_iret (v := (nI i0)) hQ hx hb hr hlocks hK hP9 hD9 hS rfl () rfl d_Preconditions_checkIndex_17
    · skip
      have c_2 : ¬ i0 < n0 := fun h9 => c_2 ((nI_ltI (a := i0) (b := n0) (by omega) (by omega)).mpr h9)
      exfalso; omega
set_option maxHeartbeats 4000000 in
set_option maxRecDepth 100000 in
theorem c_Prec_checkIndex_n (l : Launch) (dC : Nat → ClassId) (dI : Nat → Nat → Nat) (cI cJ cC cZ : ClassId) (σ : kSg) (i0 : Nat) (n0 : Nat) (hi : i0 < n0) (hn : n0 < 2 ^ 31) : kC l y_Preconditions_checkIndex ws_Preconditions_checkIndex (kRm 0 0 0 0) (dC, dI) (kTy cI cJ cC cZ) σ ([]) [.int (nI i0), .int (nI n0), .null] (kQi (dC, dI) (kTy cI cJ cC cZ) (nI i0) (fun _ : Unit => [])) 0 0 := by
  refine kr_met (cc := prog_18_method_11_code) (maxL := 3) (ret := (some .int)) (by decide) rfl (Nat.le_of_ble_eq_true rfl) ?_
  intro p e s m args below meth c A Q hQ hx hb hr hml hts hown hlocks hnm hA hP hK hD hSt ls hl
  have hS : va_S A s.heap s.heap [] := va_S.rf
  have hown : s.vm.findClass "jdk/internal/util/Preconditions" = some m.cls := hown
  have hl : lv_has ls 3 [(0, .int (nI i0)), (1, .int (nI n0)), (2, .null)] := hl
  have hP : va_P (dC, dI) vwCl [] s.heap := hP
  have hD : va_D A [] := hD
  refine lv_iload_n hx hb d_Preconditions_checkIndex_0 rfl (lv_at hl 0 rfl) ?_
  refine lv_if_lt (tgt := 9) hx hb d_Preconditions_checkIndex_1 (by decide) (fun c_1 => ?_) (fun c_1 => ?_)
  · skip
    have c_1 : i0 < 0 := (nI_ltI (a := i0) (b := 0) (by omega) (by omega)).mp c_1
    exfalso; omega
  · skip
    have c_1 : ¬ i0 < 0 := fun h9 => c_1 ((nI_ltI (a := i0) (b := 0) (by omega) (by omega)).mpr h9)
    refine lv_iload_n hx hb d_Preconditions_checkIndex_4 rfl (lv_at hl 0 rfl) ?_
    refine lv_iload_n hx hb d_Preconditions_checkIndex_5 rfl (lv_at hl 1 rfl) ?_
    refine lv_icmp_lt (tgt := 16) hx hb d_Preconditions_checkIndex_6 (by decide) (fun c_2 => ?_) (fun c_2 => ?_)
    · skip
      have c_2 : i0 < n0 := (nI_ltI (a := i0) (b := n0) (by omega) (by omega)).mp c_2
      refine lv_iload_n hx hb d_Preconditions_checkIndex_16 rfl (lv_at hl 0 rfl) ?_
      have hP9 := hP.sub (ws' := []) [] rfl
      have hD9 := hD.sub (ws' := []) [] (by decide) rfl
      exact kr_iret (v := (nI i0)) hQ hx hb hr hlocks hK hP9 hD9 hS rfl () rfl d_Preconditions_checkIndex_17
    · skip
      have c_2 : ¬ i0 < n0 := fun h9 => c_2 ((nI_ltI (a := i0) (b := n0) (by omega) (by omega)).mpr h9)
      exfalso; omega
set_option maxHeartbeats 4000000 in
set_option maxRecDepth 100000 in
theorem c_String_checkIndex (l : Launch) (dC : Nat → ClassId) (dI : Nat → Nat → Nat) (cI cJ cC cZ : ClassId) (σ : kSg) (i0 : Nat) (n0 : Nat) (hi : i0 < n0) (hn : n0 < 2 ^ 31) : kC l y_String_checkIndex ws_String_checkIndex (kRm 1 0 0 22) (dC, dI) (kTy cI cJ cC cZ) σ ([]) [.int (nI i0), .int (nI n0)] (kQv (dC, dI) (kTy cI cJ cC cZ) (fun _ : Unit => [])) 0 0 := by
  refine kr_met (cc := prog_14_method_155_code) (maxL := 2) (ret := none) (by decide) rfl (Nat.le_of_ble_eq_true rfl) ?_
  intro p e s m args below meth c A Q hQ hx hb hr hml hts hown hlocks hnm hA hP hK hD hSt ls hl
  have hS : va_S A s.heap s.heap [] := va_S.rf
  have hown : s.vm.findClass "java/lang/String" = some m.cls := hown
  have hl : lv_has ls 2 [(0, .int (nI i0)), (1, .int (nI n0))] := hl
  have hP : va_P (dC, dI) vwCl [] s.heap := hP
  have hD : va_D A [] := hD
  have hf_1053 := hts _ (List.mem_cons_of_mem _ wq_281)
  have hini_Preconditions := hts _ (List.mem_cons_of_mem _ wq_13)
  have hm_1059 := hts _ (List.mem_cons_of_mem _ wq_283)
  have hs_1059 := hts _ (List.mem_cons_of_mem _ wq_284)
  refine lv_iload_n hx hb d_String_checkIndex_0 rfl (lv_at hl 0 rfl) ?_
  refine lv_iload_n hx hb d_String_checkIndex_1 rfl (lv_at hl 1 rfl) ?_
  rcases hSt.2.2.2.2.2.2.2.1 with hz | ⟨fm, hz⟩
  · skip
    refine va_gets hx hb hz hS hown hf_1053 (fun _ h9 => h9) d_String_checkIndex_2 ?_
    have hpre_1 := kr_pre (wc := []) (av := [.int (nI i0), .int (nI n0), .null]) hK hP hD hS hA hSt [] rfl (by decide)
    refine kj_i (wc := []) (wr := []) (va_runS (As := [.int (nI i0), .int (nI n0), .null]) (rest := []) ⟨hx, hb, hml, hown, hts⟩ (c_Prec_checkIndex_n l dC dI cI cJ cC cZ σ i0 n0 (by (try dsimp only) <;> first | assumption | omega) (by (try dsimp only) <;> first | assumption | omega) _) ⟨(callB_of 3 hts (kg wq_285) rfl rfl rfl hini_Preconditions hm_1059 (by decide +kernel) ⟨Nat.le_of_ble_eq_true rfl, Nat.le_of_ble_eq_true rfl⟩), hs_1059⟩ hpre_1 rfl rfl hl.1 rfl (lv_room (Nat.le_of_ble_eq_true rfl)) d_String_checkIndex_5 ⟨Nat.le_of_ble_eq_true rfl, Nat.le_of_ble_eq_true rfl⟩) hP hD hS hA [] [] rfl rfl (by decide) (by decide) (fun _ H locs hP hD hS => ?_)
    have hP : va_P (dC, dI) vwCl [] H := hP
    have hD : va_D A [] := hD
    refine lv_pop hx hb d_String_checkIndex_8 rfl ?_
    have hP9 := hP.sub (ws' := []) [] rfl
    have hD9 := hD.sub (ws' := []) [] (by decide) rfl
    exact kr_vret hQ hx hb hr hlocks hK hP9 hD9 hS () rfl d_String_checkIndex_9
  · skip
    refine va_gets hx hb hz hS hown hf_1053 (fun _ h9 => h9) d_String_checkIndex_2 ?_
    have hpre_2 := kr_pre (wc := []) (av := [.int (nI i0), .int (nI n0), .ref fm]) hK hP hD hS hA hSt [] rfl (by decide)
    refine kj_i (wc := []) (wr := []) (va_runS (As := [.int (nI i0), .int (nI n0), .ref fm]) (rest := []) ⟨hx, hb, hml, hown, hts⟩ (c_Prec_checkIndex_r l dC dI cI cJ cC cZ σ i0 n0 fm (by (try dsimp only) <;> first | assumption | omega) (by (try dsimp only) <;> first | assumption | omega) _) ⟨(callB_of 3 hts (kg wq_285) rfl rfl rfl hini_Preconditions hm_1059 (by decide +kernel) ⟨Nat.le_of_ble_eq_true rfl, Nat.le_of_ble_eq_true rfl⟩), hs_1059⟩ hpre_2 rfl rfl hl.1 rfl (lv_room (Nat.le_of_ble_eq_true rfl)) d_String_checkIndex_5 ⟨Nat.le_of_ble_eq_true rfl, Nat.le_of_ble_eq_true rfl⟩) hP hD hS hA [] [] rfl rfl (by decide) (by decide) (fun _ H locs hP hD hS => ?_)
    have hP : va_P (dC, dI) vwCl [] H := hP
    have hD : va_D A [] := hD
    refine lv_pop hx hb d_String_checkIndex_8 rfl ?_
    have hP9 := hP.sub (ws' := []) [] rfl
    have hD9 := hD.sub (ws' := []) [] (by decide) rfl
    exact kr_vret hQ hx hb hr hlocks hK hP9 hD9 hS () rfl d_String_checkIndex_9
set_option maxHeartbeats 4000000 in
set_option maxRecDepth 100000 in
theorem c_Latin1_charAt (l : Launch) (dC : Nat → ClassId) (dI : Nat → Nat → Nat) (cI cJ cC cZ : ClassId) (σ : kSg) (j0 : Nat) (k0 : Nat) (hj : j0 < nTx) (hk : k0 < (kTx j0).length) : kC l y_StringLatin1_charAt ws_StringLatin1_charAt (kRm 2 0 0 43) (dC, dI) (kTy cI cJ cC cZ) σ ([]) [.ref (σ.2.1 j0), .int (nI k0)] (kQi (dC, dI) (kTy cI cJ cC cZ) (kChr j0 k0) (fun _ : Unit => [])) 0 0 := by
  refine kr_met (cc := prog_15_method_2_code) (maxL := 2) (ret := (some .char)) (by decide) rfl (Nat.le_of_ble_eq_true rfl) ?_
  intro p e s m args below meth c A Q hQ hx hb hr hml hts hown hlocks hnm hA hP hK hD hSt ls hl
  have hS : va_S A s.heap s.heap [] := va_S.rf
  have hown : s.vm.findClass "java/lang/StringLatin1" = some m.cls := hown
  have hl : lv_has ls 2 [(0, .ref (σ.2.1 j0)), (1, .int (nI k0))] := hl
  have hP : va_P (dC, dI) vwCl [] s.heap := hP
  have hD : va_D A [] := hD
  have hini_String := hts _ (List.mem_cons_of_mem _ wq_11)
  have hm_9 := hts _ (List.mem_cons_of_mem _ wq_278)
  have hs_9 := hts _ (List.mem_cons_of_mem _ wq_279)
  have hlen := kTx_len j0
  refine lv_iload_n hx hb d_StringLatin1_charAt_0 rfl (lv_at hl 1 rfl) ?_
  refine lv_aload_n hx hb d_StringLatin1_charAt_1 rfl (lv_at hl 0 rfl) ?_
  refine va_tlen (v := nI (kTx j0).length) hx hb (hSt.2.2.2.2.2.1 j0 (by first | decide | assumption)).2.2.2 hS rfl d_StringLatin1_charAt_2 ?_
  have hpre_1 := kr_pre (wc := []) (av := [.int (nI k0), .int (nI (kTx j0).length)]) hK hP hD hS hA hSt [] rfl (by decide)
  refine kj_v (wc := []) (wr := []) (va_runS (As := [.int (nI k0), .int (nI (kTx j0).length)]) (rest := []) ⟨hx, hb, hml, hown, hts⟩ (c_String_checkIndex l dC dI cI cJ cC cZ σ k0 (kTx j0).length (by (try dsimp only) <;> first | assumption | omega) (by (try dsimp only) <;> first | assumption | omega) _) ⟨(callB_of 2 hts (kg wq_280) rfl rfl rfl hini_String hm_9 (by decide +kernel) ⟨Nat.le_of_ble_eq_true rfl, Nat.le_of_ble_eq_true rfl⟩), hs_9⟩ hpre_1 rfl rfl hl.1 rfl (lv_room (Nat.le_of_ble_eq_true rfl)) d_StringLatin1_charAt_3 ⟨Nat.le_of_ble_eq_true rfl, Nat.le_of_ble_eq_true rfl⟩) hP hD hS hA [] [] rfl rfl (by decide) (by decide) (fun _ H locs hP hD hS => ?_)
  have hP : va_P (dC, dI) vwCl [] H := hP
  have hD : va_D A [] := hD
  refine lv_aload_n hx hb d_StringLatin1_charAt_6 rfl (lv_at hl 0 rfl) ?_
  refine lv_iload_n hx hb d_StringLatin1_charAt_7 rfl (lv_at hl 1 rfl) ?_
  refine kr_tb (k := k0) (g := kChr j0) hx hb (hSt.2.2.2.2.2.1 j0 (by first | decide | assumption)).2.2.2 hS (by omega) (by first | omega | decide) d_StringLatin1_charAt_8 ?_
  refine lv_sipush (v := 255) hx hb d_StringLatin1_charAt_9 (by decide) ?_
  refine lv_iand hx hb d_StringLatin1_charAt_12 ?_
  refine lv_i2c hx hb d_StringLatin1_charAt_13 rfl ?_
  refine kr_topi (x := ((kChr j0 k0 &&& 255).toUInt32 % 65536).toInt32) (y := kChr j0 k0) (kChr_c j0 k0) ?_
  have hP9 := hP.sub (ws' := []) [] rfl
  have hD9 := hD.sub (ws' := []) [] (by decide) rfl
  exact kr_zret (v := (kChr j0 k0)) hQ hx hb hr hlocks hK hP9 hD9 hS rfl (kChr_nar2 _ _) () rfl d_StringLatin1_charAt_14
set_option maxHeartbeats 4000000 in
set_option maxRecDepth 100000 in
theorem c_String_charAt (l : Launch) (dC : Nat → ClassId) (dI : Nat → Nat → Nat) (cI cJ cC cZ : ClassId) (σ : kSg) (j0 : Nat) (k0 : Nat) (hj : j0 < nTx) (hk : k0 < (kTx j0).length) : kC l y_String_charAt ws_String_charAt (kRm 3 0 0 64) (dC, dI) (kTy cI cJ cC cZ) σ ([]) [.ref (σ.1 j0), .int (nI k0)] (kQi (dC, dI) (kTy cI cJ cC cZ) (kChr j0 k0) (fun _ : Unit => [])) 0 0 := by
  refine kr_met (cc := prog_14_method_56_code) (maxL := 2) (ret := (some .char)) (by decide) rfl (Nat.le_of_ble_eq_true rfl) ?_
  intro p e s m args below meth c A Q hQ hx hb hr hml hts hown hlocks hnm hA hP hK hD hSt ls hl
  have hS : va_S A s.heap s.heap [] := va_S.rf
  have hown : s.vm.findClass "java/lang/String" = some m.cls := hown
  have hl : lv_has ls 2 [(0, .ref (σ.1 j0)), (1, .int (nI k0))] := hl
  have hP : va_P (dC, dI) vwCl [] s.heap := hP
  have hD : va_D A [] := hD
  have hini_String := hts _ (List.mem_cons_of_mem _ wq_11)
  have hm_492 := hts _ (List.mem_cons_of_mem _ wq_271)
  have hi_492 := hts _ (List.mem_cons_of_mem _ wq_272)
  have hv_492 := hts _ (List.mem_cons_of_mem _ wq_273)
  have hf_9 := hts _ (List.mem_cons_of_mem _ wq_788)
  have hini_StringLatin1 := hts _ (List.mem_cons_of_mem _ wq_12)
  have hm_495 := hts _ (List.mem_cons_of_mem _ wq_275)
  have hs_495 := hts _ (List.mem_cons_of_mem _ wq_276)
  refine lv_aload_n hx hb d_String_charAt_0 rfl (lv_at hl 0 rfl) ?_
  have hpre_1 := kr_pre (wc := []) (av := [.ref (σ.1 j0)]) hK hP hD hS hA hSt [] rfl (by decide)
  refine kj_i (wc := []) (wr := []) (va_runV (As := []) (rest := []) ⟨hx, hb, hml, hown, hts⟩ (c_String_isLatin1 l dC dI cI cJ cC cZ σ j0 (by first | decide | assumption) _) ⟨(callB_of 0 hts (kg wq_274) rfl rfl rfl hini_String hm_492 (by decide +kernel) ⟨Nat.le_of_ble_eq_true rfl, Nat.le_of_ble_eq_true rfl⟩), hi_492, hv_492⟩ ⟨hpre_1.1, (va_Orecv (hSt.2.2.2.2.2.1 j0 (by first | decide | assumption)).1 hS), hpre_1.2⟩ rfl rfl hl.1 rfl (lv_room (Nat.le_of_ble_eq_true rfl)) d_String_charAt_1 ⟨Nat.le_of_ble_eq_true rfl, Nat.le_of_ble_eq_true rfl⟩) hP hD hS hA [] [] rfl rfl (by decide) (by decide) (fun _ H locs hP hD hS => ?_)
  have hP : va_P (dC, dI) vwCl [] H := hP
  have hD : va_D A [] := hD
  refine lv_if_eq (tgt := 16) hx hb d_String_charAt_4 (by decide) (fun c_2 => ?_) (fun c_2 => ?_)
  · skip
    exact absurd c_2 (by decide)
  · skip
    have c_2 : ¬ 1 = 0 := fun h9 => c_2 ((nI_eq (a := 1) (b := 0) (by omega) (by omega)).mpr h9)
    refine lv_aload_n hx hb d_String_charAt_7 rfl (lv_at hl 0 rfl) ?_
    refine vk_getf hx hb (hSt.2.2.2.2.2.1 j0 (by first | decide | assumption)).2.2.1 hS hown hf_9 (fun _ h9 => h9) d_String_charAt_8 ?_
    refine lv_iload_n hx hb d_String_charAt_11 rfl (lv_at hl 1 rfl) ?_
    have hpre_3 := kr_pre (wc := []) (av := [.ref (σ.2.1 j0), .int (nI k0)]) hK hP hD hS hA hSt [] rfl (by decide)
    refine kj_i (wc := []) (wr := []) (va_runS (As := [.ref (σ.2.1 j0), .int (nI k0)]) (rest := []) ⟨hx, hb, hml, hown, hts⟩ (c_Latin1_charAt l dC dI cI cJ cC cZ σ j0 k0 (by (try dsimp only) <;> first | assumption | omega) (by (try dsimp only) <;> first | assumption | omega) _) ⟨(callB_of 2 hts (kg wq_277) rfl rfl rfl hini_StringLatin1 hm_495 (by decide +kernel) ⟨Nat.le_of_ble_eq_true rfl, Nat.le_of_ble_eq_true rfl⟩), hs_495⟩ hpre_3 rfl rfl hl.1 rfl (lv_room (Nat.le_of_ble_eq_true rfl)) d_String_charAt_12 ⟨Nat.le_of_ble_eq_true rfl, Nat.le_of_ble_eq_true rfl⟩) hP hD hS hA [] [] rfl rfl (by decide) (by decide) (fun _ H locs hP hD hS => ?_)
    have hP : va_P (dC, dI) vwCl [] H := hP
    have hD : va_D A [] := hD
    have hP9 := hP.sub (ws' := []) [] rfl
    have hD9 := hD.sub (ws' := []) [] (by decide) rfl
    exact kr_zret (v := (kChr j0 k0)) hQ hx hb hr hlocks hK hP9 hD9 hS rfl (kChr_nar2 _ _) () rfl d_String_charAt_15
set_option maxHeartbeats 4000000 in
set_option maxRecDepth 100000 in
/-- isEntry(x) -/
theorem c_KitRunner_isEntry (l : Launch) (dC : Nat → ClassId) (dI : Nat → Nat → Nat) (cI cJ cC cZ : ClassId) (σ : kSg) (x0 : Int32) : kC l y_KitRunner_isEntry ws_KitRunner_isEntry (kRm 0 0 0 0) (dC, dI) (kTy cI cJ cC cZ) σ ([]) [.int x0] (kQi (dC, dI) (kTy cI cJ cC cZ) (kb (k_isEntry x0)) (fun _ : Unit => [])) 0 0 := by
  refine kr_met (cc := prog_1_method_14_code) (maxL := 1) (ret := (some .boolean)) (by decide) rfl (Nat.le_of_ble_eq_true rfl) ?_
  intro p e s m args below meth c A Q hQ hx hb hr hml hts hown hlocks hnm hA hP hK hD hSt ls hl
  have hS : va_S A s.heap s.heap [] := va_S.rf
  have hown : s.vm.findClass "KitRunner" = some m.cls := hown
  have hl : lv_has ls 1 [(0, .int x0)] := hl
  have hP : va_P (dC, dI) vwCl [] s.heap := hP
  have hD : va_D A [] := hD
  refine lv_iload_n hx hb d_KitRunner_isEntry_0 rfl (lv_at hl 0 rfl) ?_
  refine lv_if_lt (tgt := 14) hx hb d_KitRunner_isEntry_1 (by decide) (fun c_1 => ?_) (fun c_1 => ?_)
  · skip
    refine lv_iconst (v := 0) hx hb d_KitRunner_isEntry_14 (by decide) ?_
    have hpost : k_isEntry x0 = false := by simp only [k_isEntry, if_pos c_1]
    have hP9 := hP.sub (ws' := []) [] rfl
    have hD9 := hD.sub (ws' := []) [] (by decide) rfl
    exact kr_zret (v := 0) hQ hx hb hr hlocks hK hP9 hD9 hS (by rw [hpost] <;> rfl) rfl () rfl d_KitRunner_isEntry_15
  · skip
    refine lv_iload_n hx hb d_KitRunner_isEntry_4 rfl (lv_at hl 0 rfl) ?_
    refine lv_bipush (v := 16) hx hb d_KitRunner_isEntry_5 (by decide) ?_
    refine lv_icmp_ge (tgt := 14) hx hb d_KitRunner_isEntry_7 (by decide) (fun c_2 => ?_) (fun c_2 => ?_)
    · skip
      refine lv_iconst (v := 0) hx hb d_KitRunner_isEntry_14 (by decide) ?_
      have hpost : k_isEntry x0 = false := by simp only [k_isEntry, if_neg c_1, if_pos c_2]
      have hP9 := hP.sub (ws' := []) [] rfl
      have hD9 := hD.sub (ws' := []) [] (by decide) rfl
      exact kr_zret (v := 0) hQ hx hb hr hlocks hK hP9 hD9 hS (by rw [hpost] <;> rfl) rfl () rfl d_KitRunner_isEntry_15
    · skip
      refine lv_iconst (v := 1) hx hb d_KitRunner_isEntry_10 (by decide) ?_
      refine lv_goto (tgt := 15) hx hb d_KitRunner_isEntry_11 (by decide) ?_
      have hpost : k_isEntry x0 = true := by simp only [k_isEntry, if_neg c_1, if_neg c_2]
      have hP9 := hP.sub (ws' := []) [] rfl
      have hD9 := hD.sub (ws' := []) [] (by decide) rfl
      exact kr_zret (v := 1) hQ hx hb hr hlocks hK hP9 hD9 hS (by rw [hpost] <;> rfl) rfl () rfl d_KitRunner_isEntry_15
set_option maxHeartbeats 4000000 in
set_option maxRecDepth 100000 in
/-- isTrouble(f) -/
theorem c_KitRunner_isTrouble (l : Launch) (dC : Nat → ClassId) (dI : Nat → Nat → Nat) (cI cJ cC cZ : ClassId) (σ : kSg) (f0 : Int64) : kC l y_KitRunner_isTrouble ws_KitRunner_isTrouble (kRm 0 0 0 0) (dC, dI) (kTy cI cJ cC cZ) σ ([]) [.long f0] (kQi (dC, dI) (kTy cI cJ cC cZ) (kb (k_isTr f0)) (fun _ : Unit => [])) 0 0 := by
  refine kr_met (cc := prog_1_method_15_code) (maxL := 2) (ret := (some .boolean)) (by decide) rfl (Nat.le_of_ble_eq_true rfl) ?_
  intro p e s m args below meth c A Q hQ hx hb hr hml hts hown hlocks hnm hA hP hK hD hSt ls hl
  have hS : va_S A s.heap s.heap [] := va_S.rf
  have hown : s.vm.findClass "KitRunner" = some m.cls := hown
  have hl : lv_has ls 2 [(0, .long f0)] := hl
  have hP : va_P (dC, dI) vwCl [] s.heap := hP
  have hD : va_D A [] := hD
  have hk_184 := hts _ (List.mem_cons_of_mem _ wq_342)
  refine lv_lload_n hx hb d_KitRunner_isTrouble_0 rfl (lv_at hl 0 rfl) ?_
  refine lv_ldc2 (v := 10000000000) hx hb hown hk_184 d_KitRunner_isTrouble_1 ?_
  refine W.lcmp hx hb d_KitRunner_isTrouble_4 ?_
  refine lv_if_lt (tgt := 12) hx hb d_KitRunner_isTrouble_5 (by decide) (fun c_1 => ?_) (fun c_1 => ?_)
  · skip
    have c_1 : f0 < (10000000000 : Int64) := (lg_cmp_lt f0 (10000000000 : Int64)).mp c_1
    refine lv_iconst (v := 0) hx hb d_KitRunner_isTrouble_12 (by decide) ?_
    have hpost : k_isTr f0 = false := by simp only [k_isTr, if_pos c_1]
    have hP9 := hP.sub (ws' := []) [] rfl
    have hD9 := hD.sub (ws' := []) [] (by decide) rfl
    exact kr_zret (v := 0) hQ hx hb hr hlocks hK hP9 hD9 hS (by rw [hpost] <;> rfl) rfl () rfl d_KitRunner_isTrouble_13
  · skip
    have c_1 : ¬ f0 < (10000000000 : Int64) := fun h9 => c_1 ((lg_cmp_lt f0 (10000000000 : Int64)).mpr h9)
    refine lv_iconst (v := 1) hx hb d_KitRunner_isTrouble_8 (by decide) ?_
    refine lv_goto (tgt := 13) hx hb d_KitRunner_isTrouble_9 (by decide) ?_
    have hpost : k_isTr f0 = true := by simp only [k_isTr, if_neg c_1]
    have hP9 := hP.sub (ws' := []) [] rfl
    have hD9 := hD.sub (ws' := []) [] (by decide) rfl
    exact kr_zret (v := 1) hQ hx hb hr hlocks hK hP9 hD9 hS (by rw [hpost] <;> rfl) rfl () rfl d_KitRunner_isTrouble_13
set_option maxHeartbeats 4000000 in
set_option maxRecDepth 100000 in
/-- latticeSize(bound) -/
theorem c_KitRunner_latticeSize (l : Launch) (dC : Nat → ClassId) (dI : Nat → Nat → Nat) (cI cJ cC cZ : ClassId) (σ : kSg) (x0 : Int32) : kC l y_KitRunner_latticeSize ws_KitRunner_latticeSize (kRm 0 0 0 0) (dC, dI) (kTy cI cJ cC cZ) σ ([]) [.int x0] (kQi (dC, dI) (kTy cI cJ cC cZ) (nI (k_lsz x0)) (fun _ : Unit => [])) 0 0 := by
  refine kr_met (cc := prog_1_method_16_code) (maxL := 1) (ret := (some .int)) (by decide) rfl (Nat.le_of_ble_eq_true rfl) ?_
  intro p e s m args below meth c A Q hQ hx hb hr hml hts hown hlocks hnm hA hP hK hD hSt ls hl
  have hS : va_S A s.heap s.heap [] := va_S.rf
  have hown : s.vm.findClass "KitRunner" = some m.cls := hown
  have hl : lv_has ls 1 [(0, .int x0)] := hl
  have hP : va_P (dC, dI) vwCl [] s.heap := hP
  have hD : va_D A [] := hD
  refine lv_iload_n hx hb d_KitRunner_latticeSize_0 rfl (lv_at hl 0 rfl) ?_
  refine lv_iconst (v := 1) hx hb d_KitRunner_latticeSize_1 (by decide) ?_
  refine lv_icmp_ne (tgt := 9) hx hb d_KitRunner_latticeSize_2 (by decide) (fun c_1 => ?_) (fun c_1 => ?_)
  · skip
    refine lv_iload_n hx hb d_KitRunner_latticeSize_9 rfl (lv_at hl 0 rfl) ?_
    refine lv_iconst (v := 2) hx hb d_KitRunner_latticeSize_10 (by decide) ?_
    refine lv_icmp_ne (tgt := 19) hx hb d_KitRunner_latticeSize_11 (by decide) (fun c_2 => ?_) (fun c_2 => ?_)
    · skip
      refine lv_bipush (v := 12) hx hb d_KitRunner_latticeSize_19 (by decide) ?_
      have hpost : k_lsz x0 = 12 := by simp only [k_lsz, if_neg c_1, if_neg c_2]
      have hP9 := hP.sub (ws' := []) [] rfl
      have hD9 := hD.sub (ws' := []) [] (by decide) rfl
      exact kr_iret (v := 12) hQ hx hb hr hlocks hK hP9 hD9 hS (by rw [hpost] <;> rfl) () rfl d_KitRunner_latticeSize_21
    · skip
      refine lv_bipush (v := 6) hx hb d_KitRunner_latticeSize_14 (by decide) ?_
      refine lv_goto (tgt := 21) hx hb d_KitRunner_latticeSize_16 (by decide) ?_
      have hpost : k_lsz x0 = 6 := by simp only [k_lsz, if_neg c_1, if_pos c_2]
      have hP9 := hP.sub (ws' := []) [] rfl
      have hD9 := hD.sub (ws' := []) [] (by decide) rfl
      exact kr_iret (v := 6) hQ hx hb hr hlocks hK hP9 hD9 hS (by rw [hpost] <;> rfl) () rfl d_KitRunner_latticeSize_21
  · skip
    refine lv_iconst (v := 3) hx hb d_KitRunner_latticeSize_5 (by decide) ?_
    refine lv_goto (tgt := 21) hx hb d_KitRunner_latticeSize_6 (by decide) ?_
    have hpost : k_lsz x0 = 3 := by simp only [k_lsz, if_pos c_1]
    have hP9 := hP.sub (ws' := []) [] rfl
    have hD9 := hD.sub (ws' := []) [] (by decide) rfl
    exact kr_iret (v := 3) hQ hx hb hr hlocks hK hP9 hD9 hS (by rw [hpost] <;> rfl) () rfl d_KitRunner_latticeSize_21
set_option maxHeartbeats 4000000 in
set_option maxRecDepth 100000 in
theorem c_EntryPoints_sizeOf (l : Launch) (dC : Nat → ClassId) (dI : Nat → Nat → Nat) (cI cJ cC cZ : ClassId) (σ : kSg) (a0 : Int32) : kC l y_K_EntryPoints_sizeOf ws_K_EntryPoints_sizeOf (kRm 0 0 0 0) (dC, dI) (kTy cI cJ cC cZ) σ ([]) [.int a0] (kQl (dC, dI) (kTy cI cJ cC cZ) (k_size a0) (fun _ : Unit => [])) 0 0 := by
  refine kr_met (cc := prog_2_method_4_code) (maxL := 1) (ret := (some .long)) (by decide) rfl (Nat.le_of_ble_eq_true rfl) ?_
  intro p e s m args below meth c A Q hQ hx hb hr hml hts hown hlocks hnm hA hP hK hD hSt ls hl
  have hS : va_S A s.heap s.heap [] := va_S.rf
  have hown : s.vm.findClass "KitRunner$EntryPoints" = some m.cls := hown
  have hl : lv_has ls 1 [(0, .int a0)] := hl
  have hP : va_P (dC, dI) vwCl [] s.heap := hP
  have hD : va_D A [] := hD
  have hk_81 := hts _ (List.mem_cons_of_mem _ wq_329)
  have hk_79 := hts _ (List.mem_cons_of_mem _ wq_328)
  refine lv_iload_n hx hb d_K_EntryPoints_sizeOf_0 rfl (lv_at hl 0 rfl) ?_
  refine lv_if_ge (tgt := 8) hx hb d_K_EntryPoints_sizeOf_1 (by decide) (fun c_1 => ?_) (fun c_1 => ?_)
  · skip
    refine lv_iload_n hx hb d_K_EntryPoints_sizeOf_8 rfl (lv_at hl 0 rfl) ?_
    refine lv_bipush (v := 64) hx hb d_K_EntryPoints_sizeOf_9 (by decide) ?_
    refine lv_icmp_le (tgt := 20) hx hb d_K_EntryPoints_sizeOf_11 (by decide) (fun c_2 => ?_) (fun c_2 => ?_)
    · skip
      refine lv_iload_n hx hb d_K_EntryPoints_sizeOf_20 rfl (lv_at hl 0 rfl) ?_
      refine lv_i2l hx hb d_K_EntryPoints_sizeOf_21 rfl ?_
      have hpost : k_size a0 = a0.toInt64 := by simp only [k_size, if_pos c_1, if_pos c_2]
      have hP9 := hP.sub (ws' := []) [] rfl
      have hD9 := hD.sub (ws' := []) [] (by decide) rfl
      exact kr_lret (v := a0.toInt64) hQ hx hb hr hlocks hK hP9 hD9 hS (by rw [hpost] <;> rfl) () rfl d_K_EntryPoints_sizeOf_22
    · skip
      refine lv_ldc2 (v := 64) hx hb hown hk_81 d_K_EntryPoints_sizeOf_14 ?_
      refine lv_goto (tgt := 22) hx hb d_K_EntryPoints_sizeOf_17 (by decide) ?_
      have hpost : k_size a0 = 64 := by simp only [k_size, if_pos c_1, if_neg c_2]
      have hP9 := hP.sub (ws' := []) [] rfl
      have hD9 := hD.sub (ws' := []) [] (by decide) rfl
      exact kr_lret (v := 64) hQ hx hb hr hlocks hK hP9 hD9 hS (by rw [hpost] <;> rfl) () rfl d_K_EntryPoints_sizeOf_22
  · skip
    refine lv_ldc2 (v := 30000000000) hx hb hown hk_79 d_K_EntryPoints_sizeOf_4 ?_
    have hpost : k_size a0 = 30000000000 := by simp only [k_size, if_neg c_1]
    have hP9 := hP.sub (ws' := []) [] rfl
    have hD9 := hD.sub (ws' := []) [] (by decide) rfl
    exact kr_lret (v := 30000000000) hQ hx hb hr hlocks hK hP9 hD9 hS (by rw [hpost] <;> rfl) () rfl d_K_EntryPoints_sizeOf_7
