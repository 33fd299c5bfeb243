set_option maxHeartbeats 4000000 in
set_option maxRecDepth 100000 in
theorem c_Machine_changed (l : Launch) (dC : Nat → ClassId) (dI : Nat → Nat → Nat) (cI cJ cC cZ : ClassId) (σ : kSg) (so0 : Int32) (n0 : Int32) (f0 : Int64) : kC l y_K_Machine_changed ws_K_Machine_changed (kRm 0 0 0 0) (dC, dI) (kTy cI cJ cC cZ) σ ([]) [.int so0, .int n0, .long f0] (kQl (dC, dI) (kTy cI cJ cC cZ) (k_chg so0 n0 f0) (fun _ : Unit => [])) 0 0 := by
  refine kr_met (cc := prog_5_method_8_code) (maxL := 4) (ret := (some .long)) (by decide) rfl (Nat.le_of_ble_eq_true rfl) ?_
  intro p e s m args below meth c A Q hQ hx hb hr hml hts hown hlocks hnm hA hP hK hD hSt ls hl
  have hS : va_S A s.heap s.heap [] := va_S.rf
  have hown : s.vm.findClass "KitRunner$Machine" = some m.cls := hown
  have hl : lv_has ls 4 [(0, .int so0), (1, .int n0), (2, .long f0)] := hl
  have hP : va_P (dC, dI) vwCl [] s.heap := hP
  have hD : va_D A [] := hD
  have hk_51 := hts _ (List.mem_cons_of_mem _ wq_346)
  have hk_53 := hts _ (List.mem_cons_of_mem _ wq_347)
  have hk_55 := hts _ (List.mem_cons_of_mem _ wq_348)
  refine lv_iload_n hx hb d_K_Machine_changed_0 rfl (lv_at hl 0 rfl) ?_
  rcases ks_3 so0 with c_1 | c_1 | c_1 | c_1 | c_1
  · skip
    refine lv_tableIn (tgt := 32) hx hb d_K_Machine_changed_1 (by rw [c_1]; decide) (by rw [c_1]; decide) (by rw [c_1]; rfl) (by decide) ?_
    refine lv_lload_n hx hb d_K_Machine_changed_32 rfl (lv_at hl 2 rfl) ?_
    refine lv_l2i hx hb d_K_Machine_changed_33 rfl ?_
    refine lv_iconst (v := 1) hx hb d_K_Machine_changed_34 (by decide) ?_
    refine lv_iadd hx hb d_K_Machine_changed_35 ?_
    refine lv_i2l hx hb d_K_Machine_changed_36 rfl ?_
    have hpost : k_chg so0 n0 f0 = (f0.toInt32 + 1).toInt64 := by simp only [k_chg, if_pos c_1, if_neg (ks_ne (b := 1) c_1 (by decide)), if_neg (ks_ne (b := 2) c_1 (by decide)), if_neg (ks_ne (b := 3) c_1 (by decide))]
    have hP9 := hP.sub (ws' := []) [] rfl
    have hD9 := hD.sub (ws' := []) [] (by decide) rfl
    exact kr_lret (v := (f0.toInt32 + 1).toInt64) hQ hx hb hr hlocks hK hP9 hD9 hS (by rw [hpost] <;> rfl) () rfl d_K_Machine_changed_37
  · skip
    refine lv_tableIn (tgt := 38) hx hb d_K_Machine_changed_1 (by rw [c_1]; decide) (by rw [c_1]; decide) (by rw [c_1]; rfl) (by decide) ?_
    refine lv_ldc2 (v := 10000000000) hx hb hown hk_51 d_K_Machine_changed_38 ?_
    have hpost : k_chg so0 n0 f0 = 10000000000 := by simp only [k_chg, if_pos c_1, if_neg (ks_ne (b := 0) c_1 (by decide)), if_neg (ks_ne (b := 2) c_1 (by decide)), if_neg (ks_ne (b := 3) c_1 (by decide))]
    have hP9 := hP.sub (ws' := []) [] rfl
    have hD9 := hD.sub (ws' := []) [] (by decide) rfl
    exact kr_lret (v := 10000000000) hQ hx hb hr hlocks hK hP9 hD9 hS (by rw [hpost] <;> rfl) () rfl d_K_Machine_changed_41
  · skip
    refine lv_tableIn (tgt := 42) hx hb d_K_Machine_changed_1 (by rw [c_1]; decide) (by rw [c_1]; decide) (by rw [c_1]; rfl) (by decide) ?_
    refine lv_iload_n hx hb d_K_Machine_changed_42 rfl (lv_at hl 1 rfl) ?_
    refine lv_i2l hx hb d_K_Machine_changed_43 rfl ?_
    have hpost : k_chg so0 n0 f0 = n0.toInt64 := by simp only [k_chg, if_pos c_1, if_neg (ks_ne (b := 0) c_1 (by decide)), if_neg (ks_ne (b := 1) c_1 (by decide)), if_neg (ks_ne (b := 3) c_1 (by decide))]
    have hP9 := hP.sub (ws' := []) [] rfl
    have hD9 := hD.sub (ws' := []) [] (by decide) rfl
    exact kr_lret (v := n0.toInt64) hQ hx hb hr hlocks hK hP9 hD9 hS (by rw [hpost] <;> rfl) () rfl d_K_Machine_changed_44
  · skip
    refine lv_tableIn (tgt := 45) hx hb d_K_Machine_changed_1 (by rw [c_1]; decide) (by rw [c_1]; decide) (by rw [c_1]; rfl) (by decide) ?_
    refine lv_lload_n hx hb d_K_Machine_changed_45 rfl (lv_at hl 2 rfl) ?_
    refine lv_ldc2 (v := 50000000000) hx hb hown hk_53 d_K_Machine_changed_46 ?_
    refine W.lcmp hx hb d_K_Machine_changed_49 ?_
    refine lv_if_ne (tgt := 59) hx hb d_K_Machine_changed_50 (by decide) (fun c_2 => ?_) (fun c_2 => ?_)
    · skip
      have c_2 : ¬ f0 = (50000000000 : Int64) := fun h9 => c_2 ((lg_cmp_eq f0 (50000000000 : Int64)).mpr h9)
      refine lv_ldc2 (v := 50000000000) hx hb hown hk_53 d_K_Machine_changed_59 ?_
      have hpost : k_chg so0 n0 f0 = 50000000000 := by simp only [k_chg, if_pos c_1, if_neg (ks_ne (b := 0) c_1 (by decide)), if_neg (ks_ne (b := 1) c_1 (by decide)), if_neg (ks_ne (b := 2) c_1 (by decide)), if_neg c_2]
      have hP9 := hP.sub (ws' := []) [] rfl
      have hD9 := hD.sub (ws' := []) [] (by decide) rfl
      exact kr_lret (v := 50000000000) hQ hx hb hr hlocks hK hP9 hD9 hS (by rw [hpost] <;> rfl) () rfl d_K_Machine_changed_62
    · skip
      have c_2 : f0 = (50000000000 : Int64) := (lg_cmp_eq f0 (50000000000 : Int64)).mp c_2
      refine lv_ldc2 (v := 40000000000) hx hb hown hk_55 d_K_Machine_changed_53 ?_
      refine lv_goto (tgt := 62) hx hb d_K_Machine_changed_56 (by decide) ?_
      have hpost : k_chg so0 n0 f0 = 40000000000 := by simp only [k_chg, if_pos c_1, if_neg (ks_ne (b := 0) c_1 (by decide)), if_neg (ks_ne (b := 1) c_1 (by decide)), if_neg (ks_ne (b := 2) c_1 (by decide)), if_pos c_2]
      have hP9 := hP.sub (ws' := []) [] rfl
      have hD9 := hD.sub (ws' := []) [] (by decide) rfl
      exact kr_lret (v := 40000000000) hQ hx hb hr hlocks hK hP9 hD9 hS (by rw [hpost] <;> rfl) () rfl d_K_Machine_changed_62
  · skip
    refine lv_tableOut (tgt := 63) hx hb d_K_Machine_changed_1 c_1 (by decide) ?_
    have c_1 := kn_3 c_1
    refine lv_lload_n hx hb d_K_Machine_changed_63 rfl (lv_at hl 2 rfl) ?_
    refine lv_lconst (v := 1) hx hb d_K_Machine_changed_64 (by decide) ?_
    refine lv_lxor hx hb d_K_Machine_changed_65 ?_
    have hpost : k_chg so0 n0 f0 = f0 ^^^ 1 := by simp only [k_chg, if_neg c_1.1, if_neg c_1.2.1, if_neg c_1.2.2.1, if_neg c_1.2.2.2]
    have hP9 := hP.sub (ws' := []) [] rfl
    have hD9 := hD.sub (ws' := []) [] (by decide) rfl
    exact kr_lret (v := (f0 ^^^ 1)) hQ hx hb hr hlocks hK hP9 hD9 hS (by rw [hpost] <;> rfl) () rfl d_K_Machine_changed_66
set_option maxHeartbeats 4000000 in
set_option maxRecDepth 100000 in
theorem c_Machine_applies (l : Launch) (dC : Nat → ClassId) (dI : Nat → Nat → Nat) (cI cJ cC cZ : ClassId) (σ : kSg) (so0 : Int32) (n0 : Int32) (a0 : Int32) (b0 : Int32) (f0 : Int64) : kC l y_K_Machine_applies ws_K_Machine_applies (kRm 1 0 0 21) (dC, dI) (kTy cI cJ cC cZ) σ ([]) [.int so0, .int n0, .int a0, .int b0, .long f0] (kQi (dC, dI) (kTy cI cJ cC cZ) (kb (k_app so0 n0 a0 b0 f0)) (fun _ : Unit => [])) 0 0 := by
  refine kr_met (cc := prog_5_method_7_code) (maxL := 7) (ret := (some .boolean)) (by decide) rfl (Nat.le_of_ble_eq_true rfl) ?_
  intro p e s m args below meth c A Q hQ hx hb hr hml hts hown hlocks hnm hA hP hK hD hSt ls hl
  have hS : va_S A s.heap s.heap [] := va_S.rf
  have hown : s.vm.findClass "KitRunner$Machine" = some m.cls := hown
  have hl : lv_has ls 7 [(0, .int so0), (1, .int n0), (2, .int a0), (3, .int b0), (4, .long f0)] := hl
  have hP : va_P (dC, dI) vwCl [] s.heap := hP
  have hD : va_D A [] := hD
  have hini_KitRunner := hts _ (List.mem_cons_of_mem _ wq_1)
  have hm_45 := hSt.2.2.2.2.2.2.2.2.1
  have hs_45 := hts _ (List.mem_cons_of_mem _ wq_340)
  refine lv_lload hx hb d_K_Machine_applies_0 (lv_at hl 4 rfl) ?_
  have hpre_1 := kr_pre (wc := []) (av := [.long f0]) hK hP hD hS hA hSt [] rfl (by decide)
  refine kj_i (wc := []) (wr := []) (va_runSN (As := [.long f0]) (rest := []) ⟨hx, hb, hml, hown, hts⟩ (c_KitRunner_isTrouble l dC dI cI cJ cC cZ σ f0 _) ⟨va_cnB 1 hts (kg wq_341) rfl rfl rfl hm_45 hini_KitRunner (by decide +kernel) ⟨Nat.le_of_ble_eq_true rfl, Nat.le_of_ble_eq_true rfl⟩, hs_45, trivial⟩ hpre_1 rfl rfl hl.1 rfl (lv_room (Nat.le_of_ble_eq_true rfl)) d_K_Machine_applies_2 ⟨Nat.le_of_ble_eq_true rfl, Nat.le_of_ble_eq_true rfl⟩) hP hD hS hA [] [] rfl rfl (by decide) (by decide) (fun _ H locs hP hD hS => ?_)
  have hP : va_P (dC, dI) vwCl [] H := hP
  have hD : va_D A [] := hD
  refine lv_istore (lv' := [(6, .int (kb (k_isTr f0))), (0, .int so0), (1, .int n0), (2, .int a0), (3, .int b0), (4, .long f0)]) hx hb d_K_Machine_applies_5 hl (by decide) rfl (fun ls hl => ?_)
  refine lv_iload_n hx hb d_K_Machine_applies_7 rfl (lv_at hl 1 rfl) ?_
  rcases ks_3 so0 with c_2 | c_2 | c_2 | c_2 | c_2
  · skip
    refine lv_tableIn (tgt := 40) hx hb d_K_Machine_applies_8 (by rw [c_2]; decide) (by rw [c_2]; decide) (by rw [c_2]; rfl) (by decide) ?_
    refine lv_iload hx hb d_K_Machine_applies_40 (lv_at hl 0 rfl) ?_
    refine lv_if_ne (tgt := 54) hx hb d_K_Machine_applies_42 (by decide) (fun c_3 => ?_) (fun c_3 => ?_)
    · skip
      have c_3 : (k_isTr f0) = true := kb_n.mp c_3
      refine lv_iconst (v := 0) hx hb d_K_Machine_applies_54 (by decide) ?_
      have hpost : k_app so0 n0 a0 b0 f0 = false := by simp only [k_app, if_pos c_2, if_neg (ks_ne (b := 1) c_2 (by decide)), if_neg (ks_ne (b := 2) c_2 (by decide)), if_neg (ks_ne (b := 3) c_2 (by decide)), if_pos c_3]
      have hP9 := hP.sub (ws' := []) [] rfl
      have hD9 := hD.sub (ws' := []) [] (by decide) rfl
      exact kr_zret (v := 0) hQ hx hb hr hlocks hK hP9 hD9 hS (by rw [hpost] <;> rfl) rfl () rfl d_K_Machine_applies_55
    · skip
      have c_3 : (k_isTr f0) = false := kb_0.mp c_3
      refine lv_iload_n hx hb d_K_Machine_applies_45 rfl (lv_at hl 3 rfl) ?_
      refine lv_iload_n hx hb d_K_Machine_applies_46 rfl (lv_at hl 2 rfl) ?_
      refine lv_icmp_ne (tgt := 54) hx hb d_K_Machine_applies_47 (by decide) (fun c_4 => ?_) (fun c_4 => ?_)
      · skip
        refine lv_iconst (v := 0) hx hb d_K_Machine_applies_54 (by decide) ?_
        have hpost : k_app so0 n0 a0 b0 f0 = false := by simp only [k_app, if_pos c_2, if_neg (ks_ne (b := 1) c_2 (by decide)), if_neg (ks_ne (b := 2) c_2 (by decide)), if_neg (ks_ne (b := 3) c_2 (by decide)), if_neg (k_bf c_3), if_neg c_4]
        have hP9 := hP.sub (ws' := []) [] rfl
        have hD9 := hD.sub (ws' := []) [] (by decide) rfl
        exact kr_zret (v := 0) hQ hx hb hr hlocks hK hP9 hD9 hS (by rw [hpost] <;> rfl) rfl () rfl d_K_Machine_applies_55
      · skip
        refine lv_iconst (v := 1) hx hb d_K_Machine_applies_50 (by decide) ?_
        refine lv_goto (tgt := 55) hx hb d_K_Machine_applies_51 (by decide) ?_
        have hpost : k_app so0 n0 a0 b0 f0 = true := by simp only [k_app, if_pos c_2, if_neg (ks_ne (b := 1) c_2 (by decide)), if_neg (ks_ne (b := 2) c_2 (by decide)), if_neg (ks_ne (b := 3) c_2 (by decide)), if_neg (k_bf c_3), if_pos c_4]
        have hP9 := hP.sub (ws' := []) [] rfl
        have hD9 := hD.sub (ws' := []) [] (by decide) rfl
        exact kr_zret (v := 1) hQ hx hb hr hlocks hK hP9 hD9 hS (by rw [hpost] <;> rfl) rfl () rfl d_K_Machine_applies_55
  · skip
    refine lv_tableIn (tgt := 56) hx hb d_K_Machine_applies_8 (by rw [c_2]; decide) (by rw [c_2]; decide) (by rw [c_2]; rfl) (by decide) ?_
    refine lv_iload hx hb d_K_Machine_applies_56 (lv_at hl 0 rfl) ?_
    refine lv_if_ne (tgt := 70) hx hb d_K_Machine_applies_58 (by decide) (fun c_5 => ?_) (fun c_5 => ?_)
    · skip
      have c_5 : (k_isTr f0) = true := kb_n.mp c_5
      refine lv_iconst (v := 0) hx hb d_K_Machine_applies_70 (by decide) ?_
      have hpost : k_app so0 n0 a0 b0 f0 = false := by simp only [k_app, if_pos c_2, if_neg (ks_ne (b := 0) c_2 (by decide)), if_neg (ks_ne (b := 2) c_2 (by decide)), if_neg (ks_ne (b := 3) c_2 (by decide)), if_pos c_5]
      have hP9 := hP.sub (ws' := []) [] rfl
      have hD9 := hD.sub (ws' := []) [] (by decide) rfl
      exact kr_zret (v := 0) hQ hx hb hr hlocks hK hP9 hD9 hS (by rw [hpost] <;> rfl) rfl () rfl d_K_Machine_applies_71
    · skip
      have c_5 : (k_isTr f0) = false := kb_0.mp c_5
      refine lv_iload_n hx hb d_K_Machine_applies_61 rfl (lv_at hl 4 rfl) ?_
      refine lv_iload_n hx hb d_K_Machine_applies_62 rfl (lv_at hl 2 rfl) ?_
      refine lv_icmp_ne (tgt := 70) hx hb d_K_Machine_applies_63 (by decide) (fun c_6 => ?_) (fun c_6 => ?_)
      · skip
        refine lv_iconst (v := 0) hx hb d_K_Machine_applies_70 (by decide) ?_
        have hpost : k_app so0 n0 a0 b0 f0 = false := by simp only [k_app, if_pos c_2, if_neg (ks_ne (b := 0) c_2 (by decide)), if_neg (ks_ne (b := 2) c_2 (by decide)), if_neg (ks_ne (b := 3) c_2 (by decide)), if_neg (k_bf c_5), if_neg c_6]
        have hP9 := hP.sub (ws' := []) [] rfl
        have hD9 := hD.sub (ws' := []) [] (by decide) rfl
        exact kr_zret (v := 0) hQ hx hb hr hlocks hK hP9 hD9 hS (by rw [hpost] <;> rfl) rfl () rfl d_K_Machine_applies_71
      · skip
        refine lv_iconst (v := 1) hx hb d_K_Machine_applies_66 (by decide) ?_
        refine lv_goto (tgt := 71) hx hb d_K_Machine_applies_67 (by decide) ?_
        have hpost : k_app so0 n0 a0 b0 f0 = true := by simp only [k_app, if_pos c_2, if_neg (ks_ne (b := 0) c_2 (by decide)), if_neg (ks_ne (b := 2) c_2 (by decide)), if_neg (ks_ne (b := 3) c_2 (by decide)), if_neg (k_bf c_5), if_pos c_6]
        have hP9 := hP.sub (ws' := []) [] rfl
        have hD9 := hD.sub (ws' := []) [] (by decide) rfl
        exact kr_zret (v := 1) hQ hx hb hr hlocks hK hP9 hD9 hS (by rw [hpost] <;> rfl) rfl () rfl d_K_Machine_applies_71
  · skip
    refine lv_tableIn (tgt := 72) hx hb d_K_Machine_applies_8 (by rw [c_2]; decide) (by rw [c_2]; decide) (by rw [c_2]; rfl) (by decide) ?_
    refine lv_iload hx hb d_K_Machine_applies_72 (lv_at hl 0 rfl) ?_
    have hpost : k_app so0 n0 a0 b0 f0 = (k_isTr f0) := by simp only [k_app, if_pos c_2, if_neg (ks_ne (b := 0) c_2 (by decide)), if_neg (ks_ne (b := 1) c_2 (by decide)), if_neg (ks_ne (b := 3) c_2 (by decide))]
    have hP9 := hP.sub (ws' := []) [] rfl
    have hD9 := hD.sub (ws' := []) [] (by decide) rfl
    exact kr_zret (v := (kb (k_isTr f0))) hQ hx hb hr hlocks hK hP9 hD9 hS (by rw [hpost] <;> rfl) (kb_nar (k_isTr f0)) () rfl d_K_Machine_applies_74
  · skip
    refine lv_tableIn (tgt := 75) hx hb d_K_Machine_applies_8 (by rw [c_2]; decide) (by rw [c_2]; decide) (by rw [c_2]; rfl) (by decide) ?_
    refine lv_iload hx hb d_K_Machine_applies_75 (lv_at hl 0 rfl) ?_
    have hpost : k_app so0 n0 a0 b0 f0 = (k_isTr f0) := by simp only [k_app, if_pos c_2, if_neg (ks_ne (b := 0) c_2 (by decide)), if_neg (ks_ne (b := 1) c_2 (by decide)), if_neg (ks_ne (b := 2) c_2 (by decide))]
    have hP9 := hP.sub (ws' := []) [] rfl
    have hD9 := hD.sub (ws' := []) [] (by decide) rfl
    exact kr_zret (v := (kb (k_isTr f0))) hQ hx hb hr hlocks hK hP9 hD9 hS (by rw [hpost] <;> rfl) (kb_nar (k_isTr f0)) () rfl d_K_Machine_applies_77
  · skip
    refine lv_tableOut (tgt := 78) hx hb d_K_Machine_applies_8 c_2 (by decide) ?_
    have c_2 := kn_3 c_2
    refine lv_iload hx hb d_K_Machine_applies_78 (lv_at hl 0 rfl) ?_
    refine lv_if_ne (tgt := 95) hx hb d_K_Machine_applies_80 (by decide) (fun c_7 => ?_) (fun c_7 => ?_)
    · skip
      have c_7 : (k_isTr f0) = true := kb_n.mp c_7
      refine lv_iconst (v := 0) hx hb d_K_Machine_applies_95 (by decide) ?_
      have hpost : k_app so0 n0 a0 b0 f0 = false := by simp only [k_app, if_neg c_2.1, if_neg c_2.2.1, if_neg c_2.2.2.1, if_neg c_2.2.2.2, if_pos c_7]
      have hP9 := hP.sub (ws' := []) [] rfl
      have hD9 := hD.sub (ws' := []) [] (by decide) rfl
      exact kr_zret (v := 0) hQ hx hb hr hlocks hK hP9 hD9 hS (by rw [hpost] <;> rfl) rfl () rfl d_K_Machine_applies_96
    · skip
      have c_7 : (k_isTr f0) = false := kb_0.mp c_7
      refine lv_lload hx hb d_K_Machine_applies_83 (lv_at hl 5 rfl) ?_
      refine lv_iload_n hx hb d_K_Machine_applies_85 rfl (lv_at hl 2 rfl) ?_
      refine lv_i2l hx hb d_K_Machine_applies_86 rfl ?_
      refine W.lcmp hx hb d_K_Machine_applies_87 ?_
      refine lv_if_le (tgt := 95) hx hb d_K_Machine_applies_88 (by decide) (fun c_8 => ?_) (fun c_8 => ?_)
      · skip
        have c_8 : f0 ≤ n0.toInt64 := (lg_cmp_le f0 n0.toInt64).mp c_8
        refine lv_iconst (v := 0) hx hb d_K_Machine_applies_95 (by decide) ?_
        have hpost : k_app so0 n0 a0 b0 f0 = false := by simp only [k_app, if_neg c_2.1, if_neg c_2.2.1, if_neg c_2.2.2.1, if_neg c_2.2.2.2, if_neg (k_bf c_7), if_pos c_8]
        have hP9 := hP.sub (ws' := []) [] rfl
        have hD9 := hD.sub (ws' := []) [] (by decide) rfl
        exact kr_zret (v := 0) hQ hx hb hr hlocks hK hP9 hD9 hS (by rw [hpost] <;> rfl) rfl () rfl d_K_Machine_applies_96
      · skip
        have c_8 : ¬ f0 ≤ n0.toInt64 := fun h9 => c_8 ((lg_cmp_le f0 n0.toInt64).mpr h9)
        refine lv_iconst (v := 1) hx hb d_K_Machine_applies_91 (by decide) ?_
        refine lv_goto (tgt := 96) hx hb d_K_Machine_applies_92 (by decide) ?_
        have hpost : k_app so0 n0 a0 b0 f0 = true := by simp only [k_app, if_neg c_2.1, if_neg c_2.2.1, if_neg c_2.2.2.1, if_neg c_2.2.2.2, if_neg (k_bf c_7), if_neg c_8]
        have hP9 := hP.sub (ws' := []) [] rfl
        have hD9 := hD.sub (ws' := []) [] (by decide) rfl
        exact kr_zret (v := 1) hQ hx hb hr hlocks hK hP9 hD9 hS (by rw [hpost] <;> rfl) rfl () rfl d_K_Machine_applies_96
set_option maxHeartbeats 4000000 in
set_option maxRecDepth 100000 in
theorem c_Tally_markOf (l : Launch) (dC : Nat → ClassId) (dI : Nat → Nat → Nat) (cI cJ cC cZ : ClassId) (σ : kSg) (g0 : Int64) : kC l y_K_Tally_markOf ws_K_Tally_markOf (kRm 1 0 0 21) (dC, dI) (kTy cI cJ cC cZ) σ ([]) [.long g0] (kQi (dC, dI) (kTy cI cJ cC cZ) (k_mk g0) (fun _ : Unit => [])) 0 0 := by
  refine kr_met (cc := prog_9_method_14_code) (maxL := 2) (ret := (some .int)) (by decide) rfl (Nat.le_of_ble_eq_true rfl) ?_
  intro p e s m args below meth c A Q hQ hx hb hr hml hts hown hlocks hnm hA hP hK hD hSt ls hl
  have hS : va_S A s.heap s.heap [] := va_S.rf
  have hown : s.vm.findClass "KitRunner$Tally" = some m.cls := hown
  have hl : lv_has ls 2 [(0, .long g0)] := hl
  have hP : va_P (dC, dI) vwCl [] s.heap := hP
  have hD : va_D A [] := hD
  have hini_KitRunner := hts _ (List.mem_cons_of_mem _ wq_1)
  have hm_45 := hSt.2.2.2.2.2.2.2.2.2.1
  have hs_45 := hts _ (List.mem_cons_of_mem _ wq_340)
  have hk_49 := hts _ (List.mem_cons_of_mem _ wq_415)
  refine lv_lload_n hx hb d_K_Tally_markOf_0 rfl (lv_at hl 0 rfl) ?_
  have hpre_1 := kr_pre (wc := []) (av := [.long g0]) hK hP hD hS hA hSt [] rfl (by decide)
  refine kj_i (wc := []) (wr := []) (va_runSN (As := [.long g0]) (rest := []) ⟨hx, hb, hml, hown, hts⟩ (c_KitRunner_isTrouble l dC dI cI cJ cC cZ σ g0 _) ⟨va_cnB 1 hts (kg wq_341) rfl rfl rfl hm_45 hini_KitRunner (by decide +kernel) ⟨Nat.le_of_ble_eq_true rfl, Nat.le_of_ble_eq_true rfl⟩, hs_45, trivial⟩ hpre_1 rfl rfl hl.1 rfl (lv_room (Nat.le_of_ble_eq_true rfl)) d_K_Tally_markOf_1 ⟨Nat.le_of_ble_eq_true rfl, Nat.le_of_ble_eq_true rfl⟩) hP hD hS hA [] [] rfl rfl (by decide) (by decide) (fun _ H locs hP hD hS => ?_)
  have hP : va_P (dC, dI) vwCl [] H := hP
  have hD : va_D A [] := hD
  refine lv_if_eq (tgt := 16) hx hb d_K_Tally_markOf_4 (by decide) (fun c_2 => ?_) (fun c_2 => ?_)
  · skip
    have c_2 : (k_isTr g0) = false := kb_0.mp c_2
    refine lv_lload_n hx hb d_K_Tally_markOf_16 rfl (lv_at hl 0 rfl) ?_
    refine lv_lconst (v := 0) hx hb d_K_Tally_markOf_17 (by decide) ?_
    refine W.lcmp hx hb d_K_Tally_markOf_18 ?_
    refine lv_if_ge (tgt := 26) hx hb d_K_Tally_markOf_19 (by decide) (fun c_3 => ?_) (fun c_3 => ?_)
    · skip
      have c_3 : (0 : Int64) ≤ g0 := (lg_cmp_ge g0 (0 : Int64)).mp c_3
      refine lv_lload_n hx hb d_K_Tally_markOf_26 rfl (lv_at hl 0 rfl) ?_
      refine lv_lconst (v := 0) hx hb d_K_Tally_markOf_27 (by decide) ?_
      refine W.lcmp hx hb d_K_Tally_markOf_28 ?_
      refine lv_if_ne (tgt := 36) hx hb d_K_Tally_markOf_29 (by decide) (fun c_4 => ?_) (fun c_4 => ?_)
      · skip
        have c_4 : ¬ g0 = (0 : Int64) := fun h9 => c_4 ((lg_cmp_eq g0 (0 : Int64)).mpr h9)
        refine lv_iconst (v := 4) hx hb d_K_Tally_markOf_36 (by decide) ?_
        have hpost : k_mk g0 = 4 := by simp only [k_mk, if_neg (k_bf c_2), if_pos c_3, if_neg c_4]
        have hP9 := hP.sub (ws' := []) [] rfl
        have hD9 := hD.sub (ws' := []) [] (by decide) rfl
        exact kr_iret (v := 4) hQ hx hb hr hlocks hK hP9 hD9 hS (by rw [hpost] <;> rfl) () rfl d_K_Tally_markOf_37
      · skip
        have c_4 : g0 = (0 : Int64) := (lg_cmp_eq g0 (0 : Int64)).mp c_4
        refine lv_iconst (v := 2) hx hb d_K_Tally_markOf_32 (by decide) ?_
        refine lv_goto (tgt := 37) hx hb d_K_Tally_markOf_33 (by decide) ?_
        have hpost : k_mk g0 = 2 := by simp only [k_mk, if_neg (k_bf c_2), if_pos c_3, if_pos c_4]
        have hP9 := hP.sub (ws' := []) [] rfl
        have hD9 := hD.sub (ws' := []) [] (by decide) rfl
        exact kr_iret (v := 2) hQ hx hb hr hlocks hK hP9 hD9 hS (by rw [hpost] <;> rfl) () rfl d_K_Tally_markOf_37
    · skip
      have c_3 : ¬ (0 : Int64) ≤ g0 := fun h9 => c_3 ((lg_cmp_ge g0 (0 : Int64)).mpr h9)
      refine lv_iconst (v := 1) hx hb d_K_Tally_markOf_22 (by decide) ?_
      refine lv_goto (tgt := 37) hx hb d_K_Tally_markOf_23 (by decide) ?_
      have hpost : k_mk g0 = 1 := by simp only [k_mk, if_neg (k_bf c_2), if_neg c_3]
      have hP9 := hP.sub (ws' := []) [] rfl
      have hD9 := hD.sub (ws' := []) [] (by decide) rfl
      exact kr_iret (v := 1) hQ hx hb hr hlocks hK hP9 hD9 hS (by rw [hpost] <;> rfl) () rfl d_K_Tally_markOf_37
  · skip
    have c_2 : (k_isTr g0) = true := kb_n.mp c_2
    refine lv_iconst (v := 4) hx hb d_K_Tally_markOf_7 (by decide) ?_
    refine lv_lload_n hx hb d_K_Tally_markOf_8 rfl (lv_at hl 0 rfl) ?_
    refine lv_ldc2 (v := 10000000000) hx hb hown hk_49 d_K_Tally_markOf_9 ?_
    refine lv_ldiv hx hb d_K_Tally_markOf_12 (by decide) ?_
    refine lv_l2i hx hb d_K_Tally_markOf_13 rfl ?_
    refine lv_ishl hx hb d_K_Tally_markOf_14 ?_
    have hpost : k_mk g0 = 4 <<< ((g0 / 10000000000).toInt32 &&& 31) := by simp only [k_mk, if_pos c_2]
    have hP9 := hP.sub (ws' := []) [] rfl
    have hD9 := hD.sub (ws' := []) [] (by decide) rfl
    exact kr_iret (v := (4 <<< ((g0 / 10000000000).toInt32 &&& 31))) hQ hx hb hr hlocks hK hP9 hD9 hS (by rw [hpost] <;> rfl) () rfl d_K_Tally_markOf_15
set_option maxHeartbeats 4000000 in
set_option maxRecDepth 100000 in
theorem c_Machine_addFault (l : Launch) (dC : Nat → ClassId) (dI : Nat → Nat → Nat) (cI cJ cC cZ : ClassId) (σ : kSg) (h h_0 h_1 h_2 : Nat) (P : kMach) (e0 : Int32) (s0 : Int32) (n0 : Int32) (hk : P.2.2.2 ≤ 4) : kC l y_K_Machine_addFault ws_K_Machine_addFault (kRm 0 0 0 0) (dC, dI) (kTy cI cJ cC cZ) σ (wMach cI cJ cC cZ h h_0 h_1 h_2 P) [.ref h, .int e0, .int s0, .int n0] (kQi (dC, dI) (kTy cI cJ cC cZ) (kb (k_addFault P e0 s0 n0).2) (fun _ : Unit => wMach cI cJ cC cZ h h_0 h_1 h_2 (k_addFault P e0 s0 n0).1)) 0 0 := by
  refine kr_met (cc := prog_5_method_2_code) (maxL := 4) (ret := (some .boolean)) (by decide) rfl (Nat.le_of_ble_eq_true rfl) ?_
  intro p e s m args below meth c A Q hQ hx hb hr hml hts hown hlocks hnm hA hP hK hD hSt ls hl
  have hS : va_S A s.heap s.heap [] := va_S.rf
  have hown : s.vm.findClass "KitRunner$Machine" = some m.cls := hown
  have hl : lv_has ls 4 [(0, .ref h), (1, .int e0), (2, .int s0), (3, .int n0)] := hl
  have hP : va_P (dC, dI) vwCl [(h, .inr (1, [.ref h_0, .ref h_1, .ref h_2, .int (nI P.2.2.2)])), (h_0, .inl (cI, 4, .inl P.1)), (h_1, .inl (cI, 4, .inl P.2.1)), (h_2, .inl (cI, 4, .inl P.2.2.1))] s.heap := hP
  have hD : va_D A [(h, .inr (1, [.ref h_0, .ref h_1, .ref h_2, .int (nI P.2.2.2)])), (h_0, .inl (cI, 4, .inl P.1)), (h_1, .inl (cI, 4, .inl P.2.1)), (h_2, .inl (cI, 4, .inl P.2.2.1))] := hD
  have hf_21 := hts _ (List.mem_cons_of_mem _ wq_34)
  have hin_K_Machine := fun w (h : w ∈ u_ws "KitRunner$Machine" T_K_Machine 4) => List.mem_cons_of_mem (Cond.code y_K_Machine_addFault prog_5_method_2_code 4 (some .boolean)) (in_K_Machine w h)
  have hf_9 := hts _ (List.mem_cons_of_mem _ wq_31)
  have hf_15 := hts _ (List.mem_cons_of_mem _ wq_32)
  have hf_18 := hts _ (List.mem_cons_of_mem _ wq_33)
  refine lv_aload_n hx hb d_K_Machine_addFault_0 rfl (lv_at hl 0 rfl) ?_
  refine va_get (D := (dC, dI)) (ci := 1) (v := .int (nI P.2.2.2)) (C := "KitRunner$Machine") (T := T_K_Machine) (N := 4) hx hb hts hin_K_Machine hown hK hP 0 rfl rfl 3 (by decide) hf_21 (fun _ h9 => h9) rfl d_K_Machine_addFault_1 ?_
  refine lv_iconst (v := 4) hx hb d_K_Machine_addFault_4 (by decide) ?_
  refine lv_icmp_lt (tgt := 10) hx hb d_K_Machine_addFault_5 (by decide) (fun c_1 => ?_) (fun c_1 => ?_)
  · skip
    have c_1 : P.2.2.2 < 4 := (nI_ltI (a := P.2.2.2) (b := 4) (by omega) (by omega)).mp c_1
    refine lv_aload_n hx hb d_K_Machine_addFault_10 rfl (lv_at hl 0 rfl) ?_
    refine va_get (D := (dC, dI)) (ci := 1) (v := .ref h_0) (C := "KitRunner$Machine") (T := T_K_Machine) (N := 4) hx hb hts hin_K_Machine hown hK hP 0 rfl rfl 0 (by decide) hf_9 (fun _ h9 => h9) rfl d_K_Machine_addFault_11 ?_
    refine lv_aload_n hx hb d_K_Machine_addFault_14 rfl (lv_at hl 0 rfl) ?_
    refine va_get (D := (dC, dI)) (ci := 1) (v := .int (nI P.2.2.2)) (C := "KitRunner$Machine") (T := T_K_Machine) (N := 4) hx hb hts hin_K_Machine hown hK hP 0 rfl rfl 3 (by decide) hf_21 (fun _ h9 => h9) rfl d_K_Machine_addFault_15 ?_
    refine lv_iload_n hx hb d_K_Machine_addFault_18 rfl (lv_at hl 1 rfl) ?_
    refine kr_iast (k := P.2.2.2) hx hb hK hP hD hS 1 0 rfl rfl (by omega) (by first | decide | omega) d_K_Machine_addFault_19 (fun H locs hP hD hS => ?_)
    have hP : va_P (dC, dI) vwCl [(h, .inr (1, [.ref h_0, .ref h_1, .ref h_2, .int (nI P.2.2.2)])), (h_0, .inl (cI, 4, .inl (upd P.1 P.2.2.2 e0))), (h_1, .inl (cI, 4, .inl P.2.1)), (h_2, .inl (cI, 4, .inl P.2.2.1))] H := hP
    have hD : va_D A [(h, .inr (1, [.ref h_0, .ref h_1, .ref h_2, .int (nI P.2.2.2)])), (h_0, .inl (cI, 4, .inl (upd P.1 P.2.2.2 e0))), (h_1, .inl (cI, 4, .inl P.2.1)), (h_2, .inl (cI, 4, .inl P.2.2.1))] := hD
    refine lv_aload_n hx hb d_K_Machine_addFault_20 rfl (lv_at hl 0 rfl) ?_
    refine va_get (D := (dC, dI)) (ci := 1) (v := .ref h_1) (C := "KitRunner$Machine") (T := T_K_Machine) (N := 4) hx hb hts hin_K_Machine hown hK hP 0 rfl rfl 1 (by decide) hf_15 (fun _ h9 => h9) rfl d_K_Machine_addFault_21 ?_
    refine lv_aload_n hx hb d_K_Machine_addFault_24 rfl (lv_at hl 0 rfl) ?_
    refine va_get (D := (dC, dI)) (ci := 1) (v := .int (nI P.2.2.2)) (C := "KitRunner$Machine") (T := T_K_Machine) (N := 4) hx hb hts hin_K_Machine hown hK hP 0 rfl rfl 3 (by decide) hf_21 (fun _ h9 => h9) rfl d_K_Machine_addFault_25 ?_
    refine lv_iload_n hx hb d_K_Machine_addFault_28 rfl (lv_at hl 2 rfl) ?_
    refine kr_iast (k := P.2.2.2) hx hb hK hP hD hS 2 0 rfl rfl (by omega) (by first | decide | omega) d_K_Machine_addFault_29 (fun H locs hP hD hS => ?_)
    have hP : va_P (dC, dI) vwCl [(h, .inr (1, [.ref h_0, .ref h_1, .ref h_2, .int (nI P.2.2.2)])), (h_0, .inl (cI, 4, .inl (upd P.1 P.2.2.2 e0))), (h_1, .inl (cI, 4, .inl (upd P.2.1 P.2.2.2 s0))), (h_2, .inl (cI, 4, .inl P.2.2.1))] H := hP
    have hD : va_D A [(h, .inr (1, [.ref h_0, .ref h_1, .ref h_2, .int (nI P.2.2.2)])), (h_0, .inl (cI, 4, .inl (upd P.1 P.2.2.2 e0))), (h_1, .inl (cI, 4, .inl (upd P.2.1 P.2.2.2 s0))), (h_2, .inl (cI, 4, .inl P.2.2.1))] := hD
    refine lv_aload_n hx hb d_K_Machine_addFault_30 rfl (lv_at hl 0 rfl) ?_
    refine va_get (D := (dC, dI)) (ci := 1) (v := .ref h_2) (C := "KitRunner$Machine") (T := T_K_Machine) (N := 4) hx hb hts hin_K_Machine hown hK hP 0 rfl rfl 2 (by decide) hf_18 (fun _ h9 => h9) rfl d_K_Machine_addFault_31 ?_
    refine lv_aload_n hx hb d_K_Machine_addFault_34 rfl (lv_at hl 0 rfl) ?_
    refine va_get (D := (dC, dI)) (ci := 1) (v := .int (nI P.2.2.2)) (C := "KitRunner$Machine") (T := T_K_Machine) (N := 4) hx hb hts hin_K_Machine hown hK hP 0 rfl rfl 3 (by decide) hf_21 (fun _ h9 => h9) rfl d_K_Machine_addFault_35 ?_
    refine lv_iload_n hx hb d_K_Machine_addFault_38 rfl (lv_at hl 3 rfl) ?_
    refine kr_iast (k := P.2.2.2) hx hb hK hP hD hS 3 0 rfl rfl (by omega) (by first | decide | omega) d_K_Machine_addFault_39 (fun H locs hP hD hS => ?_)
    have hP : va_P (dC, dI) vwCl [(h, .inr (1, [.ref h_0, .ref h_1, .ref h_2, .int (nI P.2.2.2)])), (h_0, .inl (cI, 4, .inl (upd P.1 P.2.2.2 e0))), (h_1, .inl (cI, 4, .inl (upd P.2.1 P.2.2.2 s0))), (h_2, .inl (cI, 4, .inl (upd P.2.2.1 P.2.2.2 n0)))] H := hP
    have hD : va_D A [(h, .inr (1, [.ref h_0, .ref h_1, .ref h_2, .int (nI P.2.2.2)])), (h_0, .inl (cI, 4, .inl (upd P.1 P.2.2.2 e0))), (h_1, .inl (cI, 4, .inl (upd P.2.1 P.2.2.2 s0))), (h_2, .inl (cI, 4, .inl (upd P.2.2.1 P.2.2.2 n0)))] := hD
    refine lv_aload_n hx hb d_K_Machine_addFault_40 rfl (lv_at hl 0 rfl) ?_
    refine lv_dup hx hb d_K_Machine_addFault_41 rfl ?_
    refine va_get (D := (dC, dI)) (ci := 1) (v := .int (nI P.2.2.2)) (C := "KitRunner$Machine") (T := T_K_Machine) (N := 4) hx hb hts hin_K_Machine hown hK hP 0 rfl rfl 3 (by decide) hf_21 (fun _ h9 => h9) rfl d_K_Machine_addFault_42 ?_
    refine lv_iconst (v := 1) hx hb d_K_Machine_addFault_45 (by decide) ?_
    refine lv_iadd hx hb d_K_Machine_addFault_46 ?_
    refine kr_topi (x := (nI P.2.2.2) + 1) (y := nI (P.2.2.2 + 1)) (nI_add P.2.2.2 1) ?_
    refine va_put (D := (dC, dI)) (ci := 1) (v := .int (nI (P.2.2.2 + 1))) (ty := .int) (C := "KitRunner$Machine") (T := T_K_Machine) (N := 4) hx hb hts hin_K_Machine ty_K_Machine ty_K_Machine_ok nm_K_Machine hown hK hP hD hS 0 rfl rfl 3 (by decide) hf_21 (fun _ h9 => h9) rfl (by decide +kernel) rfl rfl (Nat.le_of_ble_eq_true rfl) d_K_Machine_addFault_47 (fun H locs hP hD hS => ?_)
    have hP : va_P (dC, dI) vwCl [(h, .inr (1, [.ref h_0, .ref h_1, .ref h_2, .int (nI (P.2.2.2 + 1))])), (h_0, .inl (cI, 4, .inl (upd P.1 P.2.2.2 e0))), (h_1, .inl (cI, 4, .inl (upd P.2.1 P.2.2.2 s0))), (h_2, .inl (cI, 4, .inl (upd P.2.2.1 P.2.2.2 n0)))] H := hP
    have hD : va_D A [(h, .inr (1, [.ref h_0, .ref h_1, .ref h_2, .int (nI (P.2.2.2 + 1))])), (h_0, .inl (cI, 4, .inl (upd P.1 P.2.2.2 e0))), (h_1, .inl (cI, 4, .inl (upd P.2.1 P.2.2.2 s0))), (h_2, .inl (cI, 4, .inl (upd P.2.2.1 P.2.2.2 n0)))] := hD
    refine lv_iconst (v := 1) hx hb d_K_Machine_addFault_50 (by decide) ?_
    have hpost : k_addFault P e0 s0 n0 = ((upd P.1 P.2.2.2 e0, (upd P.2.1 P.2.2.2 s0, (upd P.2.2.1 P.2.2.2 n0, P.2.2.2 + 1))), true) := by simp only [k_addFault, if_pos c_1]
    have hP9 := hP.sub (ws' := [(h, .inr (1, [.ref h_0, .ref h_1, .ref h_2, .int (nI (P.2.2.2 + 1))])), (h_0, .inl (cI, 4, .inl (upd P.1 P.2.2.2 e0))), (h_1, .inl (cI, 4, .inl (upd P.2.1 P.2.2.2 s0))), (h_2, .inl (cI, 4, .inl (upd P.2.2.1 P.2.2.2 n0)))]) [0, 1, 2, 3] rfl
    have hD9 := hD.sub (ws' := [(h, .inr (1, [.ref h_0, .ref h_1, .ref h_2, .int (nI (P.2.2.2 + 1))])), (h_0, .inl (cI, 4, .inl (upd P.1 P.2.2.2 e0))), (h_1, .inl (cI, 4, .inl (upd P.2.1 P.2.2.2 s0))), (h_2, .inl (cI, 4, .inl (upd P.2.2.1 P.2.2.2 n0)))]) [0, 1, 2, 3] (by decide) rfl
    exact kr_zret (v := 1) hQ hx hb hr hlocks hK hP9 hD9 hS (by rw [hpost] <;> rfl) rfl () (by show (wMach cI cJ cC cZ h h_0 h_1 h_2 (k_addFault P e0 s0 n0).1 : va_W) = _; rw [hpost] <;> rfl) d_K_Machine_addFault_51
  · skip
    have c_1 : ¬ P.2.2.2 < 4 := fun h9 => c_1 ((nI_ltI (a := P.2.2.2) (b := 4) (by omega) (by omega)).mpr h9)
    refine lv_iconst (v := 0) hx hb d_K_Machine_addFault_8 (by decide) ?_
    have hpost : k_addFault P e0 s0 n0 = (P, false) := by simp only [k_addFault, if_neg c_1]
    have hP9 := hP.sub (ws' := [(h, .inr (1, [.ref h_0, .ref h_1, .ref h_2, .int (nI P.2.2.2)])), (h_0, .inl (cI, 4, .inl P.1)), (h_1, .inl (cI, 4, .inl P.2.1)), (h_2, .inl (cI, 4, .inl P.2.2.1))]) [0, 1, 2, 3] rfl
    have hD9 := hD.sub (ws' := [(h, .inr (1, [.ref h_0, .ref h_1, .ref h_2, .int (nI P.2.2.2)])), (h_0, .inl (cI, 4, .inl P.1)), (h_1, .inl (cI, 4, .inl P.2.1)), (h_2, .inl (cI, 4, .inl P.2.2.1))]) [0, 1, 2, 3] (by decide) rfl
    exact kr_zret (v := 0) hQ hx hb hr hlocks hK hP9 hD9 hS (by rw [hpost] <;> rfl) rfl () (by show (wMach cI cJ cC cZ h h_0 h_1 h_2 (k_addFault P e0 s0 n0).1 : va_W) = _; rw [hpost] <;> rfl) d_K_Machine_addFault_9
set_option maxHeartbeats 4000000 in
set_option maxRecDepth 100000 in
theorem c_Machine_removeFaults (l : Launch) (dC : Nat → ClassId) (dI : Nat → Nat → Nat) (cI cJ cC cZ : ClassId) (σ : kSg) (h h_0 h_1 h_2 : Nat) (P : kMach) : kC l y_K_Machine_removeFaults ws_K_Machine_removeFaults (kRm 0 0 0 0) (dC, dI) (kTy cI cJ cC cZ) σ (wMach cI cJ cC cZ h h_0 h_1 h_2 P) [.ref h] (kQv (dC, dI) (kTy cI cJ cC cZ) (fun _ : Unit => wMach cI cJ cC cZ h h_0 h_1 h_2 (k_rmFaults P))) 0 0 := by
  refine kr_met (cc := prog_5_method_3_code) (maxL := 1) (ret := none) (by decide) rfl (Nat.le_of_ble_eq_true rfl) ?_
  intro p e s m args below meth c A Q hQ hx hb hr hml hts hown hlocks hnm hA hP hK hD hSt ls hl
  have hS : va_S A s.heap s.heap [] := va_S.rf
  have hown : s.vm.findClass "KitRunner$Machine" = some m.cls := hown
  have hl : lv_has ls 1 [(0, .ref h)] := hl
  have hP : va_P (dC, dI) vwCl [(h, .inr (1, [.ref h_0, .ref h_1, .ref h_2, .int (nI P.2.2.2)])), (h_0, .inl (cI, 4, .inl P.1)), (h_1, .inl (cI, 4, .inl P.2.1)), (h_2, .inl (cI, 4, .inl P.2.2.1))] s.heap := hP
  have hD : va_D A [(h, .inr (1, [.ref h_0, .ref h_1, .ref h_2, .int (nI P.2.2.2)])), (h_0, .inl (cI, 4, .inl P.1)), (h_1, .inl (cI, 4, .inl P.2.1)), (h_2, .inl (cI, 4, .inl P.2.2.1))] := hD
  have hf_21 := hts _ (List.mem_cons_of_mem _ wq_34)
  have hin_K_Machine := fun w (h : w ∈ u_ws "KitRunner$Machine" T_K_Machine 4) => List.mem_cons_of_mem (Cond.code y_K_Machine_removeFaults prog_5_method_3_code 1 none) (in_K_Machine w h)
  refine lv_aload_n hx hb d_K_Machine_removeFaults_0 rfl (lv_at hl 0 rfl) ?_
  refine lv_iconst (v := 0) hx hb d_K_Machine_removeFaults_1 (by decide) ?_
  refine va_put (D := (dC, dI)) (ci := 1) (v := .int 0) (ty := .int) (C := "KitRunner$Machine") (T := T_K_Machine) (N := 4) hx hb hts hin_K_Machine ty_K_Machine ty_K_Machine_ok nm_K_Machine hown hK hP hD hS 0 rfl rfl 3 (by decide) hf_21 (fun _ h9 => h9) rfl (by decide +kernel) rfl rfl (Nat.le_of_ble_eq_true rfl) d_K_Machine_removeFaults_2 (fun H locs hP hD hS => ?_)
  have hP : va_P (dC, dI) vwCl [(h, .inr (1, [.ref h_0, .ref h_1, .ref h_2, .int (nI 0)])), (h_0, .inl (cI, 4, .inl P.1)), (h_1, .inl (cI, 4, .inl P.2.1)), (h_2, .inl (cI, 4, .inl P.2.2.1))] H := hP
  have hD : va_D A [(h, .inr (1, [.ref h_0, .ref h_1, .ref h_2, .int (nI 0)])), (h_0, .inl (cI, 4, .inl P.1)), (h_1, .inl (cI, 4, .inl P.2.1)), (h_2, .inl (cI, 4, .inl P.2.2.1))] := hD
  have hpost : k_rmFaults P = (P.1, (P.2.1, (P.2.2.1, 0))) := by simp only [k_rmFaults]
  have hP9 := hP.sub (ws' := [(h, .inr (1, [.ref h_0, .ref h_1, .ref h_2, .int (nI 0)])), (h_0, .inl (cI, 4, .inl P.1)), (h_1, .inl (cI, 4, .inl P.2.1)), (h_2, .inl (cI, 4, .inl P.2.2.1))]) [0, 1, 2, 3] rfl
  have hD9 := hD.sub (ws' := [(h, .inr (1, [.ref h_0, .ref h_1, .ref h_2, .int (nI 0)])), (h_0, .inl (cI, 4, .inl P.1)), (h_1, .inl (cI, 4, .inl P.2.1)), (h_2, .inl (cI, 4, .inl P.2.2.1))]) [0, 1, 2, 3] (by decide) rfl
  exact kr_vret hQ hx hb hr hlocks hK hP9 hD9 hS () (by show (wMach cI cJ cC cZ h h_0 h_1 h_2 (k_rmFaults P) : va_W) = _; rw [hpost] <;> rfl) d_K_Machine_removeFaults_5
set_option maxHeartbeats 4000000 in
set_option maxRecDepth 100000 in
theorem c_Machine_faultsHeld (l : Launch) (dC : Nat → ClassId) (dI : Nat → Nat → Nat) (cI cJ cC cZ : ClassId) (σ : kSg) (h h_0 h_1 h_2 : Nat) (P : kMach) : kC l y_K_Machine_faultsHeld ws_K_Machine_faultsHeld (kRm 0 0 0 0) (dC, dI) (kTy cI cJ cC cZ) σ (wMach cI cJ cC cZ h h_0 h_1 h_2 P) [.ref h] (kQi (dC, dI) (kTy cI cJ cC cZ) (nI P.2.2.2) (fun _ : Unit => wMach cI cJ cC cZ h h_0 h_1 h_2 P)) 0 0 := by
  refine kr_met (cc := prog_5_method_4_code) (maxL := 1) (ret := (some .int)) (by decide) rfl (Nat.le_of_ble_eq_true rfl) ?_
  intro p e s m args below meth c A Q hQ hx hb hr hml hts hown hlocks hnm hA hP hK hD hSt ls hl
  have hS : va_S A s.heap s.heap [] := va_S.rf
  have hown : s.vm.findClass "KitRunner$Machine" = some m.cls := hown
  have hl : lv_has ls 1 [(0, .ref h)] := hl
  have hP : va_P (dC, dI) vwCl [(h, .inr (1, [.ref h_0, .ref h_1, .ref h_2, .int (nI P.2.2.2)])), (h_0, .inl (cI, 4, .inl P.1)), (h_1, .inl (cI, 4, .inl P.2.1)), (h_2, .inl (cI, 4, .inl P.2.2.1))] s.heap := hP
  have hD : va_D A [(h, .inr (1, [.ref h_0, .ref h_1, .ref h_2, .int (nI P.2.2.2)])), (h_0, .inl (cI, 4, .inl P.1)), (h_1, .inl (cI, 4, .inl P.2.1)), (h_2, .inl (cI, 4, .inl P.2.2.1))] := hD
  have hf_21 := hts _ (List.mem_cons_of_mem _ wq_34)
  have hin_K_Machine := fun w (h : w ∈ u_ws "KitRunner$Machine" T_K_Machine 4) => List.mem_cons_of_mem (Cond.code y_K_Machine_faultsHeld prog_5_method_4_code 1 (some .int)) (in_K_Machine w h)
  refine lv_aload_n hx hb d_K_Machine_faultsHeld_0 rfl (lv_at hl 0 rfl) ?_
  refine va_get (D := (dC, dI)) (ci := 1) (v := .int (nI P.2.2.2)) (C := "KitRunner$Machine") (T := T_K_Machine) (N := 4) hx hb hts hin_K_Machine hown hK hP 0 rfl rfl 3 (by decide) hf_21 (fun _ h9 => h9) rfl d_K_Machine_faultsHeld_1 ?_
  have hP9 := hP.sub (ws' := [(h, .inr (1, [.ref h_0, .ref h_1, .ref h_2, .int (nI P.2.2.2)])), (h_0, .inl (cI, 4, .inl P.1)), (h_1, .inl (cI, 4, .inl P.2.1)), (h_2, .inl (cI, 4, .inl P.2.2.1))]) [0, 1, 2, 3] rfl
  have hD9 := hD.sub (ws' := [(h, .inr (1, [.ref h_0, .ref h_1, .ref h_2, .int (nI P.2.2.2)])), (h_0, .inl (cI, 4, .inl P.1)), (h_1, .inl (cI, 4, .inl P.2.1)), (h_2, .inl (cI, 4, .inl P.2.2.1))]) [0, 1, 2, 3] (by decide) rfl
  exact kr_iret (v := (nI P.2.2.2)) hQ hx hb hr hlocks hK hP9 hD9 hS rfl () rfl d_K_Machine_faultsHeld_4
set_option maxHeartbeats 4000000 in
set_option maxRecDepth 100000 in
theorem c_Exclusions_add (l : Launch) (dC : Nat → ClassId) (dI : Nat → Nat → Nat) (cI cJ cC cZ : ClassId) (σ : kSg) (h h_0 h_1 : Nat) (P : kExc) (e0 : Int32) (n0 : Int32) (hk : P.2.2 ≤ 6) : kC l y_K_Exclusions_add ws_K_Exclusions_add (kRm 0 0 0 0) (dC, dI) (kTy cI cJ cC cZ) σ (wExc cI cJ cC cZ h h_0 h_1 P) [.ref h, .int e0, .int n0] (kQi (dC, dI) (kTy cI cJ cC cZ) (kb (k_addExc P e0 n0).2) (fun _ : Unit => wExc cI cJ cC cZ h h_0 h_1 (k_addExc P e0 n0).1)) 0 0 := by
  refine kr_met (cc := prog_3_method_2_code) (maxL := 3) (ret := (some .boolean)) (by decide) rfl (Nat.le_of_ble_eq_true rfl) ?_
  intro p e s m args below meth c A Q hQ hx hb hr hml hts hown hlocks hnm hA hP hK hD hSt ls hl
  have hS : va_S A s.heap s.heap [] := va_S.rf
  have hown : s.vm.findClass "KitRunner$Exclusions" = some m.cls := hown
  have hl : lv_has ls 3 [(0, .ref h), (1, .int e0), (2, .int n0)] := hl
  have hP : va_P (dC, dI) vwCl [(h, .inr (2, [.ref h_0, .ref h_1, .int (nI P.2.2)])), (h_0, .inl (cI, 6, .inl P.1)), (h_1, .inl (cI, 6, .inl P.2.1))] s.heap := hP
  have hD : va_D A [(h, .inr (2, [.ref h_0, .ref h_1, .int (nI P.2.2)])), (h_0, .inl (cI, 6, .inl P.1)), (h_1, .inl (cI, 6, .inl P.2.1))] := hD
  have hf_18 := hts _ (List.mem_cons_of_mem _ wq_53)
  have hin_K_Exclusions := fun w (h : w ∈ u_ws "KitRunner$Exclusions" T_K_Exclusions 3) => List.mem_cons_of_mem (Cond.code y_K_Exclusions_add prog_3_method_2_code 3 (some .boolean)) (in_K_Exclusions w h)
  have hf_9 := hts _ (List.mem_cons_of_mem _ wq_51)
  have hf_15 := hts _ (List.mem_cons_of_mem _ wq_52)
  refine lv_aload_n hx hb d_K_Exclusions_add_0 rfl (lv_at hl 0 rfl) ?_
  refine va_get (D := (dC, dI)) (ci := 2) (v := .int (nI P.2.2)) (C := "KitRunner$Exclusions") (T := T_K_Exclusions) (N := 3) hx hb hts hin_K_Exclusions hown hK hP 0 rfl rfl 2 (by decide) hf_18 (fun _ h9 => h9) rfl d_K_Exclusions_add_1 ?_
  refine lv_bipush (v := 6) hx hb d_K_Exclusions_add_4 (by decide) ?_
  refine lv_icmp_lt (tgt := 11) hx hb d_K_Exclusions_add_6 (by decide) (fun c_1 => ?_) (fun c_1 => ?_)
  · skip
    have c_1 : P.2.2 < 6 := (nI_ltI (a := P.2.2) (b := 6) (by omega) (by omega)).mp c_1
    refine lv_aload_n hx hb d_K_Exclusions_add_11 rfl (lv_at hl 0 rfl) ?_
    refine va_get (D := (dC, dI)) (ci := 2) (v := .ref h_0) (C := "KitRunner$Exclusions") (T := T_K_Exclusions) (N := 3) hx hb hts hin_K_Exclusions hown hK hP 0 rfl rfl 0 (by decide) hf_9 (fun _ h9 => h9) rfl d_K_Exclusions_add_12 ?_
    refine lv_aload_n hx hb d_K_Exclusions_add_15 rfl (lv_at hl 0 rfl) ?_
    refine va_get (D := (dC, dI)) (ci := 2) (v := .int (nI P.2.2)) (C := "KitRunner$Exclusions") (T := T_K_Exclusions) (N := 3) hx hb hts hin_K_Exclusions hown hK hP 0 rfl rfl 2 (by decide) hf_18 (fun _ h9 => h9) rfl d_K_Exclusions_add_16 ?_
    refine lv_iload_n hx hb d_K_Exclusions_add_19 rfl (lv_at hl 1 rfl) ?_
    refine kr_iast (k := P.2.2) hx hb hK hP hD hS 1 0 rfl rfl (by omega) (by first | decide | omega) d_K_Exclusions_add_20 (fun H locs hP hD hS => ?_)
    have hP : va_P (dC, dI) vwCl [(h, .inr (2, [.ref h_0, .ref h_1, .int (nI P.2.2)])), (h_0, .inl (cI, 6, .inl (upd P.1 P.2.2 e0))), (h_1, .inl (cI, 6, .inl P.2.1))] H := hP
    have hD : va_D A [(h, .inr (2, [.ref h_0, .ref h_1, .int (nI P.2.2)])), (h_0, .inl (cI, 6, .inl (upd P.1 P.2.2 e0))), (h_1, .inl (cI, 6, .inl P.2.1))] := hD
    refine lv_aload_n hx hb d_K_Exclusions_add_21 rfl (lv_at hl 0 rfl) ?_
    refine va_get (D := (dC, dI)) (ci := 2) (v := .ref h_1) (C := "KitRunner$Exclusions") (T := T_K_Exclusions) (N := 3) hx hb hts hin_K_Exclusions hown hK hP 0 rfl rfl 1 (by decide) hf_15 (fun _ h9 => h9) rfl d_K_Exclusions_add_22 ?_
    refine lv_aload_n hx hb d_K_Exclusions_add_25 rfl (lv_at hl 0 rfl) ?_
    refine va_get (D := (dC, dI)) (ci := 2) (v := .int (nI P.2.2)) (C := "KitRunner$Exclusions") (T := T_K_Exclusions) (N := 3) hx hb hts hin_K_Exclusions hown hK hP 0 rfl rfl 2 (by decide) hf_18 (fun _ h9 => h9) rfl d_K_Exclusions_add_26 ?_
    refine lv_iload_n hx hb d_K_Exclusions_add_29 rfl (lv_at hl 2 rfl) ?_
    refine kr_iast (k := P.2.2) hx hb hK hP hD hS 2 0 rfl rfl (by omega) (by first | decide | omega) d_K_Exclusions_add_30 (fun H locs hP hD hS => ?_)
    have hP : va_P (dC, dI) vwCl [(h, .inr (2, [.ref h_0, .ref h_1, .int (nI P.2.2)])), (h_0, .inl (cI, 6, .inl (upd P.1 P.2.2 e0))), (h_1, .inl (cI, 6, .inl (upd P.2.1 P.2.2 n0)))] H := hP
    have hD : va_D A [(h, .inr (2, [.ref h_0, .ref h_1, .int (nI P.2.2)])), (h_0, .inl (cI, 6, .inl (upd P.1 P.2.2 e0))), (h_1, .inl (cI, 6, .inl (upd P.2.1 P.2.2 n0)))] := hD
    refine lv_aload_n hx hb d_K_Exclusions_add_31 rfl (lv_at hl 0 rfl) ?_
    refine lv_dup hx hb d_K_Exclusions_add_32 rfl ?_
    refine va_get (D := (dC, dI)) (ci := 2) (v := .int (nI P.2.2)) (C := "KitRunner$Exclusions") (T := T_K_Exclusions) (N := 3) hx hb hts hin_K_Exclusions hown hK hP 0 rfl rfl 2 (by decide) hf_18 (fun _ h9 => h9) rfl d_K_Exclusions_add_33 ?_
    refine lv_iconst (v := 1) hx hb d_K_Exclusions_add_36 (by decide) ?_
    refine lv_iadd hx hb d_K_Exclusions_add_37 ?_
    refine kr_topi (x := (nI P.2.2) + 1) (y := nI (P.2.2 + 1)) (nI_add P.2.2 1) ?_
    refine va_put (D := (dC, dI)) (ci := 2) (v := .int (nI (P.2.2 + 1))) (ty := .int) (C := "KitRunner$Exclusions") (T := T_K_Exclusions) (N := 3) hx hb hts hin_K_Exclusions ty_K_Exclusions ty_K_Exclusions_ok nm_K_Exclusions hown hK hP hD hS 0 rfl rfl 2 (by decide) hf_18 (fun _ h9 => h9) rfl (by decide +kernel) rfl rfl (Nat.le_of_ble_eq_true rfl) d_K_Exclusions_add_38 (fun H locs hP hD hS => ?_)
    have hP : va_P (dC, dI) vwCl [(h, .inr (2, [.ref h_0, .ref h_1, .int (nI (P.2.2 + 1))])), (h_0, .inl (cI, 6, .inl (upd P.1 P.2.2 e0))), (h_1, .inl (cI, 6, .inl (upd P.2.1 P.2.2 n0)))] H := hP
    have hD : va_D A [(h, .inr (2, [.ref h_0, .ref h_1, .int (nI (P.2.2 + 1))])), (h_0, .inl (cI, 6, .inl (upd P.1 P.2.2 e0))), (h_1, .inl (cI, 6, .inl (upd P.2.1 P.2.2 n0)))] := hD
    refine lv_iconst (v := 1) hx hb d_K_Exclusions_add_41 (by decide) ?_
    have hpost : k_addExc P e0 n0 = ((upd P.1 P.2.2 e0, (upd P.2.1 P.2.2 n0, P.2.2 + 1)), true) := by simp only [k_addExc, if_pos c_1]
    have hP9 := hP.sub (ws' := [(h, .inr (2, [.ref h_0, .ref h_1, .int (nI (P.2.2 + 1))])), (h_0, .inl (cI, 6, .inl (upd P.1 P.2.2 e0))), (h_1, .inl (cI, 6, .inl (upd P.2.1 P.2.2 n0)))]) [0, 1, 2] rfl
    have hD9 := hD.sub (ws' := [(h, .inr (2, [.ref h_0, .ref h_1, .int (nI (P.2.2 + 1))])), (h_0, .inl (cI, 6, .inl (upd P.1 P.2.2 e0))), (h_1, .inl (cI, 6, .inl (upd P.2.1 P.2.2 n0)))]) [0, 1, 2] (by decide) rfl
    exact kr_zret (v := 1) hQ hx hb hr hlocks hK hP9 hD9 hS (by rw [hpost] <;> rfl) rfl () (by show (wExc cI cJ cC cZ h h_0 h_1 (k_addExc P e0 n0).1 : va_W) = _; rw [hpost] <;> rfl) d_K_Exclusions_add_42
  · skip
    have c_1 : ¬ P.2.2 < 6 := fun h9 => c_1 ((nI_ltI (a := P.2.2) (b := 6) (by omega) (by omega)).mpr h9)
    refine lv_iconst (v := 0) hx hb d_K_Exclusions_add_9 (by decide) ?_
    have hpost : k_addExc P e0 n0 = (P, false) := by simp only [k_addExc, if_neg c_1]
    have hP9 := hP.sub (ws' := [(h, .inr (2, [.ref h_0, .ref h_1, .int (nI P.2.2)])), (h_0, .inl (cI, 6, .inl P.1)), (h_1, .inl (cI, 6, .inl P.2.1))]) [0, 1, 2] rfl
    have hD9 := hD.sub (ws' := [(h, .inr (2, [.ref h_0, .ref h_1, .int (nI P.2.2)])), (h_0, .inl (cI, 6, .inl P.1)), (h_1, .inl (cI, 6, .inl P.2.1))]) [0, 1, 2] (by decide) rfl
    exact kr_zret (v := 0) hQ hx hb hr hlocks hK hP9 hD9 hS (by rw [hpost] <;> rfl) rfl () (by show (wExc cI cJ cC cZ h h_0 h_1 (k_addExc P e0 n0).1 : va_W) = _; rw [hpost] <;> rfl) d_K_Exclusions_add_10
set_option maxHeartbeats 4000000 in
set_option maxRecDepth 100000 in
theorem c_Exclusions_removeAll (l : Launch) (dC : Nat → ClassId) (dI : Nat → Nat → Nat) (cI cJ cC cZ : ClassId) (σ : kSg) (h h_0 h_1 : Nat) (P : kExc) : kC l y_K_Exclusions_removeAll ws_K_Exclusions_removeAll (kRm 0 0 0 0) (dC, dI) (kTy cI cJ cC cZ) σ (wExc cI cJ cC cZ h h_0 h_1 P) [.ref h] (kQv (dC, dI) (kTy cI cJ cC cZ) (fun _ : Unit => wExc cI cJ cC cZ h h_0 h_1 (k_rmExc P))) 0 0 := by
  refine kr_met (cc := prog_3_method_3_code) (maxL := 1) (ret := none) (by decide) rfl (Nat.le_of_ble_eq_true rfl) ?_
  intro p e s m args below meth c A Q hQ hx hb hr hml hts hown hlocks hnm hA hP hK hD hSt ls hl
  have hS : va_S A s.heap s.heap [] := va_S.rf
  have hown : s.vm.findClass "KitRunner$Exclusions" = some m.cls := hown
  have hl : lv_has ls 1 [(0, .ref h)] := hl
  have hP : va_P (dC, dI) vwCl [(h, .inr (2, [.ref h_0, .ref h_1, .int (nI P.2.2)])), (h_0, .inl (cI, 6, .inl P.1)), (h_1, .inl (cI, 6, .inl P.2.1))] s.heap := hP
  have hD : va_D A [(h, .inr (2, [.ref h_0, .ref h_1, .int (nI P.2.2)])), (h_0, .inl (cI, 6, .inl P.1)), (h_1, .inl (cI, 6, .inl P.2.1))] := hD
  have hf_18 := hts _ (List.mem_cons_of_mem _ wq_53)
  have hin_K_Exclusions := fun w (h : w ∈ u_ws "KitRunner$Exclusions" T_K_Exclusions 3) => List.mem_cons_of_mem (Cond.code y_K_Exclusions_removeAll prog_3_method_3_code 1 none) (in_K_Exclusions w h)
  refine lv_aload_n hx hb d_K_Exclusions_removeAll_0 rfl (lv_at hl 0 rfl) ?_
  refine lv_iconst (v := 0) hx hb d_K_Exclusions_removeAll_1 (by decide) ?_
  refine va_put (D := (dC, dI)) (ci := 2) (v := .int 0) (ty := .int) (C := "KitRunner$Exclusions") (T := T_K_Exclusions) (N := 3) hx hb hts hin_K_Exclusions ty_K_Exclusions ty_K_Exclusions_ok nm_K_Exclusions hown hK hP hD hS 0 rfl rfl 2 (by decide) hf_18 (fun _ h9 => h9) rfl (by decide +kernel) rfl rfl (Nat.le_of_ble_eq_true rfl) d_K_Exclusions_removeAll_2 (fun H locs hP hD hS => ?_)
  have hP : va_P (dC, dI) vwCl [(h, .inr (2, [.ref h_0, .ref h_1, .int (nI 0)])), (h_0, .inl (cI, 6, .inl P.1)), (h_1, .inl (cI, 6, .inl P.2.1))] H := hP
  have hD : va_D A [(h, .inr (2, [.ref h_0, .ref h_1, .int (nI 0)])), (h_0, .inl (cI, 6, .inl P.1)), (h_1, .inl (cI, 6, .inl P.2.1))] := hD
  have hpost : k_rmExc P = (P.1, (P.2.1, 0)) := by simp only [k_rmExc]
  have hP9 := hP.sub (ws' := [(h, .inr (2, [.ref h_0, .ref h_1, .int (nI 0)])), (h_0, .inl (cI, 6, .inl P.1)), (h_1, .inl (cI, 6, .inl P.2.1))]) [0, 1, 2] rfl
  have hD9 := hD.sub (ws' := [(h, .inr (2, [.ref h_0, .ref h_1, .int (nI 0)])), (h_0, .inl (cI, 6, .inl P.1)), (h_1, .inl (cI, 6, .inl P.2.1))]) [0, 1, 2] (by decide) rfl
  exact kr_vret hQ hx hb hr hlocks hK hP9 hD9 hS () (by show (wExc cI cJ cC cZ h h_0 h_1 (k_rmExc P) : va_W) = _; rw [hpost] <;> rfl) d_K_Exclusions_removeAll_5
set_option maxHeartbeats 4000000 in
set_option maxRecDepth 100000 in
theorem c_Exclusions_held (l : Launch) (dC : Nat → ClassId) (dI : Nat → Nat → Nat) (cI cJ cC cZ : ClassId) (σ : kSg) (h h_0 h_1 : Nat) (P : kExc) : kC l y_K_Exclusions_held ws_K_Exclusions_held (kRm 0 0 0 0) (dC, dI) (kTy cI cJ cC cZ) σ (wExc cI cJ cC cZ h h_0 h_1 P) [.ref h] (kQi (dC, dI) (kTy cI cJ cC cZ) (nI P.2.2) (fun _ : Unit => wExc cI cJ cC cZ h h_0 h_1 P)) 0 0 := by
  refine kr_met (cc := prog_3_method_4_code) (maxL := 1) (ret := (some .int)) (by decide) rfl (Nat.le_of_ble_eq_true rfl) ?_
  intro p e s m args below meth c A Q hQ hx hb hr hml hts hown hlocks hnm hA hP hK hD hSt ls hl
  have hS : va_S A s.heap s.heap [] := va_S.rf
  have hown : s.vm.findClass "KitRunner$Exclusions" = some m.cls := hown
  have hl : lv_has ls 1 [(0, .ref h)] := hl
  have hP : va_P (dC, dI) vwCl [(h, .inr (2, [.ref h_0, .ref h_1, .int (nI P.2.2)])), (h_0, .inl (cI, 6, .inl P.1)), (h_1, .inl (cI, 6, .inl P.2.1))] s.heap := hP
  have hD : va_D A [(h, .inr (2, [.ref h_0, .ref h_1, .int (nI P.2.2)])), (h_0, .inl (cI, 6, .inl P.1)), (h_1, .inl (cI, 6, .inl P.2.1))] := hD
  have hf_18 := hts _ (List.mem_cons_of_mem _ wq_53)
  have hin_K_Exclusions := fun w (h : w ∈ u_ws "KitRunner$Exclusions" T_K_Exclusions 3) => List.mem_cons_of_mem (Cond.code y_K_Exclusions_held prog_3_method_4_code 1 (some .int)) (in_K_Exclusions w h)
  refine lv_aload_n hx hb d_K_Exclusions_held_0 rfl (lv_at hl 0 rfl) ?_
  refine va_get (D := (dC, dI)) (ci := 2) (v := .int (nI P.2.2)) (C := "KitRunner$Exclusions") (T := T_K_Exclusions) (N := 3) hx hb hts hin_K_Exclusions hown hK hP 0 rfl rfl 2 (by decide) hf_18 (fun _ h9 => h9) rfl d_K_Exclusions_held_1 ?_
  have hP9 := hP.sub (ws' := [(h, .inr (2, [.ref h_0, .ref h_1, .int (nI P.2.2)])), (h_0, .inl (cI, 6, .inl P.1)), (h_1, .inl (cI, 6, .inl P.2.1))]) [0, 1, 2] rfl
  have hD9 := hD.sub (ws' := [(h, .inr (2, [.ref h_0, .ref h_1, .int (nI P.2.2)])), (h_0, .inl (cI, 6, .inl P.1)), (h_1, .inl (cI, 6, .inl P.2.1))]) [0, 1, 2] (by decide) rfl
  exact kr_iret (v := (nI P.2.2)) hQ hx hb hr hlocks hK hP9 hD9 hS rfl () rfl d_K_Exclusions_held_4
set_option maxHeartbeats 4000000 in
set_option maxRecDepth 100000 in
theorem c_Exclusions_leaveOut (l : Launch) (dC : Nat → ClassId) (dI : Nat → Nat → Nat) (cI cJ cC cZ : ClassId) (σ : kSg) (h h_0 h_1 : Nat) (P : kExc) (e0 : Int32) (a0 : Int32) (b0 : Int32) (hk : P.2.2 ≤ 6) : kC l y_K_Exclusions_leaveOut ws_K_Exclusions_leaveOut (kRm 0 0 0 0) (dC, dI) (kTy cI cJ cC cZ) σ (wExc cI cJ cC cZ h h_0 h_1 P) [.ref h, .int e0, .int a0, .int b0] (kQi (dC, dI) (kTy cI cJ cC cZ) (kb (k_leave P e0 a0 b0)) (fun _ : Unit => wExc cI cJ cC cZ h h_0 h_1 P)) 0 0 := by
  refine kr_met (cc := prog_3_method_5_code) (maxL := 5) (ret := (some .boolean)) (by decide) rfl (Nat.le_of_ble_eq_true rfl) ?_
  intro p e s m args below meth c A Q hQ hx hb hr hml hts hown hlocks hnm hA hP hK hD hSt ls hl
  have hS : va_S A s.heap s.heap [] := va_S.rf
  have hown : s.vm.findClass "KitRunner$Exclusions" = some m.cls := hown
  have hl : lv_has ls 5 [(0, .ref h), (1, .int e0), (2, .int a0), (3, .int b0)] := hl
  have hP : va_P (dC, dI) vwCl [(h, .inr (2, [.ref h_0, .ref h_1, .int (nI P.2.2)])), (h_0, .inl (cI, 6, .inl P.1)), (h_1, .inl (cI, 6, .inl P.2.1))] s.heap := hP
  have hD : va_D A [(h, .inr (2, [.ref h_0, .ref h_1, .int (nI P.2.2)])), (h_0, .inl (cI, 6, .inl P.1)), (h_1, .inl (cI, 6, .inl P.2.1))] := hD
  have hf_18 := hts _ (List.mem_cons_of_mem _ wq_53)
  have hin_K_Exclusions := fun w (h : w ∈ u_ws "KitRunner$Exclusions" T_K_Exclusions 3) => List.mem_cons_of_mem (Cond.code y_K_Exclusions_leaveOut prog_3_method_5_code 5 (some .boolean)) (in_K_Exclusions w h)
  have hf_9 := hts _ (List.mem_cons_of_mem _ wq_51)
  have hf_15 := hts _ (List.mem_cons_of_mem _ wq_52)
  refine lv_iconst (v := 0) hx hb d_K_Exclusions_leaveOut_0 (by decide) ?_
  refine lv_istore (lv' := [(4, .int 0), (0, .ref h), (1, .int e0), (2, .int a0), (3, .int b0)]) hx hb d_K_Exclusions_leaveOut_1 hl (by decide) rfl (fun ls hl => ?_)
  have loop_3 : ∀ (n : Nat) (i : Nat), (i + n = P.2.2) → (k_leave P e0 a0 b0 = k_leaveL P e0 a0 b0 n i) → ∀ ls : Array Slot, lv_has ls 5 [(4, .int (nI i)), (0, .ref h), (1, .int e0), (2, .int a0), (3, .int b0)] → W p l e (kRm 0 0 0 0) s m args below meth c s.heap [] 0 0 Q (F0 m 3 ls []) := by
    intro n
    induction n with
    | zero =>
      intro i hi hinv ls hl
      refine lv_iload hx hb d_K_Exclusions_leaveOut_3 (lv_at hl 0 rfl) ?_
      refine lv_aload_n hx hb d_K_Exclusions_leaveOut_5 rfl (lv_at hl 1 rfl) ?_
      refine va_get (D := (dC, dI)) (ci := 2) (v := .int (nI P.2.2)) (C := "KitRunner$Exclusions") (T := T_K_Exclusions) (N := 3) hx hb hts hin_K_Exclusions hown hK hP 0 rfl rfl 2 (by decide) hf_18 (fun _ h9 => h9) rfl d_K_Exclusions_leaveOut_6 ?_
      refine lv_icmp_ge (tgt := 53) hx hb d_K_Exclusions_leaveOut_9 (by decide) (fun c_1 => ?_) (fun c_1 => ?_)
      · skip
        have c_1 : P.2.2 ≤ i := (nI_leI (a := P.2.2) (b := i) (by omega) (by omega)).mp c_1
        refine lv_iconst (v := 0) hx hb d_K_Exclusions_leaveOut_53 (by decide) ?_
        have hpost : k_leave P e0 a0 b0 = false := hinv.trans (by simp only [k_leaveL, if_pos c_1])
        have hP9 := hP.sub (ws' := [(h, .inr (2, [.ref h_0, .ref h_1, .int (nI P.2.2)])), (h_0, .inl (cI, 6, .inl P.1)), (h_1, .inl (cI, 6, .inl P.2.1))]) [0, 1, 2] rfl
        have hD9 := hD.sub (ws' := [(h, .inr (2, [.ref h_0, .ref h_1, .int (nI P.2.2)])), (h_0, .inl (cI, 6, .inl P.1)), (h_1, .inl (cI, 6, .inl P.2.1))]) [0, 1, 2] (by decide) rfl
        exact kr_zret (v := 0) hQ hx hb hr hlocks hK hP9 hD9 hS (by rw [hpost] <;> rfl) rfl () rfl d_K_Exclusions_leaveOut_54
      · skip
        have c_1 : ¬ P.2.2 ≤ i := fun h9 => c_1 ((nI_leI (a := P.2.2) (b := i) (by omega) (by omega)).mpr h9)
        exfalso; omega
    | succ n ih_3 =>
      intro i hi hinv ls hl
      refine lv_iload hx hb d_K_Exclusions_leaveOut_3 (lv_at hl 0 rfl) ?_
      refine lv_aload_n hx hb d_K_Exclusions_leaveOut_5 rfl (lv_at hl 1 rfl) ?_
      refine va_get (D := (dC, dI)) (ci := 2) (v := .int (nI P.2.2)) (C := "KitRunner$Exclusions") (T := T_K_Exclusions) (N := 3) hx hb hts hin_K_Exclusions hown hK hP 0 rfl rfl 2 (by decide) hf_18 (fun _ h9 => h9) rfl d_K_Exclusions_leaveOut_6 ?_
      refine lv_icmp_ge (tgt := 53) hx hb d_K_Exclusions_leaveOut_9 (by decide) (fun c_2 => ?_) (fun c_2 => ?_)
      · skip
        have c_2 : P.2.2 ≤ i := (nI_leI (a := P.2.2) (b := i) (by omega) (by omega)).mp c_2
        exfalso; omega
      · skip
        have c_2 : ¬ P.2.2 ≤ i := fun h9 => c_2 ((nI_leI (a := P.2.2) (b := i) (by omega) (by omega)).mpr h9)
        refine lv_aload_n hx hb d_K_Exclusions_leaveOut_12 rfl (lv_at hl 1 rfl) ?_
        refine va_get (D := (dC, dI)) (ci := 2) (v := .ref h_0) (C := "KitRunner$Exclusions") (T := T_K_Exclusions) (N := 3) hx hb hts hin_K_Exclusions hown hK hP 0 rfl rfl 0 (by decide) hf_9 (fun _ h9 => h9) rfl d_K_Exclusions_leaveOut_13 ?_
        refine lv_iload hx hb d_K_Exclusions_leaveOut_16 (lv_at hl 0 rfl) ?_
        refine kr_iald (k := i) hx hb hK hP 1 0 rfl rfl (by omega) (by first | decide | omega) d_K_Exclusions_leaveOut_18 ?_
        refine lv_iload_n hx hb d_K_Exclusions_leaveOut_19 rfl (lv_at hl 2 rfl) ?_
        refine lv_icmp_ne (tgt := 47) hx hb d_K_Exclusions_leaveOut_20 (by decide) (fun c_3 => ?_) (fun c_3 => ?_)
        · skip
          refine lv_iinc (v := (nI (i + 1))) (lv' := [(4, .int (nI (i + 1))), (0, .ref h), (1, .int e0), (2, .int a0), (3, .int b0)]) hx hb d_K_Exclusions_leaveOut_47 hl (k := 0) rfl (nI_1 i) (by decide) rfl (fun ls hl => ?_)
          refine lv_goto (tgt := 3) hx hb d_K_Exclusions_leaveOut_50 (by decide) ?_
          exact ih_3 (i + 1) (by omega) (hinv.trans (by simp only [k_leaveL, if_neg c_2, if_neg c_3])) ls (lv_sub hl [0, 1, 2, 3, 4] rfl)
        · skip
          refine lv_aload_n hx hb d_K_Exclusions_leaveOut_23 rfl (lv_at hl 1 rfl) ?_
          refine va_get (D := (dC, dI)) (ci := 2) (v := .ref h_1) (C := "KitRunner$Exclusions") (T := T_K_Exclusions) (N := 3) hx hb hts hin_K_Exclusions hown hK hP 0 rfl rfl 1 (by decide) hf_15 (fun _ h9 => h9) rfl d_K_Exclusions_leaveOut_24 ?_
          refine lv_iload hx hb d_K_Exclusions_leaveOut_27 (lv_at hl 0 rfl) ?_
          refine kr_iald (k := i) hx hb hK hP 2 0 rfl rfl (by omega) (by first | decide | omega) d_K_Exclusions_leaveOut_29 ?_
          refine lv_iload_n hx hb d_K_Exclusions_leaveOut_30 rfl (lv_at hl 3 rfl) ?_
          refine lv_icmp_eq (tgt := 45) hx hb d_K_Exclusions_leaveOut_31 (by decide) (fun c_4 => ?_) (fun c_4 => ?_)
          · skip
            refine lv_iconst (v := 1) hx hb d_K_Exclusions_leaveOut_45 (by decide) ?_
            have hpost : k_leave P e0 a0 b0 = true := hinv.trans (by simp only [k_leaveL, if_neg c_2, if_pos c_3, if_pos c_4])
            have hP9 := hP.sub (ws' := [(h, .inr (2, [.ref h_0, .ref h_1, .int (nI P.2.2)])), (h_0, .inl (cI, 6, .inl P.1)), (h_1, .inl (cI, 6, .inl P.2.1))]) [0, 1, 2] rfl
            have hD9 := hD.sub (ws' := [(h, .inr (2, [.ref h_0, .ref h_1, .int (nI P.2.2)])), (h_0, .inl (cI, 6, .inl P.1)), (h_1, .inl (cI, 6, .inl P.2.1))]) [0, 1, 2] (by decide) rfl
            exact kr_zret (v := 1) hQ hx hb hr hlocks hK hP9 hD9 hS (by rw [hpost] <;> rfl) rfl () rfl d_K_Exclusions_leaveOut_46
          · skip
            refine lv_aload_n hx hb d_K_Exclusions_leaveOut_34 rfl (lv_at hl 1 rfl) ?_
            refine va_get (D := (dC, dI)) (ci := 2) (v := .ref h_1) (C := "KitRunner$Exclusions") (T := T_K_Exclusions) (N := 3) hx hb hts hin_K_Exclusions hown hK hP 0 rfl rfl 1 (by decide) hf_15 (fun _ h9 => h9) rfl d_K_Exclusions_leaveOut_35 ?_
            refine lv_iload hx hb d_K_Exclusions_leaveOut_38 (lv_at hl 0 rfl) ?_
            refine kr_iald (k := i) hx hb hK hP 2 0 rfl rfl (by omega) (by first | decide | omega) d_K_Exclusions_leaveOut_40 ?_
            refine lv_iload_n hx hb d_K_Exclusions_leaveOut_41 rfl (lv_at hl 4 rfl) ?_
            refine lv_icmp_ne (tgt := 47) hx hb d_K_Exclusions_leaveOut_42 (by decide) (fun c_5 => ?_) (fun c_5 => ?_)
            · skip
              refine lv_iinc (v := (nI (i + 1))) (lv' := [(4, .int (nI (i + 1))), (0, .ref h), (1, .int e0), (2, .int a0), (3, .int b0)]) hx hb d_K_Exclusions_leaveOut_47 hl (k := 0) rfl (nI_1 i) (by decide) rfl (fun ls hl => ?_)
              refine lv_goto (tgt := 3) hx hb d_K_Exclusions_leaveOut_50 (by decide) ?_
              exact ih_3 (i + 1) (by omega) (hinv.trans (by simp only [k_leaveL, if_neg c_2, if_pos c_3, if_neg c_4, if_neg c_5])) ls (lv_sub hl [0, 1, 2, 3, 4] rfl)
            · skip
              refine lv_iconst (v := 1) hx hb d_K_Exclusions_leaveOut_45 (by decide) ?_
              have hpost : k_leave P e0 a0 b0 = true := hinv.trans (by simp only [k_leaveL, if_neg c_2, if_pos c_3, if_neg c_4, if_pos c_5])
              have hP9 := hP.sub (ws' := [(h, .inr (2, [.ref h_0, .ref h_1, .int (nI P.2.2)])), (h_0, .inl (cI, 6, .inl P.1)), (h_1, .inl (cI, 6, .inl P.2.1))]) [0, 1, 2] rfl
              have hD9 := hD.sub (ws' := [(h, .inr (2, [.ref h_0, .ref h_1, .int (nI P.2.2)])), (h_0, .inl (cI, 6, .inl P.1)), (h_1, .inl (cI, 6, .inl P.2.1))]) [0, 1, 2] (by decide) rfl
              exact kr_zret (v := 1) hQ hx hb hr hlocks hK hP9 hD9 hS (by rw [hpost] <;> rfl) rfl () rfl d_K_Exclusions_leaveOut_46
  exact loop_3 P.2.2 0 (by omega) rfl ls (lv_sub hl [0, 1, 2, 3, 4] rfl)
