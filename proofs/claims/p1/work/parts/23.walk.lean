set_option maxHeartbeats 4000000 in
set_option maxRecDepth 100000 in
theorem c_EntryPoints_nameOf (l : Launch) (dC : Nat → ClassId) (dI : Nat → Nat → Nat) (cI cJ cC cZ : ClassId) (σ : kSg) (e0 : Int32) : kC l y_K_EntryPoints_nameOf ws_K_EntryPoints_nameOf (kRm 0 0 0 0) (dC, dI) (kTy cI cJ cC cZ) σ ([]) [.int e0] (kQr (dC, dI) (kTy cI cJ cC cZ) (σ.1 (k_nm e0)) (fun _ : Unit => [])) 0 0 := by
  refine kr_met (cc := prog_2_method_2_code) (maxL := 1) (ret := (some (.object "java/lang/String"))) (by decide) rfl (Nat.le_of_ble_eq_true rfl) ?_
  intro p e s m args below meth c A Q hQ hx hb hr hml hts hown hlocks hnm hA hP hK hD hSt ls hl
  have hS : va_S A s.heap s.heap [] := va_S.rf
  have hown : s.vm.findClass "KitRunner$EntryPoints" = some m.cls := hown
  have hl : lv_has ls 1 [(0, .int e0)] := hl
  have hP : va_P (dC, dI) vwCl [] s.heap := hP
  have hD : va_D A [] := hD
  refine lv_iload_n hx hb d_K_EntryPoints_nameOf_0 rfl (lv_at hl 0 rfl) ?_
  rcases ks_14 e0 with c_1 | c_1 | c_1 | c_1 | c_1 | c_1 | c_1 | c_1 | c_1 | c_1 | c_1 | c_1 | c_1 | c_1 | c_1 | c_1
  · skip
    refine lv_tableIn (tgt := 76) hx hb d_K_EntryPoints_nameOf_1 (by rw [c_1]; decide) (by rw [c_1]; decide) (by rw [c_1]; rfl) (by decide) ?_
    refine va_ldcS hx hb hown (hSt.2.2.2.2.2.2.1 0 (by decide)) d_K_EntryPoints_nameOf_76 ?_
    have hpost : k_nm e0 = 0 := by simp only [k_nm, if_pos c_1, if_neg (ks_ne (b := 1) c_1 (by decide)), if_neg (ks_ne (b := 2) c_1 (by decide)), if_neg (ks_ne (b := 3) c_1 (by decide)), if_neg (ks_ne (b := 4) c_1 (by decide)), if_neg (ks_ne (b := 5) c_1 (by decide)), if_neg (ks_ne (b := 6) c_1 (by decide)), if_neg (ks_ne (b := 7) c_1 (by decide)), if_neg (ks_ne (b := 8) c_1 (by decide)), if_neg (ks_ne (b := 9) c_1 (by decide)), if_neg (ks_ne (b := 10) c_1 (by decide)), if_neg (ks_ne (b := 11) c_1 (by decide)), if_neg (ks_ne (b := 12) c_1 (by decide)), if_neg (ks_ne (b := 13) c_1 (by decide)), if_neg (ks_ne (b := 14) c_1 (by decide))]
    have hP9 := hP.sub (ws' := []) [] rfl
    have hD9 := hD.sub (ws' := []) [] (by decide) rfl
    exact kr_aret (v := (σ.1 0)) hQ hx hb hr hlocks hK hP9 hD9 hS (by rw [hpost] <;> rfl) () rfl d_K_EntryPoints_nameOf_78
  · skip
    refine lv_tableIn (tgt := 79) hx hb d_K_EntryPoints_nameOf_1 (by rw [c_1]; decide) (by rw [c_1]; decide) (by rw [c_1]; rfl) (by decide) ?_
    refine va_ldcS hx hb hown (hSt.2.2.2.2.2.2.1 1 (by decide)) d_K_EntryPoints_nameOf_79 ?_
    have hpost : k_nm e0 = 1 := by simp only [k_nm, if_pos c_1, if_neg (ks_ne (b := 0) c_1 (by decide)), if_neg (ks_ne (b := 2) c_1 (by decide)), if_neg (ks_ne (b := 3) c_1 (by decide)), if_neg (ks_ne (b := 4) c_1 (by decide)), if_neg (ks_ne (b := 5) c_1 (by decide)), if_neg (ks_ne (b := 6) c_1 (by decide)), if_neg (ks_ne (b := 7) c_1 (by decide)), if_neg (ks_ne (b := 8) c_1 (by decide)), if_neg (ks_ne (b := 9) c_1 (by decide)), if_neg (ks_ne (b := 10) c_1 (by decide)), if_neg (ks_ne (b := 11) c_1 (by decide)), if_neg (ks_ne (b := 12) c_1 (by decide)), if_neg (ks_ne (b := 13) c_1 (by decide)), if_neg (ks_ne (b := 14) c_1 (by decide))]
    have hP9 := hP.sub (ws' := []) [] rfl
    have hD9 := hD.sub (ws' := []) [] (by decide) rfl
    exact kr_aret (v := (σ.1 1)) hQ hx hb hr hlocks hK hP9 hD9 hS (by rw [hpost] <;> rfl) () rfl d_K_EntryPoints_nameOf_81
  · skip
    refine lv_tableIn (tgt := 82) hx hb d_K_EntryPoints_nameOf_1 (by rw [c_1]; decide) (by rw [c_1]; decide) (by rw [c_1]; rfl) (by decide) ?_
    refine va_ldcS hx hb hown (hSt.2.2.2.2.2.2.1 2 (by decide)) d_K_EntryPoints_nameOf_82 ?_
    have hpost : k_nm e0 = 2 := by simp only [k_nm, if_pos c_1, if_neg (ks_ne (b := 0) c_1 (by decide)), if_neg (ks_ne (b := 1) c_1 (by decide)), if_neg (ks_ne (b := 3) c_1 (by decide)), if_neg (ks_ne (b := 4) c_1 (by decide)), if_neg (ks_ne (b := 5) c_1 (by decide)), if_neg (ks_ne (b := 6) c_1 (by decide)), if_neg (ks_ne (b := 7) c_1 (by decide)), if_neg (ks_ne (b := 8) c_1 (by decide)), if_neg (ks_ne (b := 9) c_1 (by decide)), if_neg (ks_ne (b := 10) c_1 (by decide)), if_neg (ks_ne (b := 11) c_1 (by decide)), if_neg (ks_ne (b := 12) c_1 (by decide)), if_neg (ks_ne (b := 13) c_1 (by decide)), if_neg (ks_ne (b := 14) c_1 (by decide))]
    have hP9 := hP.sub (ws' := []) [] rfl
    have hD9 := hD.sub (ws' := []) [] (by decide) rfl
    exact kr_aret (v := (σ.1 2)) hQ hx hb hr hlocks hK hP9 hD9 hS (by rw [hpost] <;> rfl) () rfl d_K_EntryPoints_nameOf_84
  · skip
    refine lv_tableIn (tgt := 85) hx hb d_K_EntryPoints_nameOf_1 (by rw [c_1]; decide) (by rw [c_1]; decide) (by rw [c_1]; rfl) (by decide) ?_
    refine va_ldcS hx hb hown (hSt.2.2.2.2.2.2.1 3 (by decide)) d_K_EntryPoints_nameOf_85 ?_
    have hpost : k_nm e0 = 3 := by simp only [k_nm, if_pos c_1, if_neg (ks_ne (b := 0) c_1 (by decide)), if_neg (ks_ne (b := 1) c_1 (by decide)), if_neg (ks_ne (b := 2) c_1 (by decide)), if_neg (ks_ne (b := 4) c_1 (by decide)), if_neg (ks_ne (b := 5) c_1 (by decide)), if_neg (ks_ne (b := 6) c_1 (by decide)), if_neg (ks_ne (b := 7) c_1 (by decide)), if_neg (ks_ne (b := 8) c_1 (by decide)), if_neg (ks_ne (b := 9) c_1 (by decide)), if_neg (ks_ne (b := 10) c_1 (by decide)), if_neg (ks_ne (b := 11) c_1 (by decide)), if_neg (ks_ne (b := 12) c_1 (by decide)), if_neg (ks_ne (b := 13) c_1 (by decide)), if_neg (ks_ne (b := 14) c_1 (by decide))]
    have hP9 := hP.sub (ws' := []) [] rfl
    have hD9 := hD.sub (ws' := []) [] (by decide) rfl
    exact kr_aret (v := (σ.1 3)) hQ hx hb hr hlocks hK hP9 hD9 hS (by rw [hpost] <;> rfl) () rfl d_K_EntryPoints_nameOf_87
  · skip
    refine lv_tableIn (tgt := 88) hx hb d_K_EntryPoints_nameOf_1 (by rw [c_1]; decide) (by rw [c_1]; decide) (by rw [c_1]; rfl) (by decide) ?_
    refine va_ldcS hx hb hown (hSt.2.2.2.2.2.2.1 4 (by decide)) d_K_EntryPoints_nameOf_88 ?_
    have hpost : k_nm e0 = 4 := by simp only [k_nm, if_pos c_1, if_neg (ks_ne (b := 0) c_1 (by decide)), if_neg (ks_ne (b := 1) c_1 (by decide)), if_neg (ks_ne (b := 2) c_1 (by decide)), if_neg (ks_ne (b := 3) c_1 (by decide)), if_neg (ks_ne (b := 5) c_1 (by decide)), if_neg (ks_ne (b := 6) c_1 (by decide)), if_neg (ks_ne (b := 7) c_1 (by decide)), if_neg (ks_ne (b := 8) c_1 (by decide)), if_neg (ks_ne (b := 9) c_1 (by decide)), if_neg (ks_ne (b := 10) c_1 (by decide)), if_neg (ks_ne (b := 11) c_1 (by decide)), if_neg (ks_ne (b := 12) c_1 (by decide)), if_neg (ks_ne (b := 13) c_1 (by decide)), if_neg (ks_ne (b := 14) c_1 (by decide))]
    have hP9 := hP.sub (ws' := []) [] rfl
    have hD9 := hD.sub (ws' := []) [] (by decide) rfl
    exact kr_aret (v := (σ.1 4)) hQ hx hb hr hlocks hK hP9 hD9 hS (by rw [hpost] <;> rfl) () rfl d_K_EntryPoints_nameOf_90
  · skip
    refine lv_tableIn (tgt := 91) hx hb d_K_EntryPoints_nameOf_1 (by rw [c_1]; decide) (by rw [c_1]; decide) (by rw [c_1]; rfl) (by decide) ?_
    refine va_ldcS hx hb hown (hSt.2.2.2.2.2.2.1 5 (by decide)) d_K_EntryPoints_nameOf_91 ?_
    have hpost : k_nm e0 = 5 := by simp only [k_nm, if_pos c_1, if_neg (ks_ne (b := 0) c_1 (by decide)), if_neg (ks_ne (b := 1) c_1 (by decide)), if_neg (ks_ne (b := 2) c_1 (by decide)), if_neg (ks_ne (b := 3) c_1 (by decide)), if_neg (ks_ne (b := 4) c_1 (by decide)), if_neg (ks_ne (b := 6) c_1 (by decide)), if_neg (ks_ne (b := 7) c_1 (by decide)), if_neg (ks_ne (b := 8) c_1 (by decide)), if_neg (ks_ne (b := 9) c_1 (by decide)), if_neg (ks_ne (b := 10) c_1 (by decide)), if_neg (ks_ne (b := 11) c_1 (by decide)), if_neg (ks_ne (b := 12) c_1 (by decide)), if_neg (ks_ne (b := 13) c_1 (by decide)), if_neg (ks_ne (b := 14) c_1 (by decide))]
    have hP9 := hP.sub (ws' := []) [] rfl
    have hD9 := hD.sub (ws' := []) [] (by decide) rfl
    exact kr_aret (v := (σ.1 5)) hQ hx hb hr hlocks hK hP9 hD9 hS (by rw [hpost] <;> rfl) () rfl d_K_EntryPoints_nameOf_93
  · skip
    refine lv_tableIn (tgt := 94) hx hb d_K_EntryPoints_nameOf_1 (by rw [c_1]; decide) (by rw [c_1]; decide) (by rw [c_1]; rfl) (by decide) ?_
    refine va_ldcS hx hb hown (hSt.2.2.2.2.2.2.1 6 (by decide)) d_K_EntryPoints_nameOf_94 ?_
    have hpost : k_nm e0 = 6 := by simp only [k_nm, if_pos c_1, if_neg (ks_ne (b := 0) c_1 (by decide)), if_neg (ks_ne (b := 1) c_1 (by decide)), if_neg (ks_ne (b := 2) c_1 (by decide)), if_neg (ks_ne (b := 3) c_1 (by decide)), if_neg (ks_ne (b := 4) c_1 (by decide)), if_neg (ks_ne (b := 5) c_1 (by decide)), if_neg (ks_ne (b := 7) c_1 (by decide)), if_neg (ks_ne (b := 8) c_1 (by decide)), if_neg (ks_ne (b := 9) c_1 (by decide)), if_neg (ks_ne (b := 10) c_1 (by decide)), if_neg (ks_ne (b := 11) c_1 (by decide)), if_neg (ks_ne (b := 12) c_1 (by decide)), if_neg (ks_ne (b := 13) c_1 (by decide)), if_neg (ks_ne (b := 14) c_1 (by decide))]
    have hP9 := hP.sub (ws' := []) [] rfl
    have hD9 := hD.sub (ws' := []) [] (by decide) rfl
    exact kr_aret (v := (σ.1 6)) hQ hx hb hr hlocks hK hP9 hD9 hS (by rw [hpost] <;> rfl) () rfl d_K_EntryPoints_nameOf_96
  · skip
    refine lv_tableIn (tgt := 97) hx hb d_K_EntryPoints_nameOf_1 (by rw [c_1]; decide) (by rw [c_1]; decide) (by rw [c_1]; rfl) (by decide) ?_
    refine va_ldcS hx hb hown (hSt.2.2.2.2.2.2.1 7 (by decide)) d_K_EntryPoints_nameOf_97 ?_
    have hpost : k_nm e0 = 7 := by simp only [k_nm, if_pos c_1, if_neg (ks_ne (b := 0) c_1 (by decide)), if_neg (ks_ne (b := 1) c_1 (by decide)), if_neg (ks_ne (b := 2) c_1 (by decide)), if_neg (ks_ne (b := 3) c_1 (by decide)), if_neg (ks_ne (b := 4) c_1 (by decide)), if_neg (ks_ne (b := 5) c_1 (by decide)), if_neg (ks_ne (b := 6) c_1 (by decide)), if_neg (ks_ne (b := 8) c_1 (by decide)), if_neg (ks_ne (b := 9) c_1 (by decide)), if_neg (ks_ne (b := 10) c_1 (by decide)), if_neg (ks_ne (b := 11) c_1 (by decide)), if_neg (ks_ne (b := 12) c_1 (by decide)), if_neg (ks_ne (b := 13) c_1 (by decide)), if_neg (ks_ne (b := 14) c_1 (by decide))]
    have hP9 := hP.sub (ws' := []) [] rfl
    have hD9 := hD.sub (ws' := []) [] (by decide) rfl
    exact kr_aret (v := (σ.1 7)) hQ hx hb hr hlocks hK hP9 hD9 hS (by rw [hpost] <;> rfl) () rfl d_K_EntryPoints_nameOf_99
  · skip
    refine lv_tableIn (tgt := 100) hx hb d_K_EntryPoints_nameOf_1 (by rw [c_1]; decide) (by rw [c_1]; decide) (by rw [c_1]; rfl) (by decide) ?_
    refine va_ldcS hx hb hown (hSt.2.2.2.2.2.2.1 8 (by decide)) d_K_EntryPoints_nameOf_100 ?_
    have hpost : k_nm e0 = 8 := by simp only [k_nm, if_pos c_1, if_neg (ks_ne (b := 0) c_1 (by decide)), if_neg (ks_ne (b := 1) c_1 (by decide)), if_neg (ks_ne (b := 2) c_1 (by decide)), if_neg (ks_ne (b := 3) c_1 (by decide)), if_neg (ks_ne (b := 4) c_1 (by decide)), if_neg (ks_ne (b := 5) c_1 (by decide)), if_neg (ks_ne (b := 6) c_1 (by decide)), if_neg (ks_ne (b := 7) c_1 (by decide)), if_neg (ks_ne (b := 9) c_1 (by decide)), if_neg (ks_ne (b := 10) c_1 (by decide)), if_neg (ks_ne (b := 11) c_1 (by decide)), if_neg (ks_ne (b := 12) c_1 (by decide)), if_neg (ks_ne (b := 13) c_1 (by decide)), if_neg (ks_ne (b := 14) c_1 (by decide))]
    have hP9 := hP.sub (ws' := []) [] rfl
    have hD9 := hD.sub (ws' := []) [] (by decide) rfl
    exact kr_aret (v := (σ.1 8)) hQ hx hb hr hlocks hK hP9 hD9 hS (by rw [hpost] <;> rfl) () rfl d_K_EntryPoints_nameOf_102
  · skip
    refine lv_tableIn (tgt := 103) hx hb d_K_EntryPoints_nameOf_1 (by rw [c_1]; decide) (by rw [c_1]; decide) (by rw [c_1]; rfl) (by decide) ?_
    refine va_ldcS hx hb hown (hSt.2.2.2.2.2.2.1 9 (by decide)) d_K_EntryPoints_nameOf_103 ?_
    have hpost : k_nm e0 = 9 := by simp only [k_nm, if_pos c_1, if_neg (ks_ne (b := 0) c_1 (by decide)), if_neg (ks_ne (b := 1) c_1 (by decide)), if_neg (ks_ne (b := 2) c_1 (by decide)), if_neg (ks_ne (b := 3) c_1 (by decide)), if_neg (ks_ne (b := 4) c_1 (by decide)), if_neg (ks_ne (b := 5) c_1 (by decide)), if_neg (ks_ne (b := 6) c_1 (by decide)), if_neg (ks_ne (b := 7) c_1 (by decide)), if_neg (ks_ne (b := 8) c_1 (by decide)), if_neg (ks_ne (b := 10) c_1 (by decide)), if_neg (ks_ne (b := 11) c_1 (by decide)), if_neg (ks_ne (b := 12) c_1 (by decide)), if_neg (ks_ne (b := 13) c_1 (by decide)), if_neg (ks_ne (b := 14) c_1 (by decide))]
    have hP9 := hP.sub (ws' := []) [] rfl
    have hD9 := hD.sub (ws' := []) [] (by decide) rfl
    exact kr_aret (v := (σ.1 9)) hQ hx hb hr hlocks hK hP9 hD9 hS (by rw [hpost] <;> rfl) () rfl d_K_EntryPoints_nameOf_105
  · skip
    refine lv_tableIn (tgt := 106) hx hb d_K_EntryPoints_nameOf_1 (by rw [c_1]; decide) (by rw [c_1]; decide) (by rw [c_1]; rfl) (by decide) ?_
    refine va_ldcS hx hb hown (hSt.2.2.2.2.2.2.1 10 (by decide)) d_K_EntryPoints_nameOf_106 ?_
    have hpost : k_nm e0 = 10 := by simp only [k_nm, if_pos c_1, if_neg (ks_ne (b := 0) c_1 (by decide)), if_neg (ks_ne (b := 1) c_1 (by decide)), if_neg (ks_ne (b := 2) c_1 (by decide)), if_neg (ks_ne (b := 3) c_1 (by decide)), if_neg (ks_ne (b := 4) c_1 (by decide)), if_neg (ks_ne (b := 5) c_1 (by decide)), if_neg (ks_ne (b := 6) c_1 (by decide)), if_neg (ks_ne (b := 7) c_1 (by decide)), if_neg (ks_ne (b := 8) c_1 (by decide)), if_neg (ks_ne (b := 9) c_1 (by decide)), if_neg (ks_ne (b := 11) c_1 (by decide)), if_neg (ks_ne (b := 12) c_1 (by decide)), if_neg (ks_ne (b := 13) c_1 (by decide)), if_neg (ks_ne (b := 14) c_1 (by decide))]
    have hP9 := hP.sub (ws' := []) [] rfl
    have hD9 := hD.sub (ws' := []) [] (by decide) rfl
    exact kr_aret (v := (σ.1 10)) hQ hx hb hr hlocks hK hP9 hD9 hS (by rw [hpost] <;> rfl) () rfl d_K_EntryPoints_nameOf_108
  · skip
    refine lv_tableIn (tgt := 109) hx hb d_K_EntryPoints_nameOf_1 (by rw [c_1]; decide) (by rw [c_1]; decide) (by rw [c_1]; rfl) (by decide) ?_
    refine va_ldcS hx hb hown (hSt.2.2.2.2.2.2.1 11 (by decide)) d_K_EntryPoints_nameOf_109 ?_
    have hpost : k_nm e0 = 11 := by simp only [k_nm, if_pos c_1, if_neg (ks_ne (b := 0) c_1 (by decide)), if_neg (ks_ne (b := 1) c_1 (by decide)), if_neg (ks_ne (b := 2) c_1 (by decide)), if_neg (ks_ne (b := 3) c_1 (by decide)), if_neg (ks_ne (b := 4) c_1 (by decide)), if_neg (ks_ne (b := 5) c_1 (by decide)), if_neg (ks_ne (b := 6) c_1 (by decide)), if_neg (ks_ne (b := 7) c_1 (by decide)), if_neg (ks_ne (b := 8) c_1 (by decide)), if_neg (ks_ne (b := 9) c_1 (by decide)), if_neg (ks_ne (b := 10) c_1 (by decide)), if_neg (ks_ne (b := 12) c_1 (by decide)), if_neg (ks_ne (b := 13) c_1 (by decide)), if_neg (ks_ne (b := 14) c_1 (by decide))]
    have hP9 := hP.sub (ws' := []) [] rfl
    have hD9 := hD.sub (ws' := []) [] (by decide) rfl
    exact kr_aret (v := (σ.1 11)) hQ hx hb hr hlocks hK hP9 hD9 hS (by rw [hpost] <;> rfl) () rfl d_K_EntryPoints_nameOf_111
  · skip
    refine lv_tableIn (tgt := 112) hx hb d_K_EntryPoints_nameOf_1 (by rw [c_1]; decide) (by rw [c_1]; decide) (by rw [c_1]; rfl) (by decide) ?_
    refine va_ldcS hx hb hown (hSt.2.2.2.2.2.2.1 12 (by decide)) d_K_EntryPoints_nameOf_112 ?_
    have hpost : k_nm e0 = 12 := by simp only [k_nm, if_pos c_1, if_neg (ks_ne (b := 0) c_1 (by decide)), if_neg (ks_ne (b := 1) c_1 (by decide)), if_neg (ks_ne (b := 2) c_1 (by decide)), if_neg (ks_ne (b := 3) c_1 (by decide)), if_neg (ks_ne (b := 4) c_1 (by decide)), if_neg (ks_ne (b := 5) c_1 (by decide)), if_neg (ks_ne (b := 6) c_1 (by decide)), if_neg (ks_ne (b := 7) c_1 (by decide)), if_neg (ks_ne (b := 8) c_1 (by decide)), if_neg (ks_ne (b := 9) c_1 (by decide)), if_neg (ks_ne (b := 10) c_1 (by decide)), if_neg (ks_ne (b := 11) c_1 (by decide)), if_neg (ks_ne (b := 13) c_1 (by decide)), if_neg (ks_ne (b := 14) c_1 (by decide))]
    have hP9 := hP.sub (ws' := []) [] rfl
    have hD9 := hD.sub (ws' := []) [] (by decide) rfl
    exact kr_aret (v := (σ.1 12)) hQ hx hb hr hlocks hK hP9 hD9 hS (by rw [hpost] <;> rfl) () rfl d_K_EntryPoints_nameOf_114
  · skip
    refine lv_tableIn (tgt := 115) hx hb d_K_EntryPoints_nameOf_1 (by rw [c_1]; decide) (by rw [c_1]; decide) (by rw [c_1]; rfl) (by decide) ?_
    refine va_ldcS hx hb hown (hSt.2.2.2.2.2.2.1 13 (by decide)) d_K_EntryPoints_nameOf_115 ?_
    have hpost : k_nm e0 = 13 := by simp only [k_nm, if_pos c_1, if_neg (ks_ne (b := 0) c_1 (by decide)), if_neg (ks_ne (b := 1) c_1 (by decide)), if_neg (ks_ne (b := 2) c_1 (by decide)), if_neg (ks_ne (b := 3) c_1 (by decide)), if_neg (ks_ne (b := 4) c_1 (by decide)), if_neg (ks_ne (b := 5) c_1 (by decide)), if_neg (ks_ne (b := 6) c_1 (by decide)), if_neg (ks_ne (b := 7) c_1 (by decide)), if_neg (ks_ne (b := 8) c_1 (by decide)), if_neg (ks_ne (b := 9) c_1 (by decide)), if_neg (ks_ne (b := 10) c_1 (by decide)), if_neg (ks_ne (b := 11) c_1 (by decide)), if_neg (ks_ne (b := 12) c_1 (by decide)), if_neg (ks_ne (b := 14) c_1 (by decide))]
    have hP9 := hP.sub (ws' := []) [] rfl
    have hD9 := hD.sub (ws' := []) [] (by decide) rfl
    exact kr_aret (v := (σ.1 13)) hQ hx hb hr hlocks hK hP9 hD9 hS (by rw [hpost] <;> rfl) () rfl d_K_EntryPoints_nameOf_117
  · skip
    refine lv_tableIn (tgt := 118) hx hb d_K_EntryPoints_nameOf_1 (by rw [c_1]; decide) (by rw [c_1]; decide) (by rw [c_1]; rfl) (by decide) ?_
    refine va_ldcS hx hb hown (hSt.2.2.2.2.2.2.1 14 (by decide)) d_K_EntryPoints_nameOf_118 ?_
    have hpost : k_nm e0 = 14 := by simp only [k_nm, if_pos c_1, if_neg (ks_ne (b := 0) c_1 (by decide)), if_neg (ks_ne (b := 1) c_1 (by decide)), if_neg (ks_ne (b := 2) c_1 (by decide)), if_neg (ks_ne (b := 3) c_1 (by decide)), if_neg (ks_ne (b := 4) c_1 (by decide)), if_neg (ks_ne (b := 5) c_1 (by decide)), if_neg (ks_ne (b := 6) c_1 (by decide)), if_neg (ks_ne (b := 7) c_1 (by decide)), if_neg (ks_ne (b := 8) c_1 (by decide)), if_neg (ks_ne (b := 9) c_1 (by decide)), if_neg (ks_ne (b := 10) c_1 (by decide)), if_neg (ks_ne (b := 11) c_1 (by decide)), if_neg (ks_ne (b := 12) c_1 (by decide)), if_neg (ks_ne (b := 13) c_1 (by decide))]
    have hP9 := hP.sub (ws' := []) [] rfl
    have hD9 := hD.sub (ws' := []) [] (by decide) rfl
    exact kr_aret (v := (σ.1 14)) hQ hx hb hr hlocks hK hP9 hD9 hS (by rw [hpost] <;> rfl) () rfl d_K_EntryPoints_nameOf_120
  · skip
    refine lv_tableOut (tgt := 121) hx hb d_K_EntryPoints_nameOf_1 c_1 (by decide) ?_
    have c_1 := kn_14 c_1
    refine va_ldcS hx hb hown (hSt.2.2.2.2.2.2.1 15 (by decide)) d_K_EntryPoints_nameOf_121 ?_
    have hpost : k_nm e0 = 15 := by simp only [k_nm, if_neg c_1.1, if_neg c_1.2.1, if_neg c_1.2.2.1, if_neg c_1.2.2.2.1, if_neg c_1.2.2.2.2.1, if_neg c_1.2.2.2.2.2.1, if_neg c_1.2.2.2.2.2.2.1, if_neg c_1.2.2.2.2.2.2.2.1, if_neg c_1.2.2.2.2.2.2.2.2.1, if_neg c_1.2.2.2.2.2.2.2.2.2.1, if_neg c_1.2.2.2.2.2.2.2.2.2.2.1, if_neg c_1.2.2.2.2.2.2.2.2.2.2.2.1, if_neg c_1.2.2.2.2.2.2.2.2.2.2.2.2.1, if_neg c_1.2.2.2.2.2.2.2.2.2.2.2.2.2.1, if_neg c_1.2.2.2.2.2.2.2.2.2.2.2.2.2.2]
    have hP9 := hP.sub (ws' := []) [] rfl
    have hD9 := hD.sub (ws' := []) [] (by decide) rfl
    exact kr_aret (v := (σ.1 15)) hQ hx hb hr hlocks hK hP9 hD9 hS (by rw [hpost] <;> rfl) () rfl d_K_EntryPoints_nameOf_123
set_option maxHeartbeats 4000000 in
set_option maxRecDepth 100000 in
theorem c_KitRunner_packedText (l : Launch) (dC : Nat → ClassId) (dI : Nat → Nat → Nat) (cI cJ cC cZ : ClassId) (σ : kSg) (j0 : Nat) (hj : j0 < nTx) : kC l y_KitRunner_packedText ws_KitRunner_packedText (kRm 4 0 0 85) (dC, dI) (kTy cI cJ cC cZ) σ ([]) [.ref (σ.1 j0)] (kQl (dC, dI) (kTy cI cJ cC cZ) (k_pk j0) (fun _ : Unit => [])) 0 0 := by
  refine kr_met (cc := prog_1_method_18_code) (maxL := 4) (ret := (some .long)) (by decide) rfl (Nat.le_of_ble_eq_true rfl) ?_
  intro p e s m args below meth c A Q hQ hx hb hr hml hts hown hlocks hnm hA hP hK hD hSt ls hl
  have hS : va_S A s.heap s.heap [] := va_S.rf
  have hown : s.vm.findClass "KitRunner" = some m.cls := hown
  have hl : lv_has ls 4 [(0, .ref (σ.1 j0))] := hl
  have hP : va_P (dC, dI) vwCl [] s.heap := hP
  have hD : va_D A [] := hD
  have hini_String := hts _ (List.mem_cons_of_mem _ wq_11)
  have hm_188 := hts _ (List.mem_cons_of_mem _ wq_257)
  have hi_188 := hts _ (List.mem_cons_of_mem _ wq_258)
  have hv_188 := hts _ (List.mem_cons_of_mem _ wq_259)
  have hm_191 := hts _ (List.mem_cons_of_mem _ wq_267)
  have hi_191 := hts _ (List.mem_cons_of_mem _ wq_268)
  have hv_191 := hts _ (List.mem_cons_of_mem _ wq_269)
  have hlen := kTx_len j0
  refine lv_lconst (v := 0) hx hb d_KitRunner_packedText_0 (by decide) ?_
  refine lv_lstore_n (lv' := [(1, .long 0), (0, .ref (σ.1 j0))]) hx hb d_KitRunner_packedText_1 rfl hl (by decide) rfl (fun ls hl => ?_)
  refine lv_iconst (v := 0) hx hb d_KitRunner_packedText_2 (by decide) ?_
  refine lv_istore_n (lv' := [(3, .int 0), (1, .long 0), (0, .ref (σ.1 j0))]) hx hb d_KitRunner_packedText_3 rfl hl (by decide) rfl (fun ls hl => ?_)
  have loop_4 : ∀ (n : Nat) (i : Nat) (acc : Int64), (i + n = (kTx j0).length) → (k_pk j0 = k_pkL j0 n i acc) → ∀ (H : Heap) (locs : List Loc), va_P (dC, dI) vwCl [] H → va_D A [] → va_S A s.heap H locs → ∀ ls : Array Slot, lv_has ls 4 [(3, .int (nI i)), (1, .long acc), (0, .ref (σ.1 j0))] → W p l e (kRm 4 0 0 85) s m args below meth c H locs 0 0 Q (F0 m 4 ls []) := by
    intro n
    induction n with
    | zero =>
      intro i acc hi hinv H locs hP hD hS ls hl
      refine lv_iload_n hx hb d_KitRunner_packedText_4 rfl (lv_at hl 0 rfl) ?_
      refine lv_aload_n hx hb d_KitRunner_packedText_5 rfl (lv_at hl 2 rfl) ?_
      have hpre_1 := kr_pre (wc := []) (av := [.ref (σ.1 j0)]) hK hP hD hS hA hSt [] rfl (by decide)
      refine kj_i (wc := []) (wr := []) (va_runV (As := []) (rest := [.int (nI i)]) ⟨hx, hb, hml, hown, hts⟩ (c_String_length l dC dI cI cJ cC cZ σ j0 (by first | decide | assumption) _) ⟨(callB_of 0 hts (kg wq_260) rfl rfl rfl hini_String hm_188 (by decide +kernel) ⟨Nat.le_of_ble_eq_true rfl, Nat.le_of_ble_eq_true rfl⟩), hi_188, hv_188⟩ ⟨hpre_1.1, (va_Orecv (hSt.2.2.2.2.2.1 j0 (by first | decide | assumption)).1 hS), hpre_1.2⟩ rfl rfl hl.1 rfl (lv_room (Nat.le_of_ble_eq_true rfl)) d_KitRunner_packedText_6 ⟨Nat.le_of_ble_eq_true rfl, Nat.le_of_ble_eq_true rfl⟩) hP hD hS hA [] [] rfl rfl (by decide) (by decide) (fun _ H locs hP hD hS => ?_)
      have hP : va_P (dC, dI) vwCl [] H := hP
      have hD : va_D A [] := hD
      refine lv_icmp_ge (tgt := 30) hx hb d_KitRunner_packedText_9 (by decide) (fun c_2 => ?_) (fun c_2 => ?_)
      · skip
        have c_2 : (kTx j0).length ≤ i := (nI_leI (a := (kTx j0).length) (b := i) (by omega) (by omega)).mp c_2
        refine lv_lload_n hx hb d_KitRunner_packedText_30 rfl (lv_at hl 1 rfl) ?_
        have hpost : k_pk j0 = acc := hinv.trans (by simp only [k_pkL, if_pos c_2])
        have hP9 := hP.sub (ws' := []) [] rfl
        have hD9 := hD.sub (ws' := []) [] (by decide) rfl
        exact kr_lret (v := acc) hQ hx hb hr hlocks hK hP9 hD9 hS (by rw [hpost] <;> rfl) () rfl d_KitRunner_packedText_31
      · skip
        have c_2 : ¬ (kTx j0).length ≤ i := fun h9 => c_2 ((nI_leI (a := (kTx j0).length) (b := i) (by omega) (by omega)).mpr h9)
        exfalso; omega
    | succ n ih_4 =>
      intro i acc hi hinv H locs hP hD hS ls hl
      refine lv_iload_n hx hb d_KitRunner_packedText_4 rfl (lv_at hl 0 rfl) ?_
      refine lv_aload_n hx hb d_KitRunner_packedText_5 rfl (lv_at hl 2 rfl) ?_
      have hpre_3 := kr_pre (wc := []) (av := [.ref (σ.1 j0)]) hK hP hD hS hA hSt [] rfl (by decide)
      refine kj_i (wc := []) (wr := []) (va_runV (As := []) (rest := [.int (nI i)]) ⟨hx, hb, hml, hown, hts⟩ (c_String_length l dC dI cI cJ cC cZ σ j0 (by first | decide | assumption) _) ⟨(callB_of 0 hts (kg wq_260) rfl rfl rfl hini_String hm_188 (by decide +kernel) ⟨Nat.le_of_ble_eq_true rfl, Nat.le_of_ble_eq_true rfl⟩), hi_188, hv_188⟩ ⟨hpre_3.1, (va_Orecv (hSt.2.2.2.2.2.1 j0 (by first | decide | assumption)).1 hS), hpre_3.2⟩ rfl rfl hl.1 rfl (lv_room (Nat.le_of_ble_eq_true rfl)) d_KitRunner_packedText_6 ⟨Nat.le_of_ble_eq_true rfl, Nat.le_of_ble_eq_true rfl⟩) hP hD hS hA [] [] rfl rfl (by decide) (by decide) (fun _ H locs hP hD hS => ?_)
      have hP : va_P (dC, dI) vwCl [] H := hP
      have hD : va_D A [] := hD
      refine lv_icmp_ge (tgt := 30) hx hb d_KitRunner_packedText_9 (by decide) (fun c_4 => ?_) (fun c_4 => ?_)
      · skip
        have c_4 : (kTx j0).length ≤ i := (nI_leI (a := (kTx j0).length) (b := i) (by omega) (by omega)).mp c_4
        exfalso; omega
      · skip
        have c_4 : ¬ (kTx j0).length ≤ i := fun h9 => c_4 ((nI_leI (a := (kTx j0).length) (b := i) (by omega) (by omega)).mpr h9)
        refine lv_lload_n hx hb d_KitRunner_packedText_12 rfl (lv_at hl 1 rfl) ?_
        refine lv_bipush (v := 8) hx hb d_KitRunner_packedText_13 (by decide) ?_
        refine lv_lshl hx hb d_KitRunner_packedText_15 rfl ?_
        refine lv_aload_n hx hb d_KitRunner_packedText_16 rfl (lv_at hl 2 rfl) ?_
        refine lv_iload_n hx hb d_KitRunner_packedText_17 rfl (lv_at hl 0 rfl) ?_
        have hpre_5 := kr_pre (wc := []) (av := [.ref (σ.1 j0), .int (nI i)]) hK hP hD hS hA hSt [] rfl (by decide)
        refine kj_i (wc := []) (wr := []) (va_runV (As := [.int (nI i)]) (rest := [.long (acc <<< ((8 : Int32).toInt64 &&& 63))]) ⟨hx, hb, hml, hown, hts⟩ (c_String_charAt l dC dI cI cJ cC cZ σ j0 i (by first | decide | assumption) (by first | assumption | omega) _) ⟨(callB_of 1 hts (kg wq_270) rfl rfl rfl hini_String hm_191 (by decide +kernel) ⟨Nat.le_of_ble_eq_true rfl, Nat.le_of_ble_eq_true rfl⟩), hi_191, hv_191⟩ ⟨hpre_5.1, (va_Orecv (hSt.2.2.2.2.2.1 j0 (by first | decide | assumption)).1 hS), hpre_5.2⟩ rfl rfl hl.1 rfl (lv_room (Nat.le_of_ble_eq_true rfl)) d_KitRunner_packedText_18 ⟨Nat.le_of_ble_eq_true rfl, Nat.le_of_ble_eq_true rfl⟩) hP hD hS hA [] [] rfl rfl (by decide) (by decide) (fun _ H locs hP hD hS => ?_)
        have hP : va_P (dC, dI) vwCl [] H := hP
        have hD : va_D A [] := hD
        refine lv_i2l hx hb d_KitRunner_packedText_21 rfl ?_
        refine lv_lor hx hb d_KitRunner_packedText_22 ?_
        refine lv_lstore_n (lv' := [(1, .long ((acc <<< ((8 : Int32).toInt64 &&& 63)) ||| (kChr j0 i).toInt64)), (3, .int (nI i)), (0, .ref (σ.1 j0))]) hx hb d_KitRunner_packedText_23 rfl hl (by decide) rfl (fun ls hl => ?_)
        refine lv_iinc (v := (nI (i + 1))) (lv' := [(3, .int (nI (i + 1))), (1, .long ((acc <<< ((8 : Int32).toInt64 &&& 63)) ||| (kChr j0 i).toInt64)), (0, .ref (σ.1 j0))]) hx hb d_KitRunner_packedText_24 hl (k := 1) rfl (nI_1 i) (by decide) rfl (fun ls hl => ?_)
        refine lv_goto (tgt := 4) hx hb d_KitRunner_packedText_27 (by decide) ?_
        exact ih_4 (i + 1) ((acc <<< ((8 : Int32).toInt64 &&& 63)) ||| (kChr j0 i).toInt64) (by omega) (hinv.trans (by simp only [k_pkL, if_neg c_4])) _ _ (hP.sub [] rfl) (hD.sub [] (by decide) rfl) hS ls (lv_sub hl [0, 1, 2] rfl)
  exact loop_4 (kTx j0).length 0 0 (by omega) rfl _ _ (hP.sub [] rfl) (hD.sub [] (by decide) rfl) hS ls (lv_sub hl [0, 1, 2] rfl)
set_option maxHeartbeats 4000000 in
set_option maxRecDepth 100000 in
theorem c_KitRunner_withoutZeroBytes (l : Launch) (dC : Nat → ClassId) (dI : Nat → Nat → Nat) (cI cJ cC cZ : ClassId) (σ : kSg) (x0 : Int64) : kC l y_KitRunner_withoutZeroBytes ws_KitRunner_withoutZeroBytes (kRm 0 0 0 0) (dC, dI) (kTy cI cJ cC cZ) σ ([]) [.long x0] (kQl (dC, dI) (kTy cI cJ cC cZ) (k_wz x0) (fun _ : Unit => [])) 0 0 := by
  refine kr_met (cc := prog_1_method_17_code) (maxL := 7) (ret := (some .long)) (by decide) rfl (Nat.le_of_ble_eq_true rfl) ?_
  intro p e s m args below meth c A Q hQ hx hb hr hml hts hown hlocks hnm hA hP hK hD hSt ls hl
  have hS : va_S A s.heap s.heap [] := va_S.rf
  have hown : s.vm.findClass "KitRunner" = some m.cls := hown
  have hl : lv_has ls 7 [(0, .long x0)] := hl
  have hP : va_P (dC, dI) vwCl [] s.heap := hP
  have hD : va_D A [] := hD
  have hk_186 := hts _ (List.mem_cons_of_mem _ wq_234)
  refine lv_lconst (v := 0) hx hb d_KitRunner_withoutZeroBytes_0 (by decide) ?_
  refine lv_lstore_n (lv' := [(2, .long 0), (0, .long x0)]) hx hb d_KitRunner_withoutZeroBytes_1 rfl hl (by decide) rfl (fun ls hl => ?_)
  refine lv_bipush (v := 56) hx hb d_KitRunner_withoutZeroBytes_2 (by decide) ?_
  refine lv_istore (lv' := [(4, .int 56), (2, .long 0), (0, .long x0)]) hx hb d_KitRunner_withoutZeroBytes_4 hl (by decide) rfl (fun ls hl => ?_)
  have loop_6 : ∀ (n : Nat) (acc : Int64), (n ≤ 8) → (k_wz x0 = k_wzL x0 n acc) → ∀ ls : Array Slot, lv_has ls 7 [(4, .int (k_sh n)), (2, .long acc), (0, .long x0)] → W p l e (kRm 0 0 0 0) s m args below meth c s.heap [] 0 0 Q (F0 m 6 ls []) := by
    intro n
    induction n with
    | zero =>
      intro acc hn8 hinv ls hl
      refine lv_iload hx hb d_KitRunner_withoutZeroBytes_6 (lv_at hl 0 rfl) ?_
      refine lv_if_lt (tgt := 42) hx hb d_KitRunner_withoutZeroBytes_8 (by decide) (fun c_1 => ?_) (fun c_1 => ?_)
      · skip
        refine lv_lload_n hx hb d_KitRunner_withoutZeroBytes_42 rfl (lv_at hl 1 rfl) ?_
        have hpost : k_wz x0 = acc := hinv.trans (by simp only [k_wzL, if_pos c_1])
        have hP9 := hP.sub (ws' := []) [] rfl
        have hD9 := hD.sub (ws' := []) [] (by decide) rfl
        exact kr_lret (v := acc) hQ hx hb hr hlocks hK hP9 hD9 hS (by rw [hpost] <;> rfl) () rfl d_KitRunner_withoutZeroBytes_43
      · skip
        exact absurd k_sh_0 c_1
    | succ n ih_6 =>
      intro acc hn8 hinv ls hl
      refine lv_iload hx hb d_KitRunner_withoutZeroBytes_6 (lv_at hl 0 rfl) ?_
      refine lv_if_lt (tgt := 42) hx hb d_KitRunner_withoutZeroBytes_8 (by decide) (fun c_2 => ?_) (fun c_2 => ?_)
      · skip
        exact absurd c_2 (k_sh_p n (by omega))
      · skip
        refine lv_lload_n hx hb d_KitRunner_withoutZeroBytes_11 rfl (lv_at hl 2 rfl) ?_
        refine lv_iload hx hb d_KitRunner_withoutZeroBytes_12 (lv_at hl 0 rfl) ?_
        refine lv_lushr hx hb d_KitRunner_withoutZeroBytes_14 rfl ?_
        refine lv_ldc2 (v := 255) hx hb hown hk_186 d_KitRunner_withoutZeroBytes_15 ?_
        refine lv_land hx hb d_KitRunner_withoutZeroBytes_18 ?_
        refine lv_lstore (lv' := [(5, .long ((x0.toUInt64 >>> ((k_sh (n + 1)).toInt64.toUInt64 &&& Int64.toUInt64 63)).toInt64 &&& 255)), (4, .int (k_sh (n + 1))), (2, .long acc), (0, .long x0)]) hx hb d_KitRunner_withoutZeroBytes_19 hl (by decide) rfl (fun ls hl => ?_)
        refine lv_lload hx hb d_KitRunner_withoutZeroBytes_21 (lv_at hl 0 rfl) ?_
        refine lv_lconst (v := 0) hx hb d_KitRunner_withoutZeroBytes_23 (by decide) ?_
        refine W.lcmp hx hb d_KitRunner_withoutZeroBytes_24 ?_
        refine lv_if_eq (tgt := 36) hx hb d_KitRunner_withoutZeroBytes_25 (by decide) (fun c_3 => ?_) (fun c_3 => ?_)
        · skip
          have c_3 : ((x0.toUInt64 >>> ((k_sh (n + 1)).toInt64.toUInt64 &&& Int64.toUInt64 63)).toInt64 &&& 255) = (0 : Int64) := (lg_cmp_eq ((x0.toUInt64 >>> ((k_sh (n + 1)).toInt64.toUInt64 &&& Int64.toUInt64 63)).toInt64 &&& 255) (0 : Int64)).mp c_3
          refine lv_iinc (v := (k_sh n)) (lv' := [(4, .int (k_sh n)), (5, .long ((x0.toUInt64 >>> ((k_sh (n + 1)).toInt64.toUInt64 &&& Int64.toUInt64 63)).toInt64 &&& 255)), (2, .long acc), (0, .long x0)]) hx hb d_KitRunner_withoutZeroBytes_36 hl (k := 1) rfl (k_sh_s n) (by decide) rfl (fun ls hl => ?_)
          refine lv_goto (tgt := 6) hx hb d_KitRunner_withoutZeroBytes_39 (by decide) ?_
          exact ih_6 acc (by omega) (hinv.trans (by simp only [k_wzL, if_neg c_2, if_pos c_3])) ls (lv_sub hl [0, 2, 3] rfl)
        · skip
          have c_3 : ¬ ((x0.toUInt64 >>> ((k_sh (n + 1)).toInt64.toUInt64 &&& Int64.toUInt64 63)).toInt64 &&& 255) = (0 : Int64) := fun h9 => c_3 ((lg_cmp_eq ((x0.toUInt64 >>> ((k_sh (n + 1)).toInt64.toUInt64 &&& Int64.toUInt64 63)).toInt64 &&& 255) (0 : Int64)).mpr h9)
          refine lv_lload_n hx hb d_KitRunner_withoutZeroBytes_28 rfl (lv_at hl 2 rfl) ?_
          refine lv_bipush (v := 8) hx hb d_KitRunner_withoutZeroBytes_29 (by decide) ?_
          refine lv_lshl hx hb d_KitRunner_withoutZeroBytes_31 rfl ?_
          refine lv_lload hx hb d_KitRunner_withoutZeroBytes_32 (lv_at hl 0 rfl) ?_
          refine lv_lor hx hb d_KitRunner_withoutZeroBytes_34 ?_
          refine lv_lstore_n (lv' := [(2, .long ((acc <<< ((8 : Int32).toInt64 &&& 63)) ||| ((x0.toUInt64 >>> ((k_sh (n + 1)).toInt64.toUInt64 &&& Int64.toUInt64 63)).toInt64 &&& 255))), (5, .long ((x0.toUInt64 >>> ((k_sh (n + 1)).toInt64.toUInt64 &&& Int64.toUInt64 63)).toInt64 &&& 255)), (4, .int (k_sh (n + 1))), (0, .long x0)]) hx hb d_KitRunner_withoutZeroBytes_35 rfl hl (by decide) rfl (fun ls hl => ?_)
          refine lv_iinc (v := (k_sh n)) (lv' := [(4, .int (k_sh n)), (2, .long ((acc <<< ((8 : Int32).toInt64 &&& 63)) ||| ((x0.toUInt64 >>> ((k_sh (n + 1)).toInt64.toUInt64 &&& Int64.toUInt64 63)).toInt64 &&& 255))), (5, .long ((x0.toUInt64 >>> ((k_sh (n + 1)).toInt64.toUInt64 &&& Int64.toUInt64 63)).toInt64 &&& 255)), (0, .long x0)]) hx hb d_KitRunner_withoutZeroBytes_36 hl (k := 2) rfl (k_sh_s n) (by decide) rfl (fun ls hl => ?_)
          refine lv_goto (tgt := 6) hx hb d_KitRunner_withoutZeroBytes_39 (by decide) ?_
          exact ih_6 ((acc <<< ((8 : Int32).toInt64 &&& 63)) ||| ((x0.toUInt64 >>> ((k_sh (n + 1)).toInt64.toUInt64 &&& Int64.toUInt64 63)).toInt64 &&& 255)) (by omega) (hinv.trans (by simp only [k_wzL, if_neg c_2, if_neg c_3])) ls (lv_sub hl [0, 1, 3] rfl)
  exact loop_6 8 0 (by omega) rfl ls (lv_sub hl [0, 1, 2] rfl)
set_option maxHeartbeats 4000000 in
set_option maxRecDepth 100000 in
theorem c_KitRunner_find (l : Launch) (dC : Nat → ClassId) (dI : Nat → Nat → Nat) (cI cJ cC cZ : ClassId) (σ : kSg) (h : Nat) (x0 : Int64) : kC l y_KitRunner_find ws_KitRunner_find (kRm 5 0 0 108) (dC, dI) (kTy cI cJ cC cZ) σ ([]) [.ref h, .long x0] (kQi (dC, dI) (kTy cI cJ cC cZ) (k_find x0) (fun _ : Unit => [])) 0 0 := by
  refine kr_met (cc := prog_1_method_6_code) (maxL := 6) (ret := (some .int)) (by decide) rfl (Nat.le_of_ble_eq_true rfl) ?_
  intro p e s m args below meth c A Q hQ hx hb hr hml hts hown hlocks hnm hA hP hK hD hSt ls hl
  have hS : va_S A s.heap s.heap [] := va_S.rf
  have hown : s.vm.findClass "KitRunner" = some m.cls := hown
  have hl : lv_has ls 6 [(0, .ref h), (1, .long x0)] := hl
  have hP : va_P (dC, dI) vwCl [] s.heap := hP
  have hD : va_D A [] := hD
  have hini_KitRunner := hts _ (List.mem_cons_of_mem _ wq_1)
  have hm_91 := hts _ (List.mem_cons_of_mem _ wq_231)
  have hs_91 := hts _ (List.mem_cons_of_mem _ wq_232)
  have hini_K_EntryPoints := hts _ (List.mem_cons_of_mem _ wq_10)
  have hm_95 := hts _ (List.mem_cons_of_mem _ wq_235)
  have hs_95 := hts _ (List.mem_cons_of_mem _ wq_236)
  have hm_101 := hts _ (List.mem_cons_of_mem _ wq_254)
  have hs_101 := hts _ (List.mem_cons_of_mem _ wq_255)
  refine lv_lload_n hx hb d_KitRunner_find_0 rfl (lv_at hl 1 rfl) ?_
  have hpre_1 := kr_pre (wc := []) (av := [.long x0]) hK hP hD hS hA hSt [] rfl (by decide)
  refine kj_l (wc := []) (wr := []) (va_runS (As := [.long x0]) (rest := []) ⟨hx, hb, hml, hown, hts⟩ (c_KitRunner_withoutZeroBytes l dC dI cI cJ cC cZ σ x0 _) ⟨(callB_of 1 hts (kg wq_233) rfl rfl rfl hini_KitRunner hm_91 (by decide +kernel) ⟨Nat.le_of_ble_eq_true rfl, Nat.le_of_ble_eq_true rfl⟩), hs_91⟩ hpre_1 rfl rfl hl.1 rfl (lv_room (Nat.le_of_ble_eq_true rfl)) d_KitRunner_find_1 ⟨Nat.le_of_ble_eq_true rfl, Nat.le_of_ble_eq_true rfl⟩) hP hD hS hA [] [] rfl rfl (by decide) (by decide) (fun _ H locs hP hD hS => ?_)
  have hP : va_P (dC, dI) vwCl [] H := hP
  have hD : va_D A [] := hD
  refine lv_lstore_n (lv' := [(3, .long (k_wz x0)), (0, .ref h), (1, .long x0)]) hx hb d_KitRunner_find_4 rfl hl (by decide) rfl (fun ls hl => ?_)
  refine lv_iconst (v := 0) hx hb d_KitRunner_find_5 (by decide) ?_
  refine lv_istore (lv' := [(5, .int 0), (3, .long (k_wz x0)), (0, .ref h), (1, .long x0)]) hx hb d_KitRunner_find_6 hl (by decide) rfl (fun ls hl => ?_)
  have loop_8 : ∀ (n : Nat) (i : Nat), (i + n = 16) → (k_find x0 = k_findL (k_wz x0) n i) → ∀ (H : Heap) (locs : List Loc), va_P (dC, dI) vwCl [] H → va_D A [] → va_S A s.heap H locs → ∀ ls : Array Slot, lv_has ls 6 [(5, .int (nI i)), (3, .long (k_wz x0)), (0, .ref h), (1, .long x0)] → W p l e (kRm 5 0 0 108) s m args below meth c H locs 0 0 Q (F0 m 8 ls []) := by
    intro n
    induction n with
    | zero =>
      intro i hi hinv H locs hP hD hS ls hl
      refine lv_iload hx hb d_KitRunner_find_8 (lv_at hl 0 rfl) ?_
      refine lv_bipush (v := 16) hx hb d_KitRunner_find_10 (by decide) ?_
      refine lv_icmp_ge (tgt := 37) hx hb d_KitRunner_find_12 (by decide) (fun c_2 => ?_) (fun c_2 => ?_)
      · skip
        have c_2 : 16 ≤ i := (nI_leI (a := 16) (b := i) (by omega) (by omega)).mp c_2
        refine lv_iconst (v := (-1)) hx hb d_KitRunner_find_37 (by decide) ?_
        have hpost : k_find x0 = -1 := hinv.trans (by simp only [k_findL, if_pos c_2])
        have hP9 := hP.sub (ws' := []) [] rfl
        have hD9 := hD.sub (ws' := []) [] (by decide) rfl
        exact kr_iret (v := (-1)) hQ hx hb hr hlocks hK hP9 hD9 hS (by rw [hpost] <;> rfl) () rfl d_KitRunner_find_38
      · skip
        have c_2 : ¬ 16 ≤ i := fun h9 => c_2 ((nI_leI (a := 16) (b := i) (by omega) (by omega)).mpr h9)
        exfalso; omega
    | succ n ih_8 =>
      intro i hi hinv H locs hP hD hS ls hl
      refine lv_iload hx hb d_KitRunner_find_8 (lv_at hl 0 rfl) ?_
      refine lv_bipush (v := 16) hx hb d_KitRunner_find_10 (by decide) ?_
      refine lv_icmp_ge (tgt := 37) hx hb d_KitRunner_find_12 (by decide) (fun c_3 => ?_) (fun c_3 => ?_)
      · skip
        have c_3 : 16 ≤ i := (nI_leI (a := 16) (b := i) (by omega) (by omega)).mp c_3
        exfalso; omega
      · skip
        have c_3 : ¬ 16 ≤ i := fun h9 => c_3 ((nI_leI (a := 16) (b := i) (by omega) (by omega)).mpr h9)
        refine lv_iload hx hb d_KitRunner_find_15 (lv_at hl 0 rfl) ?_
        have hpre_4 := kr_pre (wc := []) (av := [.int (nI i)]) hK hP hD hS hA hSt [] rfl (by decide)
        refine kj_r (wc := []) (wr := []) (va_runS (As := [.int (nI i)]) (rest := []) ⟨hx, hb, hml, hown, hts⟩ (c_EntryPoints_nameOf l dC dI cI cJ cC cZ σ (nI i) _) ⟨(callB_of 1 hts (kg wq_237) rfl rfl rfl hini_K_EntryPoints hm_95 (by decide +kernel) ⟨Nat.le_of_ble_eq_true rfl, Nat.le_of_ble_eq_true rfl⟩), hs_95⟩ hpre_4 rfl rfl hl.1 rfl (lv_room (Nat.le_of_ble_eq_true rfl)) d_KitRunner_find_17 ⟨Nat.le_of_ble_eq_true rfl, Nat.le_of_ble_eq_true rfl⟩) hP hD hS hA [] [] rfl rfl (by decide) (by decide) (fun _ H locs hP hD hS => ?_)
        have hP : va_P (dC, dI) vwCl [] H := hP
        have hD : va_D A [] := hD
        have hpre_5 := kr_pre (wc := []) (av := [.ref (σ.1 (k_nm (nI i)))]) hK hP hD hS hA hSt [] rfl (by decide)
        refine kj_l (wc := []) (wr := []) (va_runS (As := [.ref (σ.1 (k_nm (nI i)))]) (rest := []) ⟨hx, hb, hml, hown, hts⟩ (c_KitRunner_packedText l dC dI cI cJ cC cZ σ (k_nm (nI i)) (by first | decide | exact k_nm_lt _ | assumption) _) ⟨(callB_of 1 hts (kg wq_256) rfl rfl rfl hini_KitRunner hm_101 (by decide +kernel) ⟨Nat.le_of_ble_eq_true rfl, Nat.le_of_ble_eq_true rfl⟩), hs_101⟩ hpre_5 rfl rfl hl.1 rfl (lv_room (Nat.le_of_ble_eq_true rfl)) d_KitRunner_find_20 ⟨Nat.le_of_ble_eq_true rfl, Nat.le_of_ble_eq_true rfl⟩) hP hD hS hA [] [] rfl rfl (by decide) (by decide) (fun _ H locs hP hD hS => ?_)
        have hP : va_P (dC, dI) vwCl [] H := hP
        have hD : va_D A [] := hD
        refine lv_lload_n hx hb d_KitRunner_find_23 rfl (lv_at hl 1 rfl) ?_
        refine W.lcmp hx hb d_KitRunner_find_24 ?_
        refine lv_if_ne (tgt := 31) hx hb d_KitRunner_find_25 (by decide) (fun c_6 => ?_) (fun c_6 => ?_)
        · skip
          have c_6 : ¬ (k_pk (k_nm (nI i))) = (k_wz x0) := fun h9 => c_6 ((lg_cmp_eq (k_pk (k_nm (nI i))) (k_wz x0)).mpr h9)
          refine lv_iinc (v := (nI (i + 1))) (lv' := [(5, .int (nI (i + 1))), (3, .long (k_wz x0)), (0, .ref h), (1, .long x0)]) hx hb d_KitRunner_find_31 hl (k := 0) rfl (nI_1 i) (by decide) rfl (fun ls hl => ?_)
          refine lv_goto (tgt := 8) hx hb d_KitRunner_find_34 (by decide) ?_
          exact ih_8 (i + 1) (by omega) (hinv.trans (by simp only [k_findL, if_neg c_3, if_neg c_6])) _ _ (hP.sub [] rfl) (hD.sub [] (by decide) rfl) hS ls (lv_sub hl [0, 1, 2, 3] rfl)
        · skip
          have c_6 : (k_pk (k_nm (nI i))) = (k_wz x0) := (lg_cmp_eq (k_pk (k_nm (nI i))) (k_wz x0)).mp c_6
          refine lv_iload hx hb d_KitRunner_find_28 (lv_at hl 0 rfl) ?_
          have hpost : k_find x0 = nI i := hinv.trans (by simp only [k_findL, if_neg c_3, if_pos c_6])
          have hP9 := hP.sub (ws' := []) [] rfl
          have hD9 := hD.sub (ws' := []) [] (by decide) rfl
          exact kr_iret (v := (nI i)) hQ hx hb hr hlocks hK hP9 hD9 hS (by rw [hpost] <;> rfl) () rfl d_KitRunner_find_30
  exact loop_8 16 0 (by omega) rfl _ _ (hP.sub [] rfl) (hD.sub [] (by decide) rfl) hS ls (lv_sub hl [0, 1, 2, 3] rfl)
set_option maxHeartbeats 4000000 in
set_option maxRecDepth 100000 in
theorem c_Report_putText (l : Launch) (dC : Nat → ClassId) (dI : Nat → Nat → Nat) (cI cJ cC cZ : ClassId) (σ : kSg) (h h_0 : Nat) (P : kRep) (j0 : Nat) (hk : P.2 ≤ 256) (hj : j0 < nTx) : kC l y_K_Report_putText ws_K_Report_putText (kRm 4 0 0 85) (dC, dI) (kTy cI cJ cC cZ) σ (wRep cI cJ cC cZ h h_0 P) [.ref h, .ref (σ.1 j0)] (kQv (dC, dI) (kTy cI cJ cC cZ) (fun _ : Unit => wRep cI cJ cC cZ h h_0 (k_pt P j0))) 0 0 := by
  refine kr_met (cc := prog_7_method_6_code) (maxL := 3) (ret := none) (by decide) rfl (Nat.le_of_ble_eq_true rfl) ?_
  intro p e s m args below meth c A Q hQ hx hb hr hml hts hown hlocks hnm hA hP hK hD hSt ls hl
  have hS : va_S A s.heap s.heap [] := va_S.rf
  have hown : s.vm.findClass "KitRunner$Report" = some m.cls := hown
  have hl : lv_has ls 3 [(0, .ref h), (1, .ref (σ.1 j0))] := hl
  have hP : va_P (dC, dI) vwCl [(h, .inr (6, [.ref h_0, .int (nI P.2)])), (h_0, .inl (cC, 256, .inl P.1))] s.heap := hP
  have hD : va_D A [(h, .inr (6, [.ref h_0, .int (nI P.2)])), (h_0, .inl (cC, 256, .inl P.1))] := hD
  have hini_String := hts _ (List.mem_cons_of_mem _ wq_11)
  have hm_19 := hts _ (List.mem_cons_of_mem _ wq_436)
  have hi_19 := hts _ (List.mem_cons_of_mem _ wq_258)
  have hv_19 := hts _ (List.mem_cons_of_mem _ wq_259)
  have hm_24 := hts _ (List.mem_cons_of_mem _ wq_437)
  have hi_24 := hts _ (List.mem_cons_of_mem _ wq_268)
  have hv_24 := hts _ (List.mem_cons_of_mem _ wq_269)
  have hini_K_Report := hts _ (List.mem_cons_of_mem _ wq_7)
  have hm_28 := hts _ (List.mem_cons_of_mem _ wq_438)
  have hi_28 := hts _ (List.mem_cons_of_mem _ wq_439)
  have hv_28 := hts _ (List.mem_cons_of_mem _ wq_440)
  have hlen := kTx_len j0
  refine lv_iconst (v := 0) hx hb d_K_Report_putText_0 (by decide) ?_
  refine lv_istore_n (lv' := [(2, .int 0), (0, .ref h), (1, .ref (σ.1 j0))]) hx hb d_K_Report_putText_1 rfl hl (by decide) rfl (fun ls hl => ?_)
  have loop_2 : ∀ (n : Nat) (i : Nat) (X : kRep), (i + n = (kTx j0).length) → (k_pt P j0 = k_ptL j0 n i X) → (X.2 ≤ 256) → ∀ (H : Heap) (locs : List Loc), va_P (dC, dI) vwCl [(h, .inr (6, [.ref h_0, .int (nI X.2)])), (h_0, .inl (cC, 256, .inl X.1))] H → va_D A [(h, .inr (6, [.ref h_0, .int (nI X.2)])), (h_0, .inl (cC, 256, .inl X.1))] → va_S A s.heap H locs → ∀ ls : Array Slot, lv_has ls 3 [(2, .int (nI i)), (0, .ref h), (1, .ref (σ.1 j0))] → W p l e (kRm 4 0 0 85) s m args below meth c H locs 0 0 Q (F0 m 2 ls []) := by
    intro n
    induction n with
    | zero =>
      intro i X hi hinv hok H locs hP hD hS ls hl
      refine lv_iload_n hx hb d_K_Report_putText_2 rfl (lv_at hl 0 rfl) ?_
      refine lv_aload_n hx hb d_K_Report_putText_3 rfl (lv_at hl 2 rfl) ?_
      have hpre_1 := kr_pre (wc := []) (av := [.ref (σ.1 j0)]) hK hP hD hS hA hSt [] rfl (by decide)
      refine kj_i (wc := []) (wr := [(h, .inr (6, [.ref h_0, .int (nI X.2)])), (h_0, .inl (cC, 256, .inl X.1))]) (va_runV (As := []) (rest := [.int (nI i)]) ⟨hx, hb, hml, hown, hts⟩ (c_String_length l dC dI cI cJ cC cZ σ j0 (by first | decide | assumption) _) ⟨(callB_of 0 hts (kg wq_260) rfl rfl rfl hini_String hm_19 (by decide +kernel) ⟨Nat.le_of_ble_eq_true rfl, Nat.le_of_ble_eq_true rfl⟩), hi_19, hv_19⟩ ⟨hpre_1.1, (va_Orecv (hSt.2.2.2.2.2.1 j0 (by first | decide | assumption)).1 hS), hpre_1.2⟩ rfl rfl hl.1 rfl (lv_room (Nat.le_of_ble_eq_true rfl)) d_K_Report_putText_4 ⟨Nat.le_of_ble_eq_true rfl, Nat.le_of_ble_eq_true rfl⟩) hP hD hS hA [] [0, 1] rfl rfl (by decide) (by decide) (fun _ H locs hP hD hS => ?_)
      have hP : va_P (dC, dI) vwCl [(h, .inr (6, [.ref h_0, .int (nI X.2)])), (h_0, .inl (cC, 256, .inl X.1))] H := hP
      have hD : va_D A [(h, .inr (6, [.ref h_0, .int (nI X.2)])), (h_0, .inl (cC, 256, .inl X.1))] := hD
      refine lv_icmp_ge (tgt := 25) hx hb d_K_Report_putText_7 (by decide) (fun c_2 => ?_) (fun c_2 => ?_)
      · skip
        have c_2 : (kTx j0).length ≤ i := (nI_leI (a := (kTx j0).length) (b := i) (by omega) (by omega)).mp c_2
        have hpost : k_pt P j0 = X := hinv.trans (by simp only [k_ptL, if_pos c_2])
        have hP9 := hP.sub (ws' := [(h, .inr (6, [.ref h_0, .int (nI X.2)])), (h_0, .inl (cC, 256, .inl X.1))]) [0, 1] rfl
        have hD9 := hD.sub (ws' := [(h, .inr (6, [.ref h_0, .int (nI X.2)])), (h_0, .inl (cC, 256, .inl X.1))]) [0, 1] (by decide) rfl
        exact kr_vret hQ hx hb hr hlocks hK hP9 hD9 hS () (by show (wRep cI cJ cC cZ h h_0 (k_pt P j0) : va_W) = _; rw [hpost] <;> rfl) d_K_Report_putText_25
      · skip
        have c_2 : ¬ (kTx j0).length ≤ i := fun h9 => c_2 ((nI_leI (a := (kTx j0).length) (b := i) (by omega) (by omega)).mpr h9)
        exfalso; omega
    | succ n ih_2 =>
      intro i X hi hinv hok H locs hP hD hS ls hl
      refine lv_iload_n hx hb d_K_Report_putText_2 rfl (lv_at hl 0 rfl) ?_
      refine lv_aload_n hx hb d_K_Report_putText_3 rfl (lv_at hl 2 rfl) ?_
      have hpre_3 := kr_pre (wc := []) (av := [.ref (σ.1 j0)]) hK hP hD hS hA hSt [] rfl (by decide)
      refine kj_i (wc := []) (wr := [(h, .inr (6, [.ref h_0, .int (nI X.2)])), (h_0, .inl (cC, 256, .inl X.1))]) (va_runV (As := []) (rest := [.int (nI i)]) ⟨hx, hb, hml, hown, hts⟩ (c_String_length l dC dI cI cJ cC cZ σ j0 (by first | decide | assumption) _) ⟨(callB_of 0 hts (kg wq_260) rfl rfl rfl hini_String hm_19 (by decide +kernel) ⟨Nat.le_of_ble_eq_true rfl, Nat.le_of_ble_eq_true rfl⟩), hi_19, hv_19⟩ ⟨hpre_3.1, (va_Orecv (hSt.2.2.2.2.2.1 j0 (by first | decide | assumption)).1 hS), hpre_3.2⟩ rfl rfl hl.1 rfl (lv_room (Nat.le_of_ble_eq_true rfl)) d_K_Report_putText_4 ⟨Nat.le_of_ble_eq_true rfl, Nat.le_of_ble_eq_true rfl⟩) hP hD hS hA [] [0, 1] rfl rfl (by decide) (by decide) (fun _ H locs hP hD hS => ?_)
      have hP : va_P (dC, dI) vwCl [(h, .inr (6, [.ref h_0, .int (nI X.2)])), (h_0, .inl (cC, 256, .inl X.1))] H := hP
      have hD : va_D A [(h, .inr (6, [.ref h_0, .int (nI X.2)])), (h_0, .inl (cC, 256, .inl X.1))] := hD
      refine lv_icmp_ge (tgt := 25) hx hb d_K_Report_putText_7 (by decide) (fun c_4 => ?_) (fun c_4 => ?_)
      · skip
        have c_4 : (kTx j0).length ≤ i := (nI_leI (a := (kTx j0).length) (b := i) (by omega) (by omega)).mp c_4
        exfalso; omega
      · skip
        have c_4 : ¬ (kTx j0).length ≤ i := fun h9 => c_4 ((nI_leI (a := (kTx j0).length) (b := i) (by omega) (by omega)).mpr h9)
        refine lv_aload_n hx hb d_K_Report_putText_10 rfl (lv_at hl 1 rfl) ?_
        refine lv_aload_n hx hb d_K_Report_putText_11 rfl (lv_at hl 2 rfl) ?_
        refine lv_iload_n hx hb d_K_Report_putText_12 rfl (lv_at hl 0 rfl) ?_
        have hpre_5 := kr_pre (wc := []) (av := [.ref (σ.1 j0), .int (nI i)]) hK hP hD hS hA hSt [] rfl (by decide)
        refine kj_i (wc := []) (wr := [(h, .inr (6, [.ref h_0, .int (nI X.2)])), (h_0, .inl (cC, 256, .inl X.1))]) (va_runV (As := [.int (nI i)]) (rest := [.ref h]) ⟨hx, hb, hml, hown, hts⟩ (c_String_charAt l dC dI cI cJ cC cZ σ j0 i (by first | decide | assumption) (by first | assumption | omega) _) ⟨(callB_of 1 hts (kg wq_270) rfl rfl rfl hini_String hm_24 (by decide +kernel) ⟨Nat.le_of_ble_eq_true rfl, Nat.le_of_ble_eq_true rfl⟩), hi_24, hv_24⟩ ⟨hpre_5.1, (va_Orecv (hSt.2.2.2.2.2.1 j0 (by first | decide | assumption)).1 hS), hpre_5.2⟩ rfl rfl hl.1 rfl (lv_room (Nat.le_of_ble_eq_true rfl)) d_K_Report_putText_13 ⟨Nat.le_of_ble_eq_true rfl, Nat.le_of_ble_eq_true rfl⟩) hP hD hS hA [] [0, 1] rfl rfl (by decide) (by decide) (fun _ H locs hP hD hS => ?_)
        have hP : va_P (dC, dI) vwCl [(h, .inr (6, [.ref h_0, .int (nI X.2)])), (h_0, .inl (cC, 256, .inl X.1))] H := hP
        have hD : va_D A [(h, .inr (6, [.ref h_0, .int (nI X.2)])), (h_0, .inl (cC, 256, .inl X.1))] := hD
        have hpre_6 := kr_pre (wc := [(h, .inr (6, [.ref h_0, .int (nI X.2)])), (h_0, .inl (cC, 256, .inl X.1))]) (av := [.ref h, .int (kChr j0 i)]) hK hP hD hS hA hSt [0, 1] rfl (by decide)
        refine kj_v (wc := [(h, .inr (6, [.ref h_0, .int (nI X.2)])), (h_0, .inl (cC, 256, .inl X.1))]) (wr := []) (va_runV (As := [.int (kChr j0 i)]) (rest := []) ⟨hx, hb, hml, hown, hts⟩ (c_Report_put l dC dI cI cJ cC cZ σ h h_0 X (kChr j0 i) (by repeat' (first | assumption | omega | apply k_pn_ok | apply k_pt_ok | apply k_put_ok)) (by first | rfl | exact pk_vc _ | exact kChr_nar _ _) _) ⟨(callB_of 1 hts (kg wq_441) rfl rfl rfl hini_K_Report hm_28 (by decide +kernel) ⟨Nat.le_of_ble_eq_true rfl, Nat.le_of_ble_eq_true rfl⟩), hi_28, hv_28⟩ ⟨hpre_6.1, (va_recv hK hP (ci := 6) (q0 := 0) rfl rfl), hpre_6.2⟩ rfl rfl hl.1 rfl (lv_room (Nat.le_of_ble_eq_true rfl)) d_K_Report_putText_16 ⟨Nat.le_of_ble_eq_true rfl, Nat.le_of_ble_eq_true rfl⟩) hP hD hS hA [0, 1] [] rfl rfl (by decide) (by decide) (fun _ H locs hP hD hS => ?_)
        have hP : va_P (dC, dI) vwCl [(h, .inr (6, [.ref h_0, .int (nI (k_put X (kChr j0 i)).2)])), (h_0, .inl (cC, 256, .inl (k_put X (kChr j0 i)).1))] H := hP
        have hD : va_D A [(h, .inr (6, [.ref h_0, .int (nI (k_put X (kChr j0 i)).2)])), (h_0, .inl (cC, 256, .inl (k_put X (kChr j0 i)).1))] := hD
        refine lv_iinc (v := (nI (i + 1))) (lv' := [(2, .int (nI (i + 1))), (0, .ref h), (1, .ref (σ.1 j0))]) hx hb d_K_Report_putText_19 hl (k := 0) rfl (nI_1 i) (by decide) rfl (fun ls hl => ?_)
        refine lv_goto (tgt := 2) hx hb d_K_Report_putText_22 (by decide) ?_
        exact ih_2 (i + 1) (k_put X (kChr j0 i)) (by omega) (hinv.trans rfl) (k_put_ok hok) _ _ (hP.sub [0, 1] rfl) (hD.sub [0, 1] (by decide) rfl) hS ls (lv_sub hl [0, 1, 2] rfl)
  exact loop_2 (kTx j0).length 0 P (by omega) rfl hk _ _ (hP.sub [0, 1] rfl) (hD.sub [0, 1] (by decide) rfl) hS ls (lv_sub hl [0, 1, 2] rfl)
