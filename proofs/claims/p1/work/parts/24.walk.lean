set_option maxHeartbeats 4000000 in
set_option maxRecDepth 100000 in
theorem c_Report_putNumber (l : Launch) (dC : Nat → ClassId) (dI : Nat → Nat → Nat) (cI cJ cC cZ : ClassId) (σ : kSg) (h h_0 : Nat) (P : kRep) (n0 : Int32) (hk : P.2 ≤ 256) : kC l y_K_Report_putNumber ws_K_Report_putNumber (kRm 1 0 0 21) (dC, dI) (kTy cI cJ cC cZ) σ (wRep cI cJ cC cZ h h_0 P) [.ref h, .int n0] (kQv (dC, dI) (kTy cI cJ cC cZ) (fun _ : Unit => wRep cI cJ cC cZ h h_0 (k_pn P n0))) 0 0 := by
  refine kr_met (cc := prog_7_method_7_code) (maxL := 3) (ret := none) (by decide) rfl (Nat.le_of_ble_eq_true rfl) ?_
  intro p e s m args below meth c A Q hQ hx hb hr hml hts hown hlocks hnm hA hP hK hD hSt ls hl
  have hS : va_S A s.heap s.heap [] := va_S.rf
  have hown : s.vm.findClass "KitRunner$Report" = some m.cls := hown
  have hl : lv_has ls 3 [(0, .ref h), (1, .int n0)] := hl
  have hP : va_P (dC, dI) vwCl [(h, .inr (6, [.ref h_0, .int (nI P.2)])), (h_0, .inl (cC, 256, .inl P.1))] s.heap := hP
  have hD : va_D A [(h, .inr (6, [.ref h_0, .int (nI P.2)])), (h_0, .inl (cC, 256, .inl P.1))] := hD
  have hini_K_Report := hts _ (List.mem_cons_of_mem _ wq_7)
  have hm_28 := hts _ (List.mem_cons_of_mem _ wq_438)
  have hi_28 := hts _ (List.mem_cons_of_mem _ wq_439)
  have hv_28 := hts _ (List.mem_cons_of_mem _ wq_440)
  refine lv_bipush (v := 100) hx hb d_K_Report_putNumber_0 (by decide) ?_
  refine lv_istore_n (lv' := [(2, .int 100), (0, .ref h), (1, .int n0)]) hx hb d_K_Report_putNumber_2 rfl hl (by decide) rfl (fun ls hl => ?_)
  refine lv_iload_n hx hb d_K_Report_putNumber_3 rfl (lv_at hl 0 rfl) ?_
  refine lv_iconst (v := 1) hx hb d_K_Report_putNumber_4 (by decide) ?_
  refine lv_icmp_lt (tgt := 40) hx hb d_K_Report_putNumber_5 (by decide) (fun c_1 => ?_) (fun c_1 => ?_)
  · skip
    exact absurd c_1 (by decide)
  · skip
    have c_1 : ¬ 100 < 1 := fun h9 => c_1 ((nI_ltI (a := 100) (b := 1) (by omega) (by omega)).mpr h9)
    refine lv_iload_n hx hb d_K_Report_putNumber_8 rfl (lv_at hl 2 rfl) ?_
    refine lv_iload_n hx hb d_K_Report_putNumber_9 rfl (lv_at hl 0 rfl) ?_
    refine lv_icmp_ge (tgt := 18) hx hb d_K_Report_putNumber_10 (by decide) (fun c_2 => ?_) (fun c_2 => ?_)
    · skip
      refine lv_aload_n hx hb d_K_Report_putNumber_18 rfl (lv_at hl 1 rfl) ?_
      refine lv_bipush (v := 48) hx hb d_K_Report_putNumber_19 (by decide) ?_
      refine lv_iload_n hx hb d_K_Report_putNumber_21 rfl (lv_at hl 2 rfl) ?_
      refine lv_iload_n hx hb d_K_Report_putNumber_22 rfl (lv_at hl 0 rfl) ?_
      refine lv_idiv hx hb d_K_Report_putNumber_23 (by decide) ?_
      refine lv_bipush (v := 10) hx hb d_K_Report_putNumber_24 (by decide) ?_
      refine lv_irem hx hb d_K_Report_putNumber_26 (by decide) ?_
      refine lv_iadd hx hb d_K_Report_putNumber_27 ?_
      refine lv_i2c hx hb d_K_Report_putNumber_28 rfl ?_
      have hpre_3 := kr_pre (wc := [(h, .inr (6, [.ref h_0, .int (nI P.2)])), (h_0, .inl (cC, 256, .inl P.1))]) (av := [.ref h, .int ((48 + ((n0 / 100) - (n0 / 100) / 10 * 10)).toUInt32 % 65536).toInt32]) hK hP hD hS hA hSt [0, 1] rfl (by decide)
      refine kj_v (wc := [(h, .inr (6, [.ref h_0, .int (nI P.2)])), (h_0, .inl (cC, 256, .inl P.1))]) (wr := []) (va_runV (As := [.int ((48 + ((n0 / 100) - (n0 / 100) / 10 * 10)).toUInt32 % 65536).toInt32]) (rest := []) ⟨hx, hb, hml, hown, hts⟩ (c_Report_put l dC dI cI cJ cC cZ σ h h_0 P ((48 + ((n0 / 100) - (n0 / 100) / 10 * 10)).toUInt32 % 65536).toInt32 (by repeat' (first | assumption | omega | apply k_pn_ok | apply k_pt_ok | apply k_put_ok)) (by first | rfl | exact pk_vc _ | exact kChr_nar _ _) _) ⟨(callB_of 1 hts (kg wq_441) rfl rfl rfl hini_K_Report hm_28 (by decide +kernel) ⟨Nat.le_of_ble_eq_true rfl, Nat.le_of_ble_eq_true rfl⟩), hi_28, hv_28⟩ ⟨hpre_3.1, (va_recv hK hP (ci := 6) (q0 := 0) rfl rfl), hpre_3.2⟩ rfl rfl hl.1 rfl (lv_room (Nat.le_of_ble_eq_true rfl)) d_K_Report_putNumber_29 ⟨Nat.le_of_ble_eq_true rfl, Nat.le_of_ble_eq_true rfl⟩) hP hD hS hA [0, 1] [] rfl rfl (by decide) (by decide) (fun _ H locs hP hD hS => ?_)
      have hP : va_P (dC, dI) vwCl [(h, .inr (6, [.ref h_0, .int (nI (k_put P ((48 + ((n0 / 100) - (n0 / 100) / 10 * 10)).toUInt32 % 65536).toInt32).2)])), (h_0, .inl (cC, 256, .inl (k_put P ((48 + ((n0 / 100) - (n0 / 100) / 10 * 10)).toUInt32 % 65536).toInt32).1))] H := hP
      have hD : va_D A [(h, .inr (6, [.ref h_0, .int (nI (k_put P ((48 + ((n0 / 100) - (n0 / 100) / 10 * 10)).toUInt32 % 65536).toInt32).2)])), (h_0, .inl (cC, 256, .inl (k_put P ((48 + ((n0 / 100) - (n0 / 100) / 10 * 10)).toUInt32 % 65536).toInt32).1))] := hD
      refine lv_iload_n hx hb d_K_Report_putNumber_32 rfl (lv_at hl 0 rfl) ?_
      refine lv_bipush (v := 10) hx hb d_K_Report_putNumber_33 (by decide) ?_
      refine lv_idiv hx hb d_K_Report_putNumber_35 (by decide) ?_
      refine kr_topi (x := (100 / 10 : Int32)) (y := 10) (by decide) ?_
      refine lv_istore_n (lv' := [(2, .int 10), (0, .ref h), (1, .int n0)]) hx hb d_K_Report_putNumber_36 rfl hl (by decide) rfl (fun ls hl => ?_)
      refine lv_goto (tgt := 3) hx hb d_K_Report_putNumber_37 (by decide) ?_
      refine lv_iload_n hx hb d_K_Report_putNumber_3 rfl (lv_at hl 0 rfl) ?_
      refine lv_iconst (v := 1) hx hb d_K_Report_putNumber_4 (by decide) ?_
      refine lv_icmp_lt (tgt := 40) hx hb d_K_Report_putNumber_5 (by decide) (fun c_4 => ?_) (fun c_4 => ?_)
      · skip
        exact absurd c_4 (by decide)
      · skip
        have c_4 : ¬ 10 < 1 := fun h9 => c_4 ((nI_ltI (a := 10) (b := 1) (by omega) (by omega)).mpr h9)
        refine lv_iload_n hx hb d_K_Report_putNumber_8 rfl (lv_at hl 2 rfl) ?_
        refine lv_iload_n hx hb d_K_Report_putNumber_9 rfl (lv_at hl 0 rfl) ?_
        refine lv_icmp_ge (tgt := 18) hx hb d_K_Report_putNumber_10 (by decide) (fun c_5 => ?_) (fun c_5 => ?_)
        · skip
          refine lv_aload_n hx hb d_K_Report_putNumber_18 rfl (lv_at hl 1 rfl) ?_
          refine lv_bipush (v := 48) hx hb d_K_Report_putNumber_19 (by decide) ?_
          refine lv_iload_n hx hb d_K_Report_putNumber_21 rfl (lv_at hl 2 rfl) ?_
          refine lv_iload_n hx hb d_K_Report_putNumber_22 rfl (lv_at hl 0 rfl) ?_
          refine lv_idiv hx hb d_K_Report_putNumber_23 (by decide) ?_
          refine lv_bipush (v := 10) hx hb d_K_Report_putNumber_24 (by decide) ?_
          refine lv_irem hx hb d_K_Report_putNumber_26 (by decide) ?_
          refine lv_iadd hx hb d_K_Report_putNumber_27 ?_
          refine lv_i2c hx hb d_K_Report_putNumber_28 rfl ?_
          have hpre_6 := kr_pre (wc := [(h, .inr (6, [.ref h_0, .int (nI (k_put P ((48 + ((n0 / 100) - (n0 / 100) / 10 * 10)).toUInt32 % 65536).toInt32).2)])), (h_0, .inl (cC, 256, .inl (k_put P ((48 + ((n0 / 100) - (n0 / 100) / 10 * 10)).toUInt32 % 65536).toInt32).1))]) (av := [.ref h, .int ((48 + ((n0 / 10) - (n0 / 10) / 10 * 10)).toUInt32 % 65536).toInt32]) hK hP hD hS hA hSt [0, 1] rfl (by decide)
          refine kj_v (wc := [(h, .inr (6, [.ref h_0, .int (nI (k_put P ((48 + ((n0 / 100) - (n0 / 100) / 10 * 10)).toUInt32 % 65536).toInt32).2)])), (h_0, .inl (cC, 256, .inl (k_put P ((48 + ((n0 / 100) - (n0 / 100) / 10 * 10)).toUInt32 % 65536).toInt32).1))]) (wr := []) (va_runV (As := [.int ((48 + ((n0 / 10) - (n0 / 10) / 10 * 10)).toUInt32 % 65536).toInt32]) (rest := []) ⟨hx, hb, hml, hown, hts⟩ (c_Report_put l dC dI cI cJ cC cZ σ h h_0 (k_put P ((48 + ((n0 / 100) - (n0 / 100) / 10 * 10)).toUInt32 % 65536).toInt32) ((48 + ((n0 / 10) - (n0 / 10) / 10 * 10)).toUInt32 % 65536).toInt32 (by repeat' (first | assumption | omega | apply k_pn_ok | apply k_pt_ok | apply k_put_ok)) (by first | rfl | exact pk_vc _ | exact kChr_nar _ _) _) ⟨(callB_of 1 hts (kg wq_441) rfl rfl rfl hini_K_Report hm_28 (by decide +kernel) ⟨Nat.le_of_ble_eq_true rfl, Nat.le_of_ble_eq_true rfl⟩), hi_28, hv_28⟩ ⟨hpre_6.1, (va_recv hK hP (ci := 6) (q0 := 0) rfl rfl), hpre_6.2⟩ rfl rfl hl.1 rfl (lv_room (Nat.le_of_ble_eq_true rfl)) d_K_Report_putNumber_29 ⟨Nat.le_of_ble_eq_true rfl, Nat.le_of_ble_eq_true rfl⟩) hP hD hS hA [0, 1] [] rfl rfl (by decide) (by decide) (fun _ H locs hP hD hS => ?_)
          have hP : va_P (dC, dI) vwCl [(h, .inr (6, [.ref h_0, .int (nI (k_put (k_put P ((48 + ((n0 / 100) - (n0 / 100) / 10 * 10)).toUInt32 % 65536).toInt32) ((48 + ((n0 / 10) - (n0 / 10) / 10 * 10)).toUInt32 % 65536).toInt32).2)])), (h_0, .inl (cC, 256, .inl (k_put (k_put P ((48 + ((n0 / 100) - (n0 / 100) / 10 * 10)).toUInt32 % 65536).toInt32) ((48 + ((n0 / 10) - (n0 / 10) / 10 * 10)).toUInt32 % 65536).toInt32).1))] H := hP
          have hD : va_D A [(h, .inr (6, [.ref h_0, .int (nI (k_put (k_put P ((48 + ((n0 / 100) - (n0 / 100) / 10 * 10)).toUInt32 % 65536).toInt32) ((48 + ((n0 / 10) - (n0 / 10) / 10 * 10)).toUInt32 % 65536).toInt32).2)])), (h_0, .inl (cC, 256, .inl (k_put (k_put P ((48 + ((n0 / 100) - (n0 / 100) / 10 * 10)).toUInt32 % 65536).toInt32) ((48 + ((n0 / 10) - (n0 / 10) / 10 * 10)).toUInt32 % 65536).toInt32).1))] := hD
          refine lv_iload_n hx hb d_K_Report_putNumber_32 rfl (lv_at hl 0 rfl) ?_
          refine lv_bipush (v := 10) hx hb d_K_Report_putNumber_33 (by decide) ?_
          refine lv_idiv hx hb d_K_Report_putNumber_35 (by decide) ?_
          refine kr_topi (x := (10 / 10 : Int32)) (y := 1) (by decide) ?_
          refine lv_istore_n (lv' := [(2, .int 1), (0, .ref h), (1, .int n0)]) hx hb d_K_Report_putNumber_36 rfl hl (by decide) rfl (fun ls hl => ?_)
          refine lv_goto (tgt := 3) hx hb d_K_Report_putNumber_37 (by decide) ?_
          refine lv_iload_n hx hb d_K_Report_putNumber_3 rfl (lv_at hl 0 rfl) ?_
          refine lv_iconst (v := 1) hx hb d_K_Report_putNumber_4 (by decide) ?_
          refine lv_icmp_lt (tgt := 40) hx hb d_K_Report_putNumber_5 (by decide) (fun c_7 => ?_) (fun c_7 => ?_)
          · skip
            exact absurd c_7 (by decide)
          · skip
            have c_7 : ¬ 1 < 1 := fun h9 => c_7 ((nI_ltI (a := 1) (b := 1) (by omega) (by omega)).mpr h9)
            refine lv_iload_n hx hb d_K_Report_putNumber_8 rfl (lv_at hl 2 rfl) ?_
            refine lv_iload_n hx hb d_K_Report_putNumber_9 rfl (lv_at hl 0 rfl) ?_
            refine lv_icmp_ge (tgt := 18) hx hb d_K_Report_putNumber_10 (by decide) (fun c_8 => ?_) (fun c_8 => ?_)
            · skip
              refine lv_aload_n hx hb d_K_Report_putNumber_18 rfl (lv_at hl 1 rfl) ?_
              refine lv_bipush (v := 48) hx hb d_K_Report_putNumber_19 (by decide) ?_
              refine lv_iload_n hx hb d_K_Report_putNumber_21 rfl (lv_at hl 2 rfl) ?_
              refine lv_iload_n hx hb d_K_Report_putNumber_22 rfl (lv_at hl 0 rfl) ?_
              refine lv_idiv hx hb d_K_Report_putNumber_23 (by decide) ?_
              refine lv_bipush (v := 10) hx hb d_K_Report_putNumber_24 (by decide) ?_
              refine lv_irem hx hb d_K_Report_putNumber_26 (by decide) ?_
              refine lv_iadd hx hb d_K_Report_putNumber_27 ?_
              refine lv_i2c hx hb d_K_Report_putNumber_28 rfl ?_
              have hpre_9 := kr_pre (wc := [(h, .inr (6, [.ref h_0, .int (nI (k_put (k_put P ((48 + ((n0 / 100) - (n0 / 100) / 10 * 10)).toUInt32 % 65536).toInt32) ((48 + ((n0 / 10) - (n0 / 10) / 10 * 10)).toUInt32 % 65536).toInt32).2)])), (h_0, .inl (cC, 256, .inl (k_put (k_put P ((48 + ((n0 / 100) - (n0 / 100) / 10 * 10)).toUInt32 % 65536).toInt32) ((48 + ((n0 / 10) - (n0 / 10) / 10 * 10)).toUInt32 % 65536).toInt32).1))]) (av := [.ref h, .int ((48 + ((n0 / 1) - (n0 / 1) / 10 * 10)).toUInt32 % 65536).toInt32]) hK hP hD hS hA hSt [0, 1] rfl (by decide)
              refine kj_v (wc := [(h, .inr (6, [.ref h_0, .int (nI (k_put (k_put P ((48 + ((n0 / 100) - (n0 / 100) / 10 * 10)).toUInt32 % 65536).toInt32) ((48 + ((n0 / 10) - (n0 / 10) / 10 * 10)).toUInt32 % 65536).toInt32).2)])), (h_0, .inl (cC, 256, .inl (k_put (k_put P ((48 + ((n0 / 100) - (n0 / 100) / 10 * 10)).toUInt32 % 65536).toInt32) ((48 + ((n0 / 10) - (n0 / 10) / 10 * 10)).toUInt32 % 65536).toInt32).1))]) (wr := []) (va_runV (As := [.int ((48 + ((n0 / 1) - (n0 / 1) / 10 * 10)).toUInt32 % 65536).toInt32]) (rest := []) ⟨hx, hb, hml, hown, hts⟩ (c_Report_put l dC dI cI cJ cC cZ σ h h_0 (k_put (k_put P ((48 + ((n0 / 100) - (n0 / 100) / 10 * 10)).toUInt32 % 65536).toInt32) ((48 + ((n0 / 10) - (n0 / 10) / 10 * 10)).toUInt32 % 65536).toInt32) ((48 + ((n0 / 1) - (n0 / 1) / 10 * 10)).toUInt32 % 65536).toInt32 (by repeat' (first | assumption | omega | apply k_pn_ok | apply k_pt_ok | apply k_put_ok)) (by first | rfl | exact pk_vc _ | exact kChr_nar _ _) _) ⟨(callB_of 1 hts (kg wq_441) rfl rfl rfl hini_K_Report hm_28 (by decide +kernel) ⟨Nat.le_of_ble_eq_true rfl, Nat.le_of_ble_eq_true rfl⟩), hi_28, hv_28⟩ ⟨hpre_9.1, (va_recv hK hP (ci := 6) (q0 := 0) rfl rfl), hpre_9.2⟩ rfl rfl hl.1 rfl (lv_room (Nat.le_of_ble_eq_true rfl)) d_K_Report_putNumber_29 ⟨Nat.le_of_ble_eq_true rfl, Nat.le_of_ble_eq_true rfl⟩) hP hD hS hA [0, 1] [] rfl rfl (by decide) (by decide) (fun _ H locs hP hD hS => ?_)
              have hP : va_P (dC, dI) vwCl [(h, .inr (6, [.ref h_0, .int (nI (k_put (k_put (k_put P ((48 + ((n0 / 100) - (n0 / 100) / 10 * 10)).toUInt32 % 65536).toInt32) ((48 + ((n0 / 10) - (n0 / 10) / 10 * 10)).toUInt32 % 65536).toInt32) ((48 + ((n0 / 1) - (n0 / 1) / 10 * 10)).toUInt32 % 65536).toInt32).2)])), (h_0, .inl (cC, 256, .inl (k_put (k_put (k_put P ((48 + ((n0 / 100) - (n0 / 100) / 10 * 10)).toUInt32 % 65536).toInt32) ((48 + ((n0 / 10) - (n0 / 10) / 10 * 10)).toUInt32 % 65536).toInt32) ((48 + ((n0 / 1) - (n0 / 1) / 10 * 10)).toUInt32 % 65536).toInt32).1))] H := hP
              have hD : va_D A [(h, .inr (6, [.ref h_0, .int (nI (k_put (k_put (k_put P ((48 + ((n0 / 100) - (n0 / 100) / 10 * 10)).toUInt32 % 65536).toInt32) ((48 + ((n0 / 10) - (n0 / 10) / 10 * 10)).toUInt32 % 65536).toInt32) ((48 + ((n0 / 1) - (n0 / 1) / 10 * 10)).toUInt32 % 65536).toInt32).2)])), (h_0, .inl (cC, 256, .inl (k_put (k_put (k_put P ((48 + ((n0 / 100) - (n0 / 100) / 10 * 10)).toUInt32 % 65536).toInt32) ((48 + ((n0 / 10) - (n0 / 10) / 10 * 10)).toUInt32 % 65536).toInt32) ((48 + ((n0 / 1) - (n0 / 1) / 10 * 10)).toUInt32 % 65536).toInt32).1))] := hD
              refine lv_iload_n hx hb d_K_Report_putNumber_32 rfl (lv_at hl 0 rfl) ?_
              refine lv_bipush (v := 10) hx hb d_K_Report_putNumber_33 (by decide) ?_
              refine lv_idiv hx hb d_K_Report_putNumber_35 (by decide) ?_
              refine kr_topi (x := (1 / 10 : Int32)) (y := 0) (by decide) ?_
              refine lv_istore_n (lv' := [(2, .int 0), (0, .ref h), (1, .int n0)]) hx hb d_K_Report_putNumber_36 rfl hl (by decide) rfl (fun ls hl => ?_)
              refine lv_goto (tgt := 3) hx hb d_K_Report_putNumber_37 (by decide) ?_
              refine lv_iload_n hx hb d_K_Report_putNumber_3 rfl (lv_at hl 0 rfl) ?_
              refine lv_iconst (v := 1) hx hb d_K_Report_putNumber_4 (by decide) ?_
              refine lv_icmp_lt (tgt := 40) hx hb d_K_Report_putNumber_5 (by decide) (fun c_10 => ?_) (fun c_10 => ?_)
              · skip
                have c_10 : 0 < 1 := (nI_ltI (a := 0) (b := 1) (by omega) (by omega)).mp c_10
                have hpost : k_pn P n0 = (k_put (k_put (k_put P ((48 + ((n0 / 100) - (n0 / 100) / 10 * 10)).toUInt32 % 65536).toInt32) ((48 + ((n0 / 10) - (n0 / 10) / 10 * 10)).toUInt32 % 65536).toInt32) ((48 + ((n0 / 1) - (n0 / 1) / 10 * 10)).toUInt32 % 65536).toInt32) := by simp only [k_pn, k_p10, k_p100, k_dg, if_pos c_2, if_pos c_5, if_pos c_8]
                have hP9 := hP.sub (ws' := [(h, .inr (6, [.ref h_0, .int (nI (k_put (k_put (k_put P ((48 + ((n0 / 100) - (n0 / 100) / 10 * 10)).toUInt32 % 65536).toInt32) ((48 + ((n0 / 10) - (n0 / 10) / 10 * 10)).toUInt32 % 65536).toInt32) ((48 + ((n0 / 1) - (n0 / 1) / 10 * 10)).toUInt32 % 65536).toInt32).2)])), (h_0, .inl (cC, 256, .inl (k_put (k_put (k_put P ((48 + ((n0 / 100) - (n0 / 100) / 10 * 10)).toUInt32 % 65536).toInt32) ((48 + ((n0 / 10) - (n0 / 10) / 10 * 10)).toUInt32 % 65536).toInt32) ((48 + ((n0 / 1) - (n0 / 1) / 10 * 10)).toUInt32 % 65536).toInt32).1))]) [0, 1] rfl
                have hD9 := hD.sub (ws' := [(h, .inr (6, [.ref h_0, .int (nI (k_put (k_put (k_put P ((48 + ((n0 / 100) - (n0 / 100) / 10 * 10)).toUInt32 % 65536).toInt32) ((48 + ((n0 / 10) - (n0 / 10) / 10 * 10)).toUInt32 % 65536).toInt32) ((48 + ((n0 / 1) - (n0 / 1) / 10 * 10)).toUInt32 % 65536).toInt32).2)])), (h_0, .inl (cC, 256, .inl (k_put (k_put (k_put P ((48 + ((n0 / 100) - (n0 / 100) / 10 * 10)).toUInt32 % 65536).toInt32) ((48 + ((n0 / 10) - (n0 / 10) / 10 * 10)).toUInt32 % 65536).toInt32) ((48 + ((n0 / 1) - (n0 / 1) / 10 * 10)).toUInt32 % 65536).toInt32).1))]) [0, 1] (by decide) rfl
                exact kr_vret hQ hx hb hr hlocks hK hP9 hD9 hS () (by show (wRep cI cJ cC cZ h h_0 (k_pn P n0) : va_W) = _; rw [hpost] <;> rfl) d_K_Report_putNumber_40
              · skip
                exact absurd c_10 (by decide)
            · skip
              refine lv_iload_n hx hb d_K_Report_putNumber_13 rfl (lv_at hl 0 rfl) ?_
              refine lv_iconst (v := 1) hx hb d_K_Report_putNumber_14 (by decide) ?_
              refine lv_icmp_ne (tgt := 32) hx hb d_K_Report_putNumber_15 (by decide) (fun c_11 => ?_) (fun c_11 => ?_)
              · skip
                exact absurd c_11 (by decide)
              · skip
                have c_11 : 1 = 1 := (nI_eq (a := 1) (b := 1) (by omega) (by omega)).mp c_11
                refine lv_aload_n hx hb d_K_Report_putNumber_18 rfl (lv_at hl 1 rfl) ?_
                refine lv_bipush (v := 48) hx hb d_K_Report_putNumber_19 (by decide) ?_
                refine lv_iload_n hx hb d_K_Report_putNumber_21 rfl (lv_at hl 2 rfl) ?_
                refine lv_iload_n hx hb d_K_Report_putNumber_22 rfl (lv_at hl 0 rfl) ?_
                refine lv_idiv hx hb d_K_Report_putNumber_23 (by decide) ?_
                refine lv_bipush (v := 10) hx hb d_K_Report_putNumber_24 (by decide) ?_
                refine lv_irem hx hb d_K_Report_putNumber_26 (by decide) ?_
                refine lv_iadd hx hb d_K_Report_putNumber_27 ?_
                refine lv_i2c hx hb d_K_Report_putNumber_28 rfl ?_
                have hpre_12 := kr_pre (wc := [(h, .inr (6, [.ref h_0, .int (nI (k_put (k_put P ((48 + ((n0 / 100) - (n0 / 100) / 10 * 10)).toUInt32 % 65536).toInt32) ((48 + ((n0 / 10) - (n0 / 10) / 10 * 10)).toUInt32 % 65536).toInt32).2)])), (h_0, .inl (cC, 256, .inl (k_put (k_put P ((48 + ((n0 / 100) - (n0 / 100) / 10 * 10)).toUInt32 % 65536).toInt32) ((48 + ((n0 / 10) - (n0 / 10) / 10 * 10)).toUInt32 % 65536).toInt32).1))]) (av := [.ref h, .int ((48 + ((n0 / 1) - (n0 / 1) / 10 * 10)).toUInt32 % 65536).toInt32]) hK hP hD hS hA hSt [0, 1] rfl (by decide)
                refine kj_v (wc := [(h, .inr (6, [.ref h_0, .int (nI (k_put (k_put P ((48 + ((n0 / 100) - (n0 / 100) / 10 * 10)).toUInt32 % 65536).toInt32) ((48 + ((n0 / 10) - (n0 / 10) / 10 * 10)).toUInt32 % 65536).toInt32).2)])), (h_0, .inl (cC, 256, .inl (k_put (k_put P ((48 + ((n0 / 100) - (n0 / 100) / 10 * 10)).toUInt32 % 65536).toInt32) ((48 + ((n0 / 10) - (n0 / 10) / 10 * 10)).toUInt32 % 65536).toInt32).1))]) (wr := []) (va_runV (As := [.int ((48 + ((n0 / 1) - (n0 / 1) / 10 * 10)).toUInt32 % 65536).toInt32]) (rest := []) ⟨hx, hb, hml, hown, hts⟩ (c_Report_put l dC dI cI cJ cC cZ σ h h_0 (k_put (k_put P ((48 + ((n0 / 100) - (n0 / 100) / 10 * 10)).toUInt32 % 65536).toInt32) ((48 + ((n0 / 10) - (n0 / 10) / 10 * 10)).toUInt32 % 65536).toInt32) ((48 + ((n0 / 1) - (n0 / 1) / 10 * 10)).toUInt32 % 65536).toInt32 (by repeat' (first | assumption | omega | apply k_pn_ok | apply k_pt_ok | apply k_put_ok)) (by first | rfl | exact pk_vc _ | exact kChr_nar _ _) _) ⟨(callB_of 1 hts (kg wq_441) rfl rfl rfl hini_K_Report hm_28 (by decide +kernel) ⟨Nat.le_of_ble_eq_true rfl, Nat.le_of_ble_eq_true rfl⟩), hi_28, hv_28⟩ ⟨hpre_12.1, (va_recv hK hP (ci := 6) (q0 := 0) rfl rfl), hpre_12.2⟩ rfl rfl hl.1 rfl (lv_room (Nat.le_of_ble_eq_true rfl)) d_K_Report_putNumber_29 ⟨Nat.le_of_ble_eq_true rfl, Nat.le_of_ble_eq_true rfl⟩) hP hD hS hA [0, 1] [] rfl rfl (by decide) (by decide) (fun _ H locs hP hD hS => ?_)
                have hP : va_P (dC, dI) vwCl [(h, .inr (6, [.ref h_0, .int (nI (k_put (k_put (k_put P ((48 + ((n0 / 100) - (n0 / 100) / 10 * 10)).toUInt32 % 65536).toInt32) ((48 + ((n0 / 10) - (n0 / 10) / 10 * 10)).toUInt32 % 65536).toInt32) ((48 + ((n0 / 1) - (n0 / 1) / 10 * 10)).toUInt32 % 65536).toInt32).2)])), (h_0, .inl (cC, 256, .inl (k_put (k_put (k_put P ((48 + ((n0 / 100) - (n0 / 100) / 10 * 10)).toUInt32 % 65536).toInt32) ((48 + ((n0 / 10) - (n0 / 10) / 10 * 10)).toUInt32 % 65536).toInt32) ((48 + ((n0 / 1) - (n0 / 1) / 10 * 10)).toUInt32 % 65536).toInt32).1))] H := hP
                have hD : va_D A [(h, .inr (6, [.ref h_0, .int (nI (k_put (k_put (k_put P ((48 + ((n0 / 100) - (n0 / 100) / 10 * 10)).toUInt32 % 65536).toInt32) ((48 + ((n0 / 10) - (n0 / 10) / 10 * 10)).toUInt32 % 65536).toInt32) ((48 + ((n0 / 1) - (n0 / 1) / 10 * 10)).toUInt32 % 65536).toInt32).2)])), (h_0, .inl (cC, 256, .inl (k_put (k_put (k_put P ((48 + ((n0 / 100) - (n0 / 100) / 10 * 10)).toUInt32 % 65536).toInt32) ((48 + ((n0 / 10) - (n0 / 10) / 10 * 10)).toUInt32 % 65536).toInt32) ((48 + ((n0 / 1) - (n0 / 1) / 10 * 10)).toUInt32 % 65536).toInt32).1))] := hD
                refine lv_iload_n hx hb d_K_Report_putNumber_32 rfl (lv_at hl 0 rfl) ?_
                refine lv_bipush (v := 10) hx hb d_K_Report_putNumber_33 (by decide) ?_
                refine lv_idiv hx hb d_K_Report_putNumber_35 (by decide) ?_
                refine kr_topi (x := (1 / 10 : Int32)) (y := 0) (by decide) ?_
                refine lv_istore_n (lv' := [(2, .int 0), (0, .ref h), (1, .int n0)]) hx hb d_K_Report_putNumber_36 rfl hl (by decide) rfl (fun ls hl => ?_)
                refine lv_goto (tgt := 3) hx hb d_K_Report_putNumber_37 (by decide) ?_
                refine lv_iload_n hx hb d_K_Report_putNumber_3 rfl (lv_at hl 0 rfl) ?_
                refine lv_iconst (v := 1) hx hb d_K_Report_putNumber_4 (by decide) ?_
                refine lv_icmp_lt (tgt := 40) hx hb d_K_Report_putNumber_5 (by decide) (fun c_13 => ?_) (fun c_13 => ?_)
                · skip
                  have c_13 : 0 < 1 := (nI_ltI (a := 0) (b := 1) (by omega) (by omega)).mp c_13
                  have hpost : k_pn P n0 = (k_put (k_put (k_put P ((48 + ((n0 / 100) - (n0 / 100) / 10 * 10)).toUInt32 % 65536).toInt32) ((48 + ((n0 / 10) - (n0 / 10) / 10 * 10)).toUInt32 % 65536).toInt32) ((48 + ((n0 / 1) - (n0 / 1) / 10 * 10)).toUInt32 % 65536).toInt32) := by simp only [k_pn, k_p10, k_p100, k_dg, if_pos c_2, if_pos c_5, if_neg c_8]
                  have hP9 := hP.sub (ws' := [(h, .inr (6, [.ref h_0, .int (nI (k_put (k_put (k_put P ((48 + ((n0 / 100) - (n0 / 100) / 10 * 10)).toUInt32 % 65536).toInt32) ((48 + ((n0 / 10) - (n0 / 10) / 10 * 10)).toUInt32 % 65536).toInt32) ((48 + ((n0 / 1) - (n0 / 1) / 10 * 10)).toUInt32 % 65536).toInt32).2)])), (h_0, .inl (cC, 256, .inl (k_put (k_put (k_put P ((48 + ((n0 / 100) - (n0 / 100) / 10 * 10)).toUInt32 % 65536).toInt32) ((48 + ((n0 / 10) - (n0 / 10) / 10 * 10)).toUInt32 % 65536).toInt32) ((48 + ((n0 / 1) - (n0 / 1) / 10 * 10)).toUInt32 % 65536).toInt32).1))]) [0, 1] rfl
                  have hD9 := hD.sub (ws' := [(h, .inr (6, [.ref h_0, .int (nI (k_put (k_put (k_put P ((48 + ((n0 / 100) - (n0 / 100) / 10 * 10)).toUInt32 % 65536).toInt32) ((48 + ((n0 / 10) - (n0 / 10) / 10 * 10)).toUInt32 % 65536).toInt32) ((48 + ((n0 / 1) - (n0 / 1) / 10 * 10)).toUInt32 % 65536).toInt32).2)])), (h_0, .inl (cC, 256, .inl (k_put (k_put (k_put P ((48 + ((n0 / 100) - (n0 / 100) / 10 * 10)).toUInt32 % 65536).toInt32) ((48 + ((n0 / 10) - (n0 / 10) / 10 * 10)).toUInt32 % 65536).toInt32) ((48 + ((n0 / 1) - (n0 / 1) / 10 * 10)).toUInt32 % 65536).toInt32).1))]) [0, 1] (by decide) rfl
                  exact kr_vret hQ hx hb hr hlocks hK hP9 hD9 hS () (by show (wRep cI cJ cC cZ h h_0 (k_pn P n0) : va_W) = _; rw [hpost] <;> rfl) d_K_Report_putNumber_40
                · skip
                  exact absurd c_13 (by decide)
        · skip
          refine lv_iload_n hx hb d_K_Report_putNumber_13 rfl (lv_at hl 0 rfl) ?_
          refine lv_iconst (v := 1) hx hb d_K_Report_putNumber_14 (by decide) ?_
          refine lv_icmp_ne (tgt := 32) hx hb d_K_Report_putNumber_15 (by decide) (fun c_14 => ?_) (fun c_14 => ?_)
          · skip
            have c_14 : ¬ 10 = 1 := fun h9 => c_14 ((nI_eq (a := 10) (b := 1) (by omega) (by omega)).mpr h9)
            refine lv_iload_n hx hb d_K_Report_putNumber_32 rfl (lv_at hl 0 rfl) ?_
            refine lv_bipush (v := 10) hx hb d_K_Report_putNumber_33 (by decide) ?_
            refine lv_idiv hx hb d_K_Report_putNumber_35 (by decide) ?_
            refine kr_topi (x := (10 / 10 : Int32)) (y := 1) (by decide) ?_
            refine lv_istore_n (lv' := [(2, .int 1), (0, .ref h), (1, .int n0)]) hx hb d_K_Report_putNumber_36 rfl hl (by decide) rfl (fun ls hl => ?_)
            refine lv_goto (tgt := 3) hx hb d_K_Report_putNumber_37 (by decide) ?_
            refine lv_iload_n hx hb d_K_Report_putNumber_3 rfl (lv_at hl 0 rfl) ?_
            refine lv_iconst (v := 1) hx hb d_K_Report_putNumber_4 (by decide) ?_
            refine lv_icmp_lt (tgt := 40) hx hb d_K_Report_putNumber_5 (by decide) (fun c_15 => ?_) (fun c_15 => ?_)
            · skip
              exact absurd c_15 (by decide)
            · skip
              have c_15 : ¬ 1 < 1 := fun h9 => c_15 ((nI_ltI (a := 1) (b := 1) (by omega) (by omega)).mpr h9)
              refine lv_iload_n hx hb d_K_Report_putNumber_8 rfl (lv_at hl 2 rfl) ?_
              refine lv_iload_n hx hb d_K_Report_putNumber_9 rfl (lv_at hl 0 rfl) ?_
              refine lv_icmp_ge (tgt := 18) hx hb d_K_Report_putNumber_10 (by decide) (fun c_16 => ?_) (fun c_16 => ?_)
              · skip
                refine lv_aload_n hx hb d_K_Report_putNumber_18 rfl (lv_at hl 1 rfl) ?_
                refine lv_bipush (v := 48) hx hb d_K_Report_putNumber_19 (by decide) ?_
                refine lv_iload_n hx hb d_K_Report_putNumber_21 rfl (lv_at hl 2 rfl) ?_
                refine lv_iload_n hx hb d_K_Report_putNumber_22 rfl (lv_at hl 0 rfl) ?_
                refine lv_idiv hx hb d_K_Report_putNumber_23 (by decide) ?_
                refine lv_bipush (v := 10) hx hb d_K_Report_putNumber_24 (by decide) ?_
                refine lv_irem hx hb d_K_Report_putNumber_26 (by decide) ?_
                refine lv_iadd hx hb d_K_Report_putNumber_27 ?_
                refine lv_i2c hx hb d_K_Report_putNumber_28 rfl ?_
                have hpre_17 := kr_pre (wc := [(h, .inr (6, [.ref h_0, .int (nI (k_put P ((48 + ((n0 / 100) - (n0 / 100) / 10 * 10)).toUInt32 % 65536).toInt32).2)])), (h_0, .inl (cC, 256, .inl (k_put P ((48 + ((n0 / 100) - (n0 / 100) / 10 * 10)).toUInt32 % 65536).toInt32).1))]) (av := [.ref h, .int ((48 + ((n0 / 1) - (n0 / 1) / 10 * 10)).toUInt32 % 65536).toInt32]) hK hP hD hS hA hSt [0, 1] rfl (by decide)
                refine kj_v (wc := [(h, .inr (6, [.ref h_0, .int (nI (k_put P ((48 + ((n0 / 100) - (n0 / 100) / 10 * 10)).toUInt32 % 65536).toInt32).2)])), (h_0, .inl (cC, 256, .inl (k_put P ((48 + ((n0 / 100) - (n0 / 100) / 10 * 10)).toUInt32 % 65536).toInt32).1))]) (wr := []) (va_runV (As := [.int ((48 + ((n0 / 1) - (n0 / 1) / 10 * 10)).toUInt32 % 65536).toInt32]) (rest := []) ⟨hx, hb, hml, hown, hts⟩ (c_Report_put l dC dI cI cJ cC cZ σ h h_0 (k_put P ((48 + ((n0 / 100) - (n0 / 100) / 10 * 10)).toUInt32 % 65536).toInt32) ((48 + ((n0 / 1) - (n0 / 1) / 10 * 10)).toUInt32 % 65536).toInt32 (by repeat' (first | assumption | omega | apply k_pn_ok | apply k_pt_ok | apply k_put_ok)) (by first | rfl | exact pk_vc _ | exact kChr_nar _ _) _) ⟨(callB_of 1 hts (kg wq_441) rfl rfl rfl hini_K_Report hm_28 (by decide +kernel) ⟨Nat.le_of_ble_eq_true rfl, Nat.le_of_ble_eq_true rfl⟩), hi_28, hv_28⟩ ⟨hpre_17.1, (va_recv hK hP (ci := 6) (q0 := 0) rfl rfl), hpre_17.2⟩ rfl rfl hl.1 rfl (lv_room (Nat.le_of_ble_eq_true rfl)) d_K_Report_putNumber_29 ⟨Nat.le_of_ble_eq_true rfl, Nat.le_of_ble_eq_true rfl⟩) hP hD hS hA [0, 1] [] rfl rfl (by decide) (by decide) (fun _ H locs hP hD hS => ?_)
                have hP : va_P (dC, dI) vwCl [(h, .inr (6, [.ref h_0, .int (nI (k_put (k_put P ((48 + ((n0 / 100) - (n0 / 100) / 10 * 10)).toUInt32 % 65536).toInt32) ((48 + ((n0 / 1) - (n0 / 1) / 10 * 10)).toUInt32 % 65536).toInt32).2)])), (h_0, .inl (cC, 256, .inl (k_put (k_put P ((48 + ((n0 / 100) - (n0 / 100) / 10 * 10)).toUInt32 % 65536).toInt32) ((48 + ((n0 / 1) - (n0 / 1) / 10 * 10)).toUInt32 % 65536).toInt32).1))] H := hP
                have hD : va_D A [(h, .inr (6, [.ref h_0, .int (nI (k_put (k_put P ((48 + ((n0 / 100) - (n0 / 100) / 10 * 10)).toUInt32 % 65536).toInt32) ((48 + ((n0 / 1) - (n0 / 1) / 10 * 10)).toUInt32 % 65536).toInt32).2)])), (h_0, .inl (cC, 256, .inl (k_put (k_put P ((48 + ((n0 / 100) - (n0 / 100) / 10 * 10)).toUInt32 % 65536).toInt32) ((48 + ((n0 / 1) - (n0 / 1) / 10 * 10)).toUInt32 % 65536).toInt32).1))] := hD
                refine lv_iload_n hx hb d_K_Report_putNumber_32 rfl (lv_at hl 0 rfl) ?_
                refine lv_bipush (v := 10) hx hb d_K_Report_putNumber_33 (by decide) ?_
                refine lv_idiv hx hb d_K_Report_putNumber_35 (by decide) ?_
                refine kr_topi (x := (1 / 10 : Int32)) (y := 0) (by decide) ?_
                refine lv_istore_n (lv' := [(2, .int 0), (0, .ref h), (1, .int n0)]) hx hb d_K_Report_putNumber_36 rfl hl (by decide) rfl (fun ls hl => ?_)
                refine lv_goto (tgt := 3) hx hb d_K_Report_putNumber_37 (by decide) ?_
                refine lv_iload_n hx hb d_K_Report_putNumber_3 rfl (lv_at hl 0 rfl) ?_
                refine lv_iconst (v := 1) hx hb d_K_Report_putNumber_4 (by decide) ?_
                refine lv_icmp_lt (tgt := 40) hx hb d_K_Report_putNumber_5 (by decide) (fun c_18 => ?_) (fun c_18 => ?_)
                · skip
                  have c_18 : 0 < 1 := (nI_ltI (a := 0) (b := 1) (by omega) (by omega)).mp c_18
                  have hpost : k_pn P n0 = (k_put (k_put P ((48 + ((n0 / 100) - (n0 / 100) / 10 * 10)).toUInt32 % 65536).toInt32) ((48 + ((n0 / 1) - (n0 / 1) / 10 * 10)).toUInt32 % 65536).toInt32) := by simp only [k_pn, k_p10, k_p100, k_dg, if_pos c_2, if_neg c_5, if_pos c_16]
                  have hP9 := hP.sub (ws' := [(h, .inr (6, [.ref h_0, .int (nI (k_put (k_put P ((48 + ((n0 / 100) - (n0 / 100) / 10 * 10)).toUInt32 % 65536).toInt32) ((48 + ((n0 / 1) - (n0 / 1) / 10 * 10)).toUInt32 % 65536).toInt32).2)])), (h_0, .inl (cC, 256, .inl (k_put (k_put P ((48 + ((n0 / 100) - (n0 / 100) / 10 * 10)).toUInt32 % 65536).toInt32) ((48 + ((n0 / 1) - (n0 / 1) / 10 * 10)).toUInt32 % 65536).toInt32).1))]) [0, 1] rfl
                  have hD9 := hD.sub (ws' := [(h, .inr (6, [.ref h_0, .int (nI (k_put (k_put P ((48 + ((n0 / 100) - (n0 / 100) / 10 * 10)).toUInt32 % 65536).toInt32) ((48 + ((n0 / 1) - (n0 / 1) / 10 * 10)).toUInt32 % 65536).toInt32).2)])), (h_0, .inl (cC, 256, .inl (k_put (k_put P ((48 + ((n0 / 100) - (n0 / 100) / 10 * 10)).toUInt32 % 65536).toInt32) ((48 + ((n0 / 1) - (n0 / 1) / 10 * 10)).toUInt32 % 65536).toInt32).1))]) [0, 1] (by decide) rfl
                  exact kr_vret hQ hx hb hr hlocks hK hP9 hD9 hS () (by show (wRep cI cJ cC cZ h h_0 (k_pn P n0) : va_W) = _; rw [hpost] <;> rfl) d_K_Report_putNumber_40
                · skip
                  exact absurd c_18 (by decide)
              · skip
                refine lv_iload_n hx hb d_K_Report_putNumber_13 rfl (lv_at hl 0 rfl) ?_
                refine lv_iconst (v := 1) hx hb d_K_Report_putNumber_14 (by decide) ?_
                refine lv_icmp_ne (tgt := 32) hx hb d_K_Report_putNumber_15 (by decide) (fun c_19 => ?_) (fun c_19 => ?_)
                · skip
                  exact absurd c_19 (by decide)
                · skip
                  have c_19 : 1 = 1 := (nI_eq (a := 1) (b := 1) (by omega) (by omega)).mp c_19
                  refine lv_aload_n hx hb d_K_Report_putNumber_18 rfl (lv_at hl 1 rfl) ?_
                  refine lv_bipush (v := 48) hx hb d_K_Report_putNumber_19 (by decide) ?_
                  refine lv_iload_n hx hb d_K_Report_putNumber_21 rfl (lv_at hl 2 rfl) ?_
                  refine lv_iload_n hx hb d_K_Report_putNumber_22 rfl (lv_at hl 0 rfl) ?_
                  refine lv_idiv hx hb d_K_Report_putNumber_23 (by decide) ?_
                  refine lv_bipush (v := 10) hx hb d_K_Report_putNumber_24 (by decide) ?_
                  refine lv_irem hx hb d_K_Report_putNumber_26 (by decide) ?_
                  refine lv_iadd hx hb d_K_Report_putNumber_27 ?_
                  refine lv_i2c hx hb d_K_Report_putNumber_28 rfl ?_
                  have hpre_20 := kr_pre (wc := [(h, .inr (6, [.ref h_0, .int (nI (k_put P ((48 + ((n0 / 100) - (n0 / 100) / 10 * 10)).toUInt32 % 65536).toInt32).2)])), (h_0, .inl (cC, 256, .inl (k_put P ((48 + ((n0 / 100) - (n0 / 100) / 10 * 10)).toUInt32 % 65536).toInt32).1))]) (av := [.ref h, .int ((48 + ((n0 / 1) - (n0 / 1) / 10 * 10)).toUInt32 % 65536).toInt32]) hK hP hD hS hA hSt [0, 1] rfl (by decide)
                  refine kj_v (wc := [(h, .inr (6, [.ref h_0, .int (nI (k_put P ((48 + ((n0 / 100) - (n0 / 100) / 10 * 10)).toUInt32 % 65536).toInt32).2)])), (h_0, .inl (cC, 256, .inl (k_put P ((48 + ((n0 / 100) - (n0 / 100) / 10 * 10)).toUInt32 % 65536).toInt32).1))]) (wr := []) (va_runV (As := [.int ((48 + ((n0 / 1) - (n0 / 1) / 10 * 10)).toUInt32 % 65536).toInt32]) (rest := []) ⟨hx, hb, hml, hown, hts⟩ (c_Report_put l dC dI cI cJ cC cZ σ h h_0 (k_put P ((48 + ((n0 / 100) - (n0 / 100) / 10 * 10)).toUInt32 % 65536).toInt32) ((48 + ((n0 / 1) - (n0 / 1) / 10 * 10)).toUInt32 % 65536).toInt32 (by repeat' (first | assumption | omega | apply k_pn_ok | apply k_pt_ok | apply k_put_ok)) (by first | rfl | exact pk_vc _ | exact kChr_nar _ _) _) ⟨(callB_of 1 hts (kg wq_441) rfl rfl rfl hini_K_Report hm_28 (by decide +kernel) ⟨Nat.le_of_ble_eq_true rfl, Nat.le_of_ble_eq_true rfl⟩), hi_28, hv_28⟩ ⟨hpre_20.1, (va_recv hK hP (ci := 6) (q0 := 0) rfl rfl), hpre_20.2⟩ rfl rfl hl.1 rfl (lv_room (Nat.le_of_ble_eq_true rfl)) d_K_Report_putNumber_29 ⟨Nat.le_of_ble_eq_true rfl, Nat.le_of_ble_eq_true rfl⟩) hP hD hS hA [0, 1] [] rfl rfl (by decide) (by decide) (fun _ H locs hP hD hS => ?_)
                  have hP : va_P (dC, dI) vwCl [(h, .inr (6, [.ref h_0, .int (nI (k_put (k_put P ((48 + ((n0 / 100) - (n0 / 100) / 10 * 10)).toUInt32 % 65536).toInt32) ((48 + ((n0 / 1) - (n0 / 1) / 10 * 10)).toUInt32 % 65536).toInt32).2)])), (h_0, .inl (cC, 256, .inl (k_put (k_put P ((48 + ((n0 / 100) - (n0 / 100) / 10 * 10)).toUInt32 % 65536).toInt32) ((48 + ((n0 / 1) - (n0 / 1) / 10 * 10)).toUInt32 % 65536).toInt32).1))] H := hP
                  have hD : va_D A [(h, .inr (6, [.ref h_0, .int (nI (k_put (k_put P ((48 + ((n0 / 100) - (n0 / 100) / 10 * 10)).toUInt32 % 65536).toInt32) ((48 + ((n0 / 1) - (n0 / 1) / 10 * 10)).toUInt32 % 65536).toInt32).2)])), (h_0, .inl (cC, 256, .inl (k_put (k_put P ((48 + ((n0 / 100) - (n0 / 100) / 10 * 10)).toUInt32 % 65536).toInt32) ((48 + ((n0 / 1) - (n0 / 1) / 10 * 10)).toUInt32 % 65536).toInt32).1))] := hD
                  refine lv_iload_n hx hb d_K_Report_putNumber_32 rfl (lv_at hl 0 rfl) ?_
                  refine lv_bipush (v := 10) hx hb d_K_Report_putNumber_33 (by decide) ?_
                  refine lv_idiv hx hb d_K_Report_putNumber_35 (by decide) ?_
                  refine kr_topi (x := (1 / 10 : Int32)) (y := 0) (by decide) ?_
                  refine lv_istore_n (lv' := [(2, .int 0), (0, .ref h), (1, .int n0)]) hx hb d_K_Report_putNumber_36 rfl hl (by decide) rfl (fun ls hl => ?_)
                  refine lv_goto (tgt := 3) hx hb d_K_Report_putNumber_37 (by decide) ?_
                  refine lv_iload_n hx hb d_K_Report_putNumber_3 rfl (lv_at hl 0 rfl) ?_
                  refine lv_iconst (v := 1) hx hb d_K_Report_putNumber_4 (by decide) ?_
                  refine lv_icmp_lt (tgt := 40) hx hb d_K_Report_putNumber_5 (by decide) (fun c_21 => ?_) (fun c_21 => ?_)
                  · skip
                    have c_21 : 0 < 1 := (nI_ltI (a := 0) (b := 1) (by omega) (by omega)).mp c_21
                    have hpost : k_pn P n0 = (k_put (k_put P ((48 + ((n0 / 100) - (n0 / 100) / 10 * 10)).toUInt32 % 65536).toInt32) ((48 + ((n0 / 1) - (n0 / 1) / 10 * 10)).toUInt32 % 65536).toInt32) := by simp only [k_pn, k_p10, k_p100, k_dg, if_pos c_2, if_neg c_5, if_neg c_16]
                    have hP9 := hP.sub (ws' := [(h, .inr (6, [.ref h_0, .int (nI (k_put (k_put P ((48 + ((n0 / 100) - (n0 / 100) / 10 * 10)).toUInt32 % 65536).toInt32) ((48 + ((n0 / 1) - (n0 / 1) / 10 * 10)).toUInt32 % 65536).toInt32).2)])), (h_0, .inl (cC, 256, .inl (k_put (k_put P ((48 + ((n0 / 100) - (n0 / 100) / 10 * 10)).toUInt32 % 65536).toInt32) ((48 + ((n0 / 1) - (n0 / 1) / 10 * 10)).toUInt32 % 65536).toInt32).1))]) [0, 1] rfl
                    have hD9 := hD.sub (ws' := [(h, .inr (6, [.ref h_0, .int (nI (k_put (k_put P ((48 + ((n0 / 100) - (n0 / 100) / 10 * 10)).toUInt32 % 65536).toInt32) ((48 + ((n0 / 1) - (n0 / 1) / 10 * 10)).toUInt32 % 65536).toInt32).2)])), (h_0, .inl (cC, 256, .inl (k_put (k_put P ((48 + ((n0 / 100) - (n0 / 100) / 10 * 10)).toUInt32 % 65536).toInt32) ((48 + ((n0 / 1) - (n0 / 1) / 10 * 10)).toUInt32 % 65536).toInt32).1))]) [0, 1] (by decide) rfl
                    exact kr_vret hQ hx hb hr hlocks hK hP9 hD9 hS () (by show (wRep cI cJ cC cZ h h_0 (k_pn P n0) : va_W) = _; rw [hpost] <;> rfl) d_K_Report_putNumber_40
                  · skip
                    exact absurd c_21 (by decide)
          · skip
            exact absurd c_14 (by decide)
    · skip
      refine lv_iload_n hx hb d_K_Report_putNumber_13 rfl (lv_at hl 0 rfl) ?_
      refine lv_iconst (v := 1) hx hb d_K_Report_putNumber_14 (by decide) ?_
      refine lv_icmp_ne (tgt := 32) hx hb d_K_Report_putNumber_15 (by decide) (fun c_22 => ?_) (fun c_22 => ?_)
      · skip
        have c_22 : ¬ 100 = 1 := fun h9 => c_22 ((nI_eq (a := 100) (b := 1) (by omega) (by omega)).mpr h9)
        refine lv_iload_n hx hb d_K_Report_putNumber_32 rfl (lv_at hl 0 rfl) ?_
        refine lv_bipush (v := 10) hx hb d_K_Report_putNumber_33 (by decide) ?_
        refine lv_idiv hx hb d_K_Report_putNumber_35 (by decide) ?_
        refine kr_topi (x := (100 / 10 : Int32)) (y := 10) (by decide) ?_
        refine lv_istore_n (lv' := [(2, .int 10), (0, .ref h), (1, .int n0)]) hx hb d_K_Report_putNumber_36 rfl hl (by decide) rfl (fun ls hl => ?_)
        refine lv_goto (tgt := 3) hx hb d_K_Report_putNumber_37 (by decide) ?_
        refine lv_iload_n hx hb d_K_Report_putNumber_3 rfl (lv_at hl 0 rfl) ?_
        refine lv_iconst (v := 1) hx hb d_K_Report_putNumber_4 (by decide) ?_
        refine lv_icmp_lt (tgt := 40) hx hb d_K_Report_putNumber_5 (by decide) (fun c_23 => ?_) (fun c_23 => ?_)
        · skip
          exact absurd c_23 (by decide)
        · skip
          have c_23 : ¬ 10 < 1 := fun h9 => c_23 ((nI_ltI (a := 10) (b := 1) (by omega) (by omega)).mpr h9)
          refine lv_iload_n hx hb d_K_Report_putNumber_8 rfl (lv_at hl 2 rfl) ?_
          refine lv_iload_n hx hb d_K_Report_putNumber_9 rfl (lv_at hl 0 rfl) ?_
          refine lv_icmp_ge (tgt := 18) hx hb d_K_Report_putNumber_10 (by decide) (fun c_24 => ?_) (fun c_24 => ?_)
          · skip
            refine lv_aload_n hx hb d_K_Report_putNumber_18 rfl (lv_at hl 1 rfl) ?_
            refine lv_bipush (v := 48) hx hb d_K_Report_putNumber_19 (by decide) ?_
            refine lv_iload_n hx hb d_K_Report_putNumber_21 rfl (lv_at hl 2 rfl) ?_
            refine lv_iload_n hx hb d_K_Report_putNumber_22 rfl (lv_at hl 0 rfl) ?_
            refine lv_idiv hx hb d_K_Report_putNumber_23 (by decide) ?_
            refine lv_bipush (v := 10) hx hb d_K_Report_putNumber_24 (by decide) ?_
            refine lv_irem hx hb d_K_Report_putNumber_26 (by decide) ?_
            refine lv_iadd hx hb d_K_Report_putNumber_27 ?_
            refine lv_i2c hx hb d_K_Report_putNumber_28 rfl ?_
            have hpre_25 := kr_pre (wc := [(h, .inr (6, [.ref h_0, .int (nI P.2)])), (h_0, .inl (cC, 256, .inl P.1))]) (av := [.ref h, .int ((48 + ((n0 / 10) - (n0 / 10) / 10 * 10)).toUInt32 % 65536).toInt32]) hK hP hD hS hA hSt [0, 1] rfl (by decide)
            refine kj_v (wc := [(h, .inr (6, [.ref h_0, .int (nI P.2)])), (h_0, .inl (cC, 256, .inl P.1))]) (wr := []) (va_runV (As := [.int ((48 + ((n0 / 10) - (n0 / 10) / 10 * 10)).toUInt32 % 65536).toInt32]) (rest := []) ⟨hx, hb, hml, hown, hts⟩ (c_Report_put l dC dI cI cJ cC cZ σ h h_0 P ((48 + ((n0 / 10) - (n0 / 10) / 10 * 10)).toUInt32 % 65536).toInt32 (by repeat' (first | assumption | omega | apply k_pn_ok | apply k_pt_ok | apply k_put_ok)) (by first | rfl | exact pk_vc _ | exact kChr_nar _ _) _) ⟨(callB_of 1 hts (kg wq_441) rfl rfl rfl hini_K_Report hm_28 (by decide +kernel) ⟨Nat.le_of_ble_eq_true rfl, Nat.le_of_ble_eq_true rfl⟩), hi_28, hv_28⟩ ⟨hpre_25.1, (va_recv hK hP (ci := 6) (q0 := 0) rfl rfl), hpre_25.2⟩ rfl rfl hl.1 rfl (lv_room (Nat.le_of_ble_eq_true rfl)) d_K_Report_putNumber_29 ⟨Nat.le_of_ble_eq_true rfl, Nat.le_of_ble_eq_true rfl⟩) hP hD hS hA [0, 1] [] rfl rfl (by decide) (by decide) (fun _ H locs hP hD hS => ?_)
            have hP : va_P (dC, dI) vwCl [(h, .inr (6, [.ref h_0, .int (nI (k_put P ((48 + ((n0 / 10) - (n0 / 10) / 10 * 10)).toUInt32 % 65536).toInt32).2)])), (h_0, .inl (cC, 256, .inl (k_put P ((48 + ((n0 / 10) - (n0 / 10) / 10 * 10)).toUInt32 % 65536).toInt32).1))] H := hP
            have hD : va_D A [(h, .inr (6, [.ref h_0, .int (nI (k_put P ((48 + ((n0 / 10) - (n0 / 10) / 10 * 10)).toUInt32 % 65536).toInt32).2)])), (h_0, .inl (cC, 256, .inl (k_put P ((48 + ((n0 / 10) - (n0 / 10) / 10 * 10)).toUInt32 % 65536).toInt32).1))] := hD
            refine lv_iload_n hx hb d_K_Report_putNumber_32 rfl (lv_at hl 0 rfl) ?_
            refine lv_bipush (v := 10) hx hb d_K_Report_putNumber_33 (by decide) ?_
            refine lv_idiv hx hb d_K_Report_putNumber_35 (by decide) ?_
            refine kr_topi (x := (10 / 10 : Int32)) (y := 1) (by decide) ?_
            refine lv_istore_n (lv' := [(2, .int 1), (0, .ref h), (1, .int n0)]) hx hb d_K_Report_putNumber_36 rfl hl (by decide) rfl (fun ls hl => ?_)
            refine lv_goto (tgt := 3) hx hb d_K_Report_putNumber_37 (by decide) ?_
            refine lv_iload_n hx hb d_K_Report_putNumber_3 rfl (lv_at hl 0 rfl) ?_
            refine lv_iconst (v := 1) hx hb d_K_Report_putNumber_4 (by decide) ?_
            refine lv_icmp_lt (tgt := 40) hx hb d_K_Report_putNumber_5 (by decide) (fun c_26 => ?_) (fun c_26 => ?_)
            · skip
              exact absurd c_26 (by decide)
            · skip
              have c_26 : ¬ 1 < 1 := fun h9 => c_26 ((nI_ltI (a := 1) (b := 1) (by omega) (by omega)).mpr h9)
              refine lv_iload_n hx hb d_K_Report_putNumber_8 rfl (lv_at hl 2 rfl) ?_
              refine lv_iload_n hx hb d_K_Report_putNumber_9 rfl (lv_at hl 0 rfl) ?_
              refine lv_icmp_ge (tgt := 18) hx hb d_K_Report_putNumber_10 (by decide) (fun c_27 => ?_) (fun c_27 => ?_)
              · skip
                refine lv_aload_n hx hb d_K_Report_putNumber_18 rfl (lv_at hl 1 rfl) ?_
                refine lv_bipush (v := 48) hx hb d_K_Report_putNumber_19 (by decide) ?_
                refine lv_iload_n hx hb d_K_Report_putNumber_21 rfl (lv_at hl 2 rfl) ?_
                refine lv_iload_n hx hb d_K_Report_putNumber_22 rfl (lv_at hl 0 rfl) ?_
                refine lv_idiv hx hb d_K_Report_putNumber_23 (by decide) ?_
                refine lv_bipush (v := 10) hx hb d_K_Report_putNumber_24 (by decide) ?_
                refine lv_irem hx hb d_K_Report_putNumber_26 (by decide) ?_
                refine lv_iadd hx hb d_K_Report_putNumber_27 ?_
                refine lv_i2c hx hb d_K_Report_putNumber_28 rfl ?_
                have hpre_28 := kr_pre (wc := [(h, .inr (6, [.ref h_0, .int (nI (k_put P ((48 + ((n0 / 10) - (n0 / 10) / 10 * 10)).toUInt32 % 65536).toInt32).2)])), (h_0, .inl (cC, 256, .inl (k_put P ((48 + ((n0 / 10) - (n0 / 10) / 10 * 10)).toUInt32 % 65536).toInt32).1))]) (av := [.ref h, .int ((48 + ((n0 / 1) - (n0 / 1) / 10 * 10)).toUInt32 % 65536).toInt32]) hK hP hD hS hA hSt [0, 1] rfl (by decide)
                refine kj_v (wc := [(h, .inr (6, [.ref h_0, .int (nI (k_put P ((48 + ((n0 / 10) - (n0 / 10) / 10 * 10)).toUInt32 % 65536).toInt32).2)])), (h_0, .inl (cC, 256, .inl (k_put P ((48 + ((n0 / 10) - (n0 / 10) / 10 * 10)).toUInt32 % 65536).toInt32).1))]) (wr := []) (va_runV (As := [.int ((48 + ((n0 / 1) - (n0 / 1) / 10 * 10)).toUInt32 % 65536).toInt32]) (rest := []) ⟨hx, hb, hml, hown, hts⟩ (c_Report_put l dC dI cI cJ cC cZ σ h h_0 (k_put P ((48 + ((n0 / 10) - (n0 / 10) / 10 * 10)).toUInt32 % 65536).toInt32) ((48 + ((n0 / 1) - (n0 / 1) / 10 * 10)).toUInt32 % 65536).toInt32 (by repeat' (first | assumption | omega | apply k_pn_ok | apply k_pt_ok | apply k_put_ok)) (by first | rfl | exact pk_vc _ | exact kChr_nar _ _) _) ⟨(callB_of 1 hts (kg wq_441) rfl rfl rfl hini_K_Report hm_28 (by decide +kernel) ⟨Nat.le_of_ble_eq_true rfl, Nat.le_of_ble_eq_true rfl⟩), hi_28, hv_28⟩ ⟨hpre_28.1, (va_recv hK hP (ci := 6) (q0 := 0) rfl rfl), hpre_28.2⟩ rfl rfl hl.1 rfl (lv_room (Nat.le_of_ble_eq_true rfl)) d_K_Report_putNumber_29 ⟨Nat.le_of_ble_eq_true rfl, Nat.le_of_ble_eq_true rfl⟩) hP hD hS hA [0, 1] [] rfl rfl (by decide) (by decide) (fun _ H locs hP hD hS => ?_)
                have hP : va_P (dC, dI) vwCl [(h, .inr (6, [.ref h_0, .int (nI (k_put (k_put P ((48 + ((n0 / 10) - (n0 / 10) / 10 * 10)).toUInt32 % 65536).toInt32) ((48 + ((n0 / 1) - (n0 / 1) / 10 * 10)).toUInt32 % 65536).toInt32).2)])), (h_0, .inl (cC, 256, .inl (k_put (k_put P ((48 + ((n0 / 10) - (n0 / 10) / 10 * 10)).toUInt32 % 65536).toInt32) ((48 + ((n0 / 1) - (n0 / 1) / 10 * 10)).toUInt32 % 65536).toInt32).1))] H := hP
                have hD : va_D A [(h, .inr (6, [.ref h_0, .int (nI (k_put (k_put P ((48 + ((n0 / 10) - (n0 / 10) / 10 * 10)).toUInt32 % 65536).toInt32) ((48 + ((n0 / 1) - (n0 / 1) / 10 * 10)).toUInt32 % 65536).toInt32).2)])), (h_0, .inl (cC, 256, .inl (k_put (k_put P ((48 + ((n0 / 10) - (n0 / 10) / 10 * 10)).toUInt32 % 65536).toInt32) ((48 + ((n0 / 1) - (n0 / 1) / 10 * 10)).toUInt32 % 65536).toInt32).1))] := hD
                refine lv_iload_n hx hb d_K_Report_putNumber_32 rfl (lv_at hl 0 rfl) ?_
                refine lv_bipush (v := 10) hx hb d_K_Report_putNumber_33 (by decide) ?_
                refine lv_idiv hx hb d_K_Report_putNumber_35 (by decide) ?_
                refine kr_topi (x := (1 / 10 : Int32)) (y := 0) (by decide) ?_
                refine lv_istore_n (lv' := [(2, .int 0), (0, .ref h), (1, .int n0)]) hx hb d_K_Report_putNumber_36 rfl hl (by decide) rfl (fun ls hl => ?_)
                refine lv_goto (tgt := 3) hx hb d_K_Report_putNumber_37 (by decide) ?_
                refine lv_iload_n hx hb d_K_Report_putNumber_3 rfl (lv_at hl 0 rfl) ?_
                refine lv_iconst (v := 1) hx hb d_K_Report_putNumber_4 (by decide) ?_
                refine lv_icmp_lt (tgt := 40) hx hb d_K_Report_putNumber_5 (by decide) (fun c_29 => ?_) (fun c_29 => ?_)
                · skip
                  have c_29 : 0 < 1 := (nI_ltI (a := 0) (b := 1) (by omega) (by omega)).mp c_29
                  have hpost : k_pn P n0 = (k_put (k_put P ((48 + ((n0 / 10) - (n0 / 10) / 10 * 10)).toUInt32 % 65536).toInt32) ((48 + ((n0 / 1) - (n0 / 1) / 10 * 10)).toUInt32 % 65536).toInt32) := by simp only [k_pn, k_p10, k_p100, k_dg, if_neg c_2, if_pos c_24, if_pos c_27]
                  have hP9 := hP.sub (ws' := [(h, .inr (6, [.ref h_0, .int (nI (k_put (k_put P ((48 + ((n0 / 10) - (n0 / 10) / 10 * 10)).toUInt32 % 65536).toInt32) ((48 + ((n0 / 1) - (n0 / 1) / 10 * 10)).toUInt32 % 65536).toInt32).2)])), (h_0, .inl (cC, 256, .inl (k_put (k_put P ((48 + ((n0 / 10) - (n0 / 10) / 10 * 10)).toUInt32 % 65536).toInt32) ((48 + ((n0 / 1) - (n0 / 1) / 10 * 10)).toUInt32 % 65536).toInt32).1))]) [0, 1] rfl
                  have hD9 := hD.sub (ws' := [(h, .inr (6, [.ref h_0, .int (nI (k_put (k_put P ((48 + ((n0 / 10) - (n0 / 10) / 10 * 10)).toUInt32 % 65536).toInt32) ((48 + ((n0 / 1) - (n0 / 1) / 10 * 10)).toUInt32 % 65536).toInt32).2)])), (h_0, .inl (cC, 256, .inl (k_put (k_put P ((48 + ((n0 / 10) - (n0 / 10) / 10 * 10)).toUInt32 % 65536).toInt32) ((48 + ((n0 / 1) - (n0 / 1) / 10 * 10)).toUInt32 % 65536).toInt32).1))]) [0, 1] (by decide) rfl
                  exact kr_vret hQ hx hb hr hlocks hK hP9 hD9 hS () (by show (wRep cI cJ cC cZ h h_0 (k_pn P n0) : va_W) = _; rw [hpost] <;> rfl) d_K_Report_putNumber_40
                · skip
                  exact absurd c_29 (by decide)
              · skip
                refine lv_iload_n hx hb d_K_Report_putNumber_13 rfl (lv_at hl 0 rfl) ?_
                refine lv_iconst (v := 1) hx hb d_K_Report_putNumber_14 (by decide) ?_
                refine lv_icmp_ne (tgt := 32) hx hb d_K_Report_putNumber_15 (by decide) (fun c_30 => ?_) (fun c_30 => ?_)
                · skip
                  exact absurd c_30 (by decide)
                · skip
                  have c_30 : 1 = 1 := (nI_eq (a := 1) (b := 1) (by omega) (by omega)).mp c_30
                  refine lv_aload_n hx hb d_K_Report_putNumber_18 rfl (lv_at hl 1 rfl) ?_
                  refine lv_bipush (v := 48) hx hb d_K_Report_putNumber_19 (by decide) ?_
                  refine lv_iload_n hx hb d_K_Report_putNumber_21 rfl (lv_at hl 2 rfl) ?_
                  refine lv_iload_n hx hb d_K_Report_putNumber_22 rfl (lv_at hl 0 rfl) ?_
                  refine lv_idiv hx hb d_K_Report_putNumber_23 (by decide) ?_
                  refine lv_bipush (v := 10) hx hb d_K_Report_putNumber_24 (by decide) ?_
                  refine lv_irem hx hb d_K_Report_putNumber_26 (by decide) ?_
                  refine lv_iadd hx hb d_K_Report_putNumber_27 ?_
                  refine lv_i2c hx hb d_K_Report_putNumber_28 rfl ?_
                  have hpre_31 := kr_pre (wc := [(h, .inr (6, [.ref h_0, .int (nI (k_put P ((48 + ((n0 / 10) - (n0 / 10) / 10 * 10)).toUInt32 % 65536).toInt32).2)])), (h_0, .inl (cC, 256, .inl (k_put P ((48 + ((n0 / 10) - (n0 / 10) / 10 * 10)).toUInt32 % 65536).toInt32).1))]) (av := [.ref h, .int ((48 + ((n0 / 1) - (n0 / 1) / 10 * 10)).toUInt32 % 65536).toInt32]) hK hP hD hS hA hSt [0, 1] rfl (by decide)
                  refine kj_v (wc := [(h, .inr (6, [.ref h_0, .int (nI (k_put P ((48 + ((n0 / 10) - (n0 / 10) / 10 * 10)).toUInt32 % 65536).toInt32).2)])), (h_0, .inl (cC, 256, .inl (k_put P ((48 + ((n0 / 10) - (n0 / 10) / 10 * 10)).toUInt32 % 65536).toInt32).1))]) (wr := []) (va_runV (As := [.int ((48 + ((n0 / 1) - (n0 / 1) / 10 * 10)).toUInt32 % 65536).toInt32]) (rest := []) ⟨hx, hb, hml, hown, hts⟩ (c_Report_put l dC dI cI cJ cC cZ σ h h_0 (k_put P ((48 + ((n0 / 10) - (n0 / 10) / 10 * 10)).toUInt32 % 65536).toInt32) ((48 + ((n0 / 1) - (n0 / 1) / 10 * 10)).toUInt32 % 65536).toInt32 (by repeat' (first | assumption | omega | apply k_pn_ok | apply k_pt_ok | apply k_put_ok)) (by first | rfl | exact pk_vc _ | exact kChr_nar _ _) _) ⟨(callB_of 1 hts (kg wq_441) rfl rfl rfl hini_K_Report hm_28 (by decide +kernel) ⟨Nat.le_of_ble_eq_true rfl, Nat.le_of_ble_eq_true rfl⟩), hi_28, hv_28⟩ ⟨hpre_31.1, (va_recv hK hP (ci := 6) (q0 := 0) rfl rfl), hpre_31.2⟩ rfl rfl hl.1 rfl (lv_room (Nat.le_of_ble_eq_true rfl)) d_K_Report_putNumber_29 ⟨Nat.le_of_ble_eq_true rfl, Nat.le_of_ble_eq_true rfl⟩) hP hD hS hA [0, 1] [] rfl rfl (by decide) (by decide) (fun _ H locs hP hD hS => ?_)
                  have hP : va_P (dC, dI) vwCl [(h, .inr (6, [.ref h_0, .int (nI (k_put (k_put P ((48 + ((n0 / 10) - (n0 / 10) / 10 * 10)).toUInt32 % 65536).toInt32) ((48 + ((n0 / 1) - (n0 / 1) / 10 * 10)).toUInt32 % 65536).toInt32).2)])), (h_0, .inl (cC, 256, .inl (k_put (k_put P ((48 + ((n0 / 10) - (n0 / 10) / 10 * 10)).toUInt32 % 65536).toInt32) ((48 + ((n0 / 1) - (n0 / 1) / 10 * 10)).toUInt32 % 65536).toInt32).1))] H := hP
                  have hD : va_D A [(h, .inr (6, [.ref h_0, .int (nI (k_put (k_put P ((48 + ((n0 / 10) - (n0 / 10) / 10 * 10)).toUInt32 % 65536).toInt32) ((48 + ((n0 / 1) - (n0 / 1) / 10 * 10)).toUInt32 % 65536).toInt32).2)])), (h_0, .inl (cC, 256, .inl (k_put (k_put P ((48 + ((n0 / 10) - (n0 / 10) / 10 * 10)).toUInt32 % 65536).toInt32) ((48 + ((n0 / 1) - (n0 / 1) / 10 * 10)).toUInt32 % 65536).toInt32).1))] := hD
                  refine lv_iload_n hx hb d_K_Report_putNumber_32 rfl (lv_at hl 0 rfl) ?_
                  refine lv_bipush (v := 10) hx hb d_K_Report_putNumber_33 (by decide) ?_
                  refine lv_idiv hx hb d_K_Report_putNumber_35 (by decide) ?_
                  refine kr_topi (x := (1 / 10 : Int32)) (y := 0) (by decide) ?_
                  refine lv_istore_n (lv' := [(2, .int 0), (0, .ref h), (1, .int n0)]) hx hb d_K_Report_putNumber_36 rfl hl (by decide) rfl (fun ls hl => ?_)
                  refine lv_goto (tgt := 3) hx hb d_K_Report_putNumber_37 (by decide) ?_
                  refine lv_iload_n hx hb d_K_Report_putNumber_3 rfl (lv_at hl 0 rfl) ?_
                  refine lv_iconst (v := 1) hx hb d_K_Report_putNumber_4 (by decide) ?_
                  refine lv_icmp_lt (tgt := 40) hx hb d_K_Report_putNumber_5 (by decide) (fun c_32 => ?_) (fun c_32 => ?_)
                  · skip
                    have c_32 : 0 < 1 := (nI_ltI (a := 0) (b := 1) (by omega) (by omega)).mp c_32
                    have hpost : k_pn P n0 = (k_put (k_put P ((48 + ((n0 / 10) - (n0 / 10) / 10 * 10)).toUInt32 % 65536).toInt32) ((48 + ((n0 / 1) - (n0 / 1) / 10 * 10)).toUInt32 % 65536).toInt32) := by simp only [k_pn, k_p10, k_p100, k_dg, if_neg c_2, if_pos c_24, if_neg c_27]
                    have hP9 := hP.sub (ws' := [(h, .inr (6, [.ref h_0, .int (nI (k_put (k_put P ((48 + ((n0 / 10) - (n0 / 10) / 10 * 10)).toUInt32 % 65536).toInt32) ((48 + ((n0 / 1) - (n0 / 1) / 10 * 10)).toUInt32 % 65536).toInt32).2)])), (h_0, .inl (cC, 256, .inl (k_put (k_put P ((48 + ((n0 / 10) - (n0 / 10) / 10 * 10)).toUInt32 % 65536).toInt32) ((48 + ((n0 / 1) - (n0 / 1) / 10 * 10)).toUInt32 % 65536).toInt32).1))]) [0, 1] rfl
                    have hD9 := hD.sub (ws' := [(h, .inr (6, [.ref h_0, .int (nI (k_put (k_put P ((48 + ((n0 / 10) - (n0 / 10) / 10 * 10)).toUInt32 % 65536).toInt32) ((48 + ((n0 / 1) - (n0 / 1) / 10 * 10)).toUInt32 % 65536).toInt32).2)])), (h_0, .inl (cC, 256, .inl (k_put (k_put P ((48 + ((n0 / 10) - (n0 / 10) / 10 * 10)).toUInt32 % 65536).toInt32) ((48 + ((n0 / 1) - (n0 / 1) / 10 * 10)).toUInt32 % 65536).toInt32).1))]) [0, 1] (by decide) rfl
                    exact kr_vret hQ hx hb hr hlocks hK hP9 hD9 hS () (by show (wRep cI cJ cC cZ h h_0 (k_pn P n0) : va_W) = _; rw [hpost] <;> rfl) d_K_Report_putNumber_40
                  · skip
                    exact absurd c_32 (by decide)
          · skip
            refine lv_iload_n hx hb d_K_Report_putNumber_13 rfl (lv_at hl 0 rfl) ?_
            refine lv_iconst (v := 1) hx hb d_K_Report_putNumber_14 (by decide) ?_
            refine lv_icmp_ne (tgt := 32) hx hb d_K_Report_putNumber_15 (by decide) (fun c_33 => ?_) (fun c_33 => ?_)
            · skip
              have c_33 : ¬ 10 = 1 := fun h9 => c_33 ((nI_eq (a := 10) (b := 1) (by omega) (by omega)).mpr h9)
              refine lv_iload_n hx hb d_K_Report_putNumber_32 rfl (lv_at hl 0 rfl) ?_
              refine lv_bipush (v := 10) hx hb d_K_Report_putNumber_33 (by decide) ?_
              refine lv_idiv hx hb d_K_Report_putNumber_35 (by decide) ?_
              refine kr_topi (x := (10 / 10 : Int32)) (y := 1) (by decide) ?_
              refine lv_istore_n (lv' := [(2, .int 1), (0, .ref h), (1, .int n0)]) hx hb d_K_Report_putNumber_36 rfl hl (by decide) rfl (fun ls hl => ?_)
              refine lv_goto (tgt := 3) hx hb d_K_Report_putNumber_37 (by decide) ?_
              refine lv_iload_n hx hb d_K_Report_putNumber_3 rfl (lv_at hl 0 rfl) ?_
              refine lv_iconst (v := 1) hx hb d_K_Report_putNumber_4 (by decide) ?_
              refine lv_icmp_lt (tgt := 40) hx hb d_K_Report_putNumber_5 (by decide) (fun c_34 => ?_) (fun c_34 => ?_)
              · skip
                exact absurd c_34 (by decide)
              · skip
                have c_34 : ¬ 1 < 1 := fun h9 => c_34 ((nI_ltI (a := 1) (b := 1) (by omega) (by omega)).mpr h9)
                refine lv_iload_n hx hb d_K_Report_putNumber_8 rfl (lv_at hl 2 rfl) ?_
                refine lv_iload_n hx hb d_K_Report_putNumber_9 rfl (lv_at hl 0 rfl) ?_
                refine lv_icmp_ge (tgt := 18) hx hb d_K_Report_putNumber_10 (by decide) (fun c_35 => ?_) (fun c_35 => ?_)
                · skip
                  refine lv_aload_n hx hb d_K_Report_putNumber_18 rfl (lv_at hl 1 rfl) ?_
                  refine lv_bipush (v := 48) hx hb d_K_Report_putNumber_19 (by decide) ?_
                  refine lv_iload_n hx hb d_K_Report_putNumber_21 rfl (lv_at hl 2 rfl) ?_
                  refine lv_iload_n hx hb d_K_Report_putNumber_22 rfl (lv_at hl 0 rfl) ?_
                  refine lv_idiv hx hb d_K_Report_putNumber_23 (by decide) ?_
                  refine lv_bipush (v := 10) hx hb d_K_Report_putNumber_24 (by decide) ?_
                  refine lv_irem hx hb d_K_Report_putNumber_26 (by decide) ?_
                  refine lv_iadd hx hb d_K_Report_putNumber_27 ?_
                  refine lv_i2c hx hb d_K_Report_putNumber_28 rfl ?_
                  have hpre_36 := kr_pre (wc := [(h, .inr (6, [.ref h_0, .int (nI P.2)])), (h_0, .inl (cC, 256, .inl P.1))]) (av := [.ref h, .int ((48 + ((n0 / 1) - (n0 / 1) / 10 * 10)).toUInt32 % 65536).toInt32]) hK hP hD hS hA hSt [0, 1] rfl (by decide)
                  refine kj_v (wc := [(h, .inr (6, [.ref h_0, .int (nI P.2)])), (h_0, .inl (cC, 256, .inl P.1))]) (wr := []) (va_runV (As := [.int ((48 + ((n0 / 1) - (n0 / 1) / 10 * 10)).toUInt32 % 65536).toInt32]) (rest := []) ⟨hx, hb, hml, hown, hts⟩ (c_Report_put l dC dI cI cJ cC cZ σ h h_0 P ((48 + ((n0 / 1) - (n0 / 1) / 10 * 10)).toUInt32 % 65536).toInt32 (by repeat' (first | assumption | omega | apply k_pn_ok | apply k_pt_ok | apply k_put_ok)) (by first | rfl | exact pk_vc _ | exact kChr_nar _ _) _) ⟨(callB_of 1 hts (kg wq_441) rfl rfl rfl hini_K_Report hm_28 (by decide +kernel) ⟨Nat.le_of_ble_eq_true rfl, Nat.le_of_ble_eq_true rfl⟩), hi_28, hv_28⟩ ⟨hpre_36.1, (va_recv hK hP (ci := 6) (q0 := 0) rfl rfl), hpre_36.2⟩ rfl rfl hl.1 rfl (lv_room (Nat.le_of_ble_eq_true rfl)) d_K_Report_putNumber_29 ⟨Nat.le_of_ble_eq_true rfl, Nat.le_of_ble_eq_true rfl⟩) hP hD hS hA [0, 1] [] rfl rfl (by decide) (by decide) (fun _ H locs hP hD hS => ?_)
                  have hP : va_P (dC, dI) vwCl [(h, .inr (6, [.ref h_0, .int (nI (k_put P ((48 + ((n0 / 1) - (n0 / 1) / 10 * 10)).toUInt32 % 65536).toInt32).2)])), (h_0, .inl (cC, 256, .inl (k_put P ((48 + ((n0 / 1) - (n0 / 1) / 10 * 10)).toUInt32 % 65536).toInt32).1))] H := hP
                  have hD : va_D A [(h, .inr (6, [.ref h_0, .int (nI (k_put P ((48 + ((n0 / 1) - (n0 / 1) / 10 * 10)).toUInt32 % 65536).toInt32).2)])), (h_0, .inl (cC, 256, .inl (k_put P ((48 + ((n0 / 1) - (n0 / 1) / 10 * 10)).toUInt32 % 65536).toInt32).1))] := hD
                  refine lv_iload_n hx hb d_K_Report_putNumber_32 rfl (lv_at hl 0 rfl) ?_
                  refine lv_bipush (v := 10) hx hb d_K_Report_putNumber_33 (by decide) ?_
                  refine lv_idiv hx hb d_K_Report_putNumber_35 (by decide) ?_
                  refine kr_topi (x := (1 / 10 : Int32)) (y := 0) (by decide) ?_
                  refine lv_istore_n (lv' := [(2, .int 0), (0, .ref h), (1, .int n0)]) hx hb d_K_Report_putNumber_36 rfl hl (by decide) rfl (fun ls hl => ?_)
                  refine lv_goto (tgt := 3) hx hb d_K_Report_putNumber_37 (by decide) ?_
                  refine lv_iload_n hx hb d_K_Report_putNumber_3 rfl (lv_at hl 0 rfl) ?_
                  refine lv_iconst (v := 1) hx hb d_K_Report_putNumber_4 (by decide) ?_
                  refine lv_icmp_lt (tgt := 40) hx hb d_K_Report_putNumber_5 (by decide) (fun c_37 => ?_) (fun c_37 => ?_)
                  · skip
                    have c_37 : 0 < 1 := (nI_ltI (a := 0) (b := 1) (by omega) (by omega)).mp c_37
                    have hpost : k_pn P n0 = (k_put P ((48 + ((n0 / 1) - (n0 / 1) / 10 * 10)).toUInt32 % 65536).toInt32) := by simp only [k_pn, k_p10, k_p100, k_dg, if_neg c_2, if_neg c_24, if_pos c_35]
                    have hP9 := hP.sub (ws' := [(h, .inr (6, [.ref h_0, .int (nI (k_put P ((48 + ((n0 / 1) - (n0 / 1) / 10 * 10)).toUInt32 % 65536).toInt32).2)])), (h_0, .inl (cC, 256, .inl (k_put P ((48 + ((n0 / 1) - (n0 / 1) / 10 * 10)).toUInt32 % 65536).toInt32).1))]) [0, 1] rfl
                    have hD9 := hD.sub (ws' := [(h, .inr (6, [.ref h_0, .int (nI (k_put P ((48 + ((n0 / 1) - (n0 / 1) / 10 * 10)).toUInt32 % 65536).toInt32).2)])), (h_0, .inl (cC, 256, .inl (k_put P ((48 + ((n0 / 1) - (n0 / 1) / 10 * 10)).toUInt32 % 65536).toInt32).1))]) [0, 1] (by decide) rfl
                    exact kr_vret hQ hx hb hr hlocks hK hP9 hD9 hS () (by show (wRep cI cJ cC cZ h h_0 (k_pn P n0) : va_W) = _; rw [hpost] <;> rfl) d_K_Report_putNumber_40
                  · skip
                    exact absurd c_37 (by decide)
                · skip
                  refine lv_iload_n hx hb d_K_Report_putNumber_13 rfl (lv_at hl 0 rfl) ?_
                  refine lv_iconst (v := 1) hx hb d_K_Report_putNumber_14 (by decide) ?_
                  refine lv_icmp_ne (tgt := 32) hx hb d_K_Report_putNumber_15 (by decide) (fun c_38 => ?_) (fun c_38 => ?_)
                  · skip
                    exact absurd c_38 (by decide)
                  · skip
                    have c_38 : 1 = 1 := (nI_eq (a := 1) (b := 1) (by omega) (by omega)).mp c_38
                    refine lv_aload_n hx hb d_K_Report_putNumber_18 rfl (lv_at hl 1 rfl) ?_
                    refine lv_bipush (v := 48) hx hb d_K_Report_putNumber_19 (by decide) ?_
                    refine lv_iload_n hx hb d_K_Report_putNumber_21 rfl (lv_at hl 2 rfl) ?_
                    refine lv_iload_n hx hb d_K_Report_putNumber_22 rfl (lv_at hl 0 rfl) ?_
                    refine lv_idiv hx hb d_K_Report_putNumber_23 (by decide) ?_
                    refine lv_bipush (v := 10) hx hb d_K_Report_putNumber_24 (by decide) ?_
                    refine lv_irem hx hb d_K_Report_putNumber_26 (by decide) ?_
                    refine lv_iadd hx hb d_K_Report_putNumber_27 ?_
                    refine lv_i2c hx hb d_K_Report_putNumber_28 rfl ?_
                    have hpre_39 := kr_pre (wc := [(h, .inr (6, [.ref h_0, .int (nI P.2)])), (h_0, .inl (cC, 256, .inl P.1))]) (av := [.ref h, .int ((48 + ((n0 / 1) - (n0 / 1) / 10 * 10)).toUInt32 % 65536).toInt32]) hK hP hD hS hA hSt [0, 1] rfl (by decide)
                    refine kj_v (wc := [(h, .inr (6, [.ref h_0, .int (nI P.2)])), (h_0, .inl (cC, 256, .inl P.1))]) (wr := []) (va_runV (As := [.int ((48 + ((n0 / 1) - (n0 / 1) / 10 * 10)).toUInt32 % 65536).toInt32]) (rest := []) ⟨hx, hb, hml, hown, hts⟩ (c_Report_put l dC dI cI cJ cC cZ σ h h_0 P ((48 + ((n0 / 1) - (n0 / 1) / 10 * 10)).toUInt32 % 65536).toInt32 (by repeat' (first | assumption | omega | apply k_pn_ok | apply k_pt_ok | apply k_put_ok)) (by first | rfl | exact pk_vc _ | exact kChr_nar _ _) _) ⟨(callB_of 1 hts (kg wq_441) rfl rfl rfl hini_K_Report hm_28 (by decide +kernel) ⟨Nat.le_of_ble_eq_true rfl, Nat.le_of_ble_eq_true rfl⟩), hi_28, hv_28⟩ ⟨hpre_39.1, (va_recv hK hP (ci := 6) (q0 := 0) rfl rfl), hpre_39.2⟩ rfl rfl hl.1 rfl (lv_room (Nat.le_of_ble_eq_true rfl)) d_K_Report_putNumber_29 ⟨Nat.le_of_ble_eq_true rfl, Nat.le_of_ble_eq_true rfl⟩) hP hD hS hA [0, 1] [] rfl rfl (by decide) (by decide) (fun _ H locs hP hD hS => ?_)
                    have hP : va_P (dC, dI) vwCl [(h, .inr (6, [.ref h_0, .int (nI (k_put P ((48 + ((n0 / 1) - (n0 / 1) / 10 * 10)).toUInt32 % 65536).toInt32).2)])), (h_0, .inl (cC, 256, .inl (k_put P ((48 + ((n0 / 1) - (n0 / 1) / 10 * 10)).toUInt32 % 65536).toInt32).1))] H := hP
                    have hD : va_D A [(h, .inr (6, [.ref h_0, .int (nI (k_put P ((48 + ((n0 / 1) - (n0 / 1) / 10 * 10)).toUInt32 % 65536).toInt32).2)])), (h_0, .inl (cC, 256, .inl (k_put P ((48 + ((n0 / 1) - (n0 / 1) / 10 * 10)).toUInt32 % 65536).toInt32).1))] := hD
                    refine lv_iload_n hx hb d_K_Report_putNumber_32 rfl (lv_at hl 0 rfl) ?_
                    refine lv_bipush (v := 10) hx hb d_K_Report_putNumber_33 (by decide) ?_
                    refine lv_idiv hx hb d_K_Report_putNumber_35 (by decide) ?_
                    refine kr_topi (x := (1 / 10 : Int32)) (y := 0) (by decide) ?_
                    refine lv_istore_n (lv' := [(2, .int 0), (0, .ref h), (1, .int n0)]) hx hb d_K_Report_putNumber_36 rfl hl (by decide) rfl (fun ls hl => ?_)
                    refine lv_goto (tgt := 3) hx hb d_K_Report_putNumber_37 (by decide) ?_
                    refine lv_iload_n hx hb d_K_Report_putNumber_3 rfl (lv_at hl 0 rfl) ?_
                    refine lv_iconst (v := 1) hx hb d_K_Report_putNumber_4 (by decide) ?_
                    refine lv_icmp_lt (tgt := 40) hx hb d_K_Report_putNumber_5 (by decide) (fun c_40 => ?_) (fun c_40 => ?_)
                    · skip
                      have c_40 : 0 < 1 := (nI_ltI (a := 0) (b := 1) (by omega) (by omega)).mp c_40
                      have hpost : k_pn P n0 = (k_put P ((48 + ((n0 / 1) - (n0 / 1) / 10 * 10)).toUInt32 % 65536).toInt32) := by simp only [k_pn, k_p10, k_p100, k_dg, if_neg c_2, if_neg c_24, if_neg c_35]
                      have hP9 := hP.sub (ws' := [(h, .inr (6, [.ref h_0, .int (nI (k_put P ((48 + ((n0 / 1) - (n0 / 1) / 10 * 10)).toUInt32 % 65536).toInt32).2)])), (h_0, .inl (cC, 256, .inl (k_put P ((48 + ((n0 / 1) - (n0 / 1) / 10 * 10)).toUInt32 % 65536).toInt32).1))]) [0, 1] rfl
                      have hD9 := hD.sub (ws' := [(h, .inr (6, [.ref h_0, .int (nI (k_put P ((48 + ((n0 / 1) - (n0 / 1) / 10 * 10)).toUInt32 % 65536).toInt32).2)])), (h_0, .inl (cC, 256, .inl (k_put P ((48 + ((n0 / 1) - (n0 / 1) / 10 * 10)).toUInt32 % 65536).toInt32).1))]) [0, 1] (by decide) rfl
                      exact kr_vret hQ hx hb hr hlocks hK hP9 hD9 hS () (by show (wRep cI cJ cC cZ h h_0 (k_pn P n0) : va_W) = _; rw [hpost] <;> rfl) d_K_Report_putNumber_40
                    · skip
                      exact absurd c_40 (by decide)
            · skip
              exact absurd c_33 (by decide)
      · skip
        exact absurd c_22 (by decide)
