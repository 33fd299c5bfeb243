set_option maxHeartbeats 4000000 in
set_option maxRecDepth 100000 in
theorem c_Shr_init (l : Launch) (dC : Nat → ClassId) (dI : Nat → Nat → Nat) (cI cJ cC cZ : ClassId) (σ : kSg) (h : Nat) : kC l y_K_Shrinker_init ws_K_Shrinker_init (kRm 1 0 0 20) (dC, dI) (kTy cI cJ cC cZ) σ ([(h, .inr (7, [.int 0, .int 0, .int 0]))]) [.ref h] (kQv (dC, dI) (kTy cI cJ cC cZ) (fun u : Unit => wShr cI cJ cC cZ h k0_Shr)) 0 0 := by
  refine kr_met (cc := prog_8_method_1_code) (maxL := 1) (ret := none) (by decide) rfl (Nat.le_of_ble_eq_true rfl) ?_
  intro p e s m args below meth c A Q hQ hx hb hr hml hts hown hlocks hnm hA hP hK hD hSt ls hl
  have hS : va_S A s.heap s.heap [] := va_S.rf
  have hown : s.vm.findClass "KitRunner$Shrinker" = some m.cls := hown
  have hl : lv_has ls 1 [(0, .ref h)] := hl
  have hP : va_P (dC, dI) vwCl [(h, .inr (7, [.int 0, .int 0, .int 0]))] s.heap := hP
  have hD : va_D A [(h, .inr (7, [.int 0, .int 0, .int 0]))] := hD
  have ho1 := hts _ (List.mem_cons_of_mem _ wq_144)
  have ho2 := hts _ (List.mem_cons_of_mem _ wq_23)
  have ho3 := hts _ (List.mem_cons_of_mem _ wq_24)
  have hf_9 := hts _ (List.mem_cons_of_mem _ wq_145)
  have hin_K_Shrinker := fun w (h : w ∈ u_ws "KitRunner$Shrinker" T_K_Shrinker 3) => List.mem_cons_of_mem (Cond.code y_K_Shrinker_init prog_8_method_1_code 1 none) (in_K_Shrinker w h)
  have hf_15 := hts _ (List.mem_cons_of_mem _ wq_146)
  have hf_18 := hts _ (List.mem_cons_of_mem _ wq_147)
  refine lv_aload_n hx hb d_K_Shrinker_init_0 rfl (lv_at hl 0 rfl) ?_
  refine W.objInit hx hb hown ho1 ho2 ho3 rfl (by rw [hml]; exact hl.1) rfl d_K_Shrinker_init_1 (Nat.le_of_ble_eq_true rfl) (Nat.le_of_ble_eq_true rfl) ?_
  refine W.eq (g2 := F0 m 4 ls []) rfl ?_
  refine lv_aload_n hx hb d_K_Shrinker_init_4 rfl (lv_at hl 0 rfl) ?_
  refine lv_iconst (v := 0) hx hb d_K_Shrinker_init_5 (by decide) ?_
  refine va_put (D := (dC, dI)) (ci := 7) (v := .int 0) (ty := .int) (C := "KitRunner$Shrinker") (T := T_K_Shrinker) (N := 3) hx hb hts hin_K_Shrinker ty_K_Shrinker ty_K_Shrinker_ok nm_K_Shrinker hown hK hP hD hS 0 rfl rfl 0 (by decide) hf_9 (fun _ h9 => h9) rfl (by decide +kernel) rfl rfl (Nat.le_of_ble_eq_true rfl) d_K_Shrinker_init_6 (fun H locs hP hD hS => ?_)
  have hP : va_P (dC, dI) vwCl [(h, .inr (7, [.int 0, .int 0, .int 0]))] H := hP
  have hD : va_D A [(h, .inr (7, [.int 0, .int 0, .int 0]))] := hD
  refine lv_aload_n hx hb d_K_Shrinker_init_9 rfl (lv_at hl 0 rfl) ?_
  refine lv_iconst (v := 0) hx hb d_K_Shrinker_init_10 (by decide) ?_
  refine va_put (D := (dC, dI)) (ci := 7) (v := .int 0) (ty := .int) (C := "KitRunner$Shrinker") (T := T_K_Shrinker) (N := 3) hx hb hts hin_K_Shrinker ty_K_Shrinker ty_K_Shrinker_ok nm_K_Shrinker hown hK hP hD hS 0 rfl rfl 1 (by decide) hf_15 (fun _ h9 => h9) rfl (by decide +kernel) rfl rfl (Nat.le_of_ble_eq_true rfl) d_K_Shrinker_init_11 (fun H locs hP hD hS => ?_)
  have hP : va_P (dC, dI) vwCl [(h, .inr (7, [.int 0, .int 0, .int 0]))] H := hP
  have hD : va_D A [(h, .inr (7, [.int 0, .int 0, .int 0]))] := hD
  refine lv_aload_n hx hb d_K_Shrinker_init_14 rfl (lv_at hl 0 rfl) ?_
  refine lv_iconst (v := 0) hx hb d_K_Shrinker_init_15 (by decide) ?_
  refine va_put (D := (dC, dI)) (ci := 7) (v := .int 0) (ty := .int) (C := "KitRunner$Shrinker") (T := T_K_Shrinker) (N := 3) hx hb hts hin_K_Shrinker ty_K_Shrinker ty_K_Shrinker_ok nm_K_Shrinker hown hK hP hD hS 0 rfl rfl 2 (by decide) hf_18 (fun _ h9 => h9) rfl (by decide +kernel) rfl rfl (Nat.le_of_ble_eq_true rfl) d_K_Shrinker_init_16 (fun H locs hP hD hS => ?_)
  have hP : va_P (dC, dI) vwCl [(h, .inr (7, [.int 0, .int 0, .int 0]))] H := hP
  have hD : va_D A [(h, .inr (7, [.int 0, .int 0, .int 0]))] := hD
  have hP9 := hP.sub (ws' := [(h, .inr (7, [.int 0, .int 0, .int 0]))]) [0] rfl
  have hD9 := hD.sub (ws' := [(h, .inr (7, [.int 0, .int 0, .int 0]))]) [0] (by decide) rfl
  exact kr_vret hQ hx hb hr hlocks hK hP9 hD9 hS () rfl d_K_Shrinker_init_19
