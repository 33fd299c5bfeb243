theorem k_str {args : Array Value} {s : State} {own : String} {idx : Nat} {by0 : List Int32} {A : Nat → Prop} (hN : by0.length < 2 ^ 31) (hex : (Cond.exactly (Term.string own idx) "java/lang/String").before args s = true) (hco : (Cond.eq (.field (Term.string own idx) "java/lang/String" "coder" "B") (.int 0)).before args s = true)
    (har : (Cond.arrayOf (.field (Term.string own idx) "java/lang/String" "value" "[B") .byte).before args s = true) (hle : (Cond.eq (.length (.field (Term.string own idx) "java/lang/String" "value" "[B")) (.int (Int32.ofNat by0.length))).before args s = true)
    (hel : ∀ j : Nat, j < by0.length → (Cond.eq (.elem (.field (Term.string own idx) "java/lang/String" "value" "[B") (.int (Int32.ofNat j))) (.int (by0.getD j 0))).before args s = true) (hA : ∀ a : Nat, a < s.heap.size → ¬ A a) :
    ∃ a v : Nat, (va_O "java/lang/String" a A s s.heap ∧ va_OF "java/lang/String" "coder" "B" (.int 0) a A s s.heap ∧ va_OF "java/lang/String" "value" "[B" (.ref v) a A s s.heap ∧ va_T .byte v by0.length (fun i => .int (by0.getD i 0)) A s s.heap) ∧ (Term.string own idx).eval args s none [] s = some (.ref a) := by
  have z : ∀ i : Nat, i < 1 → i = 0 := fun i h => by omega
  obtain ⟨adK, adV, h1, h2⟩ := vk_Sof (N := 1) (tm := fun _ => Term.string own idx) (len := [by0.length]) (byt := [by0]) (A := A) (args := args) (s := s) (fun i hi => by rw [z i hi]; exact hN) (fun i hi => hex) (fun i hi => hco) (fun i hi => har) (fun i hi => by rw [z i hi]; exact hle) (fun i hi j hj => by rw [z i hi] at hj ⊢; exact hel j hj) (fun i j hi hj hn => absurd ((z i hi).trans (z j hj).symm) hn) hA
  exact ⟨adK 0, adV 0, h1.1 0 (by decide), h2 0 (by decide)⟩
set_option maxRecDepth 100000 in
theorem k_str0 {args : Array Value} {s : State} {A : Nat → Prop} (hs : ∀ c ∈ flatC (Cond.and given_1 narrow_1), c.before args s = true) (hA : ∀ a : Nat, a < s.heap.size → ¬ A a) : ∃ a v : Nat, (va_O "java/lang/String" a A s s.heap ∧ va_OF "java/lang/String" "coder" "B" (.int 0) a A s s.heap ∧ va_OF "java/lang/String" "value" "[B" (.ref v) a A s s.heap ∧ va_T .byte v (kTx 0).length (fun i => .int (kChr 0 i)) A s s.heap) ∧ (Term.string "KitRunner$EntryPoints" 7).eval args s none [] s = some (.ref a) := by
  refine k_str (by0 := [97, 100, 100]) (by decide) (hs _ (by decide +kernel)) (hs _ (by decide +kernel)) (hs _ (by decide +kernel)) (hs _ (by decide +kernel)) (fun k hk => ?_) hA
  match k, hk with
  | 0, _ => exact hs (Cond.eq (.elem (.field (Term.string "KitRunner$EntryPoints" 7) "java/lang/String" "value" "[B") (.int 0)) (.int 97)) (by decide +kernel)
  | 1, _ => exact hs (Cond.eq (.elem (.field (Term.string "KitRunner$EntryPoints" 7) "java/lang/String" "value" "[B") (.int 1)) (.int 100)) (by decide +kernel)
  | 2, _ => exact hs (Cond.eq (.elem (.field (Term.string "KitRunner$EntryPoints" 7) "java/lang/String" "value" "[B") (.int 2)) (.int 100)) (by decide +kernel)
  | k + 3, hk => exact absurd hk (by simp)
set_option maxRecDepth 100000 in
theorem k_str1 {args : Array Value} {s : State} {A : Nat → Prop} (hs : ∀ c ∈ flatC (Cond.and given_1 narrow_1), c.before args s = true) (hA : ∀ a : Nat, a < s.heap.size → ¬ A a) : ∃ a v : Nat, (va_O "java/lang/String" a A s s.heap ∧ va_OF "java/lang/String" "coder" "B" (.int 0) a A s s.heap ∧ va_OF "java/lang/String" "value" "[B" (.ref v) a A s s.heap ∧ va_T .byte v (kTx 1).length (fun i => .int (kChr 1 i)) A s s.heap) ∧ (Term.string "KitRunner$EntryPoints" 9).eval args s none [] s = some (.ref a) := by
  refine k_str (by0 := [115, 117, 98]) (by decide) (hs _ (by decide +kernel)) (hs _ (by decide +kernel)) (hs _ (by decide +kernel)) (hs _ (by decide +kernel)) (fun k hk => ?_) hA
  match k, hk with
  | 0, _ => exact hs (Cond.eq (.elem (.field (Term.string "KitRunner$EntryPoints" 9) "java/lang/String" "value" "[B") (.int 0)) (.int 115)) (by decide +kernel)
  | 1, _ => exact hs (Cond.eq (.elem (.field (Term.string "KitRunner$EntryPoints" 9) "java/lang/String" "value" "[B") (.int 1)) (.int 117)) (by decide +kernel)
  | 2, _ => exact hs (Cond.eq (.elem (.field (Term.string "KitRunner$EntryPoints" 9) "java/lang/String" "value" "[B") (.int 2)) (.int 98)) (by decide +kernel)
  | k + 3, hk => exact absurd hk (by simp)
set_option maxRecDepth 100000 in
theorem k_str2 {args : Array Value} {s : State} {A : Nat → Prop} (hs : ∀ c ∈ flatC (Cond.and given_1 narrow_1), c.before args s = true) (hA : ∀ a : Nat, a < s.heap.size → ¬ A a) : ∃ a v : Nat, (va_O "java/lang/String" a A s s.heap ∧ va_OF "java/lang/String" "coder" "B" (.int 0) a A s s.heap ∧ va_OF "java/lang/String" "value" "[B" (.ref v) a A s s.heap ∧ va_T .byte v (kTx 2).length (fun i => .int (kChr 2 i)) A s s.heap) ∧ (Term.string "KitRunner$EntryPoints" 11).eval args s none [] s = some (.ref a) := by
  refine k_str (by0 := [109, 117, 108]) (by decide) (hs _ (by decide +kernel)) (hs _ (by decide +kernel)) (hs _ (by decide +kernel)) (hs _ (by decide +kernel)) (fun k hk => ?_) hA
  match k, hk with
  | 0, _ => exact hs (Cond.eq (.elem (.field (Term.string "KitRunner$EntryPoints" 11) "java/lang/String" "value" "[B") (.int 0)) (.int 109)) (by decide +kernel)
  | 1, _ => exact hs (Cond.eq (.elem (.field (Term.string "KitRunner$EntryPoints" 11) "java/lang/String" "value" "[B") (.int 1)) (.int 117)) (by decide +kernel)
  | 2, _ => exact hs (Cond.eq (.elem (.field (Term.string "KitRunner$EntryPoints" 11) "java/lang/String" "value" "[B") (.int 2)) (.int 108)) (by decide +kernel)
  | k + 3, hk => exact absurd hk (by simp)
set_option maxRecDepth 100000 in
theorem k_str3 {args : Array Value} {s : State} {A : Nat → Prop} (hs : ∀ c ∈ flatC (Cond.and given_1 narrow_1), c.before args s = true) (hA : ∀ a : Nat, a < s.heap.size → ¬ A a) : ∃ a v : Nat, (va_O "java/lang/String" a A s s.heap ∧ va_OF "java/lang/String" "coder" "B" (.int 0) a A s s.heap ∧ va_OF "java/lang/String" "value" "[B" (.ref v) a A s s.heap ∧ va_T .byte v (kTx 3).length (fun i => .int (kChr 3 i)) A s s.heap) ∧ (Term.string "KitRunner$EntryPoints" 13).eval args s none [] s = some (.ref a) := by
  refine k_str (by0 := [100, 105, 118]) (by decide) (hs _ (by decide +kernel)) (hs _ (by decide +kernel)) (hs _ (by decide +kernel)) (hs _ (by decide +kernel)) (fun k hk => ?_) hA
  match k, hk with
  | 0, _ => exact hs (Cond.eq (.elem (.field (Term.string "KitRunner$EntryPoints" 13) "java/lang/String" "value" "[B") (.int 0)) (.int 100)) (by decide +kernel)
  | 1, _ => exact hs (Cond.eq (.elem (.field (Term.string "KitRunner$EntryPoints" 13) "java/lang/String" "value" "[B") (.int 1)) (.int 105)) (by decide +kernel)
  | 2, _ => exact hs (Cond.eq (.elem (.field (Term.string "KitRunner$EntryPoints" 13) "java/lang/String" "value" "[B") (.int 2)) (.int 118)) (by decide +kernel)
  | k + 3, hk => exact absurd hk (by simp)
set_option maxRecDepth 100000 in
theorem k_str4 {args : Array Value} {s : State} {A : Nat → Prop} (hs : ∀ c ∈ flatC (Cond.and given_1 narrow_1), c.before args s = true) (hA : ∀ a : Nat, a < s.heap.size → ¬ A a) : ∃ a v : Nat, (va_O "java/lang/String" a A s s.heap ∧ va_OF "java/lang/String" "coder" "B" (.int 0) a A s s.heap ∧ va_OF "java/lang/String" "value" "[B" (.ref v) a A s s.heap ∧ va_T .byte v (kTx 4).length (fun i => .int (kChr 4 i)) A s s.heap) ∧ (Term.string "KitRunner$EntryPoints" 15).eval args s none [] s = some (.ref a) := by
  refine k_str (by0 := [114, 101, 109]) (by decide) (hs _ (by decide +kernel)) (hs _ (by decide +kernel)) (hs _ (by decide +kernel)) (hs _ (by decide +kernel)) (fun k hk => ?_) hA
  match k, hk with
  | 0, _ => exact hs (Cond.eq (.elem (.field (Term.string "KitRunner$EntryPoints" 15) "java/lang/String" "value" "[B") (.int 0)) (.int 114)) (by decide +kernel)
  | 1, _ => exact hs (Cond.eq (.elem (.field (Term.string "KitRunner$EntryPoints" 15) "java/lang/String" "value" "[B") (.int 1)) (.int 101)) (by decide +kernel)
  | 2, _ => exact hs (Cond.eq (.elem (.field (Term.string "KitRunner$EntryPoints" 15) "java/lang/String" "value" "[B") (.int 2)) (.int 109)) (by decide +kernel)
  | k + 3, hk => exact absurd hk (by simp)
set_option maxRecDepth 100000 in
theorem k_str5 {args : Array Value} {s : State} {A : Nat → Prop} (hs : ∀ c ∈ flatC (Cond.and given_1 narrow_1), c.before args s = true) (hA : ∀ a : Nat, a < s.heap.size → ¬ A a) : ∃ a v : Nat, (va_O "java/lang/String" a A s s.heap ∧ va_OF "java/lang/String" "coder" "B" (.int 0) a A s s.heap ∧ va_OF "java/lang/String" "value" "[B" (.ref v) a A s s.heap ∧ va_T .byte v (kTx 5).length (fun i => .int (kChr 5 i)) A s s.heap) ∧ (Term.string "KitRunner$EntryPoints" 17).eval args s none [] s = some (.ref a) := by
  refine k_str (by0 := [115, 104, 108]) (by decide) (hs _ (by decide +kernel)) (hs _ (by decide +kernel)) (hs _ (by decide +kernel)) (hs _ (by decide +kernel)) (fun k hk => ?_) hA
  match k, hk with
  | 0, _ => exact hs (Cond.eq (.elem (.field (Term.string "KitRunner$EntryPoints" 17) "java/lang/String" "value" "[B") (.int 0)) (.int 115)) (by decide +kernel)
  | 1, _ => exact hs (Cond.eq (.elem (.field (Term.string "KitRunner$EntryPoints" 17) "java/lang/String" "value" "[B") (.int 1)) (.int 104)) (by decide +kernel)
  | 2, _ => exact hs (Cond.eq (.elem (.field (Term.string "KitRunner$EntryPoints" 17) "java/lang/String" "value" "[B") (.int 2)) (.int 108)) (by decide +kernel)
  | k + 3, hk => exact absurd hk (by simp)
set_option maxRecDepth 100000 in
theorem k_str6 {args : Array Value} {s : State} {A : Nat → Prop} (hs : ∀ c ∈ flatC (Cond.and given_1 narrow_1), c.before args s = true) (hA : ∀ a : Nat, a < s.heap.size → ¬ A a) : ∃ a v : Nat, (va_O "java/lang/String" a A s s.heap ∧ va_OF "java/lang/String" "coder" "B" (.int 0) a A s s.heap ∧ va_OF "java/lang/String" "value" "[B" (.ref v) a A s s.heap ∧ va_T .byte v (kTx 6).length (fun i => .int (kChr 6 i)) A s s.heap) ∧ (Term.string "KitRunner$EntryPoints" 19).eval args s none [] s = some (.ref a) := by
  refine k_str (by0 := [115, 104, 114]) (by decide) (hs _ (by decide +kernel)) (hs _ (by decide +kernel)) (hs _ (by decide +kernel)) (hs _ (by decide +kernel)) (fun k hk => ?_) hA
  match k, hk with
  | 0, _ => exact hs (Cond.eq (.elem (.field (Term.string "KitRunner$EntryPoints" 19) "java/lang/String" "value" "[B") (.int 0)) (.int 115)) (by decide +kernel)
  | 1, _ => exact hs (Cond.eq (.elem (.field (Term.string "KitRunner$EntryPoints" 19) "java/lang/String" "value" "[B") (.int 1)) (.int 104)) (by decide +kernel)
  | 2, _ => exact hs (Cond.eq (.elem (.field (Term.string "KitRunner$EntryPoints" 19) "java/lang/String" "value" "[B") (.int 2)) (.int 114)) (by decide +kernel)
  | k + 3, hk => exact absurd hk (by simp)
set_option maxRecDepth 100000 in
theorem k_str7 {args : Array Value} {s : State} {A : Nat → Prop} (hs : ∀ c ∈ flatC (Cond.and given_1 narrow_1), c.before args s = true) (hA : ∀ a : Nat, a < s.heap.size → ¬ A a) : ∃ a v : Nat, (va_O "java/lang/String" a A s s.heap ∧ va_OF "java/lang/String" "coder" "B" (.int 0) a A s s.heap ∧ va_OF "java/lang/String" "value" "[B" (.ref v) a A s s.heap ∧ va_T .byte v (kTx 7).length (fun i => .int (kChr 7 i)) A s s.heap) ∧ (Term.string "KitRunner$EntryPoints" 21).eval args s none [] s = some (.ref a) := by
  refine k_str (by0 := [117, 115, 104, 114]) (by decide) (hs _ (by decide +kernel)) (hs _ (by decide +kernel)) (hs _ (by decide +kernel)) (hs _ (by decide +kernel)) (fun k hk => ?_) hA
  match k, hk with
  | 0, _ => exact hs (Cond.eq (.elem (.field (Term.string "KitRunner$EntryPoints" 21) "java/lang/String" "value" "[B") (.int 0)) (.int 117)) (by decide +kernel)
  | 1, _ => exact hs (Cond.eq (.elem (.field (Term.string "KitRunner$EntryPoints" 21) "java/lang/String" "value" "[B") (.int 1)) (.int 115)) (by decide +kernel)
  | 2, _ => exact hs (Cond.eq (.elem (.field (Term.string "KitRunner$EntryPoints" 21) "java/lang/String" "value" "[B") (.int 2)) (.int 104)) (by decide +kernel)
  | 3, _ => exact hs (Cond.eq (.elem (.field (Term.string "KitRunner$EntryPoints" 21) "java/lang/String" "value" "[B") (.int 3)) (.int 114)) (by decide +kernel)
  | k + 4, hk => exact absurd hk (by simp)
set_option maxRecDepth 100000 in
theorem k_str8 {args : Array Value} {s : State} {A : Nat → Prop} (hs : ∀ c ∈ flatC (Cond.and given_1 narrow_1), c.before args s = true) (hA : ∀ a : Nat, a < s.heap.size → ¬ A a) : ∃ a v : Nat, (va_O "java/lang/String" a A s s.heap ∧ va_OF "java/lang/String" "coder" "B" (.int 0) a A s s.heap ∧ va_OF "java/lang/String" "value" "[B" (.ref v) a A s s.heap ∧ va_T .byte v (kTx 8).length (fun i => .int (kChr 8 i)) A s s.heap) ∧ (Term.string "KitRunner$EntryPoints" 23).eval args s none [] s = some (.ref a) := by
  refine k_str (by0 := [98, 121, 116, 101]) (by decide) (hs _ (by decide +kernel)) (hs _ (by decide +kernel)) (hs _ (by decide +kernel)) (hs _ (by decide +kernel)) (fun k hk => ?_) hA
  match k, hk with
  | 0, _ => exact hs (Cond.eq (.elem (.field (Term.string "KitRunner$EntryPoints" 23) "java/lang/String" "value" "[B") (.int 0)) (.int 98)) (by decide +kernel)
  | 1, _ => exact hs (Cond.eq (.elem (.field (Term.string "KitRunner$EntryPoints" 23) "java/lang/String" "value" "[B") (.int 1)) (.int 121)) (by decide +kernel)
  | 2, _ => exact hs (Cond.eq (.elem (.field (Term.string "KitRunner$EntryPoints" 23) "java/lang/String" "value" "[B") (.int 2)) (.int 116)) (by decide +kernel)
  | 3, _ => exact hs (Cond.eq (.elem (.field (Term.string "KitRunner$EntryPoints" 23) "java/lang/String" "value" "[B") (.int 3)) (.int 101)) (by decide +kernel)
  | k + 4, hk => exact absurd hk (by simp)
set_option maxRecDepth 100000 in
theorem k_str9 {args : Array Value} {s : State} {A : Nat → Prop} (hs : ∀ c ∈ flatC (Cond.and given_1 narrow_1), c.before args s = true) (hA : ∀ a : Nat, a < s.heap.size → ¬ A a) : ∃ a v : Nat, (va_O "java/lang/String" a A s s.heap ∧ va_OF "java/lang/String" "coder" "B" (.int 0) a A s s.heap ∧ va_OF "java/lang/String" "value" "[B" (.ref v) a A s s.heap ∧ va_T .byte v (kTx 9).length (fun i => .int (kChr 9 i)) A s s.heap) ∧ (Term.string "KitRunner$EntryPoints" 25).eval args s none [] s = some (.ref a) := by
  refine k_str (by0 := [99, 104, 97, 114]) (by decide) (hs _ (by decide +kernel)) (hs _ (by decide +kernel)) (hs _ (by decide +kernel)) (hs _ (by decide +kernel)) (fun k hk => ?_) hA
  match k, hk with
  | 0, _ => exact hs (Cond.eq (.elem (.field (Term.string "KitRunner$EntryPoints" 25) "java/lang/String" "value" "[B") (.int 0)) (.int 99)) (by decide +kernel)
  | 1, _ => exact hs (Cond.eq (.elem (.field (Term.string "KitRunner$EntryPoints" 25) "java/lang/String" "value" "[B") (.int 1)) (.int 104)) (by decide +kernel)
  | 2, _ => exact hs (Cond.eq (.elem (.field (Term.string "KitRunner$EntryPoints" 25) "java/lang/String" "value" "[B") (.int 2)) (.int 97)) (by decide +kernel)
  | 3, _ => exact hs (Cond.eq (.elem (.field (Term.string "KitRunner$EntryPoints" 25) "java/lang/String" "value" "[B") (.int 3)) (.int 114)) (by decide +kernel)
  | k + 4, hk => exact absurd hk (by simp)
set_option maxRecDepth 100000 in
theorem k_str10 {args : Array Value} {s : State} {A : Nat → Prop} (hs : ∀ c ∈ flatC (Cond.and given_1 narrow_1), c.before args s = true) (hA : ∀ a : Nat, a < s.heap.size → ¬ A a) : ∃ a v : Nat, (va_O "java/lang/String" a A s s.heap ∧ va_OF "java/lang/String" "coder" "B" (.int 0) a A s s.heap ∧ va_OF "java/lang/String" "value" "[B" (.ref v) a A s s.heap ∧ va_T .byte v (kTx 10).length (fun i => .int (kChr 10 i)) A s s.heap) ∧ (Term.string "KitRunner$EntryPoints" 27).eval args s none [] s = some (.ref a) := by
  refine k_str (by0 := [97, 116]) (by decide) (hs _ (by decide +kernel)) (hs _ (by decide +kernel)) (hs _ (by decide +kernel)) (hs _ (by decide +kernel)) (fun k hk => ?_) hA
  match k, hk with
  | 0, _ => exact hs (Cond.eq (.elem (.field (Term.string "KitRunner$EntryPoints" 27) "java/lang/String" "value" "[B") (.int 0)) (.int 97)) (by decide +kernel)
  | 1, _ => exact hs (Cond.eq (.elem (.field (Term.string "KitRunner$EntryPoints" 27) "java/lang/String" "value" "[B") (.int 1)) (.int 116)) (by decide +kernel)
  | k + 2, hk => exact absurd hk (by simp)
set_option maxRecDepth 100000 in
theorem k_str11 {args : Array Value} {s : State} {A : Nat → Prop} (hs : ∀ c ∈ flatC (Cond.and given_1 narrow_1), c.before args s = true) (hA : ∀ a : Nat, a < s.heap.size → ¬ A a) : ∃ a v : Nat, (va_O "java/lang/String" a A s s.heap ∧ va_OF "java/lang/String" "coder" "B" (.int 0) a A s s.heap ∧ va_OF "java/lang/String" "value" "[B" (.ref v) a A s s.heap ∧ va_T .byte v (kTx 11).length (fun i => .int (kChr 11 i)) A s s.heap) ∧ (Term.string "KitRunner$EntryPoints" 29).eval args s none [] s = some (.ref a) := by
  refine k_str (by0 := [99, 101, 108, 108]) (by decide) (hs _ (by decide +kernel)) (hs _ (by decide +kernel)) (hs _ (by decide +kernel)) (hs _ (by decide +kernel)) (fun k hk => ?_) hA
  match k, hk with
  | 0, _ => exact hs (Cond.eq (.elem (.field (Term.string "KitRunner$EntryPoints" 29) "java/lang/String" "value" "[B") (.int 0)) (.int 99)) (by decide +kernel)
  | 1, _ => exact hs (Cond.eq (.elem (.field (Term.string "KitRunner$EntryPoints" 29) "java/lang/String" "value" "[B") (.int 1)) (.int 101)) (by decide +kernel)
  | 2, _ => exact hs (Cond.eq (.elem (.field (Term.string "KitRunner$EntryPoints" 29) "java/lang/String" "value" "[B") (.int 2)) (.int 108)) (by decide +kernel)
  | 3, _ => exact hs (Cond.eq (.elem (.field (Term.string "KitRunner$EntryPoints" 29) "java/lang/String" "value" "[B") (.int 3)) (.int 108)) (by decide +kernel)
  | k + 4, hk => exact absurd hk (by simp)
set_option maxRecDepth 100000 in
theorem k_str12 {args : Array Value} {s : State} {A : Nat → Prop} (hs : ∀ c ∈ flatC (Cond.and given_1 narrow_1), c.before args s = true) (hA : ∀ a : Nat, a < s.heap.size → ¬ A a) : ∃ a v : Nat, (va_O "java/lang/String" a A s s.heap ∧ va_OF "java/lang/String" "coder" "B" (.int 0) a A s s.heap ∧ va_OF "java/lang/String" "value" "[B" (.ref v) a A s s.heap ∧ va_T .byte v (kTx 12).length (fun i => .int (kChr 12 i)) A s s.heap) ∧ (Term.string "KitRunner$EntryPoints" 31).eval args s none [] s = some (.ref a) := by
  refine k_str (by0 := [115, 105, 122, 101]) (by decide) (hs _ (by decide +kernel)) (hs _ (by decide +kernel)) (hs _ (by decide +kernel)) (hs _ (by decide +kernel)) (fun k hk => ?_) hA
  match k, hk with
  | 0, _ => exact hs (Cond.eq (.elem (.field (Term.string "KitRunner$EntryPoints" 31) "java/lang/String" "value" "[B") (.int 0)) (.int 115)) (by decide +kernel)
  | 1, _ => exact hs (Cond.eq (.elem (.field (Term.string "KitRunner$EntryPoints" 31) "java/lang/String" "value" "[B") (.int 1)) (.int 105)) (by decide +kernel)
  | 2, _ => exact hs (Cond.eq (.elem (.field (Term.string "KitRunner$EntryPoints" 31) "java/lang/String" "value" "[B") (.int 2)) (.int 122)) (by decide +kernel)
  | 3, _ => exact hs (Cond.eq (.elem (.field (Term.string "KitRunner$EntryPoints" 31) "java/lang/String" "value" "[B") (.int 3)) (.int 101)) (by decide +kernel)
  | k + 4, hk => exact absurd hk (by simp)
set_option maxRecDepth 100000 in
theorem k_str13 {args : Array Value} {s : State} {A : Nat → Prop} (hs : ∀ c ∈ flatC (Cond.and given_1 narrow_1), c.before args s = true) (hA : ∀ a : Nat, a < s.heap.size → ¬ A a) : ∃ a v : Nat, (va_O "java/lang/String" a A s s.heap ∧ va_OF "java/lang/String" "coder" "B" (.int 0) a A s s.heap ∧ va_OF "java/lang/String" "value" "[B" (.ref v) a A s s.heap ∧ va_T .byte v (kTx 13).length (fun i => .int (kChr 13 i)) A s s.heap) ∧ (Term.string "KitRunner$EntryPoints" 33).eval args s none [] s = some (.ref a) := by
  refine k_str (by0 := [99, 97, 115, 116]) (by decide) (hs _ (by decide +kernel)) (hs _ (by decide +kernel)) (hs _ (by decide +kernel)) (hs _ (by decide +kernel)) (fun k hk => ?_) hA
  match k, hk with
  | 0, _ => exact hs (Cond.eq (.elem (.field (Term.string "KitRunner$EntryPoints" 33) "java/lang/String" "value" "[B") (.int 0)) (.int 99)) (by decide +kernel)
  | 1, _ => exact hs (Cond.eq (.elem (.field (Term.string "KitRunner$EntryPoints" 33) "java/lang/String" "value" "[B") (.int 1)) (.int 97)) (by decide +kernel)
  | 2, _ => exact hs (Cond.eq (.elem (.field (Term.string "KitRunner$EntryPoints" 33) "java/lang/String" "value" "[B") (.int 2)) (.int 115)) (by decide +kernel)
  | 3, _ => exact hs (Cond.eq (.elem (.field (Term.string "KitRunner$EntryPoints" 33) "java/lang/String" "value" "[B") (.int 3)) (.int 116)) (by decide +kernel)
  | k + 4, hk => exact absurd hk (by simp)
set_option maxRecDepth 100000 in
theorem k_str14 {args : Array Value} {s : State} {A : Nat → Prop} (hs : ∀ c ∈ flatC (Cond.and given_1 narrow_1), c.before args s = true) (hA : ∀ a : Nat, a < s.heap.size → ¬ A a) : ∃ a v : Nat, (va_O "java/lang/String" a A s s.heap ∧ va_OF "java/lang/String" "coder" "B" (.int 0) a A s s.heap ∧ va_OF "java/lang/String" "value" "[B" (.ref v) a A s s.heap ∧ va_T .byte v (kTx 14).length (fun i => .int (kChr 14 i)) A s s.heap) ∧ (Term.string "KitRunner$EntryPoints" 35).eval args s none [] s = some (.ref a) := by
  refine k_str (by0 := [116, 101, 120, 116]) (by decide) (hs _ (by decide +kernel)) (hs _ (by decide +kernel)) (hs _ (by decide +kernel)) (hs _ (by decide +kernel)) (fun k hk => ?_) hA
  match k, hk with
  | 0, _ => exact hs (Cond.eq (.elem (.field (Term.string "KitRunner$EntryPoints" 35) "java/lang/String" "value" "[B") (.int 0)) (.int 116)) (by decide +kernel)
  | 1, _ => exact hs (Cond.eq (.elem (.field (Term.string "KitRunner$EntryPoints" 35) "java/lang/String" "value" "[B") (.int 1)) (.int 101)) (by decide +kernel)
  | 2, _ => exact hs (Cond.eq (.elem (.field (Term.string "KitRunner$EntryPoints" 35) "java/lang/String" "value" "[B") (.int 2)) (.int 120)) (by decide +kernel)
  | 3, _ => exact hs (Cond.eq (.elem (.field (Term.string "KitRunner$EntryPoints" 35) "java/lang/String" "value" "[B") (.int 3)) (.int 116)) (by decide +kernel)
  | k + 4, hk => exact absurd hk (by simp)
set_option maxRecDepth 100000 in
theorem k_str15 {args : Array Value} {s : State} {A : Nat → Prop} (hs : ∀ c ∈ flatC (Cond.and given_1 narrow_1), c.before args s = true) (hA : ∀ a : Nat, a < s.heap.size → ¬ A a) : ∃ a v : Nat, (va_O "java/lang/String" a A s s.heap ∧ va_OF "java/lang/String" "coder" "B" (.int 0) a A s s.heap ∧ va_OF "java/lang/String" "value" "[B" (.ref v) a A s s.heap ∧ va_T .byte v (kTx 15).length (fun i => .int (kChr 15 i)) A s s.heap) ∧ (Term.string "KitRunner$EntryPoints" 37).eval args s none [] s = some (.ref a) := by
  refine k_str (by0 := [99, 109, 112]) (by decide) (hs _ (by decide +kernel)) (hs _ (by decide +kernel)) (hs _ (by decide +kernel)) (hs _ (by decide +kernel)) (fun k hk => ?_) hA
  match k, hk with
  | 0, _ => exact hs (Cond.eq (.elem (.field (Term.string "KitRunner$EntryPoints" 37) "java/lang/String" "value" "[B") (.int 0)) (.int 99)) (by decide +kernel)
  | 1, _ => exact hs (Cond.eq (.elem (.field (Term.string "KitRunner$EntryPoints" 37) "java/lang/String" "value" "[B") (.int 1)) (.int 109)) (by decide +kernel)
  | 2, _ => exact hs (Cond.eq (.elem (.field (Term.string "KitRunner$EntryPoints" 37) "java/lang/String" "value" "[B") (.int 2)) (.int 112)) (by decide +kernel)
  | k + 3, hk => exact absurd hk (by simp)
set_option maxRecDepth 100000 in
theorem k_str16 {args : Array Value} {s : State} {A : Nat → Prop} (hs : ∀ c ∈ flatC (Cond.and given_1 narrow_1), c.before args s = true) (hA : ∀ a : Nat, a < s.heap.size → ¬ A a) : ∃ a v : Nat, (va_O "java/lang/String" a A s s.heap ∧ va_OF "java/lang/String" "coder" "B" (.int 0) a A s s.heap ∧ va_OF "java/lang/String" "value" "[B" (.ref v) a A s s.heap ∧ va_T .byte v (kTx 16).length (fun i => .int (kChr 16 i)) A s s.heap) ∧ (Term.string "KitRunner$EntryPoints" 45).eval args s none [] s = some (.ref a) := by
  refine k_str (by0 := [107, 105, 116]) (by decide) (hs _ (by decide +kernel)) (hs _ (by decide +kernel)) (hs _ (by decide +kernel)) (hs _ (by decide +kernel)) (fun k hk => ?_) hA
  match k, hk with
  | 0, _ => exact hs (Cond.eq (.elem (.field (Term.string "KitRunner$EntryPoints" 45) "java/lang/String" "value" "[B") (.int 0)) (.int 107)) (by decide +kernel)
  | 1, _ => exact hs (Cond.eq (.elem (.field (Term.string "KitRunner$EntryPoints" 45) "java/lang/String" "value" "[B") (.int 1)) (.int 105)) (by decide +kernel)
  | 2, _ => exact hs (Cond.eq (.elem (.field (Term.string "KitRunner$EntryPoints" 45) "java/lang/String" "value" "[B") (.int 2)) (.int 116)) (by decide +kernel)
  | k + 3, hk => exact absurd hk (by simp)
set_option maxRecDepth 100000 in
theorem k_str17 {args : Array Value} {s : State} {A : Nat → Prop} (hs : ∀ c ∈ flatC (Cond.and given_1 narrow_1), c.before args s = true) (hA : ∀ a : Nat, a < s.heap.size → ¬ A a) : ∃ a v : Nat, (va_O "java/lang/String" a A s s.heap ∧ va_OF "java/lang/String" "coder" "B" (.int 0) a A s s.heap ∧ va_OF "java/lang/String" "value" "[B" (.ref v) a A s s.heap ∧ va_T .byte v (kTx 17).length (fun i => .int (kChr 17 i)) A s s.heap) ∧ (Term.string "KitRunner" 243).eval args s none [] s = some (.ref a) := by
  refine k_str (by0 := [70, 65, 73, 76]) (by decide) (hs _ (by decide +kernel)) (hs _ (by decide +kernel)) (hs _ (by decide +kernel)) (hs _ (by decide +kernel)) (fun k hk => ?_) hA
  match k, hk with
  | 0, _ => exact hs (Cond.eq (.elem (.field (Term.string "KitRunner" 243) "java/lang/String" "value" "[B") (.int 0)) (.int 70)) (by decide +kernel)
  | 1, _ => exact hs (Cond.eq (.elem (.field (Term.string "KitRunner" 243) "java/lang/String" "value" "[B") (.int 1)) (.int 65)) (by decide +kernel)
  | 2, _ => exact hs (Cond.eq (.elem (.field (Term.string "KitRunner" 243) "java/lang/String" "value" "[B") (.int 2)) (.int 73)) (by decide +kernel)
  | 3, _ => exact hs (Cond.eq (.elem (.field (Term.string "KitRunner" 243) "java/lang/String" "value" "[B") (.int 3)) (.int 76)) (by decide +kernel)
  | k + 4, hk => exact absurd hk (by simp)
set_option maxRecDepth 100000 in
theorem k_str18 {args : Array Value} {s : State} {A : Nat → Prop} (hs : ∀ c ∈ flatC (Cond.and given_1 narrow_1), c.before args s = true) (hA : ∀ a : Nat, a < s.heap.size → ¬ A a) : ∃ a v : Nat, (va_O "java/lang/String" a A s s.heap ∧ va_OF "java/lang/String" "coder" "B" (.int 0) a A s s.heap ∧ va_OF "java/lang/String" "value" "[B" (.ref v) a A s s.heap ∧ va_T .byte v (kTx 18).length (fun i => .int (kChr 18 i)) A s s.heap) ∧ (Term.string "KitRunner" 245).eval args s none [] s = some (.ref a) := by
  refine k_str (by0 := [80, 65, 83, 83]) (by decide) (hs _ (by decide +kernel)) (hs _ (by decide +kernel)) (hs _ (by decide +kernel)) (hs _ (by decide +kernel)) (fun k hk => ?_) hA
  match k, hk with
  | 0, _ => exact hs (Cond.eq (.elem (.field (Term.string "KitRunner" 245) "java/lang/String" "value" "[B") (.int 0)) (.int 80)) (by decide +kernel)
  | 1, _ => exact hs (Cond.eq (.elem (.field (Term.string "KitRunner" 245) "java/lang/String" "value" "[B") (.int 1)) (.int 65)) (by decide +kernel)
  | 2, _ => exact hs (Cond.eq (.elem (.field (Term.string "KitRunner" 245) "java/lang/String" "value" "[B") (.int 2)) (.int 83)) (by decide +kernel)
  | 3, _ => exact hs (Cond.eq (.elem (.field (Term.string "KitRunner" 245) "java/lang/String" "value" "[B") (.int 3)) (.int 83)) (by decide +kernel)
  | k + 4, hk => exact absurd hk (by simp)
set_option maxRecDepth 100000 in
theorem k_st {b : Nat} {s : State} (hts : ∀ w ∈ lw_tbl, w.before #[Value.ref b] s = true) (hgv : (Cond.and given_1 narrow_1).before #[Value.ref b] s = true) (A : Nat → Prop) (hA : ∀ a : Nat, a < s.heap.size → ¬ A a) : ∃ σ : kSg, kSt σ A s s.heap := by
  have hs := flat_of_before _ hgv
  obtain ⟨tL, eL, hL⟩ := va_Tof (tm := (Term.static "KitRunner" "LATTICE" "[I")) (ty := .int) (N := 12) (f := fun j => .int (kLat j)) (A := A) (by decide) (hs _ (by decide +kernel)) (va_eqt (hs (Cond.eq (.length (Term.static "KitRunner" "LATTICE" "[I")) (.int 12)) (by decide +kernel))) (fun j hj => by
    match j, hj with
    | 0, _ => exact va_eqt (hs (Cond.eq (.elem (Term.static "KitRunner" "LATTICE" "[I") (.int 0)) (.int 0)) (by decide +kernel))
    | 1, _ => exact va_eqt (hs (Cond.eq (.elem (Term.static "KitRunner" "LATTICE" "[I") (.int 1)) (.int 1)) (by decide +kernel))
    | 2, _ => exact va_eqt (hs (Cond.eq (.elem (Term.static "KitRunner" "LATTICE" "[I") (.int 2)) (.int (-1))) (by decide +kernel))
    | 3, _ => exact va_eqt (hs (Cond.eq (.elem (Term.static "KitRunner" "LATTICE" "[I") (.int 3)) (.int 2)) (by decide +kernel))
    | 4, _ => exact va_eqt (hs (Cond.eq (.elem (Term.static "KitRunner" "LATTICE" "[I") (.int 4)) (.int (-2147483648))) (by decide +kernel))
    | 5, _ => exact va_eqt (hs (Cond.eq (.elem (Term.static "KitRunner" "LATTICE" "[I") (.int 5)) (.int 2147483647)) (by decide +kernel))
    | 6, _ => exact va_eqt (hs (Cond.eq (.elem (Term.static "KitRunner" "LATTICE" "[I") (.int 6)) (.int 3)) (by decide +kernel))
    | 7, _ => exact va_eqt (hs (Cond.eq (.elem (Term.static "KitRunner" "LATTICE" "[I") (.int 7)) (.int 31)) (by decide +kernel))
    | 8, _ => exact va_eqt (hs (Cond.eq (.elem (Term.static "KitRunner" "LATTICE" "[I") (.int 8)) (.int 32)) (by decide +kernel))
    | 9, _ => exact va_eqt (hs (Cond.eq (.elem (Term.static "KitRunner" "LATTICE" "[I") (.int 9)) (.int (-2))) (by decide +kernel))
    | 10, _ => exact va_eqt (hs (Cond.eq (.elem (Term.static "KitRunner" "LATTICE" "[I") (.int 10)) (.int 128)) (by decide +kernel))
    | 11, _ => exact va_eqt (hs (Cond.eq (.elem (Term.static "KitRunner" "LATTICE" "[I") (.int 11)) (.int 65536)) (by decide +kernel))
    | k + 12, hk => exact absurd hk (by omega)) hA
  obtain ⟨tC, eC, hC⟩ := va_Tof (tm := (Term.static "KitRunner$EntryPoints" "CELLS" "[I")) (ty := .int) (N := 3) (f := fun j => .int (kCel j)) (A := A) (by decide) (hs _ (by decide +kernel)) (va_eqt (hs (Cond.eq (.length (Term.static "KitRunner$EntryPoints" "CELLS" "[I")) (.int 3)) (by decide +kernel))) (fun j hj => by
    match j, hj with
    | 0, _ => exact va_eqt (hs (Cond.eq (.elem (Term.static "KitRunner$EntryPoints" "CELLS" "[I") (.int 0)) (.int 70)) (by decide +kernel))
    | 1, _ => exact va_eqt (hs (Cond.eq (.elem (Term.static "KitRunner$EntryPoints" "CELLS" "[I") (.int 1)) (.int 80)) (by decide +kernel))
    | 2, _ => exact va_eqt (hs (Cond.eq (.elem (Term.static "KitRunner$EntryPoints" "CELLS" "[I") (.int 2)) (.int 90)) (by decide +kernel))
    | k + 3, hk => exact absurd hk (by omega)) hA
  obtain ⟨a0, v0, h0, g0⟩ := k_str0 hs hA
  obtain ⟨a1, v1, h1, g1⟩ := k_str1 hs hA
  obtain ⟨a2, v2, h2, g2⟩ := k_str2 hs hA
  obtain ⟨a3, v3, h3, g3⟩ := k_str3 hs hA
  obtain ⟨a4, v4, h4, g4⟩ := k_str4 hs hA
  obtain ⟨a5, v5, h5, g5⟩ := k_str5 hs hA
  obtain ⟨a6, v6, h6, g6⟩ := k_str6 hs hA
  obtain ⟨a7, v7, h7, g7⟩ := k_str7 hs hA
  obtain ⟨a8, v8, h8, g8⟩ := k_str8 hs hA
  obtain ⟨a9, v9, h9, g9⟩ := k_str9 hs hA
  obtain ⟨a10, v10, h10, g10⟩ := k_str10 hs hA
  obtain ⟨a11, v11, h11, g11⟩ := k_str11 hs hA
  obtain ⟨a12, v12, h12, g12⟩ := k_str12 hs hA
  obtain ⟨a13, v13, h13, g13⟩ := k_str13 hs hA
  obtain ⟨a14, v14, h14, g14⟩ := k_str14 hs hA
  obtain ⟨a15, v15, h15, g15⟩ := k_str15 hs hA
  obtain ⟨a16, v16, h16, g16⟩ := k_str16 hs hA
  obtain ⟨a17, v17, h17, g17⟩ := k_str17 hs hA
  obtain ⟨a18, v18, h18, g18⟩ := k_str18 hs hA
  refine ⟨(fun j => ([a0, a1, a2, a3, a4, a5, a6, a7, a8, a9, a10, a11, a12, a13, a14, a15, a16, a17, a18] : List Nat).getD j 0, fun j => ([v0, v1, v2, v3, v4, v5, v6, v7, v8, v9, v10, v11, v12, v13, v14, v15, v16, v17, v18] : List Nat).getD j 0, tL, tC), va_Zof (hts (Jvm.Cond.laysStatic "KitRunner" "LATTICE" "[I") (List.mem_append_right _ (List.mem_of_getElem? (i := 386) (by decide +kernel)))) (hts (Jvm.Cond.initialized "KitRunner") (List.mem_append_right _ (List.mem_of_getElem? (i := 1) (by decide +kernel)))) eL hA, hL, va_Zof (hts (Jvm.Cond.laysStatic "KitRunner$EntryPoints" "CELLS" "[I") (List.mem_append_right _ (List.mem_of_getElem? (i := 324) (by decide +kernel)))) (hts (Jvm.Cond.initialized "KitRunner$EntryPoints") (List.mem_append_right _ (List.mem_of_getElem? (i := 10) (by decide +kernel)))) eC hA, hC, va_Zof (hts (Jvm.Cond.laysStatic "java/lang/String" "COMPACT_STRINGS" "Z") (List.mem_append_right _ (List.mem_of_getElem? (i := 266) (by decide +kernel)))) (hts (Jvm.Cond.initialized "java/lang/String") (List.mem_append_right _ (List.mem_of_getElem? (i := 11) (by decide +kernel)))) (va_eqi (hs _ (by decide +kernel))) hA, fun j hj => ?_, fun j hj => ?_, ?_, ?_⟩
  · match j, hj with
    | 0, _ => exact h0
    | 1, _ => exact h1
    | 2, _ => exact h2
    | 3, _ => exact h3
    | 4, _ => exact h4
    | 5, _ => exact h5
    | 6, _ => exact h6
    | 7, _ => exact h7
    | 8, _ => exact h8
    | 9, _ => exact h9
    | 10, _ => exact h10
    | 11, _ => exact h11
    | 12, _ => exact h12
    | 13, _ => exact h13
    | 14, _ => exact h14
    | 15, _ => exact h15
    | 16, _ => exact h16
    | 17, _ => exact h17
    | 18, _ => exact h18
    | k + 19, hk => exact absurd hk (by unfold nTx; omega)
  · match j, hj with
    | 0, _ => exact vk_R.of (A := #[Value.ref b]) (hts (Jvm.Cond.stringRef "KitRunner$EntryPoints" (7 : Nat) "add") (List.mem_append_right _ (List.mem_of_getElem? (i := 238) (by decide +kernel)))) g0
    | 1, _ => exact vk_R.of (A := #[Value.ref b]) (hts (Jvm.Cond.stringRef "KitRunner$EntryPoints" (9 : Nat) "sub") (List.mem_append_right _ (List.mem_of_getElem? (i := 239) (by decide +kernel)))) g1
    | 2, _ => exact vk_R.of (A := #[Value.ref b]) (hts (Jvm.Cond.stringRef "KitRunner$EntryPoints" (11 : Nat) "mul") (List.mem_append_right _ (List.mem_of_getElem? (i := 240) (by decide +kernel)))) g2
    | 3, _ => exact vk_R.of (A := #[Value.ref b]) (hts (Jvm.Cond.stringRef "KitRunner$EntryPoints" (13 : Nat) "div") (List.mem_append_right _ (List.mem_of_getElem? (i := 241) (by decide +kernel)))) g3
    | 4, _ => exact vk_R.of (A := #[Value.ref b]) (hts (Jvm.Cond.stringRef "KitRunner$EntryPoints" (15 : Nat) "rem") (List.mem_append_right _ (List.mem_of_getElem? (i := 242) (by decide +kernel)))) g4
    | 5, _ => exact vk_R.of (A := #[Value.ref b]) (hts (Jvm.Cond.stringRef "KitRunner$EntryPoints" (17 : Nat) "shl") (List.mem_append_right _ (List.mem_of_getElem? (i := 243) (by decide +kernel)))) g5
    | 6, _ => exact vk_R.of (A := #[Value.ref b]) (hts (Jvm.Cond.stringRef "KitRunner$EntryPoints" (19 : Nat) "shr") (List.mem_append_right _ (List.mem_of_getElem? (i := 244) (by decide +kernel)))) g6
    | 7, _ => exact vk_R.of (A := #[Value.ref b]) (hts (Jvm.Cond.stringRef "KitRunner$EntryPoints" (21 : Nat) "ushr") (List.mem_append_right _ (List.mem_of_getElem? (i := 245) (by decide +kernel)))) g7
    | 8, _ => exact vk_R.of (A := #[Value.ref b]) (hts (Jvm.Cond.stringRef "KitRunner$EntryPoints" (23 : Nat) "byte") (List.mem_append_right _ (List.mem_of_getElem? (i := 246) (by decide +kernel)))) g8
    | 9, _ => exact vk_R.of (A := #[Value.ref b]) (hts (Jvm.Cond.stringRef "KitRunner$EntryPoints" (25 : Nat) "char") (List.mem_append_right _ (List.mem_of_getElem? (i := 247) (by decide +kernel)))) g9
    | 10, _ => exact vk_R.of (A := #[Value.ref b]) (hts (Jvm.Cond.stringRef "KitRunner$EntryPoints" (27 : Nat) "at") (List.mem_append_right _ (List.mem_of_getElem? (i := 248) (by decide +kernel)))) g10
    | 11, _ => exact vk_R.of (A := #[Value.ref b]) (hts (Jvm.Cond.stringRef "KitRunner$EntryPoints" (29 : Nat) "cell") (List.mem_append_right _ (List.mem_of_getElem? (i := 249) (by decide +kernel)))) g11
    | 12, _ => exact vk_R.of (A := #[Value.ref b]) (hts (Jvm.Cond.stringRef "KitRunner$EntryPoints" (31 : Nat) "size") (List.mem_append_right _ (List.mem_of_getElem? (i := 250) (by decide +kernel)))) g12
    | 13, _ => exact vk_R.of (A := #[Value.ref b]) (hts (Jvm.Cond.stringRef "KitRunner$EntryPoints" (33 : Nat) "cast") (List.mem_append_right _ (List.mem_of_getElem? (i := 251) (by decide +kernel)))) g13
    | 14, _ => exact vk_R.of (A := #[Value.ref b]) (hts (Jvm.Cond.stringRef "KitRunner$EntryPoints" (35 : Nat) "text") (List.mem_append_right _ (List.mem_of_getElem? (i := 252) (by decide +kernel)))) g14
    | 15, _ => exact vk_R.of (A := #[Value.ref b]) (hts (Jvm.Cond.stringRef "KitRunner$EntryPoints" (37 : Nat) "cmp") (List.mem_append_right _ (List.mem_of_getElem? (i := 253) (by decide +kernel)))) g15
    | 16, _ => exact vk_R.of (A := #[Value.ref b]) (hts (Jvm.Cond.stringRef "KitRunner$EntryPoints" (45 : Nat) "kit") (List.mem_append_right _ (List.mem_of_getElem? (i := 319) (by decide +kernel)))) g16
    | 17, _ => exact vk_R.of (A := #[Value.ref b]) (hts (Jvm.Cond.stringRef "KitRunner" (243 : Nat) "FAIL") (List.mem_append_right _ (List.mem_of_getElem? (i := 458) (by decide +kernel)))) g17
    | 18, _ => exact vk_R.of (A := #[Value.ref b]) (hts (Jvm.Cond.stringRef "KitRunner" (245 : Nat) "PASS") (List.mem_append_right _ (List.mem_of_getElem? (i := 459) (by decide +kernel)))) g18
    | k + 19, hk => exact absurd hk (by unfold nTx; omega)
  · exact va_Zqof (hts (Jvm.Cond.laysStatic "jdk/internal/util/Preconditions" "SIOOBE_FORMATTER" "Ljava/util/function/BiFunction;") (List.mem_append_right _ (List.mem_of_getElem? (i := 282) (by decide +kernel)))) (hts (Jvm.Cond.initialized "jdk/internal/util/Preconditions") (List.mem_append_right _ (List.mem_of_getElem? (i := 13) (by decide +kernel)))) (hs _ (by decide +kernel)) hA
  · exact ⟨va_Nw.of rfl (hts (Jvm.Cond.methodLinkNest "KitRunner$Machine" (45 : Nat) ({ cls := "KitRunner", name := "isTrouble", desc := "(J)Z" } : Jvm.MethodName) "KitRunner") (List.mem_append_right _ (List.mem_of_getElem? (i := 339) (by decide +kernel)))), va_Nw.of rfl (hts (Jvm.Cond.methodLinkNest "KitRunner$Tally" (45 : Nat) ({ cls := "KitRunner", name := "isTrouble", desc := "(J)Z" } : Jvm.MethodName) "KitRunner") (List.mem_append_right _ (List.mem_of_getElem? (i := 414) (by decide +kernel)))), va_Nw.of rfl (hts (Jvm.Cond.fieldLinkNest "KitRunner$Machine" (39 : Nat) "KitRunner" "LATTICE" "[I" "KitRunner") (List.mem_append_right _ (List.mem_of_getElem? (i := 500) (by decide +kernel)))), va_Nw.of rfl (hts (Jvm.Cond.fieldLinkNest "KitRunner$Shrinker" (34 : Nat) "KitRunner" "LATTICE" "[I" "KitRunner") (List.mem_append_right _ (List.mem_of_getElem? (i := 514) (by decide +kernel))))⟩
