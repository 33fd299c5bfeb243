abbrev kMach : Type := (Nat → Int32) × (Nat → Int32) × (Nat → Int32) × Nat
abbrev wMach (cI cJ cC cZ : ClassId) (h h_0 h_1 h_2 : Nat) (P : kMach) : va_W := [(h, .inr (1, [.ref h_0, .ref h_1, .ref h_2, .int (nI P.2.2.2)])), (h_0, .inl (cI, 4, .inl P.1)), (h_1, .inl (cI, 4, .inl P.2.1)), (h_2, .inl (cI, 4, .inl P.2.2.1))]
abbrev kExc : Type := (Nat → Int32) × (Nat → Int32) × Nat
abbrev wExc (cI cJ cC cZ : ClassId) (h h_0 h_1 : Nat) (P : kExc) : va_W := [(h, .inr (2, [.ref h_0, .ref h_1, .int (nI P.2.2)])), (h_0, .inl (cI, 6, .inl P.1)), (h_1, .inl (cI, 6, .inl P.2.1))]
abbrev kPB : Type := (Nat → Int32) × (Nat → Int32) × (Nat → Int32) × Nat
abbrev wPB (cI cJ cC cZ : ClassId) (h h_0 h_1 h_2 : Nat) (P : kPB) : va_W := [(h, .inr (3, [.ref h_0, .ref h_1, .ref h_2, .int (nI P.2.2.2)])), (h_0, .inl (cI, 16, .inl P.1)), (h_1, .inl (cI, 16, .inl P.2.1)), (h_2, .inl (cI, 12, .inl P.2.2.1))]
abbrev kTal : Type := (Nat → Int32) × (Nat → Int32) × (Nat → Int32) × Nat
abbrev wTal (cI cJ cC cZ : ClassId) (h h_0 h_1 h_2 : Nat) (P : kTal) : va_W := [(h, .inr (4, [.ref h_0, .ref h_1, .ref h_2, .int (nI P.2.2.2)])), (h_0, .inl (cI, 16, .inl P.1)), (h_1, .inl (cI, 16, .inl P.2.1)), (h_2, .inl (cI, 16, .inl P.2.2.1))]
abbrev kFL : Type := (Nat → Int32) × (Nat → Int32) × (Nat → Int32) × (Nat → Int64) × (Nat → Int64) × Nat
abbrev wFL (cI cJ cC cZ : ClassId) (h h_0 h_1 h_2 h_3 h_4 : Nat) (P : kFL) : va_W := [(h, .inr (5, [.ref h_0, .ref h_1, .ref h_2, .ref h_3, .ref h_4, .int (nI P.2.2.2.2.2)])), (h_0, .inl (cI, 12, .inl P.1)), (h_1, .inl (cI, 12, .inl P.2.1)), (h_2, .inl (cI, 12, .inl P.2.2.1)), (h_3, .inl (cJ, 12, .inr (.inl P.2.2.2.1))), (h_4, .inl (cJ, 12, .inr (.inl P.2.2.2.2.1)))]
abbrev kRep : Type := (Nat → Int32) × Nat
abbrev wRep (cI cJ cC cZ : ClassId) (h h_0 : Nat) (P : kRep) : va_W := [(h, .inr (6, [.ref h_0, .int (nI P.2)])), (h_0, .inl (cC, 256, .inl P.1))]
abbrev kShr : Type := Nat × Nat × Nat
abbrev wShr (cI cJ cC cZ : ClassId) (h : Nat) (P : kShr) : va_W := [(h, .inr (7, [.int (nI P.1), .int (nI P.2.1), .int (nI P.2.2)]))]
abbrev kKit : Type := kMach × kExc × kPB × kTal × kFL × kRep × kShr × Int32 × Nat
abbrev wKit (cI cJ cC cZ : ClassId) (h h_0 h_0_0 h_0_1 h_0_2 h_1 h_1_0 h_1_1 h_2 h_2_0 h_2_1 h_2_2 h_3 h_3_0 h_3_1 h_3_2 h_4 h_4_0 h_4_1 h_4_2 h_4_3 h_4_4 h_5 h_5_0 h_6 : Nat) (P : kKit) : va_W := [(h, .inr (0, [.ref h_0, .ref h_1, .ref h_2, .ref h_3, .ref h_4, .ref h_5, .ref h_6, .int P.2.2.2.2.2.2.2.1, .int (nI P.2.2.2.2.2.2.2.2)])), (h_0, .inr (1, [.ref h_0_0, .ref h_0_1, .ref h_0_2, .int (nI P.1.2.2.2)])), (h_0_0, .inl (cI, 4, .inl P.1.1)), (h_0_1, .inl (cI, 4, .inl P.1.2.1)), (h_0_2, .inl (cI, 4, .inl P.1.2.2.1)), (h_1, .inr (2, [.ref h_1_0, .ref h_1_1, .int (nI P.2.1.2.2)])), (h_1_0, .inl (cI, 6, .inl P.2.1.1)), (h_1_1, .inl (cI, 6, .inl P.2.1.2.1)), (h_2, .inr (3, [.ref h_2_0, .ref h_2_1, .ref h_2_2, .int (nI P.2.2.1.2.2.2)])), (h_2_0, .inl (cI, 16, .inl P.2.2.1.1)), (h_2_1, .inl (cI, 16, .inl P.2.2.1.2.1)), (h_2_2, .inl (cI, 12, .inl P.2.2.1.2.2.1)), (h_3, .inr (4, [.ref h_3_0, .ref h_3_1, .ref h_3_2, .int (nI P.2.2.2.1.2.2.2)])), (h_3_0, .inl (cI, 16, .inl P.2.2.2.1.1)), (h_3_1, .inl (cI, 16, .inl P.2.2.2.1.2.1)), (h_3_2, .inl (cI, 16, .inl P.2.2.2.1.2.2.1)), (h_4, .inr (5, [.ref h_4_0, .ref h_4_1, .ref h_4_2, .ref h_4_3, .ref h_4_4, .int (nI P.2.2.2.2.1.2.2.2.2.2)])), (h_4_0, .inl (cI, 12, .inl P.2.2.2.2.1.1)), (h_4_1, .inl (cI, 12, .inl P.2.2.2.2.1.2.1)), (h_4_2, .inl (cI, 12, .inl P.2.2.2.2.1.2.2.1)), (h_4_3, .inl (cJ, 12, .inr (.inl P.2.2.2.2.1.2.2.2.1))), (h_4_4, .inl (cJ, 12, .inr (.inl P.2.2.2.2.1.2.2.2.2.1))), (h_5, .inr (6, [.ref h_5_0, .int (nI P.2.2.2.2.2.1.2)])), (h_5_0, .inl (cC, 256, .inl P.2.2.2.2.2.1.1)), (h_6, .inr (7, [.int (nI P.2.2.2.2.2.2.1.1), .int (nI P.2.2.2.2.2.2.1.2.1), .int (nI P.2.2.2.2.2.2.1.2.2)]))]
abbrev kVM : Type := kMach × Int32 × Nat
abbrev wVM (cI cJ cC cZ : ClassId) (h h_0 h_0_0 h_0_1 h_0_2 h_1 h_2 h_3 h_4 h_5 h_6 : Nat) (P : kVM) : va_W := [(h, .inr (0, [.ref h_0, .ref h_1, .ref h_2, .ref h_3, .ref h_4, .ref h_5, .ref h_6, .int P.2.1, .int (nI P.2.2)])), (h_0, .inr (1, [.ref h_0_0, .ref h_0_1, .ref h_0_2, .int (nI P.1.2.2.2)])), (h_0_0, .inl (cI, 4, .inl P.1.1)), (h_0_1, .inl (cI, 4, .inl P.1.2.1)), (h_0_2, .inl (cI, 4, .inl P.1.2.2.1))]
abbrev kVX : Type := kExc × Int32 × Nat
abbrev wVX (cI cJ cC cZ : ClassId) (h h_0 h_1 h_1_0 h_1_1 h_2 h_3 h_4 h_5 h_6 : Nat) (P : kVX) : va_W := [(h, .inr (0, [.ref h_0, .ref h_1, .ref h_2, .ref h_3, .ref h_4, .ref h_5, .ref h_6, .int P.2.1, .int (nI P.2.2)])), (h_1, .inr (2, [.ref h_1_0, .ref h_1_1, .int (nI P.1.2.2)])), (h_1_0, .inl (cI, 6, .inl P.1.1)), (h_1_1, .inl (cI, 6, .inl P.1.2.1))]
abbrev kVMX : Type := kMach × kExc × Int32 × Nat
abbrev wVMX (cI cJ cC cZ : ClassId) (h h_0 h_0_0 h_0_1 h_0_2 h_1 h_1_0 h_1_1 h_2 h_3 h_4 h_5 h_6 : Nat) (P : kVMX) : va_W := [(h, .inr (0, [.ref h_0, .ref h_1, .ref h_2, .ref h_3, .ref h_4, .ref h_5, .ref h_6, .int P.2.2.1, .int (nI P.2.2.2)])), (h_0, .inr (1, [.ref h_0_0, .ref h_0_1, .ref h_0_2, .int (nI P.1.2.2.2)])), (h_0_0, .inl (cI, 4, .inl P.1.1)), (h_0_1, .inl (cI, 4, .inl P.1.2.1)), (h_0_2, .inl (cI, 4, .inl P.1.2.2.1)), (h_1, .inr (2, [.ref h_1_0, .ref h_1_1, .int (nI P.2.1.2.2)])), (h_1_0, .inl (cI, 6, .inl P.2.1.1)), (h_1_1, .inl (cI, 6, .inl P.2.1.2.1))]
abbrev kV0 : Type := Int32 × Nat
abbrev wV0 (cI cJ cC cZ : ClassId) (h h_0 h_1 h_2 h_3 h_4 h_5 h_6 : Nat) (P : kV0) : va_W := [(h, .inr (0, [.ref h_0, .ref h_1, .ref h_2, .ref h_3, .ref h_4, .ref h_5, .ref h_6, .int P.1, .int (nI P.2)]))]
abbrev kVT : Type := kTal × Int32 × Nat
abbrev wVT (cI cJ cC cZ : ClassId) (h h_0 h_1 h_2 h_3 h_3_0 h_3_1 h_3_2 h_4 h_5 h_6 : Nat) (P : kVT) : va_W := [(h, .inr (0, [.ref h_0, .ref h_1, .ref h_2, .ref h_3, .ref h_4, .ref h_5, .ref h_6, .int P.2.1, .int (nI P.2.2)])), (h_3, .inr (4, [.ref h_3_0, .ref h_3_1, .ref h_3_2, .int (nI P.1.2.2.2)])), (h_3_0, .inl (cI, 16, .inl P.1.1)), (h_3_1, .inl (cI, 16, .inl P.1.2.1)), (h_3_2, .inl (cI, 16, .inl P.1.2.2.1))]
abbrev kVR : Type := kRep × Int32 × Nat
abbrev wVR (cI cJ cC cZ : ClassId) (h h_0 h_1 h_2 h_3 h_4 h_5 h_5_0 h_6 : Nat) (P : kVR) : va_W := [(h, .inr (0, [.ref h_0, .ref h_1, .ref h_2, .ref h_3, .ref h_4, .ref h_5, .ref h_6, .int P.2.1, .int (nI P.2.2)])), (h_5, .inr (6, [.ref h_5_0, .int (nI P.1.2)])), (h_5_0, .inl (cC, 256, .inl P.1.1))]
abbrev kVF : Type := kFL × Int32 × Nat
abbrev wVF (cI cJ cC cZ : ClassId) (h h_0 h_1 h_2 h_3 h_4 h_4_0 h_4_1 h_4_2 h_4_3 h_4_4 h_5 h_6 : Nat) (P : kVF) : va_W := [(h, .inr (0, [.ref h_0, .ref h_1, .ref h_2, .ref h_3, .ref h_4, .ref h_5, .ref h_6, .int P.2.1, .int (nI P.2.2)])), (h_4, .inr (5, [.ref h_4_0, .ref h_4_1, .ref h_4_2, .ref h_4_3, .ref h_4_4, .int (nI P.1.2.2.2.2.2)])), (h_4_0, .inl (cI, 12, .inl P.1.1)), (h_4_1, .inl (cI, 12, .inl P.1.2.1)), (h_4_2, .inl (cI, 12, .inl P.1.2.2.1)), (h_4_3, .inl (cJ, 12, .inr (.inl P.1.2.2.2.1))), (h_4_4, .inl (cJ, 12, .inr (.inl P.1.2.2.2.2.1)))]
abbrev kVS : Type := kMach × kFL × kShr × Int32 × Nat
abbrev wVS (cI cJ cC cZ : ClassId) (h h_0 h_0_0 h_0_1 h_0_2 h_1 h_2 h_3 h_4 h_4_0 h_4_1 h_4_2 h_4_3 h_4_4 h_5 h_6 : Nat) (P : kVS) : va_W := [(h, .inr (0, [.ref h_0, .ref h_1, .ref h_2, .ref h_3, .ref h_4, .ref h_5, .ref h_6, .int P.2.2.2.1, .int (nI P.2.2.2.2)])), (h_0, .inr (1, [.ref h_0_0, .ref h_0_1, .ref h_0_2, .int (nI P.1.2.2.2)])), (h_0_0, .inl (cI, 4, .inl P.1.1)), (h_0_1, .inl (cI, 4, .inl P.1.2.1)), (h_0_2, .inl (cI, 4, .inl P.1.2.2.1)), (h_4, .inr (5, [.ref h_4_0, .ref h_4_1, .ref h_4_2, .ref h_4_3, .ref h_4_4, .int (nI P.2.1.2.2.2.2.2)])), (h_4_0, .inl (cI, 12, .inl P.2.1.1)), (h_4_1, .inl (cI, 12, .inl P.2.1.2.1)), (h_4_2, .inl (cI, 12, .inl P.2.1.2.2.1)), (h_4_3, .inl (cJ, 12, .inr (.inl P.2.1.2.2.2.1))), (h_4_4, .inl (cJ, 12, .inr (.inl P.2.1.2.2.2.2.1))), (h_6, .inr (7, [.int (nI P.2.2.1.1), .int (nI P.2.2.1.2.1), .int (nI P.2.2.1.2.2)]))]
abbrev kVC : Type := kMach × kTal × kFL × Int32 × Nat
abbrev wVC (cI cJ cC cZ : ClassId) (h h_0 h_0_0 h_0_1 h_0_2 h_1 h_2 h_3 h_3_0 h_3_1 h_3_2 h_4 h_4_0 h_4_1 h_4_2 h_4_3 h_4_4 h_5 h_6 : Nat) (P : kVC) : va_W := [(h, .inr (0, [.ref h_0, .ref h_1, .ref h_2, .ref h_3, .ref h_4, .ref h_5, .ref h_6, .int P.2.2.2.1, .int (nI P.2.2.2.2)])), (h_0, .inr (1, [.ref h_0_0, .ref h_0_1, .ref h_0_2, .int (nI P.1.2.2.2)])), (h_0_0, .inl (cI, 4, .inl P.1.1)), (h_0_1, .inl (cI, 4, .inl P.1.2.1)), (h_0_2, .inl (cI, 4, .inl P.1.2.2.1)), (h_3, .inr (4, [.ref h_3_0, .ref h_3_1, .ref h_3_2, .int (nI P.2.1.2.2.2)])), (h_3_0, .inl (cI, 16, .inl P.2.1.1)), (h_3_1, .inl (cI, 16, .inl P.2.1.2.1)), (h_3_2, .inl (cI, 16, .inl P.2.1.2.2.1)), (h_4, .inr (5, [.ref h_4_0, .ref h_4_1, .ref h_4_2, .ref h_4_3, .ref h_4_4, .int (nI P.2.2.1.2.2.2.2.2)])), (h_4_0, .inl (cI, 12, .inl P.2.2.1.1)), (h_4_1, .inl (cI, 12, .inl P.2.2.1.2.1)), (h_4_2, .inl (cI, 12, .inl P.2.2.1.2.2.1)), (h_4_3, .inl (cJ, 12, .inr (.inl P.2.2.1.2.2.2.1))), (h_4_4, .inl (cJ, 12, .inr (.inl P.2.2.1.2.2.2.2.1)))]
abbrev kVE : Type := kMach × kExc × kPB × kTal × kFL × Int32 × Nat
abbrev wVE (cI cJ cC cZ : ClassId) (h h_0 h_0_0 h_0_1 h_0_2 h_1 h_1_0 h_1_1 h_2 h_2_0 h_2_1 h_2_2 h_3 h_3_0 h_3_1 h_3_2 h_4 h_4_0 h_4_1 h_4_2 h_4_3 h_4_4 h_5 h_6 : Nat) (P : kVE) : va_W := [(h, .inr (0, [.ref h_0, .ref h_1, .ref h_2, .ref h_3, .ref h_4, .ref h_5, .ref h_6, .int P.2.2.2.2.2.1, .int (nI P.2.2.2.2.2.2)])), (h_0, .inr (1, [.ref h_0_0, .ref h_0_1, .ref h_0_2, .int (nI P.1.2.2.2)])), (h_0_0, .inl (cI, 4, .inl P.1.1)), (h_0_1, .inl (cI, 4, .inl P.1.2.1)), (h_0_2, .inl (cI, 4, .inl P.1.2.2.1)), (h_1, .inr (2, [.ref h_1_0, .ref h_1_1, .int (nI P.2.1.2.2)])), (h_1_0, .inl (cI, 6, .inl P.2.1.1)), (h_1_1, .inl (cI, 6, .inl P.2.1.2.1)), (h_2, .inr (3, [.ref h_2_0, .ref h_2_1, .ref h_2_2, .int (nI P.2.2.1.2.2.2)])), (h_2_0, .inl (cI, 16, .inl P.2.2.1.1)), (h_2_1, .inl (cI, 16, .inl P.2.2.1.2.1)), (h_2_2, .inl (cI, 12, .inl P.2.2.1.2.2.1)), (h_3, .inr (4, [.ref h_3_0, .ref h_3_1, .ref h_3_2, .int (nI P.2.2.2.1.2.2.2)])), (h_3_0, .inl (cI, 16, .inl P.2.2.2.1.1)), (h_3_1, .inl (cI, 16, .inl P.2.2.2.1.2.1)), (h_3_2, .inl (cI, 16, .inl P.2.2.2.1.2.2.1)), (h_4, .inr (5, [.ref h_4_0, .ref h_4_1, .ref h_4_2, .ref h_4_3, .ref h_4_4, .int (nI P.2.2.2.2.1.2.2.2.2.2)])), (h_4_0, .inl (cI, 12, .inl P.2.2.2.2.1.1)), (h_4_1, .inl (cI, 12, .inl P.2.2.2.2.1.2.1)), (h_4_2, .inl (cI, 12, .inl P.2.2.2.2.1.2.2.1)), (h_4_3, .inl (cJ, 12, .inr (.inl P.2.2.2.2.1.2.2.2.1))), (h_4_4, .inl (cJ, 12, .inr (.inl P.2.2.2.2.1.2.2.2.2.1)))]
abbrev kVG : Type := kPB × kTal × kFL × kRep × Int32 × Nat
abbrev wVG (cI cJ cC cZ : ClassId) (h h_0 h_1 h_2 h_2_0 h_2_1 h_2_2 h_3 h_3_0 h_3_1 h_3_2 h_4 h_4_0 h_4_1 h_4_2 h_4_3 h_4_4 h_5 h_5_0 h_6 : Nat) (P : kVG) : va_W := [(h, .inr (0, [.ref h_0, .ref h_1, .ref h_2, .ref h_3, .ref h_4, .ref h_5, .ref h_6, .int P.2.2.2.2.1, .int (nI P.2.2.2.2.2)])), (h_2, .inr (3, [.ref h_2_0, .ref h_2_1, .ref h_2_2, .int (nI P.1.2.2.2)])), (h_2_0, .inl (cI, 16, .inl P.1.1)), (h_2_1, .inl (cI, 16, .inl P.1.2.1)), (h_2_2, .inl (cI, 12, .inl P.1.2.2.1)), (h_3, .inr (4, [.ref h_3_0, .ref h_3_1, .ref h_3_2, .int (nI P.2.1.2.2.2)])), (h_3_0, .inl (cI, 16, .inl P.2.1.1)), (h_3_1, .inl (cI, 16, .inl P.2.1.2.1)), (h_3_2, .inl (cI, 16, .inl P.2.1.2.2.1)), (h_4, .inr (5, [.ref h_4_0, .ref h_4_1, .ref h_4_2, .ref h_4_3, .ref h_4_4, .int (nI P.2.2.1.2.2.2.2.2)])), (h_4_0, .inl (cI, 12, .inl P.2.2.1.1)), (h_4_1, .inl (cI, 12, .inl P.2.2.1.2.1)), (h_4_2, .inl (cI, 12, .inl P.2.2.1.2.2.1)), (h_4_3, .inl (cJ, 12, .inr (.inl P.2.2.1.2.2.2.1))), (h_4_4, .inl (cJ, 12, .inr (.inl P.2.2.1.2.2.2.2.1))), (h_5, .inr (6, [.ref h_5_0, .int (nI P.2.2.2.1.2)])), (h_5_0, .inl (cC, 256, .inl P.2.2.2.1.1))]
abbrev kVW : Type := kTal × kRep × Int32 × Nat
abbrev wVW (cI cJ cC cZ : ClassId) (h h_0 h_1 h_2 h_3 h_3_0 h_3_1 h_3_2 h_4 h_5 h_5_0 h_6 : Nat) (P : kVW) : va_W := [(h, .inr (0, [.ref h_0, .ref h_1, .ref h_2, .ref h_3, .ref h_4, .ref h_5, .ref h_6, .int P.2.2.1, .int (nI P.2.2.2)])), (h_3, .inr (4, [.ref h_3_0, .ref h_3_1, .ref h_3_2, .int (nI P.1.2.2.2)])), (h_3_0, .inl (cI, 16, .inl P.1.1)), (h_3_1, .inl (cI, 16, .inl P.1.2.1)), (h_3_2, .inl (cI, 16, .inl P.1.2.2.1)), (h_5, .inr (6, [.ref h_5_0, .int (nI P.2.1.2)])), (h_5_0, .inl (cC, 256, .inl P.2.1.1))]
abbrev kVRun : Type := kMach × kExc × kPB × kTal × kFL × kRep × Int32 × Nat
abbrev wVRun (cI cJ cC cZ : ClassId) (h h_0 h_0_0 h_0_1 h_0_2 h_1 h_1_0 h_1_1 h_2 h_2_0 h_2_1 h_2_2 h_3 h_3_0 h_3_1 h_3_2 h_4 h_4_0 h_4_1 h_4_2 h_4_3 h_4_4 h_5 h_5_0 h_6 : Nat) (P : kVRun) : va_W := [(h, .inr (0, [.ref h_0, .ref h_1, .ref h_2, .ref h_3, .ref h_4, .ref h_5, .ref h_6, .int P.2.2.2.2.2.2.1, .int (nI P.2.2.2.2.2.2.2)])), (h_0, .inr (1, [.ref h_0_0, .ref h_0_1, .ref h_0_2, .int (nI P.1.2.2.2)])), (h_0_0, .inl (cI, 4, .inl P.1.1)), (h_0_1, .inl (cI, 4, .inl P.1.2.1)), (h_0_2, .inl (cI, 4, .inl P.1.2.2.1)), (h_1, .inr (2, [.ref h_1_0, .ref h_1_1, .int (nI P.2.1.2.2)])), (h_1_0, .inl (cI, 6, .inl P.2.1.1)), (h_1_1, .inl (cI, 6, .inl P.2.1.2.1)), (h_2, .inr (3, [.ref h_2_0, .ref h_2_1, .ref h_2_2, .int (nI P.2.2.1.2.2.2)])), (h_2_0, .inl (cI, 16, .inl P.2.2.1.1)), (h_2_1, .inl (cI, 16, .inl P.2.2.1.2.1)), (h_2_2, .inl (cI, 12, .inl P.2.2.1.2.2.1)), (h_3, .inr (4, [.ref h_3_0, .ref h_3_1, .ref h_3_2, .int (nI P.2.2.2.1.2.2.2)])), (h_3_0, .inl (cI, 16, .inl P.2.2.2.1.1)), (h_3_1, .inl (cI, 16, .inl P.2.2.2.1.2.1)), (h_3_2, .inl (cI, 16, .inl P.2.2.2.1.2.2.1)), (h_4, .inr (5, [.ref h_4_0, .ref h_4_1, .ref h_4_2, .ref h_4_3, .ref h_4_4, .int (nI P.2.2.2.2.1.2.2.2.2.2)])), (h_4_0, .inl (cI, 12, .inl P.2.2.2.2.1.1)), (h_4_1, .inl (cI, 12, .inl P.2.2.2.2.1.2.1)), (h_4_2, .inl (cI, 12, .inl P.2.2.2.2.1.2.2.1)), (h_4_3, .inl (cJ, 12, .inr (.inl P.2.2.2.2.1.2.2.2.1))), (h_4_4, .inl (cJ, 12, .inr (.inl P.2.2.2.2.1.2.2.2.2.1))), (h_5, .inr (6, [.ref h_5_0, .int (nI P.2.2.2.2.2.1.2)])), (h_5_0, .inl (cC, 256, .inl P.2.2.2.2.2.1.1))]
abbrev kVCt : Type := kMach × kExc × kPB × kTal × kRep × Int32 × Nat
abbrev wVCt (cI cJ cC cZ : ClassId) (h h_0 h_0_0 h_0_1 h_0_2 h_1 h_1_0 h_1_1 h_2 h_2_0 h_2_1 h_2_2 h_3 h_3_0 h_3_1 h_3_2 h_4 h_5 h_5_0 h_6 : Nat) (P : kVCt) : va_W := [(h, .inr (0, [.ref h_0, .ref h_1, .ref h_2, .ref h_3, .ref h_4, .ref h_5, .ref h_6, .int P.2.2.2.2.2.1, .int (nI P.2.2.2.2.2.2)])), (h_0, .inr (1, [.ref h_0_0, .ref h_0_1, .ref h_0_2, .int (nI P.1.2.2.2)])), (h_0_0, .inl (cI, 4, .inl P.1.1)), (h_0_1, .inl (cI, 4, .inl P.1.2.1)), (h_0_2, .inl (cI, 4, .inl P.1.2.2.1)), (h_1, .inr (2, [.ref h_1_0, .ref h_1_1, .int (nI P.2.1.2.2)])), (h_1_0, .inl (cI, 6, .inl P.2.1.1)), (h_1_1, .inl (cI, 6, .inl P.2.1.2.1)), (h_2, .inr (3, [.ref h_2_0, .ref h_2_1, .ref h_2_2, .int (nI P.2.2.1.2.2.2)])), (h_2_0, .inl (cI, 16, .inl P.2.2.1.1)), (h_2_1, .inl (cI, 16, .inl P.2.2.1.2.1)), (h_2_2, .inl (cI, 12, .inl P.2.2.1.2.2.1)), (h_3, .inr (4, [.ref h_3_0, .ref h_3_1, .ref h_3_2, .int (nI P.2.2.2.1.2.2.2)])), (h_3_0, .inl (cI, 16, .inl P.2.2.2.1.1)), (h_3_1, .inl (cI, 16, .inl P.2.2.2.1.2.1)), (h_3_2, .inl (cI, 16, .inl P.2.2.2.1.2.2.1)), (h_5, .inr (6, [.ref h_5_0, .int (nI P.2.2.2.2.1.2)])), (h_5_0, .inl (cC, 256, .inl P.2.2.2.2.1.1))]
/-! PURE: what the class's methods compute, in the order of its own tests. -/
def k_isEntry (x : Int32) : Bool := if x < 0 then false else if 16 ≤ x then false else true
def k_isTr (v : Int64) : Bool := if v < 10000000000 then false else true
def k_lsz (x : Int32) : Nat := if x = 1 then 3 else if x = 2 then 6 else 12
def k_size (a : Int32) : Int64 := if 0 ≤ a then (if a ≤ 64 then a.toInt64 else 64) else 30000000000
def k_cmp (a b : Int32) : Int32 := if b ≤ a then (if a = b then 0 else 1) else -1
def kOr (e a b : Int32) : Int64 :=
  if e = 0 then (a + b).toInt64 else if e = 1 then (a - b).toInt64 else if e = 2 then (a * b).toInt64
  else if e = 3 then (if b = 0 then 10000000000 else (a / b).toInt64)
  else if e = 4 then (if b = 0 then 10000000000 else (a - a / b * b).toInt64)
  else if e = 5 then (a <<< (b &&& 31)).toInt64 else if e = 6 then (a >>> (b &&& 31)).toInt64
  else if e = 7 then ((a.toUInt32 >>> (b.toUInt32 &&& Int32.toUInt32 31)).toInt32).toInt64
  else if e = 8 then (a.toInt8.toInt32).toInt64 else if e = 9 then ((a.toUInt32 % 65536).toInt32).toInt64
  else if e = 10 then (if a < 0 then 20000000000 else if a < 3 then (kChr 16 a.toNatClampNeg).toInt64 else 20000000000)
  else if e = 11 then (if b < 0 then 20000000000 else if b < 3 then (kCel b.toNatClampNeg).toInt64 else 20000000000)
  else if e = 12 then k_size a
  else if e = 13 then (if a = b then a.toInt64 else 40000000000)
  else if e = 14 then (if a ≤ b then 50000000000 else 4)
  else (k_cmp a b).toInt64
def k_app (so n a b : Int32) (f : Int64) : Bool :=
  if so = 0 then (if k_isTr f = true then false else if a = n then true else false)
  else if so = 1 then (if k_isTr f = true then false else if b = n then true else false)
  else if so = 2 then k_isTr f else if so = 3 then k_isTr f
  else (if k_isTr f = true then false else if f ≤ n.toInt64 then false else true)
def k_chg (so n : Int32) (f : Int64) : Int64 :=
  if so = 0 then (f.toInt32 + 1).toInt64 else if so = 1 then 10000000000 else if so = 2 then n.toInt64
  else if so = 3 then (if f = 50000000000 then 40000000000 else 50000000000) else f ^^^ 1
def k_mk (g : Int64) : Int32 := if k_isTr g = true then 4 <<< ((g / 10000000000).toInt32 &&& 31) else if 0 ≤ g then (if g = 0 then 2 else 4) else 1
def k_addFault (P : kMach) (e s n : Int32) : kMach × Bool := if P.2.2.2 < 4 then ((upd P.1 P.2.2.2 e, upd P.2.1 P.2.2.2 s, upd P.2.2.1 P.2.2.2 n, P.2.2.2 + 1), true) else (P, false)
def k_rmFaults (P : kMach) : kMach := (P.1, P.2.1, P.2.2.1, 0)
def k_giveL (P : kMach) (e a b : Int32) : Nat → Nat → Int64
  | 0, _ => kOr e a b
  | n + 1, i => if P.1 i = e then (if k_app (P.2.1 i) (P.2.2.1 i) a b (kOr e a b) = true then k_chg (P.2.1 i) (P.2.2.1 i) (kOr e a b) else k_giveL P e a b n (i + 1)) else k_giveL P e a b n (i + 1)
def k_give (P : kMach) (e a b : Int32) : Int64 := k_giveL P e a b P.2.2.2 0
def k_fails (P : kMach) (e : Int32) (pa pb : Nat) : Bool := if k_give P e (kLat pa) (kLat pb) = kOr e (kLat pa) (kLat pb) then false else true
def k_addExc (P : kExc) (e n : Int32) : kExc × Bool := if P.2.2 < 6 then ((upd P.1 P.2.2 e, upd P.2.1 P.2.2 n, P.2.2 + 1), true) else (P, false)
def k_rmExc (P : kExc) : kExc := (P.1, P.2.1, 0)
def k_leaveL (P : kExc) (e a b : Int32) : Nat → Nat → Bool
  | 0, _ => false
  | n + 1, i => if P.1 i = e then (if P.2.1 i = a then true else if P.2.1 i = b then true else k_leaveL P e a b n (i + 1)) else k_leaveL P e a b n (i + 1)
def k_leave (P : kExc) (e a b : Int32) : Bool := k_leaveL P e a b P.2.2 0
def k_mark (f : Nat → Int32) (h : Nat) (row pl : Nat) : (Nat → Int32) × Nat := if f row &&& (1 <<< (nI pl &&& 31)) = 0 then (upd f row (f row ||| (1 <<< (nI pl &&& 31))), h + 1) else (f, h)
def k_note (P : kPB) (e pa pb : Nat) : kPB × Bool :=
  ((((k_mark P.1 P.2.2.2 e pa).1, (k_mark P.2.1 (k_mark P.1 P.2.2.2 e pa).2 e pb).1, k_mark P.2.2.1 (k_mark P.2.1 (k_mark P.1 P.2.2.2 e pa).2 e pb).2 pa pb) : kPB),
    if nI (k_mark P.2.2.1 (k_mark P.2.1 (k_mark P.1 P.2.2.2 e pa).2 e pb).2 pa pb).2 ≤ nI P.2.2.2 then false else true)
def k_fgPB (_ : kPB) : kPB := (fun _ => 0, fun _ => 0, fun _ => 0, 0)
def k_noteLO (P : kTal) : kTal := (P.1, P.2.1, P.2.2.1, P.2.2.2 + 1)
def k_noteF (P : kTal) (e : Nat) : kTal := (P.1, upd P.2.1 e (P.2.1 e + 1), P.2.2.1, P.2.2.2)
def k_noteT (P : kTal) (e : Nat) (g : Int64) : kTal := (upd P.1 e (P.1 e + 1), P.2.1, upd P.2.2.1 e (P.2.2.1 e ||| k_mk g), P.2.2.2)
def k_fgTal (_ : kTal) : kTal := (fun _ => 0, fun _ => 0, fun _ => 0, 0)
def k_sumL (f : Nat → Int32) : Nat → Nat → Int32 → Int32
  | 0, _, a => a
  | n + 1, i, a => k_sumL f n (i + 1) (a + f i)
def k_sum (f : Nat → Int32) : Int32 := k_sumL f 16 0 0
def k_b1 (i : Int32) : Int32 := i - ((i.toUInt32 >>> ((1 : Int32).toUInt32 &&& Int32.toUInt32 31)).toInt32 &&& 1431655765)
def k_b2 (i : Int32) : Int32 := (i &&& 858993459) + ((i.toUInt32 >>> ((2 : Int32).toUInt32 &&& Int32.toUInt32 31)).toInt32 &&& 858993459)
def k_b3 (i : Int32) : Int32 := (i + (i.toUInt32 >>> ((4 : Int32).toUInt32 &&& Int32.toUInt32 31)).toInt32) &&& 252645135
def k_b4 (i : Int32) : Int32 := i + (i.toUInt32 >>> ((8 : Int32).toUInt32 &&& Int32.toUInt32 31)).toInt32
def k_b5 (i : Int32) : Int32 := i + (i.toUInt32 >>> ((16 : Int32).toUInt32 &&& Int32.toUInt32 31)).toInt32
def k_bitc (i : Int32) : Int32 := k_b5 (k_b4 (k_b3 (k_b2 (k_b1 i)))) &&& 63
def k_mallL (f : Nat → Int32) : Nat → Nat → Int32 → Int32
  | 0, _, a => a
  | n + 1, i, a => k_mallL f n (i + 1) (a + k_bitc (f i))
def k_mall (f : Nat → Int32) : Int32 := k_mallL f 16 0 0
def k_at (P : kRep) (i : Int32) : Int32 := if i < 0 then 0 else if i < nI P.2 then P.1 i.toNatClampNeg else 0
theorem ks_in {x : Int32} {n : Nat} (h0 : ¬ x < 0) (h : x < nI n) (hn : n < 2 ^ 31) : ∃ k : Nat, k < n ∧ x = nI k := by
  obtain ⟨j, hj, rfl⟩ := nI_of h0
  exact ⟨j, (nI_ltI hj hn).mp h, rfl⟩
def k_fgFL (P : kFL) : kFL := (P.1, P.2.1, P.2.2.1, P.2.2.2.1, P.2.2.2.2.1, 0)
def k_keep (P : kFL) (e pa pb : Int32) (fo gi : Int64) : kFL := if P.2.2.2.2.2 < 12 then (upd P.1 P.2.2.2.2.2 e, upd P.2.1 P.2.2.2.2.2 pa, upd P.2.2.1 P.2.2.2.2.2 pb, vp_updL P.2.2.2.1 P.2.2.2.2.2 fo, vp_updL P.2.2.2.2.1 P.2.2.2.2.2 gi, P.2.2.2.2.2 + 1) else P
def k_fgRep (P : kRep) : kRep := (P.1, 0)
def k_put (P : kRep) (c : Int32) : kRep := if 256 ≤ P.2 then P else (upd P.1 P.2 c, P.2 + 1)
def k0_Mach : kMach := (fun _ => 0, fun _ => 0, fun _ => 0, 0)
def k0_Exc : kExc := (fun _ => 0, fun _ => 0, 0)
def k0_PB : kPB := (fun _ => 0, fun _ => 0, fun _ => 0, 0)
def k0_Tal : kTal := (fun _ => 0, fun _ => 0, fun _ => 0, 0)
def k0_FL : kFL := (fun _ => 0, fun _ => 0, fun _ => 0, fun _ => 0, fun _ => 0, 0)
def k0_Rep : kRep := (fun _ => 0, 0)
def k0_Shr : kShr := (0, 0, 0)
def k0_Kit : kKit := (k0_Mach, k0_Exc, k0_PB, k0_Tal, k0_FL, k0_Rep, k0_Shr, 65535, 0)
theorem kf_step {i : Nat} {g : Nat → Int32} {v : Int32} (h : ∀ j : Nat, j < i → g j = v) : ∀ j : Nat, j < i + 1 → upd g i v j = v := by
  intro j hj
  unfold upd
  by_cases e : j = i
  · rw [if_pos e]
  · rw [if_neg e]; exact h j (by omega)
theorem kf_fill {D : va_G} {cl : List vw_C} {q n : Nat} {cA : ClassId} {g : Nat → Int32} {v : Int32} {H : Heap} (hP : va_P D cl [(q, .inl (cA, n, .inl g))] H) (h : ∀ j : Nat, j < n → g j = v) : va_P D cl [(q, .inl (cA, n, .inl (fun _ => v)))] H := by
  intro k x hx
  have h0 := hP 0 _ rfl
  have hk : k = 0 := by
    rcases Nat.eq_zero_or_pos k with e | e
    · exact e
    · rw [List.getElem?_eq_none (by simp; omega)] at hx; cases hx
  subst hk
  cases hx
  show H[q]? = some (arrV cA n (fun j => .int v))
  have h1 : H[q]? = some (arrV cA n (fun j => .int (g j))) := h0
  rw [h1]
  congr 1
  unfold arrV
  congr 1
  apply Array.ext
  · simp
  · intro i hi1 hi2
    simp at hi1 ⊢
    rw [h i hi1]
theorem kf_fillD {A : Nat → Prop} {q n : Nat} {cA : ClassId} {g : Nat → Int32} {v : Int32} (hD : va_D A [(q, .inl (cA, n, .inl g))]) : va_D A [(q, .inl (cA, n, .inl (fun _ => v)))] := by
  refine ⟨fun i j p q hp hq _ => ?_, fun k x hx => ?_⟩
  · have e1 : i = 0 := by
      rcases Nat.eq_zero_or_pos i with e | e
      · exact e
      · rw [List.getElem?_eq_none (by simp; omega)] at hp; cases hp
    have e2 : j = 0 := by
      rcases Nat.eq_zero_or_pos j with e | e
      · exact e
      · rw [List.getElem?_eq_none (by simp; omega)] at hq; cases hq
    rw [e1, e2]
  · have hk : k = 0 := by
      rcases Nat.eq_zero_or_pos k with e | e
      · exact e
      · rw [List.getElem?_eq_none (by simp; omega)] at hx; cases hx
    subst hk
    cases hx
    exact hD.2 0 (q, .inl (cA, n, .inl g)) rfl
theorem k_bf {b : Bool} (h : b = false) : ¬ b = true := by rw [h]; decide
theorem ks_ne {x a b : Int32} (h : x = a) (hab : a ≠ b) : ¬ x = b := by rw [h]; exact hab
/-- case splits over switches -/
theorem ks_gen (x : Int32) (hi : Nat) (hh : hi < 2 ^ 31) : (∃ k : Nat, k ≤ hi ∧ x = nI k) ∨ (x.toInt < 0 ∨ (hi : Int) < x.toInt) := by
  by_cases h0 : x.toInt < 0
  · exact Or.inr (Or.inl h0)
  by_cases h1 : (hi : Int) < x.toInt
  · exact Or.inr (Or.inr h1)
  · refine Or.inl ⟨x.toInt.toNat, by omega, Int32.toInt_inj.mp ?_⟩
    rw [nI_toInt (by omega)]
    omega
theorem ks_2 (x : Int32) : x = 0 ∨ x = 1 ∨ x = 2 ∨ (x.toInt < 0 ∨ 2 < x.toInt) := by
  rcases ks_gen x 2 (by decide) with ⟨k, hk, rfl⟩ | h
  · rcases (show k = 0 ∨ k = 1 ∨ k = 2 by omega) with rfl | rfl | rfl
    · exact Or.inl rfl
    · exact Or.inr (Or.inl rfl)
    · exact Or.inr (Or.inr (Or.inl rfl))
  · exact Or.inr (Or.inr (Or.inr (h)))
theorem kn_2 {x : Int32} (h : x.toInt < 0 ∨ 2 < x.toInt) : ¬ x = 0 ∧ ¬ x = 1 ∧ ¬ x = 2 := by
  refine ⟨?_, ?_, ?_⟩ <;> (rintro rfl; revert h; decide)
theorem ks_3 (x : Int32) : x = 0 ∨ x = 1 ∨ x = 2 ∨ x = 3 ∨ (x.toInt < 0 ∨ 3 < x.toInt) := by
  rcases ks_gen x 3 (by decide) with ⟨k, hk, rfl⟩ | h
  · rcases (show k = 0 ∨ k = 1 ∨ k = 2 ∨ k = 3 by omega) with rfl | rfl | rfl | rfl
    · exact Or.inl rfl
    · exact Or.inr (Or.inl rfl)
    · exact Or.inr (Or.inr (Or.inl rfl))
    · exact Or.inr (Or.inr (Or.inr (Or.inl rfl)))
  · exact Or.inr (Or.inr (Or.inr (Or.inr (h))))
theorem kn_3 {x : Int32} (h : x.toInt < 0 ∨ 3 < x.toInt) : ¬ x = 0 ∧ ¬ x = 1 ∧ ¬ x = 2 ∧ ¬ x = 3 := by
  refine ⟨?_, ?_, ?_, ?_⟩ <;> (rintro rfl; revert h; decide)
theorem ks_4 (x : Int32) : x = 0 ∨ x = 1 ∨ x = 2 ∨ x = 3 ∨ x = 4 ∨ (x.toInt < 0 ∨ 4 < x.toInt) := by
  rcases ks_gen x 4 (by decide) with ⟨k, hk, rfl⟩ | h
  · rcases (show k = 0 ∨ k = 1 ∨ k = 2 ∨ k = 3 ∨ k = 4 by omega) with rfl | rfl | rfl | rfl | rfl
    · exact Or.inl rfl
    · exact Or.inr (Or.inl rfl)
    · exact Or.inr (Or.inr (Or.inl rfl))
    · exact Or.inr (Or.inr (Or.inr (Or.inl rfl)))
    · exact Or.inr (Or.inr (Or.inr (Or.inr (Or.inl rfl))))
  · exact Or.inr (Or.inr (Or.inr (Or.inr (Or.inr (h)))))
theorem kn_4 {x : Int32} (h : x.toInt < 0 ∨ 4 < x.toInt) : ¬ x = 0 ∧ ¬ x = 1 ∧ ¬ x = 2 ∧ ¬ x = 3 ∧ ¬ x = 4 := by
  refine ⟨?_, ?_, ?_, ?_, ?_⟩ <;> (rintro rfl; revert h; decide)
theorem ks_9 (x : Int32) : x = 0 ∨ x = 1 ∨ x = 2 ∨ x = 3 ∨ x = 4 ∨ x = 5 ∨ x = 6 ∨ x = 7 ∨ x = 8 ∨ x = 9 ∨ (x.toInt < 0 ∨ 9 < x.toInt) := by
  rcases ks_gen x 9 (by decide) with ⟨k, hk, rfl⟩ | h
  · rcases (show k = 0 ∨ k = 1 ∨ k = 2 ∨ k = 3 ∨ k = 4 ∨ k = 5 ∨ k = 6 ∨ k = 7 ∨ k = 8 ∨ k = 9 by omega) with rfl | rfl | rfl | rfl | rfl | rfl | rfl | rfl | rfl | rfl
    · exact Or.inl rfl
    · exact Or.inr (Or.inl rfl)
    · exact Or.inr (Or.inr (Or.inl rfl))
    · exact Or.inr (Or.inr (Or.inr (Or.inl rfl)))
    · exact Or.inr (Or.inr (Or.inr (Or.inr (Or.inl rfl))))
    · exact Or.inr (Or.inr (Or.inr (Or.inr (Or.inr (Or.inl rfl)))))
    · exact Or.inr (Or.inr (Or.inr (Or.inr (Or.inr (Or.inr (Or.inl rfl))))))
    · exact Or.inr (Or.inr (Or.inr (Or.inr (Or.inr (Or.inr (Or.inr (Or.inl rfl)))))))
    · exact Or.inr (Or.inr (Or.inr (Or.inr (Or.inr (Or.inr (Or.inr (Or.inr (Or.inl rfl))))))))
    · exact Or.inr (Or.inr (Or.inr (Or.inr (Or.inr (Or.inr (Or.inr (Or.inr (Or.inr (Or.inl rfl)))))))))
  · exact Or.inr (Or.inr (Or.inr (Or.inr (Or.inr (Or.inr (Or.inr (Or.inr (Or.inr (Or.inr (h))))))))))
theorem kn_9 {x : Int32} (h : x.toInt < 0 ∨ 9 < x.toInt) : ¬ x = 0 ∧ ¬ x = 1 ∧ ¬ x = 2 ∧ ¬ x = 3 ∧ ¬ x = 4 ∧ ¬ x = 5 ∧ ¬ x = 6 ∧ ¬ x = 7 ∧ ¬ x = 8 ∧ ¬ x = 9 := by
  refine ⟨?_, ?_, ?_, ?_, ?_, ?_, ?_, ?_, ?_, ?_⟩ <;> (rintro rfl; revert h; decide)
theorem ks_14 (x : Int32) : x = 0 ∨ x = 1 ∨ x = 2 ∨ x = 3 ∨ x = 4 ∨ x = 5 ∨ x = 6 ∨ x = 7 ∨ x = 8 ∨ x = 9 ∨ x = 10 ∨ x = 11 ∨ x = 12 ∨ x = 13 ∨ x = 14 ∨ (x.toInt < 0 ∨ 14 < x.toInt) := by
  rcases ks_gen x 14 (by decide) with ⟨k, hk, rfl⟩ | h
  · rcases (show k = 0 ∨ k = 1 ∨ k = 2 ∨ k = 3 ∨ k = 4 ∨ k = 5 ∨ k = 6 ∨ k = 7 ∨ k = 8 ∨ k = 9 ∨ k = 10 ∨ k = 11 ∨ k = 12 ∨ k = 13 ∨ k = 14 by omega) with rfl | rfl | rfl | rfl | rfl | rfl | rfl | rfl | rfl | rfl | rfl | rfl | rfl | rfl | rfl
    · exact Or.inl rfl
    · exact Or.inr (Or.inl rfl)
    · exact Or.inr (Or.inr (Or.inl rfl))
    · exact Or.inr (Or.inr (Or.inr (Or.inl rfl)))
    · exact Or.inr (Or.inr (Or.inr (Or.inr (Or.inl rfl))))
    · exact Or.inr (Or.inr (Or.inr (Or.inr (Or.inr (Or.inl rfl)))))
    · exact Or.inr (Or.inr (Or.inr (Or.inr (Or.inr (Or.inr (Or.inl rfl))))))
    · exact Or.inr (Or.inr (Or.inr (Or.inr (Or.inr (Or.inr (Or.inr (Or.inl rfl)))))))
    · exact Or.inr (Or.inr (Or.inr (Or.inr (Or.inr (Or.inr (Or.inr (Or.inr (Or.inl rfl))))))))
    · exact Or.inr (Or.inr (Or.inr (Or.inr (Or.inr (Or.inr (Or.inr (Or.inr (Or.inr (Or.inl rfl)))))))))
    · exact Or.inr (Or.inr (Or.inr (Or.inr (Or.inr (Or.inr (Or.inr (Or.inr (Or.inr (Or.inr (Or.inl rfl))))))))))
    · exact Or.inr (Or.inr (Or.inr (Or.inr (Or.inr (Or.inr (Or.inr (Or.inr (Or.inr (Or.inr (Or.inr (Or.inl rfl)))))))))))
    · exact Or.inr (Or.inr (Or.inr (Or.inr (Or.inr (Or.inr (Or.inr (Or.inr (Or.inr (Or.inr (Or.inr (Or.inr (Or.inl rfl))))))))))))
    · exact Or.inr (Or.inr (Or.inr (Or.inr (Or.inr (Or.inr (Or.inr (Or.inr (Or.inr (Or.inr (Or.inr (Or.inr (Or.inr (Or.inl rfl)))))))))))))
    · exact Or.inr (Or.inr (Or.inr (Or.inr (Or.inr (Or.inr (Or.inr (Or.inr (Or.inr (Or.inr (Or.inr (Or.inr (Or.inr (Or.inr (Or.inl rfl))))))))))))))
  · exact Or.inr (Or.inr (Or.inr (Or.inr (Or.inr (Or.inr (Or.inr (Or.inr (Or.inr (Or.inr (Or.inr (Or.inr (Or.inr (Or.inr (Or.inr (h)))))))))))))))
theorem kn_14 {x : Int32} (h : x.toInt < 0 ∨ 14 < x.toInt) : ¬ x = 0 ∧ ¬ x = 1 ∧ ¬ x = 2 ∧ ¬ x = 3 ∧ ¬ x = 4 ∧ ¬ x = 5 ∧ ¬ x = 6 ∧ ¬ x = 7 ∧ ¬ x = 8 ∧ ¬ x = 9 ∧ ¬ x = 10 ∧ ¬ x = 11 ∧ ¬ x = 12 ∧ ¬ x = 13 ∧ ¬ x = 14 := by
  refine ⟨?_, ?_, ?_, ?_, ?_, ?_, ?_, ?_, ?_, ?_, ?_, ?_, ?_, ?_, ?_⟩ <;> (rintro rfl; revert h; decide)
