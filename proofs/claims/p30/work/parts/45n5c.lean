abbrev wr_X12_sums : List Nat := [13003, 13004, 13005, 13008, 13027, 13028, 13029, 13030, 13031, 13032, 13033, 41000, 42000, 43000]
theorem flX12_sums_7 : Cond.fieldLink RX12 7 "PageTrieModel" "file" "[I" ∈ wsX12_sums := List.mem_of_getElem? (i := 8) rfl
theorem flX12_sums_258 : Cond.fieldLink RX12 258 "PageTrieModel" "layers" "I" ∈ wsX12_sums := List.mem_of_getElem? (i := 1) rfl
theorem flX12_sums_261 : Cond.fieldLink RX12 261 "PageTrieModel" "pages" "I" ∈ wsX12_sums := List.mem_of_getElem? (i := 2) rfl
theorem flX12_sums_264 : Cond.fieldLink RX12 264 "PageTrieModel" "ends" "I" ∈ wsX12_sums := List.mem_of_getElem? (i := 3) rfl
theorem flX12_sums_270 : Cond.fieldLink RX12 270 "PageTrieModel" "tails" "I" ∈ wsX12_sums := List.mem_of_getElem? (i := 4) rfl
theorem flX12_sums_273 : Cond.fieldLink RX12 273 "PageTrieModel" "belows" "I" ∈ wsX12_sums := List.mem_of_getElem? (i := 5) rfl
theorem flX12_sums_276 : Cond.fieldLink RX12 276 "PageTrieModel" "deepest" "I" ∈ wsX12_sums := List.mem_of_getElem? (i := 6) rfl
theorem flX12_sums_282 : Cond.fieldLink RX12 282 "PageTrieModel" "weight" "I" ∈ wsX12_sums := List.mem_of_getElem? (i := 7) rfl
theorem inX12_sums_X12 : ∀ w ∈ u_ws RX12 TX12 41, w ∈ wsX12_sums := mem_r _ [90, 91, 92, 93, 94, 95, 96, 97, 98, 99, 100, 101, 102, 103, 104, 105, 106, 107, 108, 109, 110, 111, 112, 113, 114, 115, 116, 117, 118, 119, 120, 121, 122, 123, 124, 125, 126, 127, 128, 129, 130] rfl
theorem hvX12_sums : yX12_sums.cls = RX12 ∧ yX12_sums.cls ≠ "java/lang/invoke/MethodHandle" ∧ yX12_sums.cls ≠ "java/lang/invoke/VarHandle" ∧ (parseMethodDescriptor yX12_sums.desc).map (fun d => d.parameters.length) = some 0 := by decide +kernel
set_option maxHeartbeats 4000000 in
set_option maxRecDepth 100000 in
theorem kX12_sums (l : Launch) {D : va_G} {cA : Nat → ClassId} {τ : Nat → Nat} {G : Nat → Nat → Nat} {L : List Nat} (hS : SW τ G L) (σ : Nat → Nat → Int) {a0 : Nat} (h0 : τ a0 = 13) (hI : FI G a0 σ) : Met l yX12_sums wsX12_sums ({ frames := 5, cells := 0, slots := 0, locals := 111 }) (jP D cA τ G L σ [.ref a0]) (jQV D cA τ G L (fun σ' => (True) ∧ fr wr_X12_sums τ σ σ')) 0 0 (fun q => q ∈ L) := by
  refine j_metV (by decide +kernel) rfl (Nat.le_of_ble_eq_true rfl) ?_
  intro p e s m args below meth c Q hx hb hml hown hts hK hW hRet ls hl
  have hl : lv_has ls 3 [(0, .ref a0)] := hl
  have hA : ∀ q ∈ L, (fun q => q ∈ L) q := fun _ h => h
  have hF : va_S (fun q => q ∈ L) s.heap s.heap [] := va_S.rf
  have hR : fr wr_X12_sums τ σ σ := fr_rf
  have hk_file : τ (G a0 0) = 40 := gty hS h0 (k := 0) rfl rfl
  have := FI_bd hI
  have := fbd hW h0 (k := 3) (lo := 0) (hi := 24) rfl rfl
  refine lv_aload_n hx hb dX12_sums_0 rfl (lv_at hl 0 rfl) ?_
  refine j_const hx hb dX12_sums_1 ?_
  refine j_putI hx hb (C := RX12) (T := TX12) (N := 41) hts inX12_sums_X12 tyX12 tyX12_ok nmX12 hown hK hS hA hW hF h0 rfl 27 (lo := -2147483648) (hi := 2147483647) rfl rfl (by decide) (hts _ flX12_sums_258) rfl .int rfl (by omega) rfl rfl dX12_sums_2 (fun σ_1 H locs e_2 hW hF => ?_)
  have hR := fr_up hR e_2 h0 13027 rfl (by decide)
  have Efile : σ_1 (G a0 0) = σ (G a0 0) := row_up e_2 h0 hk_file (by decide)
  try clear hcf
  have hcf := congrFun Efile 0
  have hI := FI_dep hS h0 hI (kp_up e_2 h0 13027 rfl (by decide))
  try clear hfk
  have hfk : σ_1 a0 27 = 0 := by rw [e_2]; exact up2_at _ _ _ _
  refine lv_aload_n hx hb dX12_sums_5 rfl (lv_at hl 0 rfl) ?_
  refine j_const hx hb dX12_sums_6 ?_
  refine j_putI hx hb (C := RX12) (T := TX12) (N := 41) hts inX12_sums_X12 tyX12 tyX12_ok nmX12 hown hK hS hA hW hF h0 rfl 28 (lo := -2147483648) (hi := 2147483647) rfl rfl (by decide) (hts _ flX12_sums_261) rfl .int rfl (by omega) rfl rfl dX12_sums_7 (fun σ_3 H locs e_4 hW hF => ?_)
  have hR := fr_up hR e_4 h0 13028 rfl (by decide)
  have Efile : σ_3 (G a0 0) = σ (G a0 0) := (row_up e_4 h0 hk_file (by decide)).trans Efile
  try clear hcf
  have hcf := congrFun Efile 0
  have hI := FI_dep hS h0 hI (kp_up e_4 h0 13028 rfl (by decide))
  try clear hfk
  have hfk : σ_3 a0 28 = 0 := by rw [e_4]; exact up2_at _ _ _ _
  refine lv_aload_n hx hb dX12_sums_10 rfl (lv_at hl 0 rfl) ?_
  refine j_const hx hb dX12_sums_11 ?_
  refine j_putI hx hb (C := RX12) (T := TX12) (N := 41) hts inX12_sums_X12 tyX12 tyX12_ok nmX12 hown hK hS hA hW hF h0 rfl 29 (lo := -2147483648) (hi := 2147483647) rfl rfl (by decide) (hts _ flX12_sums_264) rfl .int rfl (by omega) rfl rfl dX12_sums_12 (fun σ_5 H locs e_6 hW hF => ?_)
  have hR := fr_up hR e_6 h0 13029 rfl (by decide)
  have Efile : σ_5 (G a0 0) = σ (G a0 0) := (row_up e_6 h0 hk_file (by decide)).trans Efile
  try clear hcf
  have hcf := congrFun Efile 0
  have hI := FI_dep hS h0 hI (kp_up e_6 h0 13029 rfl (by decide))
  try clear hfk
  have hfk : σ_5 a0 29 = 0 := by rw [e_6]; exact up2_at _ _ _ _
  refine lv_aload_n hx hb dX12_sums_15 rfl (lv_at hl 0 rfl) ?_
  refine j_const hx hb dX12_sums_16 ?_
  refine j_putI hx hb (C := RX12) (T := TX12) (N := 41) hts inX12_sums_X12 tyX12 tyX12_ok nmX12 hown hK hS hA hW hF h0 rfl 30 (lo := -2147483648) (hi := 2147483647) rfl rfl (by decide) (hts _ flX12_sums_270) rfl .int rfl (by omega) rfl rfl dX12_sums_17 (fun σ_7 H locs e_8 hW hF => ?_)
  have hR := fr_up hR e_8 h0 13030 rfl (by decide)
  have Efile : σ_7 (G a0 0) = σ (G a0 0) := (row_up e_8 h0 hk_file (by decide)).trans Efile
  try clear hcf
  have hcf := congrFun Efile 0
  have hI := FI_dep hS h0 hI (kp_up e_8 h0 13030 rfl (by decide))
  try clear hfk
  have hfk : σ_7 a0 30 = 0 := by rw [e_8]; exact up2_at _ _ _ _
  refine lv_aload_n hx hb dX12_sums_20 rfl (lv_at hl 0 rfl) ?_
  refine j_const hx hb dX12_sums_21 ?_
  refine j_putI hx hb (C := RX12) (T := TX12) (N := 41) hts inX12_sums_X12 tyX12 tyX12_ok nmX12 hown hK hS hA hW hF h0 rfl 31 (lo := -2147483648) (hi := 2147483647) rfl rfl (by decide) (hts _ flX12_sums_273) rfl .int rfl (by omega) rfl rfl dX12_sums_22 (fun σ_9 H locs e_10 hW hF => ?_)
  have hR := fr_up hR e_10 h0 13031 rfl (by decide)
  have Efile : σ_9 (G a0 0) = σ (G a0 0) := (row_up e_10 h0 hk_file (by decide)).trans Efile
  try clear hcf
  have hcf := congrFun Efile 0
  have hI := FI_dep hS h0 hI (kp_up e_10 h0 13031 rfl (by decide))
  try clear hfk
  have hfk : σ_9 a0 31 = 0 := by rw [e_10]; exact up2_at _ _ _ _
  refine lv_aload_n hx hb dX12_sums_25 rfl (lv_at hl 0 rfl) ?_
  refine j_const hx hb dX12_sums_26 ?_
  refine j_putI hx hb (C := RX12) (T := TX12) (N := 41) hts inX12_sums_X12 tyX12 tyX12_ok nmX12 hown hK hS hA hW hF h0 rfl 32 (lo := -2147483648) (hi := 2147483647) rfl rfl (by decide) (hts _ flX12_sums_276) rfl .int rfl (by omega) rfl rfl dX12_sums_27 (fun σ_11 H locs e_12 hW hF => ?_)
  have hR := fr_up hR e_12 h0 13032 rfl (by decide)
  have Efile : σ_11 (G a0 0) = σ (G a0 0) := (row_up e_12 h0 hk_file (by decide)).trans Efile
  try clear hcf
  have hcf := congrFun Efile 0
  have hI := FI_dep hS h0 hI (kp_up e_12 h0 13032 rfl (by decide))
  try clear hfk
  have hfk : σ_11 a0 32 = 1 := by rw [e_12]; exact up2_at _ _ _ _
  refine lv_aload_n hx hb dX12_sums_30 rfl (lv_at hl 0 rfl) ?_
  refine j_bi hx hb dX12_sums_31 (by decide) ?_
  refine j_putI hx hb (C := RX12) (T := TX12) (N := 41) hts inX12_sums_X12 tyX12 tyX12_ok nmX12 hown hK hS hA hW hF h0 rfl 33 (lo := -2147483648) (hi := 2147483647) rfl rfl (by decide) (hts _ flX12_sums_282) rfl .int rfl (by omega) rfl rfl dX12_sums_33 (fun σ_13 H locs e_14 hW hF => ?_)
  have hR := fr_up hR e_14 h0 13033 rfl (by decide)
  have Efile : σ_13 (G a0 0) = σ (G a0 0) := (row_up e_14 h0 hk_file (by decide)).trans Efile
  try clear hcf
  have hcf := congrFun Efile 0
  have hI := FI_dep hS h0 hI (kp_up e_14 h0 13033 rfl (by decide))
  try clear hfk
  have hfk : σ_13 a0 33 = 8 := by rw [e_14]; exact up2_at _ _ _ _
  refine lv_aload_n hx hb dX12_sums_36 rfl (lv_at hl 0 rfl) ?_
  refine j_cR (j_runV (As := []) (rest := []) hx hb hml hown hts hK hS hW (kX12_many l hS σ_13 (a0 := a0) (h0 := h0)) 0 gX12_sums_X12_many rfl hvX12_many ⟨Nat.le_of_ble_eq_true rfl, Nat.le_of_ble_eq_true rfl⟩ rfl rfl h0 rfl rfl rfl rfl hl.1 rfl (Nat.le_of_ble_eq_true rfl) dX12_sums_37 ⟨Nat.le_of_ble_eq_true rfl, Nat.le_of_ble_eq_true rfl⟩) (fun v_15 rv_15 pv_15 => ?_)
  try dsimp only at pv_15
  try simp only [Efile] at pv_15
  have q_many := pv_15
  have := FI_bd hI
  try simp only [Efile] at this
  have L_48 : ∀ (σL_48 : Nat → Nat → Int) (H : Heap) (locs : List Loc) (ls : Array Slot), PW D cA τ G L σL_48 H → va_S (fun q => q ∈ L) s.heap H locs → fr wr_X12_sums τ σ σL_48 → FI G a0 σL_48 → σL_48 (G a0 0) = σ (G a0 0) → lv_has ls 3 [(0, .ref a0)] → W p l e ({ frames := 5, cells := 0, slots := 0, locals := 111 }) s m args below meth c H locs 0 0 Q (F0 m 48 ls []) := by
    intro σL_48 H locs ls hW hF hR hI Efile hl
    try clear hcf
    try clear hfk
    have hcf := congrFun Efile 0
    refine lv_aload_n hx hb dX12_sums_48 rfl (lv_at hl 0 rfl) ?_
    refine j_cR (j_runV (As := []) (rest := []) hx hb hml hown hts hK hS hW (kX12_many l hS σL_48 (a0 := a0) (h0 := h0)) 0 gX12_sums_X12_many rfl hvX12_many ⟨Nat.le_of_ble_eq_true rfl, Nat.le_of_ble_eq_true rfl⟩ rfl rfl h0 rfl rfl rfl rfl hl.1 rfl (Nat.le_of_ble_eq_true rfl) dX12_sums_49 ⟨Nat.le_of_ble_eq_true rfl, Nat.le_of_ble_eq_true rfl⟩) (fun v_16 rv_16 pv_16 => ?_)
    try dsimp only at pv_16
    try simp only [Efile] at pv_16
    have q_many := pv_16
    have := FI_bd hI
    try simp only [Efile] at this
    have L_60 : ∀ (σL_60 : Nat → Nat → Int) (H : Heap) (locs : List Loc) (ls : Array Slot), PW D cA τ G L σL_60 H → va_S (fun q => q ∈ L) s.heap H locs → fr wr_X12_sums τ σ σL_60 → FI G a0 σL_60 → σL_60 (G a0 0) = σ (G a0 0) → lv_has ls 3 [(0, .ref a0)] → W p l e ({ frames := 5, cells := 0, slots := 0, locals := 111 }) s m args below meth c H locs 0 0 Q (F0 m 60 ls []) := by
      intro σL_60 H locs ls hW hF hR hI Efile hl
      try clear hcf
      try clear hfk
      have hcf := congrFun Efile 0
      refine j_const hx hb dX12_sums_60 ?_
      refine lv_istore_n (lv' := [(1, .int (jI 0)), (0, .ref a0)]) hx hb dX12_sums_61 rfl hl (by decide) rfl (fun ls hl => ?_)
      have L_62 : ∀ (N : Nat) (v1_62 : Int) (σL_62 : Nat → Nat → Int) (H : Heap) (locs : List Loc) (ls : Array Slot), N = (2147483647 - v1_62 : Int).toNat → (0 ≤ v1_62) → rg v1_62 → PW D cA τ G L σL_62 H → va_S (fun q => q ∈ L) s.heap H locs → fr wr_X12_sums τ σ σL_62 → FI G a0 σL_62 → σL_62 (G a0 0) = σ (G a0 0) → lv_has ls 3 [(0, .ref a0), (1, .int (jI v1_62))] → W p l e ({ frames := 5, cells := 0, slots := 0, locals := 111 }) s m args below meth c H locs 0 0 Q (F0 m 62 ls []) := by
        intro N
        induction N using Nat.strongRecOn with
        | ind N ih_62 =>
          intro v1_62 σL_62 H locs ls hN i0_62 rv1_62 hW hF hR hI Efile hl
          try clear hcf
          try clear hfk
          have hcf := congrFun Efile 0
          refine lv_iload_n hx hb dX12_sums_62 rfl (lv_at hl 1 rfl) ?_
          refine lv_aload_n hx hb dX12_sums_63 rfl (lv_at hl 0 rfl) ?_
          refine j_cR (j_runV (As := []) (rest := [.int (jI v1_62)]) hx hb hml hown hts hK hS hW (kX12_many l hS σL_62 (a0 := a0) (h0 := h0)) 0 gX12_sums_X12_many rfl hvX12_many ⟨Nat.le_of_ble_eq_true rfl, Nat.le_of_ble_eq_true rfl⟩ rfl rfl h0 rfl rfl rfl rfl hl.1 rfl (Nat.le_of_ble_eq_true rfl) dX12_sums_64 ⟨Nat.le_of_ble_eq_true rfl, Nat.le_of_ble_eq_true rfl⟩) (fun v_17 rv_17 pv_17 => ?_)
          try dsimp only at pv_17
          try simp only [Efile] at pv_17
          have q_many := pv_17
          have := FI_bd hI
          try simp only [Efile] at this
          refine j_icmp_ge (tgt := 123) hx hb (by omega) (by omega) dX12_sums_67 (by decide) (fun c_18 => ?_) (fun c_18 => ?_)
          · exact hRet 123 _ _ _ _ dX12_sums_123 hW hF ⟨trivial, hR⟩
          · refine j_const hx hb dX12_sums_70 ?_
            refine lv_istore_n (lv' := [(2, .int (jI 0)), (0, .ref a0), (1, .int (jI v1_62))]) hx hb dX12_sums_71 rfl hl (by decide) rfl (fun ls hl => ?_)
            have L_72 : ∀ (N : Nat) (v2_72 : Int) (σL_72 : Nat → Nat → Int) (H : Heap) (locs : List Loc) (ls : Array Slot), N = (30 - v2_72 : Int).toNat → (0 ≤ v2_72) → (v2_72 ≤ 24) → rg v2_72 → PW D cA τ G L σL_72 H → va_S (fun q => q ∈ L) s.heap H locs → fr wr_X12_sums τ σ σL_72 → FI G a0 σL_72 → σL_72 (G a0 0) = σ (G a0 0) → lv_has ls 3 [(0, .ref a0), (1, .int (jI v1_62)), (2, .int (jI v2_72))] → W p l e ({ frames := 5, cells := 0, slots := 0, locals := 111 }) s m args below meth c H locs 0 0 Q (F0 m 72 ls []) := by
              intro N
              induction N using Nat.strongRecOn with
              | ind N ih_72 =>
                intro v2_72 σL_72 H locs ls hN i0_72 i1_72 rv2_72 hW hF hR hI Efile hl
                try clear hcf
                try clear hfk
                have hcf := congrFun Efile 0
                have hmb := mul_bd (a := v2_72) (b := σ (G a0 0) 1) (A := 24) (B := 8) (by omega) (by omega) (by omega) (by omega)
                have hml_ := mul_le (a := v2_72) (w := σ (G a0 0) 1) (by omega) (by omega)
                refine lv_iload_n hx hb dX12_sums_72 rfl (lv_at hl 2 rfl) ?_
                refine lv_aload_n hx hb dX12_sums_73 rfl (lv_at hl 0 rfl) ?_
                refine j_getR hx hb (C := RX12) (T := TX12) (N := 41) hts inX12_sums_X12 hown hK hS hW h0 rfl 0 rfl rfl (by decide) (hts _ flX12_sums_7) dX12_sums_74 ?_
                refine j_const hx hb dX12_sums_77 ?_
                refine j_ald hx hb hK hS hW hk_file (n := 17624) rfl (by omega) (by omega) (by decide) dX12_sums_78 ?_
                have : -2147483648 ≤ σL_72 (G a0 0) 1 ∧ σL_72 (G a0 0) 1 ≤ 2147483647 := abd hW hk_file (n := 17624) (lo := -2147483648) (hi := 2147483647) (i := 1) rfl (by decide) (by decide)
                rw [Efile]
                try simp only [Efile] at this
                refine j_eq (z := σ (G a0 0) 1) rfl ?_
                have := FI_bd hI; rw [Efile] at this
                refine j_mul hx hb dX12_sums_79 ?_
                refine lv_aload_n hx hb dX12_sums_80 rfl (lv_at hl 0 rfl) ?_
                refine lv_iload_n hx hb dX12_sums_81 rfl (lv_at hl 1 rfl) ?_
                refine j_const hx hb dX12_sums_82 ?_
                refine j_cR (j_runV (As := [.int (jI v1_62), .int (jI 0)]) (rest := [.int (jI (v2_72 * (σ (G a0 0) 1)))]) hx hb hml hown hts hK hS hW (kX12_of l hS σL_72 (a0 := a0) (h0 := h0) (x1 := v1_62) (r1 := (by omega)) (x2 := 0) (r2 := (by decide)) (q0 := (by omega)) (q1 := (by omega))) 2 gX12_sums_X12_of rfl hvX12_of ⟨Nat.le_of_ble_eq_true rfl, Nat.le_of_ble_eq_true rfl⟩ rfl rfl h0 rfl rfl rfl rfl hl.1 rfl (Nat.le_of_ble_eq_true rfl) dX12_sums_83 ⟨Nat.le_of_ble_eq_true rfl, Nat.le_of_ble_eq_true rfl⟩) (fun v_19 rv_19 pv_19 => ?_)
                try dsimp only at pv_19
                try simp only [Efile] at pv_19
                have q_of := pv_19
                have := @FI_len _ _ _ hI v1_62
                try simp only [Efile] at this
                refine j_icmp_ge (tgt := 117) hx hb (by omega) (by omega) dX12_sums_86 (by decide) (fun c_20 => ?_) (fun c_20 => ?_)
                · refine j_iinc (lv' := [(1, .int (jI (v1_62 + 1))), (0, .ref a0), (2, .int (jI v2_72))]) hx hb dX12_sums_117 hl (k := 1) rfl (by decide) rfl (fun ls hl => ?_)
                  refine lv_goto (tgt := 62) hx hb dX12_sums_120 (by decide) ?_
                  exact ih_62 ((2147483647 - (v1_62 + 1) : Int).toNat) (by omega) (v1_62 + 1) σL_72 _ _ _ rfl (by omega) (by omega) hW hF hR hI Efile (lv_sub hl [1, 0] rfl)
                · refine lv_aload_n hx hb dX12_sums_89 rfl (lv_at hl 0 rfl) ?_
                  refine lv_iload_n hx hb dX12_sums_90 rfl (lv_at hl 1 rfl) ?_
                  refine lv_iload_n hx hb dX12_sums_91 rfl (lv_at hl 2 rfl) ?_
                  refine j_cI (j_runV (As := [.int (jI v1_62), .int (jI v2_72)]) (rest := []) hx hb hml hown hts hK hS hW (kX12_beginsLayer l hS σL_72 (a0 := a0) (h0 := h0) (x1 := v1_62) (r1 := (by omega)) (x2 := v2_72) (r2 := (by omega)) (hI := hI) (q0 := (by omega)) (q1 := (by omega)) (q2 := (by omega)) (q3 := (by rw [Efile]; omega))) 2 gX12_sums_X12_beginsLayer rfl hvX12_beginsLayer ⟨Nat.le_of_ble_eq_true rfl, Nat.le_of_ble_eq_true rfl⟩ rfl rfl h0 rfl rfl rfl rfl hl.1 rfl (Nat.le_of_ble_eq_true rfl) dX12_sums_92 ⟨Nat.le_of_ble_eq_true rfl, Nat.le_of_ble_eq_true rfl⟩) hA hF (fun v_21 σ_22 H locs hW hF rv_21 pv_21 => ?_)
                  try dsimp only at pv_21
                  obtain ⟨bpv_21, pv_21, fpv_21⟩ := pv_21
                  try simp only [Efile] at pv_21
                  have q_beginsLayer := pv_21
                  have hR := fr_call hR fpv_21 (by decide)
                  have Efile : σ_22 (G a0 0) = σ (G a0 0) := (row_fr fpv_21 hk_file 40 (by decide) (by decide)).trans Efile
                  try clear hcf
                  have hcf := congrFun Efile 0
                  have hI := FI_dep hS h0 hI (kp_fr fpv_21 (by decide))
                  refine j_if_ne (tgt := 101) hx hb (by omega) dX12_sums_95 (by decide) (fun c_23 => ?_) (fun c_23 => ?_)
                  · refine lv_aload_n hx hb dX12_sums_101 rfl (lv_at hl 0 rfl) ?_
                    refine lv_iload_n hx hb dX12_sums_102 rfl (lv_at hl 2 rfl) ?_
                    refine j_cV (j_runV (As := [.int (jI v2_72)]) (rest := []) hx hb hml hown hts hK hS hW (kX12_findsEntries l hS σ_22 (a0 := a0) (h0 := h0) (x1 := v2_72) (r1 := (by omega)) (hI := hI) (q0 := (by omega)) (q1 := (by omega))) 1 gX12_sums_X12_findsEntries rfl hvX12_findsEntries ⟨Nat.le_of_ble_eq_true rfl, Nat.le_of_ble_eq_true rfl⟩ rfl rfl h0 rfl rfl rfl rfl hl.1 rfl (Nat.le_of_ble_eq_true rfl) dX12_sums_103 ⟨Nat.le_of_ble_eq_true rfl, Nat.le_of_ble_eq_true rfl⟩) hA hF (fun σ_24 H locs hW hF pσ_24 => ?_)
                    try dsimp only at pσ_24
                    obtain ⟨pσ_24, fpσ_24⟩ := pσ_24
                    try simp only [Efile] at pσ_24
                    have q_findsEntries := pσ_24
                    have hR := fr_call hR fpσ_24 (by decide)
                    have Efile : σ_24 (G a0 0) = σ (G a0 0) := (row_fr fpσ_24 hk_file 40 (by decide) (by decide)).trans Efile
                    try clear hcf
                    have hcf := congrFun Efile 0
                    have hI := FI_dep hS h0 hI (kp_fr fpσ_24 (by decide))
                    refine lv_aload_n hx hb dX12_sums_106 rfl (lv_at hl 0 rfl) ?_
                    refine lv_iload_n hx hb dX12_sums_107 rfl (lv_at hl 2 rfl) ?_
                    refine j_cV (j_runV (As := [.int (jI v2_72)]) (rest := []) hx hb hml hown hts hK hS hW (kX12_addsLayer l hS σ_24 (a0 := a0) (h0 := h0) (x1 := v2_72) (r1 := (by omega)) (hI := hI) (q0 := (by omega)) (q1 := (by omega))) 1 gX12_sums_X12_addsLayer rfl hvX12_addsLayer ⟨Nat.le_of_ble_eq_true rfl, Nat.le_of_ble_eq_true rfl⟩ rfl rfl h0 rfl rfl rfl rfl hl.1 rfl (Nat.le_of_ble_eq_true rfl) dX12_sums_108 ⟨Nat.le_of_ble_eq_true rfl, Nat.le_of_ble_eq_true rfl⟩) hA hF (fun σ_25 H locs hW hF pσ_25 => ?_)
                    try dsimp only at pσ_25
                    obtain ⟨pσ_25, fpσ_25⟩ := pσ_25
                    have q_addsLayer := pσ_25
                    have hR := fr_call hR fpσ_25 (by decide)
                    have Efile : σ_25 (G a0 0) = σ (G a0 0) := (row_fr fpσ_25 hk_file 40 (by decide) (by decide)).trans Efile
                    try clear hcf
                    have hcf := congrFun Efile 0
                    have hI := FI_dep hS h0 hI (kp_fr fpσ_25 (by decide))
                    refine j_iinc (lv' := [(2, .int (jI (v2_72 + 1))), (0, .ref a0), (1, .int (jI v1_62))]) hx hb dX12_sums_111 hl (k := 2) rfl (by decide) rfl (fun ls hl => ?_)
                    refine lv_goto (tgt := 72) hx hb dX12_sums_114 (by decide) ?_
                    exact ih_72 ((30 - (v2_72 + 1) : Int).toNat) (by omega) (v2_72 + 1) σ_25 _ _ _ rfl (by omega) (by omega) (by omega) hW hF hR hI Efile (lv_sub hl [1, 2, 0] rfl)
                  · refine lv_goto (tgt := 111) hx hb dX12_sums_98 (by decide) ?_
                    refine j_iinc (lv' := [(2, .int (jI (v2_72 + 1))), (0, .ref a0), (1, .int (jI v1_62))]) hx hb dX12_sums_111 hl (k := 2) rfl (by decide) rfl (fun ls hl => ?_)
                    refine lv_goto (tgt := 72) hx hb dX12_sums_114 (by decide) ?_
                    exact ih_72 ((30 - (v2_72 + 1) : Int).toNat) (by omega) (v2_72 + 1) σ_22 _ _ _ rfl (by omega) (by omega) (by omega) hW hF hR hI Efile (lv_sub hl [1, 2, 0] rfl)
            exact L_72 ((30 - 0 : Int).toNat) 0 σL_62 _ _ _ rfl (by omega) (by omega) (by decide) hW hF hR hI Efile (lv_sub hl [1, 2, 0] rfl)
      exact L_62 ((2147483647 - 0 : Int).toNat) 0 σL_60 _ _ _ rfl (by omega) (by decide) hW hF hR hI Efile (lv_sub hl [1, 0] rfl)
    refine j_if_le (tgt := 60) hx hb (by omega) dX12_sums_52 (by decide) (fun c_26 => ?_) (fun c_26 => ?_)
    · exact L_60 σL_48 _ _ _ hW hF hR hI Efile (lv_sub hl [0] rfl)
    · refine lv_aload_n hx hb dX12_sums_55 rfl (lv_at hl 0 rfl) ?_
      refine j_const hx hb dX12_sums_56 ?_
      refine j_putI hx hb (C := RX12) (T := TX12) (N := 41) hts inX12_sums_X12 tyX12 tyX12_ok nmX12 hown hK hS hA hW hF h0 rfl 33 (lo := -2147483648) (hi := 2147483647) rfl rfl (by decide) (hts _ flX12_sums_282) rfl .int rfl (by omega) rfl rfl dX12_sums_57 (fun σ_27 H locs e_28 hW hF => ?_)
      have hR := fr_up hR e_28 h0 13033 rfl (by decide)
      have Efile : σ_27 (G a0 0) = σ (G a0 0) := (row_up e_28 h0 hk_file (by decide)).trans Efile
      try clear hcf
      have hcf := congrFun Efile 0
      have hI := FI_dep hS h0 hI (kp_up e_28 h0 13033 rfl (by decide))
      try clear hfk
      have hfk : σ_27 a0 33 = 0 := by rw [e_28]; exact up2_at _ _ _ _
      exact L_60 σ_27 _ _ _ hW hF hR hI Efile (lv_sub hl [0] rfl)
  refine j_if_ne (tgt := 48) hx hb (by omega) dX12_sums_40 (by decide) (fun c_29 => ?_) (fun c_29 => ?_)
  · exact L_48 σ_13 _ _ _ hW hF hR hI Efile (lv_sub hl [0] rfl)
  · refine lv_aload_n hx hb dX12_sums_43 rfl (lv_at hl 0 rfl) ?_
    refine j_const hx hb dX12_sums_44 ?_
    refine j_putI hx hb (C := RX12) (T := TX12) (N := 41) hts inX12_sums_X12 tyX12 tyX12_ok nmX12 hown hK hS hA hW hF h0 rfl 27 (lo := -2147483648) (hi := 2147483647) rfl rfl (by decide) (hts _ flX12_sums_258) rfl .int rfl (by omega) rfl rfl dX12_sums_45 (fun σ_30 H locs e_31 hW hF => ?_)
    have hR := fr_up hR e_31 h0 13027 rfl (by decide)
    have Efile : σ_30 (G a0 0) = σ (G a0 0) := (row_up e_31 h0 hk_file (by decide)).trans Efile
    try clear hcf
    have hcf := congrFun Efile 0
    have hI := FI_dep hS h0 hI (kp_up e_31 h0 13027 rfl (by decide))
    try clear hfk
    have hfk : σ_30 a0 27 = 1 := by rw [e_31]; exact up2_at _ _ _ _
    exact L_48 σ_30 _ _ _ hW hF hR hI Efile (lv_sub hl [0] rfl)
