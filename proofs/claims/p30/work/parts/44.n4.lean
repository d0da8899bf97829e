abbrev wr_X12_goesLayer : List Nat := [13003, 13004, 13005, 13025, 41000]
theorem flX12_goesLayer_7 : Cond.fieldLink RX12 7 "PageTrieModel" "file" "[I" ∈ wsX12_goesLayer := List.mem_of_getElem? (i := 3) rfl
theorem flX12_goesLayer_70 : Cond.fieldLink RX12 70 "PageTrieModel" "handLong" "I" ∈ wsX12_goesLayer := List.mem_of_getElem? (i := 2) rfl
theorem flX12_goesLayer_240 : Cond.fieldLink RX12 240 "PageTrieModel" "layerDepth" "I" ∈ wsX12_goesLayer := List.mem_of_getElem? (i := 1) rfl
theorem inX12_goesLayer_X12 : ∀ w ∈ u_ws RX12 TX12 41, w ∈ wsX12_goesLayer := mem_r _ [36, 37, 38, 39, 40, 41, 42, 43, 44, 45, 46, 47, 48, 49, 50, 51, 52, 53, 54, 55, 56, 57, 58, 59, 60, 61, 62, 63, 64, 65, 66, 67, 68, 69, 70, 71, 72, 73, 74, 75, 76] rfl
theorem hvX12_goesLayer : yX12_goesLayer.cls = RX12 ∧ yX12_goesLayer.cls ≠ "java/lang/invoke/MethodHandle" ∧ yX12_goesLayer.cls ≠ "java/lang/invoke/VarHandle" ∧ (parseMethodDescriptor yX12_goesLayer.desc).map (fun d => d.parameters.length) = some 1 := by decide +kernel
set_option maxHeartbeats 4000000 in
set_option maxRecDepth 100000 in
theorem kX12_goesLayer (l : Launch) {D : va_G} {cA : Nat → ClassId} {τ : Nat → Nat} {G : Nat → Nat → Nat} {L : List Nat} (hS : SW τ G L) (σ : Nat → Nat → Int) {a0 : Nat} (h0 : τ a0 = 13) {x1 : Int} (r1 : rg x1) (hI : FI G a0 σ) : Met l yX12_goesLayer wsX12_goesLayer ({ frames := 4, cells := 0, slots := 0, locals := 88 }) (jP D cA τ G L σ [.ref a0, .int (jI x1)]) (jQI D cA τ G L (fun r σ' => (0 ≤ r ∧ r ≤ 1) ∧ (((r = 1 → 0 ≤ σ' a0 25 ∧ σ' a0 25 ≤ 23)) ∧ fr wr_X12_goesLayer τ σ σ'))) 0 0 (fun q => q ∈ L) := by
  refine j_metZ (by decide +kernel) rfl (Nat.le_of_ble_eq_true rfl) ?_
  intro p e s m args below meth c Q hx hb hml hown hts hK hW hRet ls hl
  have hl : lv_has ls 5 [(0, .ref a0), (1, .int (jI x1))] := hl
  have hA : ∀ q ∈ L, (fun q => q ∈ L) q := fun _ h => h
  have hF : va_S (fun q => q ∈ L) s.heap s.heap [] := va_S.rf
  have hR : fr wr_X12_goesLayer τ σ σ := fr_rf
  have hk_file : τ (G a0 0) = 40 := gty hS h0 (k := 0) rfl rfl
  have := FI_bd hI
  have := fbd hW h0 (k := 3) (lo := 0) (hi := 24) rfl rfl
  refine lv_aload_n hx hb dX12_goesLayer_0 rfl (lv_at hl 0 rfl) ?_
  refine j_const hx hb dX12_goesLayer_1 ?_
  refine j_putI hx hb (C := RX12) (T := TX12) (N := 41) hts inX12_goesLayer_X12 tyX12 tyX12_ok nmX12 hown hK hS hA hW hF h0 rfl 25 (lo := -2147483648) (hi := 2147483647) rfl rfl (by decide) (hts _ flX12_goesLayer_240) rfl .int rfl (by omega) rfl rfl dX12_goesLayer_2 (fun σ_1 H locs e_2 hW hF => ?_)
  have hR := fr_up hR e_2 h0 13025 rfl (by decide)
  have Efile : σ_1 (G a0 0) = σ (G a0 0) := row_up e_2 h0 hk_file (by decide)
  have := congrFun Efile 0
  have hI := FI_dep hS h0 hI (kp_up e_2 h0 13025 rfl (by decide))
  have hfk : σ_1 a0 25 = 0 := by rw [e_2]; exact up2_at _ _ _ _
  have hld := hfk
  refine lv_aload_n hx hb dX12_goesLayer_5 rfl (lv_at hl 0 rfl) ?_
  refine j_const hx hb dX12_goesLayer_6 ?_
  refine j_putI hx hb (C := RX12) (T := TX12) (N := 41) hts inX12_goesLayer_X12 tyX12 tyX12_ok nmX12 hown hK hS hA hW hF h0 rfl 3 (lo := 0) (hi := 24) rfl rfl (by decide) (hts _ flX12_goesLayer_70) rfl .int rfl (by omega) rfl rfl dX12_goesLayer_7 (fun σ_3 H locs e_4 hW hF => ?_)
  have hR := fr_up hR e_4 h0 13003 rfl (by decide)
  have Efile : σ_3 (G a0 0) = σ (G a0 0) := (row_up e_4 h0 hk_file (by decide)).trans Efile
  have := congrFun Efile 0
  have Eld : σ_3 a0 25 = σ_1 a0 25 := fld_up e_4 h0 h0 (fun q => absurd q.2 (by decide))
  have hI := FI_dep hS h0 hI (kp_up e_4 h0 13003 rfl (by decide))
  have hfk : σ_3 a0 3 = 0 := by rw [e_4]; exact up2_at _ _ _ _
  refine j_const hx hb dX12_goesLayer_10 ?_
  refine lv_istore_n (lv' := [(2, .int (jI 0)), (0, .ref a0), (1, .int (jI x1))]) hx hb dX12_goesLayer_11 rfl hl (by decide) rfl (fun ls hl => ?_)
  refine lv_iload_n hx hb dX12_goesLayer_12 rfl (lv_at hl 2 rfl) ?_
  refine j_if_ne (tgt := 30) hx hb (by omega) dX12_goesLayer_13 (by decide) (fun c_5 => ?_) (fun c_5 => ?_)
  · refine j_const hx hb dX12_goesLayer_30 ?_
    refine lv_istore_n (lv' := [(3, .int (jI 0)), (2, .int (jI 0)), (0, .ref a0), (1, .int (jI x1))]) hx hb dX12_goesLayer_31 rfl hl (by decide) rfl (fun ls hl => ?_)
    have L_32 : ∀ (N : Nat) (v2_32 v3_32 : Int) (σL_32 : Nat → Nat → Int) (H : Heap) (locs : List Loc) (ls : Array Slot), N = (2147483647 - v3_32 : Int).toNat → (0 ≤ v3_32) → rg v2_32 → rg v3_32 → PW D cA τ G L σL_32 H → va_S (fun q => q ∈ L) s.heap H locs → fr wr_X12_goesLayer τ σ σL_32 → FI G a0 σL_32 → σL_32 (G a0 0) = σ (G a0 0) → lv_has ls 5 [(0, .ref a0), (1, .int (jI x1)), (2, .int (jI v2_32)), (3, .int (jI v3_32))] → W p l e ({ frames := 4, cells := 0, slots := 0, locals := 88 }) s m args below meth c H locs 0 0 Q (F0 m 32 ls []) := by
      intro N
      induction N using Nat.strongRecOn with
      | ind N ih_32 =>
        intro v2_32 v3_32 σL_32 H locs ls hN i0_32 rv2_32 rv3_32 hW hF hR hI Efile hl
        have := congrFun Efile 0
        refine lv_iload_n hx hb dX12_goesLayer_32 rfl (lv_at hl 3 rfl) ?_
        refine lv_aload_n hx hb dX12_goesLayer_33 rfl (lv_at hl 0 rfl) ?_
        refine j_cR (j_runV (As := []) (rest := [.int (jI v3_32)]) hx hb hml hown hts hK hS hW (kX12_many l hS σL_32 (a0 := a0) (h0 := h0)) 0 gX12_goesLayer_X12_many rfl hvX12_many ⟨Nat.le_of_ble_eq_true rfl, Nat.le_of_ble_eq_true rfl⟩ rfl rfl h0 rfl rfl rfl rfl hl.1 rfl (Nat.le_of_ble_eq_true rfl) dX12_goesLayer_34 ⟨Nat.le_of_ble_eq_true rfl, Nat.le_of_ble_eq_true rfl⟩) (fun v_6 rv_6 pv_6 => ?_)
        try dsimp only at pv_6
        try simp only [Efile] at pv_6
        have q_many := pv_6
        have := FI_bd hI
        try simp only [Efile] at this
        refine j_icmp_ge (tgt := 103) hx hb (by omega) (by omega) dX12_goesLayer_37 (by decide) (fun c_7 => ?_) (fun c_7 => ?_)
        · refine j_const hx hb dX12_goesLayer_103 ?_
          exact hRet 104 _ _ _ 0 _ dX12_goesLayer_104 hW hF (by omega) ⟨(by omega), hR⟩
        · refine j_const hx hb dX12_goesLayer_40 ?_
          refine lv_istore (lv' := [(4, .int (jI 0)), (0, .ref a0), (1, .int (jI x1)), (2, .int (jI v2_32)), (3, .int (jI v3_32))]) hx hb dX12_goesLayer_41 hl (by decide) rfl (fun ls hl => ?_)
          have L_43 : ∀ (N : Nat) (v2_43 v4_43 : Int) (σL_43 : Nat → Nat → Int) (H : Heap) (locs : List Loc) (ls : Array Slot), N = (30 - v4_43 : Int).toNat → (0 ≤ v4_43) → (v4_43 ≤ 24) → rg v2_43 → rg v4_43 → PW D cA τ G L σL_43 H → va_S (fun q => q ∈ L) s.heap H locs → fr wr_X12_goesLayer τ σ σL_43 → FI G a0 σL_43 → σL_43 (G a0 0) = σ (G a0 0) → lv_has ls 5 [(0, .ref a0), (1, .int (jI x1)), (2, .int (jI v2_43)), (3, .int (jI v3_32)), (4, .int (jI v4_43))] → W p l e ({ frames := 4, cells := 0, slots := 0, locals := 88 }) s m args below meth c H locs 0 0 Q (F0 m 43 ls []) := by
            intro N
            induction N using Nat.strongRecOn with
            | ind N ih_43 =>
              intro v2_43 v4_43 σL_43 H locs ls hN i0_43 i1_43 rv2_43 rv4_43 hW hF hR hI Efile hl
              have := congrFun Efile 0
              have hmb := mul_bd (a := v4_43) (b := σ (G a0 0) 1) (A := 24) (B := 8) (by omega) (by omega) (by omega) (by omega)
              have hml_ := mul_le (a := v4_43) (w := σ (G a0 0) 1) (by omega) (by omega)
              refine lv_iload hx hb dX12_goesLayer_43 (lv_at hl 4 rfl) ?_
              refine lv_aload_n hx hb dX12_goesLayer_45 rfl (lv_at hl 0 rfl) ?_
              refine j_getR hx hb (C := RX12) (T := TX12) (N := 41) hts inX12_goesLayer_X12 hown hK hS hW h0 rfl 0 rfl rfl (by decide) (hts _ flX12_goesLayer_7) dX12_goesLayer_46 ?_
              refine j_const hx hb dX12_goesLayer_49 ?_
              refine j_ald hx hb hK hS hW hk_file (n := 17624) rfl (by omega) (by omega) (by decide) dX12_goesLayer_50 ?_
              have : -2147483648 ≤ σL_43 (G a0 0) 1 ∧ σL_43 (G a0 0) 1 ≤ 2147483647 := abd hW hk_file (n := 17624) (lo := -2147483648) (hi := 2147483647) (i := 1) rfl (by decide) (by decide)
              rw [Efile]
              try simp only [Efile] at this
              refine j_eq (z := σ (G a0 0) 1) rfl ?_
              have := FI_bd hI; rw [Efile] at this
              refine j_mul hx hb dX12_goesLayer_51 ?_
              refine lv_aload_n hx hb dX12_goesLayer_52 rfl (lv_at hl 0 rfl) ?_
              refine lv_iload_n hx hb dX12_goesLayer_53 rfl (lv_at hl 3 rfl) ?_
              refine j_const hx hb dX12_goesLayer_54 ?_
              refine j_cR (j_runV (As := [.int (jI v3_32), .int (jI 0)]) (rest := [.int (jI (v4_43 * (σ (G a0 0) 1)))]) hx hb hml hown hts hK hS hW (kX12_of l hS σL_43 (a0 := a0) (h0 := h0) (x1 := v3_32) (r1 := (by omega)) (x2 := 0) (r2 := (by decide)) (q0 := (by omega)) (q1 := (by omega))) 2 gX12_goesLayer_X12_of rfl hvX12_of ⟨Nat.le_of_ble_eq_true rfl, Nat.le_of_ble_eq_true rfl⟩ rfl rfl h0 rfl rfl rfl rfl hl.1 rfl (Nat.le_of_ble_eq_true rfl) dX12_goesLayer_55 ⟨Nat.le_of_ble_eq_true rfl, Nat.le_of_ble_eq_true rfl⟩) (fun v_8 rv_8 pv_8 => ?_)
              try dsimp only at pv_8
              try simp only [Efile] at pv_8
              have q_of := pv_8
              have := @FI_len _ _ _ hI v3_32
              try simp only [Efile] at this
              refine j_icmp_ge (tgt := 97) hx hb (by omega) (by omega) dX12_goesLayer_58 (by decide) (fun c_9 => ?_) (fun c_9 => ?_)
              · refine j_iinc (lv' := [(3, .int (jI (v3_32 + 1))), (0, .ref a0), (1, .int (jI x1)), (2, .int (jI v2_43)), (4, .int (jI v4_43))]) hx hb dX12_goesLayer_97 hl (k := 3) rfl (by decide) rfl (fun ls hl => ?_)
                refine lv_goto (tgt := 32) hx hb dX12_goesLayer_100 (by decide) ?_
                exact ih_32 ((2147483647 - (v3_32 + 1) : Int).toNat) (by omega) v2_43 (v3_32 + 1) σL_43 _ _ _ rfl (by omega) (by omega) (by omega) hW hF hR hI Efile (lv_sub hl [1, 2, 3, 0] rfl)
              · refine lv_aload_n hx hb dX12_goesLayer_61 rfl (lv_at hl 0 rfl) ?_
                refine lv_iload_n hx hb dX12_goesLayer_62 rfl (lv_at hl 3 rfl) ?_
                refine lv_iload hx hb dX12_goesLayer_63 (lv_at hl 4 rfl) ?_
                refine j_cI (j_runV (As := [.int (jI v3_32), .int (jI v4_43)]) (rest := []) hx hb hml hown hts hK hS hW (kX12_beginsLayer l hS σL_43 (a0 := a0) (h0 := h0) (x1 := v3_32) (r1 := (by omega)) (x2 := v4_43) (r2 := (by omega)) (hI := hI) (q0 := (by omega)) (q1 := (by omega)) (q2 := (by omega)) (q3 := (by first | omega | (rw [Efile]; omega)))) 2 gX12_goesLayer_X12_beginsLayer rfl hvX12_beginsLayer ⟨Nat.le_of_ble_eq_true rfl, Nat.le_of_ble_eq_true rfl⟩ rfl rfl h0 rfl rfl rfl rfl hl.1 rfl (Nat.le_of_ble_eq_true rfl) dX12_goesLayer_65 ⟨Nat.le_of_ble_eq_true rfl, Nat.le_of_ble_eq_true rfl⟩) hA hF (fun v_10 σ_11 H locs hW hF rv_10 pv_10 => ?_)
                try dsimp only at pv_10
                obtain ⟨bpv_10, pv_10, fpv_10⟩ := pv_10
                try simp only [Efile] at pv_10
                have q_beginsLayer := pv_10
                have hR := fr_call hR fpv_10 (by decide)
                have Efile : σ_11 (G a0 0) = σ (G a0 0) := (row_fr fpv_10 hk_file 40 (by decide) (by decide)).trans Efile
                have := congrFun Efile 0
                have Eld : σ_11 a0 25 = σL_43 a0 25 := fr_at fpv_10 h0 25 13025 rfl (by decide)
                have hI := FI_dep hS h0 hI (kp_fr fpv_10 (by decide))
                refine j_if_ne (tgt := 74) hx hb (by omega) dX12_goesLayer_68 (by decide) (fun c_12 => ?_) (fun c_12 => ?_)
                · refine lv_iload_n hx hb dX12_goesLayer_74 rfl (lv_at hl 2 rfl) ?_
                  refine lv_iload_n hx hb dX12_goesLayer_75 rfl (lv_at hl 1 rfl) ?_
                  refine j_icmp_ne (tgt := 87) hx hb (by omega) (by omega) dX12_goesLayer_76 (by decide) (fun c_13 => ?_) (fun c_13 => ?_)
                  · refine lv_iload_n hx hb dX12_goesLayer_87 rfl (lv_at hl 2 rfl) ?_
                    refine j_const hx hb dX12_goesLayer_88 ?_
                    refine j_add hx hb dX12_goesLayer_89 ?_
                    refine j_wrap (fun z_14 rz_14 ez_14 => ?_)
                    refine lv_istore_n (lv' := [(2, .int (jI z_14)), (0, .ref a0), (1, .int (jI x1)), (3, .int (jI v3_32)), (4, .int (jI v4_43))]) hx hb dX12_goesLayer_90 rfl hl (by decide) rfl (fun ls hl => ?_)
                    refine j_iinc (lv' := [(4, .int (jI (v4_43 + 1))), (2, .int (jI z_14)), (0, .ref a0), (1, .int (jI x1)), (3, .int (jI v3_32))]) hx hb dX12_goesLayer_91 hl (k := 4) rfl (by decide) rfl (fun ls hl => ?_)
                    refine lv_goto (tgt := 43) hx hb dX12_goesLayer_94 (by decide) ?_
                    exact ih_43 ((30 - (v4_43 + 1) : Int).toNat) (by omega) z_14 (v4_43 + 1) σ_11 _ _ _ rfl (by omega) (by omega) (by omega) (by omega) hW hF hR hI Efile (lv_sub hl [2, 3, 1, 4, 0] rfl)
                  · refine lv_aload_n hx hb dX12_goesLayer_79 rfl (lv_at hl 0 rfl) ?_
                    refine lv_iload hx hb dX12_goesLayer_80 (lv_at hl 4 rfl) ?_
                    refine j_putI hx hb (C := RX12) (T := TX12) (N := 41) hts inX12_goesLayer_X12 tyX12 tyX12_ok nmX12 hown hK hS hA hW hF h0 rfl 25 (lo := -2147483648) (hi := 2147483647) rfl rfl (by decide) (hts _ flX12_goesLayer_240) rfl .int rfl (by omega) rfl rfl dX12_goesLayer_82 (fun σ_15 H locs e_16 hW hF => ?_)
                    have hR := fr_up hR e_16 h0 13025 rfl (by decide)
                    have Efile : σ_15 (G a0 0) = σ (G a0 0) := (row_up e_16 h0 hk_file (by decide)).trans Efile
                    have := congrFun Efile 0
                    have hI := FI_dep hS h0 hI (kp_up e_16 h0 13025 rfl (by decide))
                    have hfk : σ_15 a0 25 = v4_43 := by rw [e_16]; exact up2_at _ _ _ _
                    have hld2 := hfk
                    refine j_const hx hb dX12_goesLayer_85 ?_
                    exact hRet 86 _ _ _ 1 _ dX12_goesLayer_86 hW hF (by omega) ⟨(by omega), hR⟩
                · refine lv_goto (tgt := 91) hx hb dX12_goesLayer_71 (by decide) ?_
                  refine j_iinc (lv' := [(4, .int (jI (v4_43 + 1))), (0, .ref a0), (1, .int (jI x1)), (2, .int (jI v2_43)), (3, .int (jI v3_32))]) hx hb dX12_goesLayer_91 hl (k := 4) rfl (by decide) rfl (fun ls hl => ?_)
                  refine lv_goto (tgt := 43) hx hb dX12_goesLayer_94 (by decide) ?_
                  exact ih_43 ((30 - (v4_43 + 1) : Int).toNat) (by omega) v2_43 (v4_43 + 1) σ_11 _ _ _ rfl (by omega) (by omega) (by omega) (by omega) hW hF hR hI Efile (lv_sub hl [1, 2, 3, 4, 0] rfl)
          exact L_43 ((30 - 0 : Int).toNat) v2_32 0 σL_32 _ _ _ rfl (by omega) (by omega) (by omega) (by decide) hW hF hR hI Efile (lv_sub hl [1, 2, 3, 4, 0] rfl)
    exact L_32 ((2147483647 - 0 : Int).toNat) 0 0 σ_3 _ _ _ rfl (by omega) (by decide) (by decide) hW hF hR hI Efile (lv_sub hl [2, 3, 1, 0] rfl)
  · refine lv_aload_n hx hb dX12_goesLayer_16 rfl (lv_at hl 1 rfl) ?_
    refine j_cR (j_runV (As := []) (rest := []) hx hb hml hown hts hK hS hW (kX12_many l hS σ_3 (a0 := a0) (h0 := h0)) 0 gX12_goesLayer_X12_many rfl hvX12_many ⟨Nat.le_of_ble_eq_true rfl, Nat.le_of_ble_eq_true rfl⟩ rfl rfl h0 rfl rfl rfl rfl hl.1 rfl (Nat.le_of_ble_eq_true rfl) dX12_goesLayer_17 ⟨Nat.le_of_ble_eq_true rfl, Nat.le_of_ble_eq_true rfl⟩) (fun v_17 rv_17 pv_17 => ?_)
    try dsimp only at pv_17
    try simp only [Efile, Eld] at pv_17
    have q_many := pv_17
    have := FI_bd hI
    try simp only [Efile] at this
    refine j_if_le (tgt := 28) hx hb (by omega) dX12_goesLayer_20 (by decide) (fun c_18 => ?_) (fun c_18 => ?_)
    · refine j_const hx hb dX12_goesLayer_28 ?_
      exact hRet 29 _ _ _ 1 _ dX12_goesLayer_29 hW hF (by omega) ⟨(by omega), hR⟩
    · refine lv_aload_n hx hb dX12_goesLayer_23 rfl (lv_at hl 1 rfl) ?_
      refine j_const hx hb dX12_goesLayer_24 ?_
      refine j_cV (j_runV (As := [.int (jI 0)]) (rest := []) hx hb hml hown hts hK hS hW (kX12_takesHand l hS σ_3 (a0 := a0) (h0 := h0) (x1 := 0) (r1 := (by decide)) (hI := hI) (q0 := (by omega)) (q1 := (by omega))) 1 gX12_goesLayer_X12_takesHand rfl hvX12_takesHand ⟨Nat.le_of_ble_eq_true rfl, Nat.le_of_ble_eq_true rfl⟩ rfl rfl h0 rfl rfl rfl rfl hl.1 rfl (Nat.le_of_ble_eq_true rfl) dX12_goesLayer_25 ⟨Nat.le_of_ble_eq_true rfl, Nat.le_of_ble_eq_true rfl⟩) hA hF (fun σ_19 H locs hW hF pσ_19 => ?_)
      try dsimp only at pσ_19
      obtain ⟨pσ_19, fpσ_19⟩ := pσ_19
      try simp only [Efile, Eld] at pσ_19
      have q_takesHand := pσ_19
      have hR := fr_call hR fpσ_19 (by decide)
      have Efile : σ_19 (G a0 0) = σ (G a0 0) := (row_fr fpσ_19 hk_file 40 (by decide) (by decide)).trans Efile
      have := congrFun Efile 0
      have Eld : σ_19 a0 25 = σ_1 a0 25 := (fr_at fpσ_19 h0 25 13025 rfl (by decide)).trans Eld
      have hI := FI_dep hS h0 hI (kp_fr fpσ_19 (by decide))
      refine j_const hx hb dX12_goesLayer_28 ?_
      exact hRet 29 _ _ _ 1 _ dX12_goesLayer_29 hW hF (by omega) ⟨(by omega), hR⟩
theorem flX12_partLong_7 : Cond.fieldLink RX12 7 "PageTrieModel" "file" "[I" ∈ wsX12_partLong := List.mem_of_getElem? (i := 1) rfl
theorem flX12_partLong_16 : Cond.fieldLink RX12 16 "PageTrieModel" "entryAt" "[I" ∈ wsX12_partLong := List.mem_of_getElem? (i := 2) rfl
theorem inX12_partLong_X12 : ∀ w ∈ u_ws RX12 TX12 41, w ∈ wsX12_partLong := mem_r _ [11, 12, 13, 14, 15, 16, 17, 18, 19, 20, 21, 22, 23, 24, 25, 26, 27, 28, 29, 30, 31, 32, 33, 34, 35, 36, 37, 38, 39, 40, 41, 42, 43, 44, 45, 46, 47, 48, 49, 50, 51] rfl
theorem hvX12_partLong : yX12_partLong.cls = RX12 ∧ yX12_partLong.cls ≠ "java/lang/invoke/MethodHandle" ∧ yX12_partLong.cls ≠ "java/lang/invoke/VarHandle" ∧ (parseMethodDescriptor yX12_partLong.desc).map (fun d => d.parameters.length) = some 2 := by decide +kernel
set_option maxHeartbeats 4000000 in
set_option maxRecDepth 100000 in
theorem kX12_partLong (l : Launch) {D : va_G} {cA : Nat → ClassId} {τ : Nat → Nat} {G : Nat → Nat → Nat} {L : List Nat} (hS : SW τ G L) (σ : Nat → Nat → Int) {a0 : Nat} (h0 : τ a0 = 13) {x1 : Int} (r1 : rg x1) {x2 : Int} (r2 : rg x2) (hI : FI G a0 σ) (q0 : 0 ≤ x1) (q1 : x1 < 150) (q2 : 0 ≤ x2) (q3 : x2 ≤ 23) : Met l yX12_partLong wsX12_partLong ({ frames := 1, cells := 0, slots := 0, locals := 22 }) (jP D cA τ G L σ [.ref a0, .int (jI x1), .int (jI x2)]) (jQR (fun r => True)) 0 0 (fun _ => False) := by
  refine j_metR (by decide +kernel) rfl (Nat.le_of_ble_eq_true rfl) ?_
  intro p e s m args below meth c Q hx hb hml hown hts hK hW hRet ls hl
  have hl : lv_has ls 3 [(0, .ref a0), (1, .int (jI x1)), (2, .int (jI x2))] := hl
  have := FI_bd hI
  have := fbd hW h0 (k := 3) (lo := 0) (hi := 24) rfl rfl
  have hmb := mul_bd (a := x2) (b := σ (G a0 0) 1) (A := 24) (B := 8) (by omega) (by omega) (by omega) (by omega)
  refine lv_aload_n hx hb dX12_partLong_0 rfl (lv_at hl 0 rfl) ?_
  refine j_getR hx hb (C := RX12) (T := TX12) (N := 41) hts inX12_partLong_X12 hown hK hS hW h0 rfl 0 rfl rfl (by decide) (hts _ flX12_partLong_7) dX12_partLong_1 ?_
  have h_1 : τ (G a0 0) = 40 := gty hS h0 (k := 0) rfl rfl
  refine j_const hx hb dX12_partLong_4 ?_
  refine j_ald hx hb hK hS hW h_1 (n := 17624) rfl (by omega) (by omega) (by decide) dX12_partLong_5 ?_
  have : -2147483648 ≤ σ (G a0 0) 1 ∧ σ (G a0 0) 1 ≤ 2147483647 := abd hW h_1 (n := 17624) (lo := -2147483648) (hi := 2147483647) (i := 1) rfl (by decide) (by decide)
  refine j_eq (z := σ (G a0 0) 1) rfl ?_
  have := FI_bd hI
  refine lv_aload_n hx hb dX12_partLong_6 rfl (lv_at hl 0 rfl) ?_
  refine lv_aload_n hx hb dX12_partLong_7 rfl (lv_at hl 0 rfl) ?_
  refine j_getR hx hb (C := RX12) (T := TX12) (N := 41) hts inX12_partLong_X12 hown hK hS hW h0 rfl 6 rfl rfl (by decide) (hts _ flX12_partLong_16) dX12_partLong_8 ?_
  have h_2 : τ (G a0 6) = 42 := gty hS h0 (k := 6) rfl rfl
  refine lv_iload_n hx hb dX12_partLong_11 rfl (lv_at hl 1 rfl) ?_
  refine j_ald hx hb hK hS hW h_2 (n := 151) rfl (by omega) (by omega) (by decide) dX12_partLong_12 ?_
  have := abd hW h_2 (n := 151) (lo := 0) (hi := 150) (i := x1) rfl (by omega) (by omega)
  refine j_const hx hb dX12_partLong_13 ?_
  refine j_cR (j_runV (As := [.int (jI (σ (G a0 6) (x1).toNat)), .int (jI 0)]) (rest := [.int (jI (σ (G a0 0) 1))]) hx hb hml hown hts hK hS hW (kX12_of l hS σ (a0 := a0) (h0 := h0) (x1 := σ (G a0 6) (x1).toNat) (r1 := (by omega)) (x2 := 0) (r2 := (by decide)) (q0 := (by omega)) (q1 := (by omega))) 2 gX12_partLong_X12_of rfl hvX12_of ⟨Nat.le_of_ble_eq_true rfl, Nat.le_of_ble_eq_true rfl⟩ rfl rfl h0 rfl rfl rfl rfl hl.1 rfl (Nat.le_of_ble_eq_true rfl) dX12_partLong_14 ⟨Nat.le_of_ble_eq_true rfl, Nat.le_of_ble_eq_true rfl⟩) (fun v_3 rv_3 pv_3 => ?_)
  try dsimp only at pv_3
  have q_of := pv_3
  have := @FI_len _ _ _ hI (σ (G a0 6) (x1).toNat)
  refine lv_iload_n hx hb dX12_partLong_17 rfl (lv_at hl 2 rfl) ?_
  refine lv_aload_n hx hb dX12_partLong_18 rfl (lv_at hl 0 rfl) ?_
  refine j_getR hx hb (C := RX12) (T := TX12) (N := 41) hts inX12_partLong_X12 hown hK hS hW h0 rfl 0 rfl rfl (by decide) (hts _ flX12_partLong_7) dX12_partLong_19 ?_
  refine j_const hx hb dX12_partLong_22 ?_
  refine j_ald hx hb hK hS hW h_1 (n := 17624) rfl (by omega) (by omega) (by decide) dX12_partLong_23 ?_
  refine j_eq (z := σ (G a0 0) 1) rfl ?_
  refine j_mul hx hb dX12_partLong_24 ?_
  refine j_sub hx hb dX12_partLong_25 ?_
  refine j_wrap (fun z_4 rz_4 ez_4 => ?_)
  refine j_cR (j_runS (As := [.int (jI (σ (G a0 0) 1)), .int (jI z_4)]) (rest := []) hx hb hml hown hts hK hW (kX12_min l hS σ (x0 := σ (G a0 0) 1) (r0 := (by omega)) (x1 := z_4) (r1 := (by omega))) 2 gX12_partLong_X12_min rfl hsX12_min ⟨Nat.le_of_ble_eq_true rfl, Nat.le_of_ble_eq_true rfl⟩ rfl rfl rfl hl.1 rfl (Nat.le_of_ble_eq_true rfl) dX12_partLong_26 ⟨Nat.le_of_ble_eq_true rfl, Nat.le_of_ble_eq_true rfl⟩) (fun v_5 rv_5 pv_5 => ?_)
  try dsimp only at pv_5
  have q_min := pv_5
  exact hRet 29 _ v_5 dX12_partLong_29 (by omega) trivial
theorem flX12_restLong_7 : Cond.fieldLink RX12 7 "PageTrieModel" "file" "[I" ∈ wsX12_restLong := List.mem_of_getElem? (i := 3) rfl
theorem flX12_restLong_16 : Cond.fieldLink RX12 16 "PageTrieModel" "entryAt" "[I" ∈ wsX12_restLong := List.mem_of_getElem? (i := 2) rfl
theorem flX12_restLong_19 : Cond.fieldLink RX12 19 "PageTrieModel" "entryKind" "[I" ∈ wsX12_restLong := List.mem_of_getElem? (i := 1) rfl
theorem inX12_restLong_X12 : ∀ w ∈ u_ws RX12 TX12 41, w ∈ wsX12_restLong := mem_r _ [9, 10, 11, 12, 13, 14, 15, 16, 17, 18, 19, 20, 21, 22, 23, 24, 25, 26, 27, 28, 29, 30, 31, 32, 33, 34, 35, 36, 37, 38, 39, 40, 41, 42, 43, 44, 45, 46, 47, 48, 49] rfl
theorem hvX12_restLong : yX12_restLong.cls = RX12 ∧ yX12_restLong.cls ≠ "java/lang/invoke/MethodHandle" ∧ yX12_restLong.cls ≠ "java/lang/invoke/VarHandle" ∧ (parseMethodDescriptor yX12_restLong.desc).map (fun d => d.parameters.length) = some 2 := by decide +kernel
set_option maxHeartbeats 4000000 in
set_option maxRecDepth 100000 in
theorem kX12_restLong (l : Launch) {D : va_G} {cA : Nat → ClassId} {τ : Nat → Nat} {G : Nat → Nat → Nat} {L : List Nat} (hS : SW τ G L) (σ : Nat → Nat → Int) {a0 : Nat} (h0 : τ a0 = 13) {x1 : Int} (r1 : rg x1) {x2 : Int} (r2 : rg x2) (hI : FI G a0 σ) (q0 : 0 ≤ x1) (q1 : x1 < 150) (q2 : 0 ≤ x2) (q3 : x2 ≤ 23) : Met l yX12_restLong wsX12_restLong ({ frames := 1, cells := 0, slots := 0, locals := 22 }) (jP D cA τ G L σ [.ref a0, .int (jI x1), .int (jI x2)]) (jQR (fun r => True)) 0 0 (fun _ => False) := by
  refine j_metR (by decide +kernel) rfl (Nat.le_of_ble_eq_true rfl) ?_
  intro p e s m args below meth c Q hx hb hml hown hts hK hW hRet ls hl
  have hl : lv_has ls 3 [(0, .ref a0), (1, .int (jI x1)), (2, .int (jI x2))] := hl
  have := FI_bd hI
  have := fbd hW h0 (k := 3) (lo := 0) (hi := 24) rfl rfl
  have hmb := mul_bd (a := x2 + 1) (b := σ (G a0 0) 1) (A := 24) (B := 8) (by omega) (by omega) (by omega) (by omega)
  refine lv_aload_n hx hb dX12_restLong_0 rfl (lv_at hl 0 rfl) ?_
  refine j_getR hx hb (C := RX12) (T := TX12) (N := 41) hts inX12_restLong_X12 hown hK hS hW h0 rfl 7 rfl rfl (by decide) (hts _ flX12_restLong_19) dX12_restLong_1 ?_
  have h_1 : τ (G a0 7) = 43 := gty hS h0 (k := 7) rfl rfl
  refine lv_iload_n hx hb dX12_restLong_4 rfl (lv_at hl 1 rfl) ?_
  refine j_ald hx hb hK hS hW h_1 (n := 150) rfl (by omega) (by omega) (by decide) dX12_restLong_5 ?_
  have := abd hW h_1 (n := 150) (lo := -2147483648) (hi := 2147483647) (i := x1) rfl (by omega) (by omega)
  refine j_const hx hb dX12_restLong_6 ?_
  refine j_icmp_ne (tgt := 35) hx hb (by omega) (by decide) dX12_restLong_7 (by decide) (fun c_2 => ?_) (fun c_2 => ?_)
  · refine j_const hx hb dX12_restLong_35 ?_
    exact hRet 36 _ 0 dX12_restLong_36 (by decide) trivial
  · refine lv_aload_n hx hb dX12_restLong_10 rfl (lv_at hl 0 rfl) ?_
    refine lv_aload_n hx hb dX12_restLong_11 rfl (lv_at hl 0 rfl) ?_
    refine j_getR hx hb (C := RX12) (T := TX12) (N := 41) hts inX12_restLong_X12 hown hK hS hW h0 rfl 6 rfl rfl (by decide) (hts _ flX12_restLong_16) dX12_restLong_12 ?_
    have h_3 : τ (G a0 6) = 42 := gty hS h0 (k := 6) rfl rfl
    refine lv_iload_n hx hb dX12_restLong_15 rfl (lv_at hl 1 rfl) ?_
    refine j_ald hx hb hK hS hW h_3 (n := 151) rfl (by omega) (by omega) (by decide) dX12_restLong_16 ?_
    have := abd hW h_3 (n := 151) (lo := 0) (hi := 150) (i := x1) rfl (by omega) (by omega)
    refine j_const hx hb dX12_restLong_17 ?_
    refine j_cR (j_runV (As := [.int (jI (σ (G a0 6) (x1).toNat)), .int (jI 0)]) (rest := []) hx hb hml hown hts hK hS hW (kX12_of l hS σ (a0 := a0) (h0 := h0) (x1 := σ (G a0 6) (x1).toNat) (r1 := (by omega)) (x2 := 0) (r2 := (by decide)) (q0 := (by omega)) (q1 := (by omega))) 2 gX12_restLong_X12_of rfl hvX12_of ⟨Nat.le_of_ble_eq_true rfl, Nat.le_of_ble_eq_true rfl⟩ rfl rfl h0 rfl rfl rfl rfl hl.1 rfl (Nat.le_of_ble_eq_true rfl) dX12_restLong_18 ⟨Nat.le_of_ble_eq_true rfl, Nat.le_of_ble_eq_true rfl⟩) (fun v_4 rv_4 pv_4 => ?_)
    try dsimp only at pv_4
    have q_of := pv_4
    have := @FI_len _ _ _ hI (σ (G a0 6) (x1).toNat)
    refine lv_iload_n hx hb dX12_restLong_21 rfl (lv_at hl 2 rfl) ?_
    refine j_const hx hb dX12_restLong_22 ?_
    refine j_add hx hb dX12_restLong_23 ?_
    refine lv_aload_n hx hb dX12_restLong_24 rfl (lv_at hl 0 rfl) ?_
    refine j_getR hx hb (C := RX12) (T := TX12) (N := 41) hts inX12_restLong_X12 hown hK hS hW h0 rfl 0 rfl rfl (by decide) (hts _ flX12_restLong_7) dX12_restLong_25 ?_
    have h_5 : τ (G a0 0) = 40 := gty hS h0 (k := 0) rfl rfl
    refine j_const hx hb dX12_restLong_28 ?_
    refine j_ald hx hb hK hS hW h_5 (n := 17624) rfl (by omega) (by omega) (by decide) dX12_restLong_29 ?_
    have : -2147483648 ≤ σ (G a0 0) 1 ∧ σ (G a0 0) 1 ≤ 2147483647 := abd hW h_5 (n := 17624) (lo := -2147483648) (hi := 2147483647) (i := 1) rfl (by decide) (by decide)
    refine j_eq (z := σ (G a0 0) 1) rfl ?_
    have := FI_bd hI
    refine j_mul hx hb dX12_restLong_30 ?_
    refine j_sub hx hb dX12_restLong_31 ?_
    refine j_wrap (fun z_6 rz_6 ez_6 => ?_)
    refine lv_goto (tgt := 36) hx hb dX12_restLong_32 (by decide) ?_
    exact hRet 36 _ z_6 dX12_restLong_36 (by omega) trivial
theorem flX12_pageSize_16 : Cond.fieldLink RX12 16 "PageTrieModel" "entryAt" "[I" ∈ wsX12_pageSize := List.mem_of_getElem? (i := 2) rfl
theorem flX12_pageSize_97 : Cond.fieldLink RX12 97 "PageTrieModel" "entries" "I" ∈ wsX12_pageSize := List.mem_of_getElem? (i := 1) rfl
theorem flX12_pageSize_240 : Cond.fieldLink RX12 240 "PageTrieModel" "layerDepth" "I" ∈ wsX12_pageSize := List.mem_of_getElem? (i := 3) rfl
theorem inX12_pageSize_X12 : ∀ w ∈ u_ws RX12 TX12 41, w ∈ wsX12_pageSize := mem_r _ [21, 22, 23, 24, 25, 26, 27, 28, 29, 30, 31, 32, 33, 34, 35, 36, 37, 38, 39, 40, 41, 42, 43, 44, 45, 46, 47, 48, 49, 50, 51, 52, 53, 54, 55, 56, 57, 58, 59, 60, 61] rfl
theorem hvX12_pageSize : yX12_pageSize.cls = RX12 ∧ yX12_pageSize.cls ≠ "java/lang/invoke/MethodHandle" ∧ yX12_pageSize.cls ≠ "java/lang/invoke/VarHandle" ∧ (parseMethodDescriptor yX12_pageSize.desc).map (fun d => d.parameters.length) = some 1 := by decide +kernel
set_option maxHeartbeats 4000000 in
set_option maxRecDepth 100000 in
theorem kX12_pageSize (l : Launch) {D : va_G} {cA : Nat → ClassId} {τ : Nat → Nat} {G : Nat → Nat → Nat} {L : List Nat} (hS : SW τ G L) (σ : Nat → Nat → Int) {a0 : Nat} (h0 : τ a0 = 13) {x1 : Int} (r1 : rg x1) (q0 : 0 ≤ σ a0 25) (q1 : σ a0 25 ≤ 23) : Met l yX12_pageSize wsX12_pageSize ({ frames := 3, cells := 0, slots := 0, locals := 67 }) (jP D cA τ G L σ [.ref a0, .int (jI x1)]) (jQR (fun r => True)) 0 0 (fun _ => False) := by
  refine j_metR (by decide +kernel) rfl (Nat.le_of_ble_eq_true rfl) ?_
  intro p e s m args below meth c Q hx hb hml hown hts hK hW hRet ls hl
  have hl : lv_has ls 4 [(0, .ref a0), (1, .int (jI x1))] := hl
  have := fbd hW h0 (k := 8) (lo := 0) (hi := 150) rfl rfl
  refine j_const hx hb dX12_pageSize_0 ?_
  refine lv_istore_n (lv' := [(2, .int (jI (-1))), (0, .ref a0), (1, .int (jI x1))]) hx hb dX12_pageSize_1 rfl hl (by decide) rfl (fun ls hl => ?_)
  refine j_const hx hb dX12_pageSize_2 ?_
  refine lv_istore_n (lv' := [(3, .int (jI 0)), (2, .int (jI (-1))), (0, .ref a0), (1, .int (jI x1))]) hx hb dX12_pageSize_3 rfl hl (by decide) rfl (fun ls hl => ?_)
  have L_4 : ∀ (N : Nat) (v2_4 v3_4 : Int) (ls : Array Slot), N = (2147483647 - v3_4 : Int).toNat → (0 ≤ v3_4) → (v3_4 ≤ 150) → rg v2_4 → rg v3_4 → lv_has ls 4 [(0, .ref a0), (1, .int (jI x1)), (2, .int (jI v2_4)), (3, .int (jI v3_4))] → W p l e ({ frames := 3, cells := 0, slots := 0, locals := 67 }) s m args below meth c s.heap [] 0 0 Q (F0 m 4 ls []) := by
    intro N
    induction N using Nat.strongRecOn with
    | ind N ih_4 =>
      intro v2_4 v3_4 ls hN i0_4 i1_4 rv2_4 rv3_4 hl
      refine lv_iload_n hx hb dX12_pageSize_4 rfl (lv_at hl 3 rfl) ?_
      refine lv_aload_n hx hb dX12_pageSize_5 rfl (lv_at hl 0 rfl) ?_
      refine j_getI hx hb (C := RX12) (T := TX12) (N := 41) hts inX12_pageSize_X12 hown hK hS hW h0 rfl 8 rfl rfl (by decide) (hts _ flX12_pageSize_97) dX12_pageSize_6 ?_
      have := fbd hW h0 (k := 8) (lo := 0) (hi := 150) rfl rfl
      refine j_icmp_ge (tgt := 59) hx hb (by omega) (by omega) dX12_pageSize_9 (by decide) (fun c_1 => ?_) (fun c_1 => ?_)
      · refine j_bi hx hb dX12_pageSize_59 (by decide) ?_
        exact hRet 61 _ (-4) dX12_pageSize_61 (by decide) trivial
      · refine lv_aload_n hx hb dX12_pageSize_12 rfl (lv_at hl 0 rfl) ?_
        refine lv_aload_n hx hb dX12_pageSize_13 rfl (lv_at hl 0 rfl) ?_
        refine j_getR hx hb (C := RX12) (T := TX12) (N := 41) hts inX12_pageSize_X12 hown hK hS hW h0 rfl 6 rfl rfl (by decide) (hts _ flX12_pageSize_16) dX12_pageSize_14 ?_
        have h_2 : τ (G a0 6) = 42 := gty hS h0 (k := 6) rfl rfl
        refine lv_iload_n hx hb dX12_pageSize_17 rfl (lv_at hl 3 rfl) ?_
        refine j_ald hx hb hK hS hW h_2 (n := 151) rfl (by omega) (by omega) (by decide) dX12_pageSize_18 ?_
        have := abd hW h_2 (n := 151) (lo := 0) (hi := 150) (i := v3_4) rfl (by omega) (by omega)
        refine lv_aload_n hx hb dX12_pageSize_19 rfl (lv_at hl 0 rfl) ?_
        refine j_getI hx hb (C := RX12) (T := TX12) (N := 41) hts inX12_pageSize_X12 hown hK hS hW h0 rfl 25 rfl rfl (by decide) (hts _ flX12_pageSize_240) dX12_pageSize_20 ?_
        have := fbd hW h0 (k := 25) (lo := -2147483648) (hi := 2147483647) rfl rfl
        refine j_cR (j_runV (As := [.int (jI (σ (G a0 6) (v3_4).toNat)), .int (jI (σ a0 25))]) (rest := []) hx hb hml hown hts hK hS hW (kX12_beginsPage l hS σ (a0 := a0) (h0 := h0) (x1 := σ (G a0 6) (v3_4).toNat) (r1 := (by omega)) (x2 := σ a0 25) (r2 := (by omega)) (q0 := (by omega)) (q1 := (by omega)) (q2 := (by omega)) (q3 := (by omega))) 2 gX12_pageSize_X12_beginsPage rfl hvX12_beginsPage ⟨Nat.le_of_ble_eq_true rfl, Nat.le_of_ble_eq_true rfl⟩ rfl rfl h0 rfl rfl rfl rfl hl.1 rfl (Nat.le_of_ble_eq_true rfl) dX12_pageSize_23 ⟨Nat.le_of_ble_eq_true rfl, Nat.le_of_ble_eq_true rfl⟩) (fun v_3 rv_3 pv_3 => ?_)
        try dsimp only at pv_3
        have q_beginsPage := pv_3
        refine j_if_ne (tgt := 32) hx hb (by omega) dX12_pageSize_26 (by decide) (fun c_4 => ?_) (fun c_4 => ?_)
        · refine lv_iload_n hx hb dX12_pageSize_32 rfl (lv_at hl 2 rfl) ?_
          refine j_const hx hb dX12_pageSize_33 ?_
          refine j_add hx hb dX12_pageSize_34 ?_
          refine j_wrap (fun z_5 rz_5 ez_5 => ?_)
          refine lv_istore_n (lv' := [(2, .int (jI z_5)), (0, .ref a0), (1, .int (jI x1)), (3, .int (jI v3_4))]) hx hb dX12_pageSize_35 rfl hl (by decide) rfl (fun ls hl => ?_)
          refine lv_iload_n hx hb dX12_pageSize_36 rfl (lv_at hl 0 rfl) ?_
          refine lv_iload_n hx hb dX12_pageSize_37 rfl (lv_at hl 2 rfl) ?_
          refine j_icmp_ne (tgt := 53) hx hb (by omega) (by omega) dX12_pageSize_38 (by decide) (fun c_6 => ?_) (fun c_6 => ?_)
          · refine j_iinc (lv' := [(3, .int (jI (v3_4 + 1))), (2, .int (jI z_5)), (0, .ref a0), (1, .int (jI x1))]) hx hb dX12_pageSize_53 hl (k := 3) rfl (by decide) rfl (fun ls hl => ?_)
            refine lv_goto (tgt := 4) hx hb dX12_pageSize_56 (by decide) ?_
            exact ih_4 ((2147483647 - (v3_4 + 1) : Int).toNat) (by omega) z_5 (v3_4 + 1) _ rfl (by omega) (by omega) (by omega) (by omega) (lv_sub hl [2, 3, 1, 0] rfl)
          · refine lv_aload_n hx hb dX12_pageSize_41 rfl (lv_at hl 1 rfl) ?_
            refine lv_iload_n hx hb dX12_pageSize_42 rfl (lv_at hl 3 rfl) ?_
            refine lv_aload_n hx hb dX12_pageSize_43 rfl (lv_at hl 1 rfl) ?_
            refine j_getI hx hb (C := RX12) (T := TX12) (N := 41) hts inX12_pageSize_X12 hown hK hS hW h0 rfl 25 rfl rfl (by decide) (hts _ flX12_pageSize_240) dX12_pageSize_44 ?_
            refine j_cR (j_runV (As := [.int (jI v3_4), .int (jI (σ a0 25))]) (rest := []) hx hb hml hown hts hK hS hW (kX12_pageEnd l hS σ (a0 := a0) (h0 := h0) (x1 := v3_4) (r1 := (by omega)) (x2 := σ a0 25) (r2 := (by omega)) (q0 := (by omega)) (q1 := (by omega)) (q2 := (by omega)) (q3 := (by omega))) 2 gX12_pageSize_X12_pageEnd rfl hvX12_pageEnd ⟨Nat.le_of_ble_eq_true rfl, Nat.le_of_ble_eq_true rfl⟩ rfl rfl h0 rfl rfl rfl rfl hl.1 rfl (Nat.le_of_ble_eq_true rfl) dX12_pageSize_47 ⟨Nat.le_of_ble_eq_true rfl, Nat.le_of_ble_eq_true rfl⟩) (fun v_7 rv_7 pv_7 => ?_)
            try dsimp only at pv_7
            have q_pageEnd := pv_7
            refine lv_iload_n hx hb dX12_pageSize_50 rfl (lv_at hl 3 rfl) ?_
            refine j_sub hx hb dX12_pageSize_51 ?_
            exact hRet 52 _ (v_7 - v3_4) dX12_pageSize_52 (by omega) trivial
        · refine lv_goto (tgt := 53) hx hb dX12_pageSize_29 (by decide) ?_
          refine j_iinc (lv' := [(3, .int (jI (v3_4 + 1))), (0, .ref a0), (1, .int (jI x1)), (2, .int (jI v2_4))]) hx hb dX12_pageSize_53 hl (k := 3) rfl (by decide) rfl (fun ls hl => ?_)
          refine lv_goto (tgt := 4) hx hb dX12_pageSize_56 (by decide) ?_
          exact ih_4 ((2147483647 - (v3_4 + 1) : Int).toNat) (by omega) v2_4 (v3_4 + 1) _ rfl (by omega) (by omega) (by omega) (by omega) (lv_sub hl [1, 2, 3, 0] rfl)
  exact L_4 ((2147483647 - 0 : Int).toNat) (-1) 0 _ rfl (by omega) (by omega) (by decide) (by decide) (lv_sub hl [2, 3, 1, 0] rfl)
theorem flX12_pageNumber_16 : Cond.fieldLink RX12 16 "PageTrieModel" "entryAt" "[I" ∈ wsX12_pageNumber := List.mem_of_getElem? (i := 1) rfl
theorem flX12_pageNumber_240 : Cond.fieldLink RX12 240 "PageTrieModel" "layerDepth" "I" ∈ wsX12_pageNumber := List.mem_of_getElem? (i := 2) rfl
theorem inX12_pageNumber_X12 : ∀ w ∈ u_ws RX12 TX12 41, w ∈ wsX12_pageNumber := mem_r _ [16, 17, 18, 19, 20, 21, 22, 23, 24, 25, 26, 27, 28, 29, 30, 31, 32, 33, 34, 35, 36, 37, 38, 39, 40, 41, 42, 43, 44, 45, 46, 47, 48, 49, 50, 51, 52, 53, 54, 55, 56] rfl
theorem hvX12_pageNumber : yX12_pageNumber.cls = RX12 ∧ yX12_pageNumber.cls ≠ "java/lang/invoke/MethodHandle" ∧ yX12_pageNumber.cls ≠ "java/lang/invoke/VarHandle" ∧ (parseMethodDescriptor yX12_pageNumber.desc).map (fun d => d.parameters.length) = some 1 := by decide +kernel
set_option maxHeartbeats 4000000 in
set_option maxRecDepth 100000 in
theorem kX12_pageNumber (l : Launch) {D : va_G} {cA : Nat → ClassId} {τ : Nat → Nat} {G : Nat → Nat → Nat} {L : List Nat} (hS : SW τ G L) (σ : Nat → Nat → Int) {a0 : Nat} (h0 : τ a0 = 13) {x1 : Int} (r1 : rg x1) (q0 : 0 ≤ σ a0 25) (q1 : σ a0 25 ≤ 23) (q2 : x1 < 150) : Met l yX12_pageNumber wsX12_pageNumber ({ frames := 2, cells := 0, slots := 0, locals := 44 }) (jP D cA τ G L σ [.ref a0, .int (jI x1)]) (jQR (fun r => True)) 0 0 (fun _ => False) := by
  refine j_metR (by decide +kernel) rfl (Nat.le_of_ble_eq_true rfl) ?_
  intro p e s m args below meth c Q hx hb hml hown hts hK hW hRet ls hl
  have hl : lv_has ls 4 [(0, .ref a0), (1, .int (jI x1))] := hl
  refine j_const hx hb dX12_pageNumber_0 ?_
  refine lv_istore_n (lv' := [(2, .int (jI (-1))), (0, .ref a0), (1, .int (jI x1))]) hx hb dX12_pageNumber_1 rfl hl (by decide) rfl (fun ls hl => ?_)
  refine j_const hx hb dX12_pageNumber_2 ?_
  refine lv_istore_n (lv' := [(3, .int (jI 0)), (2, .int (jI (-1))), (0, .ref a0), (1, .int (jI x1))]) hx hb dX12_pageNumber_3 rfl hl (by decide) rfl (fun ls hl => ?_)
  have L_4 : ∀ (N : Nat) (v2_4 v3_4 : Int) (ls : Array Slot), N = (2147483647 - v3_4 : Int).toNat → (0 ≤ v3_4) → rg v2_4 → rg v3_4 → lv_has ls 4 [(0, .ref a0), (1, .int (jI x1)), (2, .int (jI v2_4)), (3, .int (jI v3_4))] → W p l e ({ frames := 2, cells := 0, slots := 0, locals := 44 }) s m args below meth c s.heap [] 0 0 Q (F0 m 4 ls []) := by
    intro N
    induction N using Nat.strongRecOn with
    | ind N ih_4 =>
      intro v2_4 v3_4 ls hN i0_4 rv2_4 rv3_4 hl
      refine lv_iload_n hx hb dX12_pageNumber_4 rfl (lv_at hl 3 rfl) ?_
      refine lv_iload_n hx hb dX12_pageNumber_5 rfl (lv_at hl 1 rfl) ?_
      refine j_icmp_gt (tgt := 36) hx hb (by omega) (by omega) dX12_pageNumber_6 (by decide) (fun c_1 => ?_) (fun c_1 => ?_)
      · refine lv_iload_n hx hb dX12_pageNumber_36 rfl (lv_at hl 2 rfl) ?_
        exact hRet 37 _ v2_4 dX12_pageNumber_37 (by omega) trivial
      · refine lv_aload_n hx hb dX12_pageNumber_9 rfl (lv_at hl 0 rfl) ?_
        refine lv_aload_n hx hb dX12_pageNumber_10 rfl (lv_at hl 0 rfl) ?_
        refine j_getR hx hb (C := RX12) (T := TX12) (N := 41) hts inX12_pageNumber_X12 hown hK hS hW h0 rfl 6 rfl rfl (by decide) (hts _ flX12_pageNumber_16) dX12_pageNumber_11 ?_
        have h_2 : τ (G a0 6) = 42 := gty hS h0 (k := 6) rfl rfl
        refine lv_iload_n hx hb dX12_pageNumber_14 rfl (lv_at hl 3 rfl) ?_
        refine j_ald hx hb hK hS hW h_2 (n := 151) rfl (by omega) (by omega) (by decide) dX12_pageNumber_15 ?_
        have := abd hW h_2 (n := 151) (lo := 0) (hi := 150) (i := v3_4) rfl (by omega) (by omega)
        refine lv_aload_n hx hb dX12_pageNumber_16 rfl (lv_at hl 0 rfl) ?_
        refine j_getI hx hb (C := RX12) (T := TX12) (N := 41) hts inX12_pageNumber_X12 hown hK hS hW h0 rfl 25 rfl rfl (by decide) (hts _ flX12_pageNumber_240) dX12_pageNumber_17 ?_
        have := fbd hW h0 (k := 25) (lo := -2147483648) (hi := 2147483647) rfl rfl
        refine j_cR (j_runV (As := [.int (jI (σ (G a0 6) (v3_4).toNat)), .int (jI (σ a0 25))]) (rest := []) hx hb hml hown hts hK hS hW (kX12_beginsPage l hS σ (a0 := a0) (h0 := h0) (x1 := σ (G a0 6) (v3_4).toNat) (r1 := (by omega)) (x2 := σ a0 25) (r2 := (by omega)) (q0 := (by omega)) (q1 := (by omega)) (q2 := (by omega)) (q3 := (by omega))) 2 gX12_pageNumber_X12_beginsPage rfl hvX12_beginsPage ⟨Nat.le_of_ble_eq_true rfl, Nat.le_of_ble_eq_true rfl⟩ rfl rfl h0 rfl rfl rfl rfl hl.1 rfl (Nat.le_of_ble_eq_true rfl) dX12_pageNumber_20 ⟨Nat.le_of_ble_eq_true rfl, Nat.le_of_ble_eq_true rfl⟩) (fun v_3 rv_3 pv_3 => ?_)
        try dsimp only at pv_3
        have q_beginsPage := pv_3
        refine j_if_eq (tgt := 30) hx hb (by omega) dX12_pageNumber_23 (by decide) (fun c_4 => ?_) (fun c_4 => ?_)
        · refine j_iinc (lv' := [(3, .int (jI (v3_4 + 1))), (0, .ref a0), (1, .int (jI x1)), (2, .int (jI v2_4))]) hx hb dX12_pageNumber_30 hl (k := 3) rfl (by decide) rfl (fun ls hl => ?_)
          refine lv_goto (tgt := 4) hx hb dX12_pageNumber_33 (by decide) ?_
          exact ih_4 ((2147483647 - (v3_4 + 1) : Int).toNat) (by omega) v2_4 (v3_4 + 1) _ rfl (by omega) (by omega) (by omega) (lv_sub hl [1, 2, 3, 0] rfl)
        · refine lv_iload_n hx hb dX12_pageNumber_26 rfl (lv_at hl 2 rfl) ?_
          refine j_const hx hb dX12_pageNumber_27 ?_
          refine j_add hx hb dX12_pageNumber_28 ?_
          refine j_wrap (fun z_5 rz_5 ez_5 => ?_)
          refine lv_istore_n (lv' := [(2, .int (jI z_5)), (0, .ref a0), (1, .int (jI x1)), (3, .int (jI v3_4))]) hx hb dX12_pageNumber_29 rfl hl (by decide) rfl (fun ls hl => ?_)
          refine j_iinc (lv' := [(3, .int (jI (v3_4 + 1))), (2, .int (jI z_5)), (0, .ref a0), (1, .int (jI x1))]) hx hb dX12_pageNumber_30 hl (k := 3) rfl (by decide) rfl (fun ls hl => ?_)
          refine lv_goto (tgt := 4) hx hb dX12_pageNumber_33 (by decide) ?_
          exact ih_4 ((2147483647 - (v3_4 + 1) : Int).toNat) (by omega) z_5 (v3_4 + 1) _ rfl (by omega) (by omega) (by omega) (lv_sub hl [2, 3, 1, 0] rfl)
  exact L_4 ((2147483647 - 0 : Int).toNat) (-1) 0 _ rfl (by omega) (by decide) (by decide) (lv_sub hl [2, 3, 1, 0] rfl)
