theorem flX12_unlikeValues_47 : Cond.fieldLink RX12 47 "PageTrieModel" "foundOf" "[I" ∈ wsX12_unlikeValues := List.mem_of_getElem? (i := 2) rfl
theorem flX12_unlikeValues_360 : Cond.fieldLink RX12 360 "PageTrieModel" "foundMany" "I" ∈ wsX12_unlikeValues := List.mem_of_getElem? (i := 1) rfl
theorem inX12_unlikeValues_X12 : ∀ w ∈ u_ws RX12 TX12 41, w ∈ wsX12_unlikeValues := mem_r _ [9, 10, 11, 12, 13, 14, 15, 16, 17, 18, 19, 20, 21, 22, 23, 24, 25, 26, 27, 28, 29, 30, 31, 32, 33, 34, 35, 36, 37, 38, 39, 40, 41, 42, 43, 44, 45, 46, 47, 48, 49] rfl
theorem hvX12_unlikeValues : yX12_unlikeValues.cls = RX12 ∧ yX12_unlikeValues.cls ≠ "java/lang/invoke/MethodHandle" ∧ yX12_unlikeValues.cls ≠ "java/lang/invoke/VarHandle" ∧ (parseMethodDescriptor yX12_unlikeValues.desc).map (fun d => d.parameters.length) = some 0 := by decide +kernel
set_option maxHeartbeats 4000000 in
set_option maxRecDepth 100000 in
theorem kX12_unlikeValues (l : Launch) {D : va_G} {cA : Nat → ClassId} {τ : Nat → Nat} {G : Nat → Nat → Nat} {L : List Nat} (hS : SW τ G L) (σ : Nat → Nat → Int) {a0 : Nat} (h0 : τ a0 = 13) : Met l yX12_unlikeValues wsX12_unlikeValues ({ frames := 1, cells := 0, slots := 0, locals := 22 }) (jP D cA τ G L σ [.ref a0]) (jQR (fun r => True)) 0 0 (fun _ => False) := by
  refine j_metR (by decide +kernel) rfl (Nat.le_of_ble_eq_true rfl) ?_
  intro p e s m args below meth c Q hx hb hml hown hts hK hW hRet ls hl
  have hl : lv_has ls 5 [(0, .ref a0)] := hl
  have := fbd hW h0 (k := 40) (lo := 0) (hi := 150) rfl rfl
  refine j_const hx hb dX12_unlikeValues_0 ?_
  refine lv_istore_n (lv' := [(1, .int (jI 0)), (0, .ref a0)]) hx hb dX12_unlikeValues_1 rfl hl (by decide) rfl (fun ls hl => ?_)
  refine j_const hx hb dX12_unlikeValues_2 ?_
  refine lv_istore_n (lv' := [(2, .int (jI 0)), (1, .int (jI 0)), (0, .ref a0)]) hx hb dX12_unlikeValues_3 rfl hl (by decide) rfl (fun ls hl => ?_)
  have L_4 : ∀ (N : Nat) (v1_4 v2_4 : Int) (ls : Array Slot), N = (2147483647 - v2_4 : Int).toNat → (0 ≤ v2_4) → rg v1_4 → rg v2_4 → lv_has ls 5 [(0, .ref a0), (1, .int (jI v1_4)), (2, .int (jI v2_4))] → W p l e ({ frames := 1, cells := 0, slots := 0, locals := 22 }) s m args below meth c s.heap [] 0 0 Q (F0 m 4 ls []) := by
    intro N
    induction N using Nat.strongRecOn with
    | ind N ih_4 =>
      intro v1_4 v2_4 ls hN i0_4 rv1_4 rv2_4 hl
      refine lv_iload_n hx hb dX12_unlikeValues_4 rfl (lv_at hl 2 rfl) ?_
      refine lv_aload_n hx hb dX12_unlikeValues_5 rfl (lv_at hl 0 rfl) ?_
      refine j_getI hx hb (C := RX12) (T := TX12) (N := 41) hts inX12_unlikeValues_X12 hown hK hS hW h0 rfl 40 rfl rfl (by decide) (hts _ flX12_unlikeValues_360) dX12_unlikeValues_6 ?_
      have := fbd hW h0 (k := 40) (lo := 0) (hi := 150) rfl rfl
      refine j_icmp_ge (tgt := 79) hx hb (by omega) (by omega) dX12_unlikeValues_9 (by decide) (fun c_1 => ?_) (fun c_1 => ?_)
      · refine lv_iload_n hx hb dX12_unlikeValues_79 rfl (lv_at hl 1 rfl) ?_
        exact hRet 80 _ v1_4 dX12_unlikeValues_80 (by omega) trivial
      · refine j_const hx hb dX12_unlikeValues_12 ?_
        refine lv_istore_n (lv' := [(3, .int (jI 1)), (0, .ref a0), (1, .int (jI v1_4)), (2, .int (jI v2_4))]) hx hb dX12_unlikeValues_13 rfl hl (by decide) rfl (fun ls hl => ?_)
        refine j_const hx hb dX12_unlikeValues_14 ?_
        refine lv_istore (lv' := [(4, .int (jI 0)), (3, .int (jI 1)), (0, .ref a0), (1, .int (jI v1_4)), (2, .int (jI v2_4))]) hx hb dX12_unlikeValues_15 hl (by decide) rfl (fun ls hl => ?_)
        have L_17 : ∀ (N : Nat) (v3_17 v4_17 : Int) (ls : Array Slot), N = (2147483647 - v4_17 : Int).toNat → (0 ≤ v4_17) → (0 ≤ v3_17) → (v3_17 ≤ 1) → rg v3_17 → rg v4_17 → lv_has ls 5 [(0, .ref a0), (1, .int (jI v1_4)), (2, .int (jI v2_4)), (3, .int (jI v3_17)), (4, .int (jI v4_17))] → W p l e ({ frames := 1, cells := 0, slots := 0, locals := 22 }) s m args below meth c s.heap [] 0 0 Q (F0 m 17 ls []) := by
          intro N
          induction N using Nat.strongRecOn with
          | ind N ih_17 =>
            intro v3_17 v4_17 ls hN i0_17 i1_17 i2_17 rv3_17 rv4_17 hl
            refine lv_iload hx hb dX12_unlikeValues_17 (lv_at hl 4 rfl) ?_
            refine lv_iload_n hx hb dX12_unlikeValues_19 rfl (lv_at hl 2 rfl) ?_
            refine j_icmp_ge (tgt := 65) hx hb (by omega) (by omega) dX12_unlikeValues_20 (by decide) (fun c_2 => ?_) (fun c_2 => ?_)
            · refine lv_iload_n hx hb dX12_unlikeValues_65 rfl (lv_at hl 3 rfl) ?_
              refine j_if_eq (tgt := 73) hx hb (by omega) dX12_unlikeValues_66 (by decide) (fun c_3 => ?_) (fun c_3 => ?_)
              · refine j_iinc (lv' := [(2, .int (jI (v2_4 + 1))), (0, .ref a0), (1, .int (jI v1_4)), (3, .int (jI v3_17)), (4, .int (jI v4_17))]) hx hb dX12_unlikeValues_73 hl (k := 2) rfl (by decide) rfl (fun ls hl => ?_)
                refine lv_goto (tgt := 4) hx hb dX12_unlikeValues_76 (by decide) ?_
                exact ih_4 ((2147483647 - (v2_4 + 1) : Int).toNat) (by omega) v1_4 (v2_4 + 1) _ rfl (by omega) (by omega) (by omega) (lv_sub hl [1, 2, 0] rfl)
              · refine lv_iload_n hx hb dX12_unlikeValues_69 rfl (lv_at hl 1 rfl) ?_
                refine j_const hx hb dX12_unlikeValues_70 ?_
                refine j_add hx hb dX12_unlikeValues_71 ?_
                refine j_wrap (fun z_4 rz_4 ez_4 => ?_)
                refine lv_istore_n (lv' := [(1, .int (jI z_4)), (0, .ref a0), (2, .int (jI v2_4)), (3, .int (jI v3_17)), (4, .int (jI v4_17))]) hx hb dX12_unlikeValues_72 rfl hl (by decide) rfl (fun ls hl => ?_)
                refine j_iinc (lv' := [(2, .int (jI (v2_4 + 1))), (1, .int (jI z_4)), (0, .ref a0), (3, .int (jI v3_17)), (4, .int (jI v4_17))]) hx hb dX12_unlikeValues_73 hl (k := 2) rfl (by decide) rfl (fun ls hl => ?_)
                refine lv_goto (tgt := 4) hx hb dX12_unlikeValues_76 (by decide) ?_
                exact ih_4 ((2147483647 - (v2_4 + 1) : Int).toNat) (by omega) z_4 (v2_4 + 1) _ rfl (by omega) (by omega) (by omega) (lv_sub hl [2, 1, 0] rfl)
            · refine lv_iload_n hx hb dX12_unlikeValues_23 rfl (lv_at hl 3 rfl) ?_
              have L_58 : ∀ (t0_58 : Int) (ls : Array Slot), (0 ≤ t0_58) → (t0_58 ≤ 1) → rg t0_58 → lv_has ls 5 [(0, .ref a0), (1, .int (jI v1_4)), (2, .int (jI v2_4)), (4, .int (jI v4_17))] → W p l e ({ frames := 1, cells := 0, slots := 0, locals := 22 }) s m args below meth c s.heap [] 0 0 Q (F0 m 58 ls [.int (jI t0_58)]) := by
                intro t0_58 ls i0_58 i1_58 rt0_58 hl
                refine lv_istore_n (lv' := [(3, .int (jI t0_58)), (0, .ref a0), (1, .int (jI v1_4)), (2, .int (jI v2_4)), (4, .int (jI v4_17))]) hx hb dX12_unlikeValues_58 rfl hl (by decide) rfl (fun ls hl => ?_)
                refine j_iinc (lv' := [(4, .int (jI (v4_17 + 1))), (3, .int (jI t0_58)), (0, .ref a0), (1, .int (jI v1_4)), (2, .int (jI v2_4))]) hx hb dX12_unlikeValues_59 hl (k := 4) rfl (by decide) rfl (fun ls hl => ?_)
                refine lv_goto (tgt := 17) hx hb dX12_unlikeValues_62 (by decide) ?_
                exact ih_17 ((2147483647 - (v4_17 + 1) : Int).toNat) (by omega) t0_58 (v4_17 + 1) _ rfl (by omega) (by omega) (by omega) (by omega) (by omega) (lv_sub hl [2, 3, 4, 1, 0] rfl)
              refine j_if_eq (tgt := 57) hx hb (by omega) dX12_unlikeValues_24 (by decide) (fun c_5 => ?_) (fun c_5 => ?_)
              · refine j_const hx hb dX12_unlikeValues_57 ?_
                exact L_58 0 _ (by omega) (by omega) (by decide) (lv_sub hl [0, 1, 2, 4] rfl)
              · refine lv_aload_n hx hb dX12_unlikeValues_27 rfl (lv_at hl 0 rfl) ?_
                refine lv_aload_n hx hb dX12_unlikeValues_28 rfl (lv_at hl 0 rfl) ?_
                refine j_getR hx hb (C := RX12) (T := TX12) (N := 41) hts inX12_unlikeValues_X12 hown hK hS hW h0 rfl 39 rfl rfl (by decide) (hts _ flX12_unlikeValues_47) dX12_unlikeValues_29 ?_
                have h_6 : τ (G a0 39) = 52 := gty hS h0 (k := 39) rfl rfl
                refine lv_iload hx hb dX12_unlikeValues_32 (lv_at hl 4 rfl) ?_
                refine j_ald hx hb hK hS hW h_6 (n := 150) rfl (by omega) (by omega) (by decide) dX12_unlikeValues_34 ?_
                have := abd hW h_6 (n := 150) (lo := 0) (hi := 149) (i := v4_17) rfl (by omega) (by omega)
                refine j_const hx hb dX12_unlikeValues_35 ?_
                refine j_cR (j_runV (As := [.int (jI (σ (G a0 39) (v4_17).toNat)), .int (jI 1)]) (rest := []) hx hb hml hown hts hK hS hW (kX12_of l hS σ (a0 := a0) (h0 := h0) (x1 := σ (G a0 39) (v4_17).toNat) (r1 := (by omega)) (x2 := 1) (r2 := (by decide)) (q0 := (by omega)) (q1 := (by omega))) 2 gX12_unlikeValues_X12_of rfl hvX12_of ⟨Nat.le_of_ble_eq_true rfl, Nat.le_of_ble_eq_true rfl⟩ rfl rfl h0 rfl rfl rfl rfl hl.1 rfl (Nat.le_of_ble_eq_true rfl) dX12_unlikeValues_36 ⟨Nat.le_of_ble_eq_true rfl, Nat.le_of_ble_eq_true rfl⟩) (fun v_7 rv_7 pv_7 => ?_)
                try dsimp only at pv_7
                have q_of := pv_7
                refine lv_aload_n hx hb dX12_unlikeValues_39 rfl (lv_at hl 0 rfl) ?_
                refine lv_aload_n hx hb dX12_unlikeValues_40 rfl (lv_at hl 0 rfl) ?_
                refine j_getR hx hb (C := RX12) (T := TX12) (N := 41) hts inX12_unlikeValues_X12 hown hK hS hW h0 rfl 39 rfl rfl (by decide) (hts _ flX12_unlikeValues_47) dX12_unlikeValues_41 ?_
                refine lv_iload_n hx hb dX12_unlikeValues_44 rfl (lv_at hl 2 rfl) ?_
                refine j_ald hx hb hK hS hW h_6 (n := 150) rfl (by omega) (by omega) (by decide) dX12_unlikeValues_45 ?_
                have := abd hW h_6 (n := 150) (lo := 0) (hi := 149) (i := v2_4) rfl (by omega) (by omega)
                refine j_const hx hb dX12_unlikeValues_46 ?_
                refine j_cR (j_runV (As := [.int (jI (σ (G a0 39) (v2_4).toNat)), .int (jI 1)]) (rest := [.int (jI v_7)]) hx hb hml hown hts hK hS hW (kX12_of l hS σ (a0 := a0) (h0 := h0) (x1 := σ (G a0 39) (v2_4).toNat) (r1 := (by omega)) (x2 := 1) (r2 := (by decide)) (q0 := (by omega)) (q1 := (by omega))) 2 gX12_unlikeValues_X12_of rfl hvX12_of ⟨Nat.le_of_ble_eq_true rfl, Nat.le_of_ble_eq_true rfl⟩ rfl rfl h0 rfl rfl rfl rfl hl.1 rfl (Nat.le_of_ble_eq_true rfl) dX12_unlikeValues_47 ⟨Nat.le_of_ble_eq_true rfl, Nat.le_of_ble_eq_true rfl⟩) (fun v_8 rv_8 pv_8 => ?_)
                try dsimp only at pv_8
                have q_of := pv_8
                refine j_icmp_eq (tgt := 57) hx hb (by omega) (by omega) dX12_unlikeValues_50 (by decide) (fun c_9 => ?_) (fun c_9 => ?_)
                · refine j_const hx hb dX12_unlikeValues_57 ?_
                  exact L_58 0 _ (by omega) (by omega) (by decide) (lv_sub hl [0, 1, 2, 4] rfl)
                · refine j_const hx hb dX12_unlikeValues_53 ?_
                  refine lv_goto (tgt := 58) hx hb dX12_unlikeValues_54 (by decide) ?_
                  exact L_58 1 _ (by omega) (by omega) (by decide) (lv_sub hl [0, 1, 2, 4] rfl)
        exact L_17 ((2147483647 - 0 : Int).toNat) 1 0 _ rfl (by omega) (by omega) (by omega) (by decide) (by decide) (lv_sub hl [2, 3, 4, 1, 0] rfl)
  exact L_4 ((2147483647 - 0 : Int).toNat) 0 0 _ rfl (by omega) (by decide) (by decide) (lv_sub hl [2, 1, 0] rfl)
abbrev wr_X12_found : List Nat := [13003, 13040, 41000, 52000]
theorem flX12_found_47 : Cond.fieldLink RX12 47 "PageTrieModel" "foundOf" "[I" ∈ wsX12_found := List.mem_of_getElem? (i := 3) rfl
theorem flX12_found_360 : Cond.fieldLink RX12 360 "PageTrieModel" "foundMany" "I" ∈ wsX12_found := List.mem_of_getElem? (i := 2) rfl
theorem inX12_found_X12 : ∀ w ∈ u_ws RX12 TX12 41, w ∈ wsX12_found := mem_r _ [53, 54, 55, 56, 57, 58, 59, 60, 61, 62, 63, 64, 65, 66, 67, 68, 69, 70, 71, 72, 73, 74, 75, 76, 77, 78, 79, 80, 81, 82, 83, 84, 85, 86, 87, 88, 89, 90, 91, 92, 93] rfl
theorem hvX12_found : yX12_found.cls = RX12 ∧ yX12_found.cls ≠ "java/lang/invoke/MethodHandle" ∧ yX12_found.cls ≠ "java/lang/invoke/VarHandle" ∧ (parseMethodDescriptor yX12_found.desc).map (fun d => d.parameters.length) = some 1 := by decide +kernel
set_option maxHeartbeats 4000000 in
set_option maxRecDepth 100000 in
theorem kX12_found (l : Launch) {D : va_G} {cA : Nat → ClassId} {τ : Nat → Nat} {G : Nat → Nat → Nat} {L : List Nat} (hS : SW τ G L) (σ : Nat → Nat → Int) {a0 : Nat} (h0 : τ a0 = 13) {x1 : Int} (r1 : rg x1) (hI : FI G a0 σ) : Met l yX12_found wsX12_found ({ frames := 5, cells := 0, slots := 0, locals := 113 }) (jP D cA τ G L σ [.ref a0, .int (jI x1)]) (jQI D cA τ G L (fun r σ' => (True) ∧ fr wr_X12_found τ σ σ')) 0 0 (fun q => q ∈ L) := by
  refine j_metI (by decide +kernel) rfl (Nat.le_of_ble_eq_true rfl) ?_
  intro p e s m args below meth c Q hx hb hml hown hts hK hW hRet ls hl
  have hl : lv_has ls 8 [(0, .ref a0), (1, .int (jI x1))] := hl
  have hA : ∀ q ∈ L, (fun q => q ∈ L) q := fun _ h => h
  have hF : va_S (fun q => q ∈ L) s.heap s.heap [] := va_S.rf
  have hR : fr wr_X12_found τ σ σ := fr_rf
  have hk_file : τ (G a0 0) = 40 := gty hS h0 (k := 0) rfl rfl
  have := FI_bd hI
  have := fbd hW h0 (k := 3) (lo := 0) (hi := 24) rfl rfl
  refine lv_iload_n hx hb dX12_found_0 rfl (lv_at hl 1 rfl) ?_
  refine j_const hx hb dX12_found_1 ?_
  refine j_const hx hb dX12_found_2 ?_
  refine j_cR (j_runS (As := [.int (jI x1), .int (jI 0), .int (jI 5)]) (rest := []) hx hb hml hown hts hK hW (kX12_in l hS σ (x0 := x1) (r0 := (by omega)) (x1 := 0) (r1 := (by decide)) (x2 := 5) (r2 := (by decide))) 3 gX12_found_X12_in rfl hsX12_in ⟨Nat.le_of_ble_eq_true rfl, Nat.le_of_ble_eq_true rfl⟩ rfl rfl rfl hl.1 rfl (Nat.le_of_ble_eq_true rfl) dX12_found_3 ⟨Nat.le_of_ble_eq_true rfl, Nat.le_of_ble_eq_true rfl⟩) (fun v_1 rv_1 pv_1 => ?_)
  try dsimp only at pv_1
  have q_in := pv_1
  refine j_if_ne (tgt := 11) hx hb (by omega) dX12_found_6 (by decide) (fun c_2 => ?_) (fun c_2 => ?_)
  · refine lv_aload_n hx hb dX12_found_11 rfl (lv_at hl 0 rfl) ?_
    refine j_cV (j_runV (As := []) (rest := []) hx hb hml hown hts hK hS hW (kX12_finds l hS σ (a0 := a0) (h0 := h0) (hI := hI)) 0 gX12_found_X12_finds rfl hvX12_finds ⟨Nat.le_of_ble_eq_true rfl, Nat.le_of_ble_eq_true rfl⟩ rfl rfl h0 rfl rfl rfl rfl hl.1 rfl (Nat.le_of_ble_eq_true rfl) dX12_found_12 ⟨Nat.le_of_ble_eq_true rfl, Nat.le_of_ble_eq_true rfl⟩) hA hF (fun σ_3 H locs hW hF pσ_3 => ?_)
    try dsimp only at pσ_3
    obtain ⟨pσ_3, fpσ_3⟩ := pσ_3
    have q_finds := pσ_3
    have hR := fr_call hR fpσ_3 (by decide)
    have Efile : σ_3 (G a0 0) = σ (G a0 0) := row_fr fpσ_3 hk_file 40 (by decide) (by decide)
    try clear hcf
    have hcf := congrFun Efile 0
    have hI := FI_dep hS h0 hI (kp_fr fpσ_3 (by decide))
    refine j_const hx hb dX12_found_15 ?_
    refine lv_istore_n (lv' := [(2, .int (jI 0)), (0, .ref a0), (1, .int (jI x1))]) hx hb dX12_found_16 rfl hl (by decide) rfl (fun ls hl => ?_)
    refine j_const hx hb dX12_found_17 ?_
    refine lv_istore_n (lv' := [(3, .int (jI 0)), (2, .int (jI 0)), (0, .ref a0), (1, .int (jI x1))]) hx hb dX12_found_18 rfl hl (by decide) rfl (fun ls hl => ?_)
    refine j_bi hx hb dX12_found_19 (by decide) ?_
    refine lv_istore (lv' := [(4, .int (jI (-2))), (3, .int (jI 0)), (2, .int (jI 0)), (0, .ref a0), (1, .int (jI x1))]) hx hb dX12_found_21 hl (by decide) rfl (fun ls hl => ?_)
    refine j_ldc_w hx hb hown (hts (.constant RX12 372 (1000000000)) (by decide +kernel)) (n := 1000000000) rfl dX12_found_23 ?_
    refine lv_istore (lv' := [(5, .int (jI 1000000000)), (4, .int (jI (-2))), (3, .int (jI 0)), (2, .int (jI 0)), (0, .ref a0), (1, .int (jI x1))]) hx hb dX12_found_26 hl (by decide) rfl (fun ls hl => ?_)
    refine j_const hx hb dX12_found_28 ?_
    refine lv_istore (lv' := [(6, .int (jI 0)), (5, .int (jI 1000000000)), (4, .int (jI (-2))), (3, .int (jI 0)), (2, .int (jI 0)), (0, .ref a0), (1, .int (jI x1))]) hx hb dX12_found_29 hl (by decide) rfl (fun ls hl => ?_)
    have L_31 : ∀ (N : Nat) (v2_31 v3_31 v4_31 v5_31 v6_31 : Int) (ls : Array Slot), N = (2147483647 - v6_31 : Int).toNat → (0 ≤ v6_31) → rg v2_31 → rg v3_31 → rg v4_31 → rg v5_31 → rg v6_31 → lv_has ls 8 [(0, .ref a0), (1, .int (jI x1)), (2, .int (jI v2_31)), (3, .int (jI v3_31)), (4, .int (jI v4_31)), (5, .int (jI v5_31)), (6, .int (jI v6_31))] → W p l e ({ frames := 5, cells := 0, slots := 0, locals := 113 }) s m args below meth c H locs 0 0 Q (F0 m 31 ls []) := by
      intro N
      induction N using Nat.strongRecOn with
      | ind N ih_31 =>
        intro v2_31 v3_31 v4_31 v5_31 v6_31 ls hN i0_31 rv2_31 rv3_31 rv4_31 rv5_31 rv6_31 hl
        refine lv_iload hx hb dX12_found_31 (lv_at hl 6 rfl) ?_
        refine lv_aload_n hx hb dX12_found_33 rfl (lv_at hl 0 rfl) ?_
        refine j_getI hx hb (C := RX12) (T := TX12) (N := 41) hts inX12_found_X12 hown hK hS hW h0 rfl 40 rfl rfl (by decide) (hts _ flX12_found_360) dX12_found_34 ?_
        have := fbd hW h0 (k := 40) (lo := 0) (hi := 150) rfl rfl
        refine j_icmp_ge (tgt := 98) hx hb (by omega) (by omega) dX12_found_37 (by decide) (fun c_4 => ?_) (fun c_4 => ?_)
        · refine lv_iload_n hx hb dX12_found_98 rfl (lv_at hl 1 rfl) ?_
          have hrc_5 : rg x1 := by omega
          by_cases c_5_0 : x1 = 0
          · refine lv_tableIn (tgt := 132) (off := 33) hx hb dX12_found_99 (by rw [jI_toInt hrc_5]; omega) (by rw [jI_toInt hrc_5]; omega) (by rw [jI_toInt hrc_5, c_5_0]; rfl) (by decide) ?_
            refine lv_aload_n hx hb dX12_found_132 rfl (lv_at hl 0 rfl) ?_
            refine j_getI hx hb (C := RX12) (T := TX12) (N := 41) hts inX12_found_X12 hown hK hS hW h0 rfl 40 rfl rfl (by decide) (hts _ flX12_found_360) dX12_found_133 ?_
            exact hRet 136 _ _ _ (σ_3 a0 40) _ dX12_found_136 hW hF (by omega) ⟨trivial, hR⟩
          by_cases c_5_1 : x1 = 1
          · refine lv_tableIn (tgt := 137) (off := 38) hx hb dX12_found_99 (by rw [jI_toInt hrc_5]; omega) (by rw [jI_toInt hrc_5]; omega) (by rw [jI_toInt hrc_5, c_5_1]; rfl) (by decide) ?_
            refine lv_iload_n hx hb dX12_found_137 rfl (lv_at hl 2 rfl) ?_
            exact hRet 138 _ _ _ v2_31 _ dX12_found_138 hW hF (by omega) ⟨trivial, hR⟩
          by_cases c_5_2 : x1 = 2
          · refine lv_tableIn (tgt := 139) (off := 40) hx hb dX12_found_99 (by rw [jI_toInt hrc_5]; omega) (by rw [jI_toInt hrc_5]; omega) (by rw [jI_toInt hrc_5, c_5_2]; rfl) (by decide) ?_
            refine lv_iload hx hb dX12_found_139 (lv_at hl 4 rfl) ?_
            exact hRet 141 _ _ _ v4_31 _ dX12_found_141 hW hF (by omega) ⟨trivial, hR⟩
          by_cases c_5_3 : x1 = 3
          · refine lv_tableIn (tgt := 142) (off := 43) hx hb dX12_found_99 (by rw [jI_toInt hrc_5]; omega) (by rw [jI_toInt hrc_5]; omega) (by rw [jI_toInt hrc_5, c_5_3]; rfl) (by decide) ?_
            refine lv_iload hx hb dX12_found_142 (lv_at hl 5 rfl) ?_
            refine j_ldc_w hx hb hown (hts (.constant RX12 372 (1000000000)) (by decide +kernel)) (n := 1000000000) rfl dX12_found_144 ?_
            refine j_icmp_ne (tgt := 155) hx hb (by omega) (by decide) dX12_found_147 (by decide) (fun c_6 => ?_) (fun c_6 => ?_)
            · refine lv_iload hx hb dX12_found_155 (lv_at hl 5 rfl) ?_
              exact hRet 157 _ _ _ v5_31 _ dX12_found_157 hW hF (by omega) ⟨trivial, hR⟩
            · refine j_bi hx hb dX12_found_150 (by decide) ?_
              refine lv_goto (tgt := 157) hx hb dX12_found_152 (by decide) ?_
              exact hRet 157 _ _ _ (-2) _ dX12_found_157 hW hF (by decide) ⟨trivial, hR⟩
          by_cases c_5_4 : x1 = 4
          · refine lv_tableIn (tgt := 158) (off := 59) hx hb dX12_found_99 (by rw [jI_toInt hrc_5]; omega) (by rw [jI_toInt hrc_5]; omega) (by rw [jI_toInt hrc_5, c_5_4]; rfl) (by decide) ?_
            refine lv_iload_n hx hb dX12_found_158 rfl (lv_at hl 3 rfl) ?_
            exact hRet 159 _ _ _ v3_31 _ dX12_found_159 hW hF (by omega) ⟨trivial, hR⟩
          refine lv_tableOut (tgt := 160) hx hb dX12_found_99 (by rw [jI_toInt hrc_5]; omega) (by decide) ?_
          refine lv_aload_n hx hb dX12_found_160 rfl (lv_at hl 0 rfl) ?_
          refine j_cR (j_runV (As := []) (rest := []) hx hb hml hown hts hK hS hW (kX12_unlikeValues l hS σ_3 (a0 := a0) (h0 := h0)) 0 gX12_found_X12_unlikeValues rfl hvX12_unlikeValues ⟨Nat.le_of_ble_eq_true rfl, Nat.le_of_ble_eq_true rfl⟩ rfl rfl h0 rfl rfl rfl rfl hl.1 rfl (Nat.le_of_ble_eq_true rfl) dX12_found_161 ⟨Nat.le_of_ble_eq_true rfl, Nat.le_of_ble_eq_true rfl⟩) (fun v_7 rv_7 pv_7 => ?_)
          try dsimp only at pv_7
          have q_unlikeValues := pv_7
          exact hRet 164 _ _ _ v_7 _ dX12_found_164 hW hF (by omega) ⟨trivial, hR⟩
        · refine lv_aload_n hx hb dX12_found_40 rfl (lv_at hl 0 rfl) ?_
          refine lv_aload_n hx hb dX12_found_41 rfl (lv_at hl 0 rfl) ?_
          refine j_getR hx hb (C := RX12) (T := TX12) (N := 41) hts inX12_found_X12 hown hK hS hW h0 rfl 39 rfl rfl (by decide) (hts _ flX12_found_47) dX12_found_42 ?_
          have h_8 : τ (G a0 39) = 52 := gty hS h0 (k := 39) rfl rfl
          refine lv_iload hx hb dX12_found_45 (lv_at hl 6 rfl) ?_
          refine j_ald hx hb hK hS hW h_8 (n := 150) rfl (by omega) (by omega) (by decide) dX12_found_47 ?_
          have := abd hW h_8 (n := 150) (lo := 0) (hi := 149) (i := v6_31) rfl (by omega) (by omega)
          refine j_const hx hb dX12_found_48 ?_
          refine j_cR (j_runV (As := [.int (jI (σ_3 (G a0 39) (v6_31).toNat)), .int (jI 1)]) (rest := []) hx hb hml hown hts hK hS hW (kX12_of l hS σ_3 (a0 := a0) (h0 := h0) (x1 := σ_3 (G a0 39) (v6_31).toNat) (r1 := (by omega)) (x2 := 1) (r2 := (by decide)) (q0 := (by omega)) (q1 := (by omega))) 2 gX12_found_X12_of rfl hvX12_of ⟨Nat.le_of_ble_eq_true rfl, Nat.le_of_ble_eq_true rfl⟩ rfl rfl h0 rfl rfl rfl rfl hl.1 rfl (Nat.le_of_ble_eq_true rfl) dX12_found_49 ⟨Nat.le_of_ble_eq_true rfl, Nat.le_of_ble_eq_true rfl⟩) (fun v_9 rv_9 pv_9 => ?_)
          try dsimp only at pv_9
          try simp only [Efile] at pv_9
          have q_of := pv_9
          refine lv_istore (lv' := [(7, .int (jI v_9)), (0, .ref a0), (1, .int (jI x1)), (2, .int (jI v2_31)), (3, .int (jI v3_31)), (4, .int (jI v4_31)), (5, .int (jI v5_31)), (6, .int (jI v6_31))]) hx hb dX12_found_52 hl (by decide) rfl (fun ls hl => ?_)
          refine lv_iload_n hx hb dX12_found_54 rfl (lv_at hl 3 rfl) ?_
          refine lv_iload hx hb dX12_found_55 (lv_at hl 0 rfl) ?_
          refine j_add hx hb dX12_found_57 ?_
          refine j_wrap (fun z_10 rz_10 ez_10 => ?_)
          refine lv_istore_n (lv' := [(2, .int (jI z_10)), (7, .int (jI v_9)), (0, .ref a0), (1, .int (jI x1)), (3, .int (jI v3_31)), (4, .int (jI v4_31)), (5, .int (jI v5_31)), (6, .int (jI v6_31))]) hx hb dX12_found_58 rfl hl (by decide) rfl (fun ls hl => ?_)
          refine lv_iload_n hx hb dX12_found_59 rfl (lv_at hl 4 rfl) ?_
          refine lv_aload_n hx hb dX12_found_60 rfl (lv_at hl 2 rfl) ?_
          refine lv_aload_n hx hb dX12_found_61 rfl (lv_at hl 2 rfl) ?_
          refine j_getR hx hb (C := RX12) (T := TX12) (N := 41) hts inX12_found_X12 hown hK hS hW h0 rfl 39 rfl rfl (by decide) (hts _ flX12_found_47) dX12_found_62 ?_
          refine lv_iload hx hb dX12_found_65 (lv_at hl 7 rfl) ?_
          refine j_ald hx hb hK hS hW h_8 (n := 150) rfl (by omega) (by omega) (by decide) dX12_found_67 ?_
          refine j_const hx hb dX12_found_68 ?_
          refine j_cR (j_runV (As := [.int (jI (σ_3 (G a0 39) (v6_31).toNat)), .int (jI 0)]) (rest := [.int (jI v3_31)]) hx hb hml hown hts hK hS hW (kX12_of l hS σ_3 (a0 := a0) (h0 := h0) (x1 := σ_3 (G a0 39) (v6_31).toNat) (r1 := (by omega)) (x2 := 0) (r2 := (by decide)) (q0 := (by omega)) (q1 := (by omega))) 2 gX12_found_X12_of rfl hvX12_of ⟨Nat.le_of_ble_eq_true rfl, Nat.le_of_ble_eq_true rfl⟩ rfl rfl h0 rfl rfl rfl rfl hl.1 rfl (Nat.le_of_ble_eq_true rfl) dX12_found_69 ⟨Nat.le_of_ble_eq_true rfl, Nat.le_of_ble_eq_true rfl⟩) (fun v_11 rv_11 pv_11 => ?_)
          try dsimp only at pv_11
          try simp only [Efile] at pv_11
          have q_of := pv_11
          have := @FI_len _ _ _ hI (σ_3 (G a0 39) (v6_31).toNat)
          try simp only [Efile] at this
          refine j_add hx hb dX12_found_72 ?_
          refine j_wrap (fun z_12 rz_12 ez_12 => ?_)
          refine lv_istore_n (lv' := [(3, .int (jI z_12)), (2, .int (jI z_10)), (7, .int (jI v_9)), (0, .ref a0), (1, .int (jI x1)), (4, .int (jI v4_31)), (5, .int (jI v5_31)), (6, .int (jI v6_31))]) hx hb dX12_found_73 rfl hl (by decide) rfl (fun ls hl => ?_)
          refine lv_iload hx hb dX12_found_74 (lv_at hl 5 rfl) ?_
          refine lv_iload hx hb dX12_found_76 (lv_at hl 2 rfl) ?_
          refine j_cR (j_runS (As := [.int (jI v4_31), .int (jI v_9)]) (rest := []) hx hb hml hown hts hK hW (kX12_max l hS σ_3 (x0 := v4_31) (r0 := (by omega)) (x1 := v_9) (r1 := (by omega))) 2 gX12_found_X12_max rfl hsX12_max ⟨Nat.le_of_ble_eq_true rfl, Nat.le_of_ble_eq_true rfl⟩ rfl rfl rfl hl.1 rfl (Nat.le_of_ble_eq_true rfl) dX12_found_78 ⟨Nat.le_of_ble_eq_true rfl, Nat.le_of_ble_eq_true rfl⟩) (fun v_13 rv_13 pv_13 => ?_)
          try dsimp only at pv_13
          try simp only [Efile] at pv_13
          have q_max := pv_13
          refine lv_istore (lv' := [(4, .int (jI v_13)), (3, .int (jI z_12)), (2, .int (jI z_10)), (7, .int (jI v_9)), (0, .ref a0), (1, .int (jI x1)), (5, .int (jI v5_31)), (6, .int (jI v6_31))]) hx hb dX12_found_81 hl (by decide) rfl (fun ls hl => ?_)
          refine lv_iload hx hb dX12_found_83 (lv_at hl 6 rfl) ?_
          refine lv_iload hx hb dX12_found_85 (lv_at hl 3 rfl) ?_
          refine j_cR (j_runS (As := [.int (jI v5_31), .int (jI v_9)]) (rest := []) hx hb hml hown hts hK hW (kX12_min l hS σ_3 (x0 := v5_31) (r0 := (by omega)) (x1 := v_9) (r1 := (by omega))) 2 gX12_found_X12_min rfl hsX12_min ⟨Nat.le_of_ble_eq_true rfl, Nat.le_of_ble_eq_true rfl⟩ rfl rfl rfl hl.1 rfl (Nat.le_of_ble_eq_true rfl) dX12_found_87 ⟨Nat.le_of_ble_eq_true rfl, Nat.le_of_ble_eq_true rfl⟩) (fun v_14 rv_14 pv_14 => ?_)
          try dsimp only at pv_14
          try simp only [Efile] at pv_14
          have q_min := pv_14
          refine lv_istore (lv' := [(5, .int (jI v_14)), (4, .int (jI v_13)), (3, .int (jI z_12)), (2, .int (jI z_10)), (7, .int (jI v_9)), (0, .ref a0), (1, .int (jI x1)), (6, .int (jI v6_31))]) hx hb dX12_found_90 hl (by decide) rfl (fun ls hl => ?_)
          refine j_iinc (lv' := [(6, .int (jI (v6_31 + 1))), (5, .int (jI v_14)), (4, .int (jI v_13)), (3, .int (jI z_12)), (2, .int (jI z_10)), (7, .int (jI v_9)), (0, .ref a0), (1, .int (jI x1))]) hx hb dX12_found_92 hl (k := 7) rfl (by decide) rfl (fun ls hl => ?_)
          refine lv_goto (tgt := 31) hx hb dX12_found_95 (by decide) ?_
          exact ih_31 ((2147483647 - (v6_31 + 1) : Int).toNat) (by omega) z_10 z_12 v_13 v_14 (v6_31 + 1) _ rfl (by omega) (by omega) (by omega) (by omega) (by omega) (by omega) (lv_sub hl [6, 7, 4, 3, 2, 1, 0] rfl)
    exact L_31 ((2147483647 - 0 : Int).toNat) 0 0 (-2) 1000000000 0 _ rfl (by omega) (by decide) (by decide) (by decide) (by decide) (by decide) (lv_sub hl [5, 6, 4, 3, 2, 1, 0] rfl)
  · refine j_const hx hb dX12_found_9 ?_
    exact hRet 10 _ _ _ (-1) _ dX12_found_10 hW hF (by decide) ⟨trivial, hR⟩
abbrev wr_X12_foundAt : List Nat := [13003, 13040, 41000, 52000]
theorem flX12_foundAt_47 : Cond.fieldLink RX12 47 "PageTrieModel" "foundOf" "[I" ∈ wsX12_foundAt := List.mem_of_getElem? (i := 2) rfl
theorem flX12_foundAt_360 : Cond.fieldLink RX12 360 "PageTrieModel" "foundMany" "I" ∈ wsX12_foundAt := List.mem_of_getElem? (i := 1) rfl
theorem inX12_foundAt_X12 : ∀ w ∈ u_ws RX12 TX12 41, w ∈ wsX12_foundAt := mem_r _ [39, 40, 41, 42, 43, 44, 45, 46, 47, 48, 49, 50, 51, 52, 53, 54, 55, 56, 57, 58, 59, 60, 61, 62, 63, 64, 65, 66, 67, 68, 69, 70, 71, 72, 73, 74, 75, 76, 77, 78, 79] rfl
theorem hvX12_foundAt : yX12_foundAt.cls = RX12 ∧ yX12_foundAt.cls ≠ "java/lang/invoke/MethodHandle" ∧ yX12_foundAt.cls ≠ "java/lang/invoke/VarHandle" ∧ (parseMethodDescriptor yX12_foundAt.desc).map (fun d => d.parameters.length) = some 1 := by decide +kernel
set_option maxHeartbeats 4000000 in
set_option maxRecDepth 100000 in
theorem kX12_foundAt (l : Launch) {D : va_G} {cA : Nat → ClassId} {τ : Nat → Nat} {G : Nat → Nat → Nat} {L : List Nat} (hS : SW τ G L) (σ : Nat → Nat → Int) {a0 : Nat} (h0 : τ a0 = 13) {x1 : Int} (r1 : rg x1) (hI : FI G a0 σ) : Met l yX12_foundAt wsX12_foundAt ({ frames := 5, cells := 0, slots := 0, locals := 113 }) (jP D cA τ G L σ [.ref a0, .int (jI x1)]) (jQI D cA τ G L (fun r σ' => (True) ∧ fr wr_X12_foundAt τ σ σ')) 0 0 (fun q => q ∈ L) := by
  refine j_metI (by decide +kernel) rfl (Nat.le_of_ble_eq_true rfl) ?_
  intro p e s m args below meth c Q hx hb hml hown hts hK hW hRet ls hl
  have hl : lv_has ls 2 [(0, .ref a0), (1, .int (jI x1))] := hl
  have hA : ∀ q ∈ L, (fun q => q ∈ L) q := fun _ h => h
  have hF : va_S (fun q => q ∈ L) s.heap s.heap [] := va_S.rf
  have hR : fr wr_X12_foundAt τ σ σ := fr_rf
  have hk_file : τ (G a0 0) = 40 := gty hS h0 (k := 0) rfl rfl
  have := FI_bd hI
  have := fbd hW h0 (k := 3) (lo := 0) (hi := 24) rfl rfl
  refine lv_iload_n hx hb dX12_foundAt_0 rfl (lv_at hl 1 rfl) ?_
  refine j_if_ge (tgt := 6) hx hb (by omega) dX12_foundAt_1 (by decide) (fun c_1 => ?_) (fun c_1 => ?_)
  · refine lv_aload_n hx hb dX12_foundAt_6 rfl (lv_at hl 0 rfl) ?_
    refine j_cV (j_runV (As := []) (rest := []) hx hb hml hown hts hK hS hW (kX12_finds l hS σ (a0 := a0) (h0 := h0) (hI := hI)) 0 gX12_foundAt_X12_finds rfl hvX12_finds ⟨Nat.le_of_ble_eq_true rfl, Nat.le_of_ble_eq_true rfl⟩ rfl rfl h0 rfl rfl rfl rfl hl.1 rfl (Nat.le_of_ble_eq_true rfl) dX12_foundAt_7 ⟨Nat.le_of_ble_eq_true rfl, Nat.le_of_ble_eq_true rfl⟩) hA hF (fun σ_2 H locs hW hF pσ_2 => ?_)
    try dsimp only at pσ_2
    obtain ⟨pσ_2, fpσ_2⟩ := pσ_2
    have q_finds := pσ_2
    have hR := fr_call hR fpσ_2 (by decide)
    have Efile : σ_2 (G a0 0) = σ (G a0 0) := row_fr fpσ_2 hk_file 40 (by decide) (by decide)
    try clear hcf
    have hcf := congrFun Efile 0
    have hI := FI_dep hS h0 hI (kp_fr fpσ_2 (by decide))
    refine lv_iload_n hx hb dX12_foundAt_10 rfl (lv_at hl 1 rfl) ?_
    refine lv_aload_n hx hb dX12_foundAt_11 rfl (lv_at hl 0 rfl) ?_
    refine j_getI hx hb (C := RX12) (T := TX12) (N := 41) hts inX12_foundAt_X12 hown hK hS hW h0 rfl 40 rfl rfl (by decide) (hts _ flX12_foundAt_360) dX12_foundAt_12 ?_
    have := fbd hW h0 (k := 40) (lo := 0) (hi := 150) rfl rfl
    refine j_icmp_ge (tgt := 27) hx hb (by omega) (by omega) dX12_foundAt_15 (by decide) (fun c_3 => ?_) (fun c_3 => ?_)
    · refine j_bi hx hb dX12_foundAt_27 (by decide) ?_
      exact hRet 29 _ _ _ (-4) _ dX12_foundAt_29 hW hF (by decide) ⟨trivial, hR⟩
    · refine lv_aload_n hx hb dX12_foundAt_18 rfl (lv_at hl 0 rfl) ?_
      refine j_getR hx hb (C := RX12) (T := TX12) (N := 41) hts inX12_foundAt_X12 hown hK hS hW h0 rfl 39 rfl rfl (by decide) (hts _ flX12_foundAt_47) dX12_foundAt_19 ?_
      have h_4 : τ (G a0 39) = 52 := gty hS h0 (k := 39) rfl rfl
      refine lv_iload_n hx hb dX12_foundAt_22 rfl (lv_at hl 1 rfl) ?_
      refine j_ald hx hb hK hS hW h_4 (n := 150) rfl (by omega) (by omega) (by decide) dX12_foundAt_23 ?_
      have := abd hW h_4 (n := 150) (lo := 0) (hi := 149) (i := x1) rfl (by omega) (by omega)
      refine lv_goto (tgt := 29) hx hb dX12_foundAt_24 (by decide) ?_
      exact hRet 29 _ _ _ (σ_2 (G a0 39) (x1).toNat) _ dX12_foundAt_29 hW hF (by omega) ⟨trivial, hR⟩
  · refine j_const hx hb dX12_foundAt_4 ?_
    exact hRet 5 _ _ _ (-1) _ dX12_foundAt_5 hW hF (by decide) ⟨trivial, hR⟩
abbrev wr_X12_takeFound : List Nat := [13003, 13004, 13005, 13008, 13040, 40000, 41000, 42000, 43000, 52000]
theorem flX12_takeFound_47 : Cond.fieldLink RX12 47 "PageTrieModel" "foundOf" "[I" ∈ wsX12_takeFound := List.mem_of_getElem? (i := 2) rfl
theorem flX12_takeFound_360 : Cond.fieldLink RX12 360 "PageTrieModel" "foundMany" "I" ∈ wsX12_takeFound := List.mem_of_getElem? (i := 1) rfl
theorem inX12_takeFound_X12 : ∀ w ∈ u_ws RX12 TX12 41, w ∈ wsX12_takeFound := mem_r _ [107, 108, 109, 110, 111, 112, 113, 114, 115, 116, 117, 118, 119, 120, 121, 122, 123, 124, 125, 126, 127, 128, 129, 130, 131, 132, 133, 134, 135, 136, 137, 138, 139, 140, 141, 142, 143, 144, 145, 146, 147] rfl
theorem hvX12_takeFound : yX12_takeFound.cls = RX12 ∧ yX12_takeFound.cls ≠ "java/lang/invoke/MethodHandle" ∧ yX12_takeFound.cls ≠ "java/lang/invoke/VarHandle" ∧ (parseMethodDescriptor yX12_takeFound.desc).map (fun d => d.parameters.length) = some 0 := by decide +kernel
set_option maxHeartbeats 4000000 in
set_option maxRecDepth 100000 in
theorem kX12_takeFound (l : Launch) {D : va_G} {cA : Nat → ClassId} {τ : Nat → Nat} {G : Nat → Nat → Nat} {L : List Nat} (hS : SW τ G L) (σ : Nat → Nat → Int) {a0 : Nat} (h0 : τ a0 = 13) (hI : FI G a0 σ) (q0 : FM (σ (G a0 0))) : Met l yX12_takeFound wsX12_takeFound ({ frames := 6, cells := 0, slots := 0, locals := 139 }) (jP D cA τ G L σ [.ref a0]) (jQI D cA τ G L (fun r σ' => ((FI G a0 σ') ∧ (FM (σ' (G a0 0)))) ∧ fr wr_X12_takeFound τ σ σ')) 0 0 (fun q => q ∈ L) := by
  refine j_metI (by decide +kernel) rfl (Nat.le_of_ble_eq_true rfl) ?_
  intro p e s m args below meth c Q hx hb hml hown hts hK hW hRet ls hl
  have hl : lv_has ls 5 [(0, .ref a0)] := hl
  have hA : ∀ q ∈ L, (fun q => q ∈ L) q := fun _ h => h
  have hF : va_S (fun q => q ∈ L) s.heap s.heap [] := va_S.rf
  have hR : fr wr_X12_takeFound τ σ σ := fr_rf
  have hk_file : τ (G a0 0) = 40 := gty hS h0 (k := 0) rfl rfl
  have hk_fo : τ (G a0 39) = 52 := gty hS h0 (k := 39) rfl rfl
  have := FI_bd hI
  have := fbd hW h0 (k := 3) (lo := 0) (hi := 24) rfl rfl
  refine lv_aload_n hx hb dX12_takeFound_0 rfl (lv_at hl 0 rfl) ?_
  refine j_cV (j_runV (As := []) (rest := []) hx hb hml hown hts hK hS hW (kX12_finds l hS σ (a0 := a0) (h0 := h0) (hI := hI)) 0 gX12_takeFound_X12_finds rfl hvX12_finds ⟨Nat.le_of_ble_eq_true rfl, Nat.le_of_ble_eq_true rfl⟩ rfl rfl h0 rfl rfl rfl rfl hl.1 rfl (Nat.le_of_ble_eq_true rfl) dX12_takeFound_1 ⟨Nat.le_of_ble_eq_true rfl, Nat.le_of_ble_eq_true rfl⟩) hA hF (fun σ_1 H locs hW hF pσ_1 => ?_)
  try dsimp only at pσ_1
  obtain ⟨pσ_1, fpσ_1⟩ := pσ_1
  have q_finds := pσ_1
  have hR := fr_call hR fpσ_1 (by decide)
  have Efile : σ_1 (G a0 0) = σ (G a0 0) := row_fr fpσ_1 hk_file 40 (by decide) (by decide)
  try clear hcf
  have hcf := congrFun Efile 0
  have hI := FI_dep hS h0 hI (kp_fr fpσ_1 (by decide))
  refine lv_aload_n hx hb dX12_takeFound_4 rfl (lv_at hl 0 rfl) ?_
  refine j_getI hx hb (C := RX12) (T := TX12) (N := 41) hts inX12_takeFound_X12 hown hK hS hW h0 rfl 40 rfl rfl (by decide) (hts _ flX12_takeFound_360) dX12_takeFound_5 ?_
  have := fbd hW h0 (k := 40) (lo := 0) (hi := 150) rfl rfl
  refine lv_istore_n (lv' := [(1, .int (jI (σ_1 a0 40))), (0, .ref a0)]) hx hb dX12_takeFound_8 rfl hl (by decide) rfl (fun ls hl => ?_)
  refine j_const hx hb dX12_takeFound_9 ?_
  refine lv_istore_n (lv' := [(2, .int (jI 0)), (1, .int (jI (σ_1 a0 40))), (0, .ref a0)]) hx hb dX12_takeFound_10 rfl hl (by decide) rfl (fun ls hl => ?_)
  have L_11 : ∀ (N : Nat) (v2_11 : Int) (σL_11 : Nat → Nat → Int) (H : Heap) (locs : List Loc) (ls : Array Slot), N = (2147483647 - v2_11 : Int).toNat → (0 ≤ v2_11) → (FM (σL_11 (G a0 0))) → (FO (σL_11 (G a0 39)) v2_11 (σ_1 a0 40) ((σL_11 (G a0 0)) 0)) → rg v2_11 → PW D cA τ G L σL_11 H → va_S (fun q => q ∈ L) s.heap H locs → fr wr_X12_takeFound τ σ σL_11 → FI G a0 σL_11 → σL_11 a0 40 = σ_1 a0 40 → lv_has ls 5 [(0, .ref a0), (1, .int (jI (σ_1 a0 40))), (2, .int (jI v2_11))] → W p l e ({ frames := 6, cells := 0, slots := 0, locals := 139 }) s m args below meth c H locs 0 0 Q (F0 m 11 ls []) := by
    intro N
    induction N using Nat.strongRecOn with
    | ind N ih_11 =>
      intro v2_11 σL_11 H locs ls hN i0_11 i1_11 i2_11 rv2_11 hW hF hR hI Efm hl
      refine lv_iload_n hx hb dX12_takeFound_11 rfl (lv_at hl 2 rfl) ?_
      refine lv_iload_n hx hb dX12_takeFound_12 rfl (lv_at hl 1 rfl) ?_
      refine j_icmp_ge (tgt := 78) hx hb (by omega) (by omega) dX12_takeFound_13 (by decide) (fun c_2 => ?_) (fun c_2 => ?_)
      · refine lv_iload_n hx hb dX12_takeFound_78 rfl (lv_at hl 1 rfl) ?_
        exact hRet 79 _ _ _ (σ_1 a0 40) _ dX12_takeFound_79 hW hF (by omega) ⟨(by first | exact ⟨hI, i1_11⟩ | (simp only [Efm]; exact ⟨hI, i1_11⟩)), hR⟩
      · refine lv_aload_n hx hb dX12_takeFound_16 rfl (lv_at hl 0 rfl) ?_
        refine j_getR hx hb (C := RX12) (T := TX12) (N := 41) hts inX12_takeFound_X12 hown hK hS hW h0 rfl 39 rfl rfl (by decide) (hts _ flX12_takeFound_47) dX12_takeFound_17 ?_
        refine lv_iload_n hx hb dX12_takeFound_20 rfl (lv_at hl 2 rfl) ?_
        refine j_ald hx hb hK hS hW hk_fo (n := 150) rfl (by omega) (by omega) (by decide) dX12_takeFound_21 ?_
        have := abd hW hk_fo (n := 150) (lo := 0) (hi := 149) (i := v2_11) rfl (by omega) (by omega)
        have hfx := i2_11.1 v2_11 (by omega) (by omega)
        refine lv_istore_n (lv' := [(3, .int (jI (σL_11 (G a0 39) (v2_11).toNat))), (0, .ref a0), (1, .int (jI (σ_1 a0 40))), (2, .int (jI v2_11))]) hx hb dX12_takeFound_22 rfl hl (by decide) rfl (fun ls hl => ?_)
        refine lv_aload_n hx hb dX12_takeFound_23 rfl (lv_at hl 1 rfl) ?_
        refine lv_iload_n hx hb dX12_takeFound_24 rfl (lv_at hl 0 rfl) ?_
        refine j_cV (j_runV (As := [.int (jI (σL_11 (G a0 39) (v2_11).toNat))]) (rest := []) hx hb hml hown hts hK hS hW (kX12_goes l hS σL_11 (a0 := a0) (h0 := h0) (x1 := σL_11 (G a0 39) (v2_11).toNat) (r1 := (by omega)) (hI := hI) (q0 := (by omega)) (q1 := (by omega)) (q2 := i1_11)) 1 gX12_takeFound_X12_goes rfl hvX12_goes ⟨Nat.le_of_ble_eq_true rfl, Nat.le_of_ble_eq_true rfl⟩ rfl rfl h0 rfl rfl rfl rfl hl.1 rfl (Nat.le_of_ble_eq_true rfl) dX12_takeFound_25 ⟨Nat.le_of_ble_eq_true rfl, Nat.le_of_ble_eq_true rfl⟩) hA hF (fun σ_3 H locs hW hF pσ_3 => ?_)
        try dsimp only at pσ_3
        obtain ⟨pσ_3, fpσ_3⟩ := pσ_3
        try simp only [Efm] at pσ_3
        have q_goes := pσ_3
        have hR := fr_call hR fpσ_3 (by decide)
        have Efo : σ_3 (G a0 39) = σL_11 (G a0 39) := row_fr fpσ_3 hk_fo 52 (by decide) (by decide)
        have Efm : σ_3 a0 40 = σ_1 a0 40 := (fr_at fpσ_3 h0 40 13040 rfl (by decide)).trans Efm
        have hI := q_goes.1
        have hkd := q_goes.2.2
        have hfmn := q_goes.2.1
        refine lv_iload_n hx hb dX12_takeFound_28 rfl (lv_at hl 3 rfl) ?_
        refine j_const hx hb dX12_takeFound_29 ?_
        refine j_add hx hb dX12_takeFound_30 ?_
        refine lv_istore (lv' := [(4, .int (jI (v2_11 + 1))), (3, .int (jI (σL_11 (G a0 39) (v2_11).toNat))), (0, .ref a0), (1, .int (jI (σ_1 a0 40))), (2, .int (jI v2_11))]) hx hb dX12_takeFound_31 hl (by decide) rfl (fun ls hl => ?_)
        have L_33 : ∀ (N : Nat) (v4_33 : Int) (σL_33 : Nat → Nat → Int) (H : Heap) (locs : List Loc) (ls : Array Slot), N = (2147483647 - v4_33 : Int).toNat → (v2_11 + 1 ≤ v4_33) → (∀ i : Int, v2_11 + 1 ≤ i → i < v4_33 → (σL_33 (G a0 39)) i.toNat = if (σL_11 (G a0 39) (v2_11).toNat) < σL_11 (G a0 39) i.toNat then σL_11 (G a0 39) i.toNat - 1 else σL_11 (G a0 39) i.toNat) → (∀ i : Int, v4_33 ≤ i → i < (σ_1 a0 40) → (σL_33 (G a0 39)) i.toNat = σL_11 (G a0 39) i.toNat) → rg v4_33 → PW D cA τ G L σL_33 H → va_S (fun q => q ∈ L) s.heap H locs → fr wr_X12_takeFound τ σ σL_33 → FI G a0 σL_33 → σL_33 (G a0 0) = σ_3 (G a0 0) → σL_33 a0 40 = σ_1 a0 40 → lv_has ls 5 [(0, .ref a0), (1, .int (jI (σ_1 a0 40))), (2, .int (jI v2_11)), (3, .int (jI (σL_11 (G a0 39) (v2_11).toNat))), (4, .int (jI v4_33))] → W p l e ({ frames := 6, cells := 0, slots := 0, locals := 139 }) s m args below meth c H locs 0 0 Q (F0 m 33 ls []) := by
          intro N
          induction N using Nat.strongRecOn with
          | ind N ih_33 =>
            intro v4_33 σL_33 H locs ls hN i0_33 i1_33 i2_33 rv4_33 hW hF hR hI Efile Efm hl
            try clear hcf
            try clear hfk
            have hcf := congrFun Efile 0
            refine lv_iload hx hb dX12_takeFound_33 (lv_at hl 4 rfl) ?_
            refine lv_iload_n hx hb dX12_takeFound_35 rfl (lv_at hl 1 rfl) ?_
            refine j_icmp_ge (tgt := 72) hx hb (by omega) (by omega) dX12_takeFound_36 (by decide) (fun c_4 => ?_) (fun c_4 => ?_)
            · refine j_iinc (lv' := [(2, .int (jI (v2_11 + 1))), (0, .ref a0), (1, .int (jI (σ_1 a0 40))), (3, .int (jI (σL_11 (G a0 39) (v2_11).toNat))), (4, .int (jI v4_33))]) hx hb dX12_takeFound_72 hl (k := 2) rfl (by decide) rfl (fun ls hl => ?_)
              refine lv_goto (tgt := 11) hx hb dX12_takeFound_75 (by decide) ?_
              exact ih_11 ((2147483647 - (v2_11 + 1) : Int).toNat) (by omega) (v2_11 + 1) σL_33 _ _ _ rfl (by omega) (by first | exact (by first | exact q0 | (rw [Efile]; exact q0) | exact hfmn) | (simp only [Efile, Efm]; exact (by first | exact q0 | (rw [Efile]; exact q0) | exact hfmn))) (by first | exact (by first | exact q_finds.1 | (rw [Efile]; exact q_finds.1) | (rw [hkd.1]; exact FO_dec i2_11 rfl (by omega) (fun j j0 j1 => i1_33 j j0 (by omega)))) | (simp only [Efile, Efm]; exact (by first | exact q_finds.1 | (rw [Efile]; exact q_finds.1) | (rw [hkd.1]; exact FO_dec i2_11 rfl (by omega) (fun j j0 j1 => i1_33 j j0 (by omega)))))) (by omega) hW hF hR hI Efm (lv_sub hl [1, 2, 0] rfl)
            · refine lv_aload_n hx hb dX12_takeFound_39 rfl (lv_at hl 0 rfl) ?_
              refine j_getR hx hb (C := RX12) (T := TX12) (N := 41) hts inX12_takeFound_X12 hown hK hS hW h0 rfl 39 rfl rfl (by decide) (hts _ flX12_takeFound_47) dX12_takeFound_40 ?_
              refine lv_iload hx hb dX12_takeFound_43 (lv_at hl 4 rfl) ?_
              refine j_ald hx hb hK hS hW hk_fo (n := 150) rfl (by omega) (by omega) (by decide) dX12_takeFound_45 ?_
              have := abd hW hk_fo (n := 150) (lo := 0) (hi := 149) (i := v4_33) rfl (by omega) (by omega)
              refine lv_iload_n hx hb dX12_takeFound_46 rfl (lv_at hl 3 rfl) ?_
              refine j_icmp_le (tgt := 66) hx hb (by omega) (by omega) dX12_takeFound_47 (by decide) (fun c_5 => ?_) (fun c_5 => ?_)
              · refine j_iinc (lv' := [(4, .int (jI (v4_33 + 1))), (0, .ref a0), (1, .int (jI (σ_1 a0 40))), (2, .int (jI v2_11)), (3, .int (jI (σL_11 (G a0 39) (v2_11).toNat)))]) hx hb dX12_takeFound_66 hl (k := 4) rfl (by decide) rfl (fun ls hl => ?_)
                refine lv_goto (tgt := 33) hx hb dX12_takeFound_69 (by decide) ?_
                exact ih_33 ((2147483647 - (v4_33 + 1) : Int).toNat) (by omega) (v4_33 + 1) σL_33 _ _ _ rfl (by omega) (by first | exact (by first | exact (DEC_do i1_33 i2_33 (by omega) (by omega) (by omega) (by omega) st_fo rfl).1 | exact DEC_skip i1_33 i2_33 (by omega) (by omega) | (intro i a b; exfalso; omega)) | (simp only [Efile, Efm]; exact (by first | exact (DEC_do i1_33 i2_33 (by omega) (by omega) (by omega) (by omega) st_fo rfl).1 | exact DEC_skip i1_33 i2_33 (by omega) (by omega) | (intro i a b; exfalso; omega)))) (by first | exact (by first | exact (DEC_do i1_33 i2_33 (by omega) (by omega) (by omega) (by omega) st_fo rfl).2 | exact fun i a b => i2_33 i (by omega) b | exact fun i a b => rfl | exact fun i a b => by rw [Efo]) | (simp only [Efile, Efm]; exact (by first | exact (DEC_do i1_33 i2_33 (by omega) (by omega) (by omega) (by omega) st_fo rfl).2 | exact fun i a b => i2_33 i (by omega) b | exact fun i a b => rfl | exact fun i a b => by rw [Efo]))) (by omega) hW hF hR hI Efile Efm (lv_sub hl [1, 2, 3, 4, 0] rfl)
              · refine lv_aload_n hx hb dX12_takeFound_50 rfl (lv_at hl 0 rfl) ?_
                refine j_getR hx hb (C := RX12) (T := TX12) (N := 41) hts inX12_takeFound_X12 hown hK hS hW h0 rfl 39 rfl rfl (by decide) (hts _ flX12_takeFound_47) dX12_takeFound_51 ?_
                refine lv_iload hx hb dX12_takeFound_54 (lv_at hl 4 rfl) ?_
                refine lv_aload_n hx hb dX12_takeFound_56 rfl (lv_at hl 0 rfl) ?_
                refine j_getR hx hb (C := RX12) (T := TX12) (N := 41) hts inX12_takeFound_X12 hown hK hS hW h0 rfl 39 rfl rfl (by decide) (hts _ flX12_takeFound_47) dX12_takeFound_57 ?_
                refine lv_iload hx hb dX12_takeFound_60 (lv_at hl 4 rfl) ?_
                refine j_ald hx hb hK hS hW hk_fo (n := 150) rfl (by omega) (by omega) (by decide) dX12_takeFound_62 ?_
                refine j_const hx hb dX12_takeFound_63 ?_
                refine j_sub hx hb dX12_takeFound_64 ?_
                refine j_ast hx hb hK hS hA hW hF hk_fo (n := 150) (lo := 0) (hi := 149) rfl (by omega) (by omega) (by decide) (by omega) dX12_takeFound_65 (fun σ_6 H locs e_7 hW hF => ?_)
                have st_fo := e_7
                have hR := fr_up hR e_7 hk_fo 52000 (cdA 52 (by decide) _) (by decide)
                have Efile : σ_6 (G a0 0) = σ_3 (G a0 0) := (row_up e_7 hk_fo hk_file (by decide)).trans Efile
                try clear hcf
                have hcf := congrFun Efile 0
                have Efm : σ_6 a0 40 = σ_1 a0 40 := (fld_up e_7 hk_fo h0 (fun q => absurd q.1 (by decide))).trans Efm
                have hI := FI_dep hS h0 hI (kp_up e_7 hk_fo 52000 (cdA 52 (by decide) _) (by decide))
                refine j_iinc (lv' := [(4, .int (jI (v4_33 + 1))), (0, .ref a0), (1, .int (jI (σ_1 a0 40))), (2, .int (jI v2_11)), (3, .int (jI (σL_11 (G a0 39) (v2_11).toNat)))]) hx hb dX12_takeFound_66 hl (k := 4) rfl (by decide) rfl (fun ls hl => ?_)
                refine lv_goto (tgt := 33) hx hb dX12_takeFound_69 (by decide) ?_
                exact ih_33 ((2147483647 - (v4_33 + 1) : Int).toNat) (by omega) (v4_33 + 1) σ_6 _ _ _ rfl (by omega) (by first | exact (by first | exact (DEC_do i1_33 i2_33 (by omega) (by omega) (by omega) (by omega) st_fo rfl).1 | exact DEC_skip i1_33 i2_33 (by omega) (by omega) | (intro i a b; exfalso; omega)) | (simp only [Efile, Efm]; exact (by first | exact (DEC_do i1_33 i2_33 (by omega) (by omega) (by omega) (by omega) st_fo rfl).1 | exact DEC_skip i1_33 i2_33 (by omega) (by omega) | (intro i a b; exfalso; omega)))) (by first | exact (by first | exact (DEC_do i1_33 i2_33 (by omega) (by omega) (by omega) (by omega) st_fo rfl).2 | exact fun i a b => i2_33 i (by omega) b | exact fun i a b => rfl | exact fun i a b => by rw [Efo]) | (simp only [Efile, Efm]; exact (by first | exact (DEC_do i1_33 i2_33 (by omega) (by omega) (by omega) (by omega) st_fo rfl).2 | exact fun i a b => i2_33 i (by omega) b | exact fun i a b => rfl | exact fun i a b => by rw [Efo]))) (by omega) hW hF hR hI Efile Efm (lv_sub hl [1, 2, 3, 4, 0] rfl)
        exact L_33 ((2147483647 - (v2_11 + 1) : Int).toNat) (v2_11 + 1) σ_3 _ _ _ rfl (by omega) (by first | exact (by first | exact (DEC_do i1_33 i2_33 (by omega) (by omega) (by omega) (by omega) st_fo rfl).1 | exact DEC_skip i1_33 i2_33 (by omega) (by omega) | (intro i a b; exfalso; omega)) | (simp only [Efo, Efm]; exact (by first | exact (DEC_do i1_33 i2_33 (by omega) (by omega) (by omega) (by omega) st_fo rfl).1 | exact DEC_skip i1_33 i2_33 (by omega) (by omega) | (intro i a b; exfalso; omega)))) (by first | exact (by first | exact (DEC_do i1_33 i2_33 (by omega) (by omega) (by omega) (by omega) st_fo rfl).2 | exact fun i a b => i2_33 i (by omega) b | exact fun i a b => rfl | exact fun i a b => by rw [Efo]) | (simp only [Efo, Efm]; exact (by first | exact (DEC_do i1_33 i2_33 (by omega) (by omega) (by omega) (by omega) st_fo rfl).2 | exact fun i a b => i2_33 i (by omega) b | exact fun i a b => rfl | exact fun i a b => by rw [Efo]))) (by omega) hW hF hR hI rfl Efm (lv_sub hl [2, 3, 4, 1, 0] rfl)
  exact L_11 ((2147483647 - 0 : Int).toNat) 0 σ_1 _ _ _ rfl (by omega) (by first | exact (by first | exact q0 | (rw [Efile]; exact q0) | exact hfmn) | (simp only [Efile]; exact (by first | exact q0 | (rw [Efile]; exact q0) | exact hfmn))) (by first | exact (by first | exact q_finds.1 | (rw [Efile]; exact q_finds.1) | (rw [hkd.1]; exact FO_dec i2_11 rfl (by omega) (fun j j0 j1 => i1_33 j j0 (by omega)))) | (simp only [Efile]; exact (by first | exact q_finds.1 | (rw [Efile]; exact q_finds.1) | (rw [hkd.1]; exact FO_dec i2_11 rfl (by omega) (fun j j0 j1 => i1_33 j j0 (by omega)))))) (by decide) hW hF hR hI rfl (lv_sub hl [2, 1, 0] rfl)
