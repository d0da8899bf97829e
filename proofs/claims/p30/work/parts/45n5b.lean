abbrev wr_X12_addsLayer : List Nat := [13027, 13028, 13029, 13030, 13031, 13032, 13033]
theorem flX12_addsLayer_258 : Cond.fieldLink RX12 258 "PageTrieModel" "layers" "I" ∈ wsX12_addsLayer := List.mem_of_getElem? (i := 1) rfl
theorem flX12_addsLayer_261 : Cond.fieldLink RX12 261 "PageTrieModel" "pages" "I" ∈ wsX12_addsLayer := List.mem_of_getElem? (i := 2) rfl
theorem flX12_addsLayer_264 : Cond.fieldLink RX12 264 "PageTrieModel" "ends" "I" ∈ wsX12_addsLayer := List.mem_of_getElem? (i := 3) rfl
theorem flX12_addsLayer_270 : Cond.fieldLink RX12 270 "PageTrieModel" "tails" "I" ∈ wsX12_addsLayer := List.mem_of_getElem? (i := 4) rfl
theorem flX12_addsLayer_273 : Cond.fieldLink RX12 273 "PageTrieModel" "belows" "I" ∈ wsX12_addsLayer := List.mem_of_getElem? (i := 5) rfl
theorem flX12_addsLayer_276 : Cond.fieldLink RX12 276 "PageTrieModel" "deepest" "I" ∈ wsX12_addsLayer := List.mem_of_getElem? (i := 6) rfl
theorem flX12_addsLayer_282 : Cond.fieldLink RX12 282 "PageTrieModel" "weight" "I" ∈ wsX12_addsLayer := List.mem_of_getElem? (i := 7) rfl
theorem inX12_addsLayer_X12 : ∀ w ∈ u_ws RX12 TX12 41, w ∈ wsX12_addsLayer := mem_r _ [50, 51, 52, 53, 54, 55, 56, 57, 58, 59, 60, 61, 62, 63, 64, 65, 66, 67, 68, 69, 70, 71, 72, 73, 74, 75, 76, 77, 78, 79, 80, 81, 82, 83, 84, 85, 86, 87, 88, 89, 90] rfl
theorem hvX12_addsLayer : yX12_addsLayer.cls = RX12 ∧ yX12_addsLayer.cls ≠ "java/lang/invoke/MethodHandle" ∧ yX12_addsLayer.cls ≠ "java/lang/invoke/VarHandle" ∧ (parseMethodDescriptor yX12_addsLayer.desc).map (fun d => d.parameters.length) = some 1 := by decide +kernel
set_option maxHeartbeats 4000000 in
set_option maxRecDepth 100000 in
theorem kX12_addsLayer (l : Launch) {D : va_G} {cA : Nat → ClassId} {τ : Nat → Nat} {G : Nat → Nat → Nat} {L : List Nat} (hS : SW τ G L) (σ : Nat → Nat → Int) {a0 : Nat} (h0 : τ a0 = 13) {x1 : Int} (r1 : rg x1) (hI : FI G a0 σ) (q0 : 0 ≤ x1) (q1 : x1 ≤ 23) : Met l yX12_addsLayer wsX12_addsLayer ({ frames := 4, cells := 0, slots := 0, locals := 90 }) (jP D cA τ G L σ [.ref a0, .int (jI x1)]) (jQV D cA τ G L (fun σ' => (True) ∧ fr wr_X12_addsLayer τ σ σ')) 0 0 (fun q => q ∈ L) := by
  refine j_metV (by decide +kernel) rfl (Nat.le_of_ble_eq_true rfl) ?_
  intro p e s m args below meth c Q hx hb hml hown hts hK hW hRet ls hl
  have hl : lv_has ls 2 [(0, .ref a0), (1, .int (jI x1))] := hl
  have hA : ∀ q ∈ L, (fun q => q ∈ L) q := fun _ h => h
  have hF : va_S (fun q => q ∈ L) s.heap s.heap [] := va_S.rf
  have hR : fr wr_X12_addsLayer τ σ σ := fr_rf
  have := FI_bd hI
  have := fbd hW h0 (k := 3) (lo := 0) (hi := 24) rfl rfl
  refine lv_aload_n hx hb dX12_addsLayer_0 rfl (lv_at hl 0 rfl) ?_
  refine lv_aload_n hx hb dX12_addsLayer_1 rfl (lv_at hl 0 rfl) ?_
  refine j_getI hx hb (C := RX12) (T := TX12) (N := 41) hts inX12_addsLayer_X12 hown hK hS hW h0 rfl 27 rfl rfl (by decide) (hts _ flX12_addsLayer_258) dX12_addsLayer_2 ?_
  have := fbd hW h0 (k := 27) (lo := -2147483648) (hi := 2147483647) rfl rfl
  refine j_const hx hb dX12_addsLayer_5 ?_
  refine j_add hx hb dX12_addsLayer_6 ?_
  refine j_wrap (fun z_1 rz_1 ez_1 => ?_)
  refine j_putI hx hb (C := RX12) (T := TX12) (N := 41) hts inX12_addsLayer_X12 tyX12 tyX12_ok nmX12 hown hK hS hA hW hF h0 rfl 27 (lo := -2147483648) (hi := 2147483647) rfl rfl (by decide) (hts _ flX12_addsLayer_258) rfl .int rfl (by omega) rfl rfl dX12_addsLayer_7 (fun σ_2 H locs e_3 hW hF => ?_)
  have hR := fr_up hR e_3 h0 13027 rfl (by decide)
  have hI := FI_dep hS h0 hI (kp_up e_3 h0 13027 rfl (by decide))
  have hfk : σ_2 a0 27 = z_1 := by rw [e_3]; exact up2_at _ _ _ _
  refine lv_aload_n hx hb dX12_addsLayer_10 rfl (lv_at hl 0 rfl) ?_
  refine lv_aload_n hx hb dX12_addsLayer_11 rfl (lv_at hl 0 rfl) ?_
  refine j_getI hx hb (C := RX12) (T := TX12) (N := 41) hts inX12_addsLayer_X12 hown hK hS hW h0 rfl 28 rfl rfl (by decide) (hts _ flX12_addsLayer_261) dX12_addsLayer_12 ?_
  have := fbd hW h0 (k := 28) (lo := -2147483648) (hi := 2147483647) rfl rfl
  refine lv_aload_n hx hb dX12_addsLayer_15 rfl (lv_at hl 0 rfl) ?_
  refine lv_iload_n hx hb dX12_addsLayer_16 rfl (lv_at hl 1 rfl) ?_
  refine j_cR (j_runV (As := [.int (jI x1)]) (rest := [.int (jI (σ_2 a0 28)), .ref a0]) hx hb hml hown hts hK hS hW (kX12_pagesOf l hS σ_2 (a0 := a0) (h0 := h0) (x1 := x1) (r1 := (by omega)) (q0 := (by omega)) (q1 := (by omega))) 1 gX12_addsLayer_X12_pagesOf rfl hvX12_pagesOf ⟨Nat.le_of_ble_eq_true rfl, Nat.le_of_ble_eq_true rfl⟩ rfl rfl h0 rfl rfl rfl rfl hl.1 rfl (Nat.le_of_ble_eq_true rfl) dX12_addsLayer_17 ⟨Nat.le_of_ble_eq_true rfl, Nat.le_of_ble_eq_true rfl⟩) (fun v_4 rv_4 pv_4 => ?_)
  try dsimp only at pv_4
  have q_pagesOf := pv_4
  refine j_add hx hb dX12_addsLayer_20 ?_
  refine j_wrap (fun z_5 rz_5 ez_5 => ?_)
  refine j_putI hx hb (C := RX12) (T := TX12) (N := 41) hts inX12_addsLayer_X12 tyX12 tyX12_ok nmX12 hown hK hS hA hW hF h0 rfl 28 (lo := -2147483648) (hi := 2147483647) rfl rfl (by decide) (hts _ flX12_addsLayer_261) rfl .int rfl (by omega) rfl rfl dX12_addsLayer_21 (fun σ_6 H locs e_7 hW hF => ?_)
  have hR := fr_up hR e_7 h0 13028 rfl (by decide)
  have hI := FI_dep hS h0 hI (kp_up e_7 h0 13028 rfl (by decide))
  have hfk : σ_6 a0 28 = z_5 := by rw [e_7]; exact up2_at _ _ _ _
  refine lv_aload_n hx hb dX12_addsLayer_24 rfl (lv_at hl 0 rfl) ?_
  refine lv_aload_n hx hb dX12_addsLayer_25 rfl (lv_at hl 0 rfl) ?_
  refine j_getI hx hb (C := RX12) (T := TX12) (N := 41) hts inX12_addsLayer_X12 hown hK hS hW h0 rfl 29 rfl rfl (by decide) (hts _ flX12_addsLayer_264) dX12_addsLayer_26 ?_
  have := fbd hW h0 (k := 29) (lo := -2147483648) (hi := 2147483647) rfl rfl
  refine lv_aload_n hx hb dX12_addsLayer_29 rfl (lv_at hl 0 rfl) ?_
  refine j_const hx hb dX12_addsLayer_30 ?_
  refine j_cR (j_runV (As := [.int (jI 0)]) (rest := [.int (jI (σ_6 a0 29)), .ref a0]) hx hb hml hown hts hK hS hW (kX12_kindsOf l hS σ_6 (a0 := a0) (h0 := h0) (x1 := 0) (r1 := (by decide))) 1 gX12_addsLayer_X12_kindsOf rfl hvX12_kindsOf ⟨Nat.le_of_ble_eq_true rfl, Nat.le_of_ble_eq_true rfl⟩ rfl rfl h0 rfl rfl rfl rfl hl.1 rfl (Nat.le_of_ble_eq_true rfl) dX12_addsLayer_31 ⟨Nat.le_of_ble_eq_true rfl, Nat.le_of_ble_eq_true rfl⟩) (fun v_8 rv_8 pv_8 => ?_)
  try dsimp only at pv_8
  have q_kindsOf := pv_8
  refine j_add hx hb dX12_addsLayer_34 ?_
  refine j_wrap (fun z_9 rz_9 ez_9 => ?_)
  refine j_putI hx hb (C := RX12) (T := TX12) (N := 41) hts inX12_addsLayer_X12 tyX12 tyX12_ok nmX12 hown hK hS hA hW hF h0 rfl 29 (lo := -2147483648) (hi := 2147483647) rfl rfl (by decide) (hts _ flX12_addsLayer_264) rfl .int rfl (by omega) rfl rfl dX12_addsLayer_35 (fun σ_10 H locs e_11 hW hF => ?_)
  have hR := fr_up hR e_11 h0 13029 rfl (by decide)
  have hI := FI_dep hS h0 hI (kp_up e_11 h0 13029 rfl (by decide))
  have hfk : σ_10 a0 29 = z_9 := by rw [e_11]; exact up2_at _ _ _ _
  refine lv_aload_n hx hb dX12_addsLayer_38 rfl (lv_at hl 0 rfl) ?_
  refine lv_aload_n hx hb dX12_addsLayer_39 rfl (lv_at hl 0 rfl) ?_
  refine j_getI hx hb (C := RX12) (T := TX12) (N := 41) hts inX12_addsLayer_X12 hown hK hS hW h0 rfl 30 rfl rfl (by decide) (hts _ flX12_addsLayer_270) dX12_addsLayer_40 ?_
  have := fbd hW h0 (k := 30) (lo := -2147483648) (hi := 2147483647) rfl rfl
  refine lv_aload_n hx hb dX12_addsLayer_43 rfl (lv_at hl 0 rfl) ?_
  refine j_const hx hb dX12_addsLayer_44 ?_
  refine j_cR (j_runV (As := [.int (jI 1)]) (rest := [.int (jI (σ_10 a0 30)), .ref a0]) hx hb hml hown hts hK hS hW (kX12_kindsOf l hS σ_10 (a0 := a0) (h0 := h0) (x1 := 1) (r1 := (by decide))) 1 gX12_addsLayer_X12_kindsOf rfl hvX12_kindsOf ⟨Nat.le_of_ble_eq_true rfl, Nat.le_of_ble_eq_true rfl⟩ rfl rfl h0 rfl rfl rfl rfl hl.1 rfl (Nat.le_of_ble_eq_true rfl) dX12_addsLayer_45 ⟨Nat.le_of_ble_eq_true rfl, Nat.le_of_ble_eq_true rfl⟩) (fun v_12 rv_12 pv_12 => ?_)
  try dsimp only at pv_12
  have q_kindsOf := pv_12
  refine j_add hx hb dX12_addsLayer_48 ?_
  refine j_wrap (fun z_13 rz_13 ez_13 => ?_)
  refine j_putI hx hb (C := RX12) (T := TX12) (N := 41) hts inX12_addsLayer_X12 tyX12 tyX12_ok nmX12 hown hK hS hA hW hF h0 rfl 30 (lo := -2147483648) (hi := 2147483647) rfl rfl (by decide) (hts _ flX12_addsLayer_270) rfl .int rfl (by omega) rfl rfl dX12_addsLayer_49 (fun σ_14 H locs e_15 hW hF => ?_)
  have hR := fr_up hR e_15 h0 13030 rfl (by decide)
  have hI := FI_dep hS h0 hI (kp_up e_15 h0 13030 rfl (by decide))
  have hfk : σ_14 a0 30 = z_13 := by rw [e_15]; exact up2_at _ _ _ _
  refine lv_aload_n hx hb dX12_addsLayer_52 rfl (lv_at hl 0 rfl) ?_
  refine lv_aload_n hx hb dX12_addsLayer_53 rfl (lv_at hl 0 rfl) ?_
  refine j_getI hx hb (C := RX12) (T := TX12) (N := 41) hts inX12_addsLayer_X12 hown hK hS hW h0 rfl 31 rfl rfl (by decide) (hts _ flX12_addsLayer_273) dX12_addsLayer_54 ?_
  have := fbd hW h0 (k := 31) (lo := -2147483648) (hi := 2147483647) rfl rfl
  refine lv_aload_n hx hb dX12_addsLayer_57 rfl (lv_at hl 0 rfl) ?_
  refine j_const hx hb dX12_addsLayer_58 ?_
  refine j_cR (j_runV (As := [.int (jI 2)]) (rest := [.int (jI (σ_14 a0 31)), .ref a0]) hx hb hml hown hts hK hS hW (kX12_kindsOf l hS σ_14 (a0 := a0) (h0 := h0) (x1 := 2) (r1 := (by decide))) 1 gX12_addsLayer_X12_kindsOf rfl hvX12_kindsOf ⟨Nat.le_of_ble_eq_true rfl, Nat.le_of_ble_eq_true rfl⟩ rfl rfl h0 rfl rfl rfl rfl hl.1 rfl (Nat.le_of_ble_eq_true rfl) dX12_addsLayer_59 ⟨Nat.le_of_ble_eq_true rfl, Nat.le_of_ble_eq_true rfl⟩) (fun v_16 rv_16 pv_16 => ?_)
  try dsimp only at pv_16
  have q_kindsOf := pv_16
  refine j_add hx hb dX12_addsLayer_62 ?_
  refine j_wrap (fun z_17 rz_17 ez_17 => ?_)
  refine j_putI hx hb (C := RX12) (T := TX12) (N := 41) hts inX12_addsLayer_X12 tyX12 tyX12_ok nmX12 hown hK hS hA hW hF h0 rfl 31 (lo := -2147483648) (hi := 2147483647) rfl rfl (by decide) (hts _ flX12_addsLayer_273) rfl .int rfl (by omega) rfl rfl dX12_addsLayer_63 (fun σ_18 H locs e_19 hW hF => ?_)
  have hR := fr_up hR e_19 h0 13031 rfl (by decide)
  have hI := FI_dep hS h0 hI (kp_up e_19 h0 13031 rfl (by decide))
  have hfk : σ_18 a0 31 = z_17 := by rw [e_19]; exact up2_at _ _ _ _
  refine lv_aload_n hx hb dX12_addsLayer_66 rfl (lv_at hl 0 rfl) ?_
  refine lv_aload_n hx hb dX12_addsLayer_67 rfl (lv_at hl 0 rfl) ?_
  refine j_getI hx hb (C := RX12) (T := TX12) (N := 41) hts inX12_addsLayer_X12 hown hK hS hW h0 rfl 32 rfl rfl (by decide) (hts _ flX12_addsLayer_276) dX12_addsLayer_68 ?_
  have := fbd hW h0 (k := 32) (lo := -2147483648) (hi := 2147483647) rfl rfl
  refine lv_iload_n hx hb dX12_addsLayer_71 rfl (lv_at hl 1 rfl) ?_
  refine j_const hx hb dX12_addsLayer_72 ?_
  refine j_add hx hb dX12_addsLayer_73 ?_
  refine j_cR (j_runS (As := [.int (jI (σ_18 a0 32)), .int (jI (x1 + 1))]) (rest := [.ref a0]) hx hb hml hown hts hK hW (kX12_max l hS σ_18 (x0 := σ_18 a0 32) (r0 := (by omega)) (x1 := x1 + 1) (r1 := (by omega))) 2 gX12_addsLayer_X12_max rfl hsX12_max ⟨Nat.le_of_ble_eq_true rfl, Nat.le_of_ble_eq_true rfl⟩ rfl rfl rfl hl.1 rfl (Nat.le_of_ble_eq_true rfl) dX12_addsLayer_74 ⟨Nat.le_of_ble_eq_true rfl, Nat.le_of_ble_eq_true rfl⟩) (fun v_20 rv_20 pv_20 => ?_)
  try dsimp only at pv_20
  have q_max := pv_20
  refine j_putI hx hb (C := RX12) (T := TX12) (N := 41) hts inX12_addsLayer_X12 tyX12 tyX12_ok nmX12 hown hK hS hA hW hF h0 rfl 32 (lo := -2147483648) (hi := 2147483647) rfl rfl (by decide) (hts _ flX12_addsLayer_276) rfl .int rfl (by omega) rfl rfl dX12_addsLayer_77 (fun σ_21 H locs e_22 hW hF => ?_)
  have hR := fr_up hR e_22 h0 13032 rfl (by decide)
  have hI := FI_dep hS h0 hI (kp_up e_22 h0 13032 rfl (by decide))
  have hfk : σ_21 a0 32 = v_20 := by rw [e_22]; exact up2_at _ _ _ _
  refine lv_aload_n hx hb dX12_addsLayer_80 rfl (lv_at hl 0 rfl) ?_
  refine lv_aload_n hx hb dX12_addsLayer_81 rfl (lv_at hl 0 rfl) ?_
  refine j_getI hx hb (C := RX12) (T := TX12) (N := 41) hts inX12_addsLayer_X12 hown hK hS hW h0 rfl 33 rfl rfl (by decide) (hts _ flX12_addsLayer_282) dX12_addsLayer_82 ?_
  have := fbd hW h0 (k := 33) (lo := -2147483648) (hi := 2147483647) rfl rfl
  refine lv_aload_n hx hb dX12_addsLayer_85 rfl (lv_at hl 0 rfl) ?_
  refine lv_iload_n hx hb dX12_addsLayer_86 rfl (lv_at hl 1 rfl) ?_
  refine j_cR (j_runV (As := [.int (jI x1)]) (rest := [.int (jI (σ_21 a0 33)), .ref a0]) hx hb hml hown hts hK hS hW (kX12_weightOf l hS σ_21 (a0 := a0) (h0 := h0) (x1 := x1) (r1 := (by omega)) (hI := hI) (q0 := (by omega)) (q1 := (by omega))) 1 gX12_addsLayer_X12_weightOf rfl hvX12_weightOf ⟨Nat.le_of_ble_eq_true rfl, Nat.le_of_ble_eq_true rfl⟩ rfl rfl h0 rfl rfl rfl rfl hl.1 rfl (Nat.le_of_ble_eq_true rfl) dX12_addsLayer_87 ⟨Nat.le_of_ble_eq_true rfl, Nat.le_of_ble_eq_true rfl⟩) (fun v_23 rv_23 pv_23 => ?_)
  try dsimp only at pv_23
  have q_weightOf := pv_23
  refine j_add hx hb dX12_addsLayer_90 ?_
  refine j_wrap (fun z_24 rz_24 ez_24 => ?_)
  refine j_putI hx hb (C := RX12) (T := TX12) (N := 41) hts inX12_addsLayer_X12 tyX12 tyX12_ok nmX12 hown hK hS hA hW hF h0 rfl 33 (lo := -2147483648) (hi := 2147483647) rfl rfl (by decide) (hts _ flX12_addsLayer_282) rfl .int rfl (by omega) rfl rfl dX12_addsLayer_91 (fun σ_25 H locs e_26 hW hF => ?_)
  have hR := fr_up hR e_26 h0 13033 rfl (by decide)
  have hI := FI_dep hS h0 hI (kp_up e_26 h0 13033 rfl (by decide))
  have hfk : σ_25 a0 33 = z_24 := by rw [e_26]; exact up2_at _ _ _ _
  exact hRet 94 _ _ _ _ dX12_addsLayer_94 hW hF ⟨trivial, hR⟩
