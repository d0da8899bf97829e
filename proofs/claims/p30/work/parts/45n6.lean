abbrev wr_X12_sumOf : List Nat := [13003, 13004, 13005, 13008, 13027, 13028, 13029, 13030, 13031, 13032, 13033, 41000, 42000, 43000]
theorem flX12_sumOf_7 : Cond.fieldLink RX12 7 "PageTrieModel" "file" "[I" ∈ wsX12_sumOf := List.mem_of_getElem? (i := 8) rfl
theorem flX12_sumOf_258 : Cond.fieldLink RX12 258 "PageTrieModel" "layers" "I" ∈ wsX12_sumOf := List.mem_of_getElem? (i := 1) rfl
theorem flX12_sumOf_261 : Cond.fieldLink RX12 261 "PageTrieModel" "pages" "I" ∈ wsX12_sumOf := List.mem_of_getElem? (i := 2) rfl
theorem flX12_sumOf_264 : Cond.fieldLink RX12 264 "PageTrieModel" "ends" "I" ∈ wsX12_sumOf := List.mem_of_getElem? (i := 3) rfl
theorem flX12_sumOf_270 : Cond.fieldLink RX12 270 "PageTrieModel" "tails" "I" ∈ wsX12_sumOf := List.mem_of_getElem? (i := 4) rfl
theorem flX12_sumOf_273 : Cond.fieldLink RX12 273 "PageTrieModel" "belows" "I" ∈ wsX12_sumOf := List.mem_of_getElem? (i := 5) rfl
theorem flX12_sumOf_276 : Cond.fieldLink RX12 276 "PageTrieModel" "deepest" "I" ∈ wsX12_sumOf := List.mem_of_getElem? (i := 6) rfl
theorem flX12_sumOf_282 : Cond.fieldLink RX12 282 "PageTrieModel" "weight" "I" ∈ wsX12_sumOf := List.mem_of_getElem? (i := 7) rfl
theorem inX12_sumOf_X12 : ∀ w ∈ u_ws RX12 TX12 41, w ∈ wsX12_sumOf := mem_r _ [94, 95, 96, 97, 98, 99, 100, 101, 102, 103, 104, 105, 106, 107, 108, 109, 110, 111, 112, 113, 114, 115, 116, 117, 118, 119, 120, 121, 122, 123, 124, 125, 126, 127, 128, 129, 130, 131, 132, 133, 134] rfl
theorem hvX12_sumOf : yX12_sumOf.cls = RX12 ∧ yX12_sumOf.cls ≠ "java/lang/invoke/MethodHandle" ∧ yX12_sumOf.cls ≠ "java/lang/invoke/VarHandle" ∧ (parseMethodDescriptor yX12_sumOf.desc).map (fun d => d.parameters.length) = some 1 := by decide +kernel
set_option maxHeartbeats 4000000 in
set_option maxRecDepth 100000 in
theorem kX12_sumOf (l : Launch) {D : va_G} {cA : Nat → ClassId} {τ : Nat → Nat} {G : Nat → Nat → Nat} {L : List Nat} (hS : SW τ G L) (σ : Nat → Nat → Int) {a0 : Nat} (h0 : τ a0 = 13) {x1 : Int} (r1 : rg x1) (hI : FI G a0 σ) (q0 : 3 ≤ x1) (q1 : x1 ≤ 13) : Met l yX12_sumOf wsX12_sumOf ({ frames := 6, cells := 0, slots := 0, locals := 133 }) (jP D cA τ G L σ [.ref a0, .int (jI x1)]) (jQI D cA τ G L (fun r σ' => (True) ∧ fr wr_X12_sumOf τ σ σ')) 0 0 (fun q => q ∈ L) := by
  refine j_metI (by decide +kernel) rfl (Nat.le_of_ble_eq_true rfl) ?_
  intro p e s m args below meth c Q hx hb hml hown hts hK hW hRet ls hl
  have hl : lv_has ls 2 [(0, .ref a0), (1, .int (jI x1))] := hl
  have hA : ∀ q ∈ L, (fun q => q ∈ L) q := fun _ h => h
  have hF : va_S (fun q => q ∈ L) s.heap s.heap [] := va_S.rf
  have hR : fr wr_X12_sumOf τ σ σ := fr_rf
  have hk_file : τ (G a0 0) = 40 := gty hS h0 (k := 0) rfl rfl
  have := FI_bd hI
  have := fbd hW h0 (k := 3) (lo := 0) (hi := 24) rfl rfl
  refine lv_aload_n hx hb dX12_sumOf_0 rfl (lv_at hl 0 rfl) ?_
  refine j_cV (j_runV (As := []) (rest := []) hx hb hml hown hts hK hS hW (kX12_sums l hS σ (a0 := a0) (h0 := h0) (hI := hI)) 0 gX12_sumOf_X12_sums rfl hvX12_sums ⟨Nat.le_of_ble_eq_true rfl, Nat.le_of_ble_eq_true rfl⟩ rfl rfl h0 rfl rfl rfl rfl hl.1 rfl (Nat.le_of_ble_eq_true rfl) dX12_sumOf_1 ⟨Nat.le_of_ble_eq_true rfl, Nat.le_of_ble_eq_true rfl⟩) hA hF (fun σ_1 H locs hW hF pσ_1 => ?_)
  try dsimp only at pσ_1
  obtain ⟨pσ_1, fpσ_1⟩ := pσ_1
  have q_sums := pσ_1
  have hR := fr_call hR fpσ_1 (by decide)
  have Efile : σ_1 (G a0 0) = σ (G a0 0) := row_fr fpσ_1 hk_file 40 (by decide) (by decide)
  try clear hcf
  have hcf := congrFun Efile 0
  have hI := FI_dep hS h0 hI (kp_fr fpσ_1 (by decide))
  refine lv_iload_n hx hb dX12_sumOf_4 rfl (lv_at hl 1 rfl) ?_
  have hrc_2 : rg x1 := by omega
  by_cases c_2_3 : x1 = 3
  · refine lv_tableIn (tgt := 64) (off := 59) hx hb dX12_sumOf_5 (by rw [jI_toInt hrc_2]; omega) (by rw [jI_toInt hrc_2]; omega) (by rw [jI_toInt hrc_2, c_2_3]; rfl) (by decide) ?_
    refine lv_aload_n hx hb dX12_sumOf_64 rfl (lv_at hl 0 rfl) ?_
    refine j_getI hx hb (C := RX12) (T := TX12) (N := 41) hts inX12_sumOf_X12 hown hK hS hW h0 rfl 27 rfl rfl (by decide) (hts _ flX12_sumOf_258) dX12_sumOf_65 ?_
    have := fbd hW h0 (k := 27) (lo := -2147483648) (hi := 2147483647) rfl rfl
    exact hRet 68 _ _ _ (σ_1 a0 27) _ dX12_sumOf_68 hW hF (by omega) ⟨trivial, hR⟩
  by_cases c_2_4 : x1 = 4
  · refine lv_tableIn (tgt := 69) (off := 64) hx hb dX12_sumOf_5 (by rw [jI_toInt hrc_2]; omega) (by rw [jI_toInt hrc_2]; omega) (by rw [jI_toInt hrc_2, c_2_4]; rfl) (by decide) ?_
    refine lv_aload_n hx hb dX12_sumOf_69 rfl (lv_at hl 0 rfl) ?_
    refine j_getI hx hb (C := RX12) (T := TX12) (N := 41) hts inX12_sumOf_X12 hown hK hS hW h0 rfl 28 rfl rfl (by decide) (hts _ flX12_sumOf_261) dX12_sumOf_70 ?_
    have := fbd hW h0 (k := 28) (lo := -2147483648) (hi := 2147483647) rfl rfl
    exact hRet 73 _ _ _ (σ_1 a0 28) _ dX12_sumOf_73 hW hF (by omega) ⟨trivial, hR⟩
  by_cases c_2_5 : x1 = 5
  · refine lv_tableIn (tgt := 74) (off := 69) hx hb dX12_sumOf_5 (by rw [jI_toInt hrc_2]; omega) (by rw [jI_toInt hrc_2]; omega) (by rw [jI_toInt hrc_2, c_2_5]; rfl) (by decide) ?_
    refine lv_aload_n hx hb dX12_sumOf_74 rfl (lv_at hl 0 rfl) ?_
    refine j_getI hx hb (C := RX12) (T := TX12) (N := 41) hts inX12_sumOf_X12 hown hK hS hW h0 rfl 29 rfl rfl (by decide) (hts _ flX12_sumOf_264) dX12_sumOf_75 ?_
    have := fbd hW h0 (k := 29) (lo := -2147483648) (hi := 2147483647) rfl rfl
    exact hRet 78 _ _ _ (σ_1 a0 29) _ dX12_sumOf_78 hW hF (by omega) ⟨trivial, hR⟩
  by_cases c_2_6 : x1 = 6
  · refine lv_tableIn (tgt := 79) (off := 74) hx hb dX12_sumOf_5 (by rw [jI_toInt hrc_2]; omega) (by rw [jI_toInt hrc_2]; omega) (by rw [jI_toInt hrc_2, c_2_6]; rfl) (by decide) ?_
    refine lv_aload_n hx hb dX12_sumOf_79 rfl (lv_at hl 0 rfl) ?_
    refine j_getI hx hb (C := RX12) (T := TX12) (N := 41) hts inX12_sumOf_X12 hown hK hS hW h0 rfl 30 rfl rfl (by decide) (hts _ flX12_sumOf_270) dX12_sumOf_80 ?_
    have := fbd hW h0 (k := 30) (lo := -2147483648) (hi := 2147483647) rfl rfl
    exact hRet 83 _ _ _ (σ_1 a0 30) _ dX12_sumOf_83 hW hF (by omega) ⟨trivial, hR⟩
  by_cases c_2_7 : x1 = 7
  · refine lv_tableIn (tgt := 84) (off := 79) hx hb dX12_sumOf_5 (by rw [jI_toInt hrc_2]; omega) (by rw [jI_toInt hrc_2]; omega) (by rw [jI_toInt hrc_2, c_2_7]; rfl) (by decide) ?_
    refine lv_aload_n hx hb dX12_sumOf_84 rfl (lv_at hl 0 rfl) ?_
    refine j_getI hx hb (C := RX12) (T := TX12) (N := 41) hts inX12_sumOf_X12 hown hK hS hW h0 rfl 31 rfl rfl (by decide) (hts _ flX12_sumOf_273) dX12_sumOf_85 ?_
    have := fbd hW h0 (k := 31) (lo := -2147483648) (hi := 2147483647) rfl rfl
    exact hRet 88 _ _ _ (σ_1 a0 31) _ dX12_sumOf_88 hW hF (by omega) ⟨trivial, hR⟩
  by_cases c_2_8 : x1 = 8
  · refine lv_tableIn (tgt := 89) (off := 84) hx hb dX12_sumOf_5 (by rw [jI_toInt hrc_2]; omega) (by rw [jI_toInt hrc_2]; omega) (by rw [jI_toInt hrc_2, c_2_8]; rfl) (by decide) ?_
    refine lv_aload_n hx hb dX12_sumOf_89 rfl (lv_at hl 0 rfl) ?_
    refine j_getI hx hb (C := RX12) (T := TX12) (N := 41) hts inX12_sumOf_X12 hown hK hS hW h0 rfl 32 rfl rfl (by decide) (hts _ flX12_sumOf_276) dX12_sumOf_90 ?_
    have := fbd hW h0 (k := 32) (lo := -2147483648) (hi := 2147483647) rfl rfl
    exact hRet 93 _ _ _ (σ_1 a0 32) _ dX12_sumOf_93 hW hF (by omega) ⟨trivial, hR⟩
  by_cases c_2_9 : x1 = 9
  · refine lv_tableIn (tgt := 99) (off := 94) hx hb dX12_sumOf_5 (by rw [jI_toInt hrc_2]; omega) (by rw [jI_toInt hrc_2]; omega) (by rw [jI_toInt hrc_2, c_2_9]; rfl) (by decide) ?_
    refine lv_aload_n hx hb dX12_sumOf_99 rfl (lv_at hl 0 rfl) ?_
    refine j_getR hx hb (C := RX12) (T := TX12) (N := 41) hts inX12_sumOf_X12 hown hK hS hW h0 rfl 0 rfl rfl (by decide) (hts _ flX12_sumOf_7) dX12_sumOf_100 ?_
    refine j_const hx hb dX12_sumOf_103 ?_
    refine lv_iload_n hx hb dX12_sumOf_104 rfl (lv_at hl 1 rfl) ?_
    refine j_add hx hb dX12_sumOf_105 ?_
    refine j_bi hx hb dX12_sumOf_106 (by decide) ?_
    refine j_sub hx hb dX12_sumOf_108 ?_
    refine j_ald hx hb hK hS hW hk_file (n := 17624) rfl (by omega) (by omega) (by decide) dX12_sumOf_109 ?_
    have := abd hW hk_file (n := 17624) (lo := -2147483648) (hi := 2147483647) (i := (3 + x1) - 9) rfl (by omega) (by omega)
    rw [Efile]
    try simp only [Efile] at this
    exact hRet 110 _ _ _ (σ (G a0 0) ((3 + x1) - 9).toNat) _ dX12_sumOf_110 hW hF (by omega) ⟨trivial, hR⟩
  by_cases c_2_10 : x1 = 10
  · refine lv_tableIn (tgt := 99) (off := 94) hx hb dX12_sumOf_5 (by rw [jI_toInt hrc_2]; omega) (by rw [jI_toInt hrc_2]; omega) (by rw [jI_toInt hrc_2, c_2_10]; rfl) (by decide) ?_
    refine lv_aload_n hx hb dX12_sumOf_99 rfl (lv_at hl 0 rfl) ?_
    refine j_getR hx hb (C := RX12) (T := TX12) (N := 41) hts inX12_sumOf_X12 hown hK hS hW h0 rfl 0 rfl rfl (by decide) (hts _ flX12_sumOf_7) dX12_sumOf_100 ?_
    refine j_const hx hb dX12_sumOf_103 ?_
    refine lv_iload_n hx hb dX12_sumOf_104 rfl (lv_at hl 1 rfl) ?_
    refine j_add hx hb dX12_sumOf_105 ?_
    refine j_bi hx hb dX12_sumOf_106 (by decide) ?_
    refine j_sub hx hb dX12_sumOf_108 ?_
    refine j_ald hx hb hK hS hW hk_file (n := 17624) rfl (by omega) (by omega) (by decide) dX12_sumOf_109 ?_
    have := abd hW hk_file (n := 17624) (lo := -2147483648) (hi := 2147483647) (i := (3 + x1) - 9) rfl (by omega) (by omega)
    rw [Efile]
    try simp only [Efile] at this
    exact hRet 110 _ _ _ (σ (G a0 0) ((3 + x1) - 9).toNat) _ dX12_sumOf_110 hW hF (by omega) ⟨trivial, hR⟩
  by_cases c_2_11 : x1 = 11
  · refine lv_tableIn (tgt := 99) (off := 94) hx hb dX12_sumOf_5 (by rw [jI_toInt hrc_2]; omega) (by rw [jI_toInt hrc_2]; omega) (by rw [jI_toInt hrc_2, c_2_11]; rfl) (by decide) ?_
    refine lv_aload_n hx hb dX12_sumOf_99 rfl (lv_at hl 0 rfl) ?_
    refine j_getR hx hb (C := RX12) (T := TX12) (N := 41) hts inX12_sumOf_X12 hown hK hS hW h0 rfl 0 rfl rfl (by decide) (hts _ flX12_sumOf_7) dX12_sumOf_100 ?_
    refine j_const hx hb dX12_sumOf_103 ?_
    refine lv_iload_n hx hb dX12_sumOf_104 rfl (lv_at hl 1 rfl) ?_
    refine j_add hx hb dX12_sumOf_105 ?_
    refine j_bi hx hb dX12_sumOf_106 (by decide) ?_
    refine j_sub hx hb dX12_sumOf_108 ?_
    refine j_ald hx hb hK hS hW hk_file (n := 17624) rfl (by omega) (by omega) (by decide) dX12_sumOf_109 ?_
    have := abd hW hk_file (n := 17624) (lo := -2147483648) (hi := 2147483647) (i := (3 + x1) - 9) rfl (by omega) (by omega)
    rw [Efile]
    try simp only [Efile] at this
    exact hRet 110 _ _ _ (σ (G a0 0) ((3 + x1) - 9).toNat) _ dX12_sumOf_110 hW hF (by omega) ⟨trivial, hR⟩
  by_cases c_2_12 : x1 = 12
  · refine lv_tableIn (tgt := 99) (off := 94) hx hb dX12_sumOf_5 (by rw [jI_toInt hrc_2]; omega) (by rw [jI_toInt hrc_2]; omega) (by rw [jI_toInt hrc_2, c_2_12]; rfl) (by decide) ?_
    refine lv_aload_n hx hb dX12_sumOf_99 rfl (lv_at hl 0 rfl) ?_
    refine j_getR hx hb (C := RX12) (T := TX12) (N := 41) hts inX12_sumOf_X12 hown hK hS hW h0 rfl 0 rfl rfl (by decide) (hts _ flX12_sumOf_7) dX12_sumOf_100 ?_
    refine j_const hx hb dX12_sumOf_103 ?_
    refine lv_iload_n hx hb dX12_sumOf_104 rfl (lv_at hl 1 rfl) ?_
    refine j_add hx hb dX12_sumOf_105 ?_
    refine j_bi hx hb dX12_sumOf_106 (by decide) ?_
    refine j_sub hx hb dX12_sumOf_108 ?_
    refine j_ald hx hb hK hS hW hk_file (n := 17624) rfl (by omega) (by omega) (by decide) dX12_sumOf_109 ?_
    have := abd hW hk_file (n := 17624) (lo := -2147483648) (hi := 2147483647) (i := (3 + x1) - 9) rfl (by omega) (by omega)
    rw [Efile]
    try simp only [Efile] at this
    exact hRet 110 _ _ _ (σ (G a0 0) ((3 + x1) - 9).toNat) _ dX12_sumOf_110 hW hF (by omega) ⟨trivial, hR⟩
  by_cases c_2_13 : x1 = 13
  · refine lv_tableIn (tgt := 94) (off := 89) hx hb dX12_sumOf_5 (by rw [jI_toInt hrc_2]; omega) (by rw [jI_toInt hrc_2]; omega) (by rw [jI_toInt hrc_2, c_2_13]; rfl) (by decide) ?_
    refine lv_aload_n hx hb dX12_sumOf_94 rfl (lv_at hl 0 rfl) ?_
    refine j_getI hx hb (C := RX12) (T := TX12) (N := 41) hts inX12_sumOf_X12 hown hK hS hW h0 rfl 33 rfl rfl (by decide) (hts _ flX12_sumOf_282) dX12_sumOf_95 ?_
    have := fbd hW h0 (k := 33) (lo := -2147483648) (hi := 2147483647) rfl rfl
    exact hRet 98 _ _ _ (σ_1 a0 33) _ dX12_sumOf_98 hW hF (by omega) ⟨trivial, hR⟩
  refine lv_tableOut (tgt := 99) hx hb dX12_sumOf_5 (by rw [jI_toInt hrc_2]; omega) (by decide) ?_
  refine lv_aload_n hx hb dX12_sumOf_99 rfl (lv_at hl 0 rfl) ?_
  refine j_getR hx hb (C := RX12) (T := TX12) (N := 41) hts inX12_sumOf_X12 hown hK hS hW h0 rfl 0 rfl rfl (by decide) (hts _ flX12_sumOf_7) dX12_sumOf_100 ?_
  refine j_const hx hb dX12_sumOf_103 ?_
  refine lv_iload_n hx hb dX12_sumOf_104 rfl (lv_at hl 1 rfl) ?_
  refine j_add hx hb dX12_sumOf_105 ?_
  refine j_bi hx hb dX12_sumOf_106 (by decide) ?_
  refine j_sub hx hb dX12_sumOf_108 ?_
  refine j_ald hx hb hK hS hW hk_file (n := 17624) rfl (by omega) (by omega) (by decide) dX12_sumOf_109 ?_
  have := abd hW hk_file (n := 17624) (lo := -2147483648) (hi := 2147483647) (i := (3 + x1) - 9) rfl (by omega) (by omega)
  rw [Efile]
  try simp only [Efile] at this
  exact hRet 110 _ _ _ (σ (G a0 0) ((3 + x1) - 9).toNat) _ dX12_sumOf_110 hW hF (by omega) ⟨trivial, hR⟩
abbrev wr_X12_count : List Nat := [13003, 13004, 13005, 13008, 13027, 13028, 13029, 13030, 13031, 13032, 13033, 41000, 42000, 43000]
theorem flX12_count_7 : Cond.fieldLink RX12 7 "PageTrieModel" "file" "[I" ∈ wsX12_count := List.mem_of_getElem? (i := 1) rfl
theorem flX12_count_147 : Cond.fieldLink RX12 147 "PageTrieModel" "taped" "I" ∈ wsX12_count := List.mem_of_getElem? (i := 2) rfl
theorem inX12_count_X12 : ∀ w ∈ u_ws RX12 TX12 41, w ∈ wsX12_count := mem_r _ [106, 107, 108, 109, 110, 111, 112, 113, 114, 115, 116, 117, 118, 119, 120, 121, 122, 123, 124, 125, 126, 127, 128, 129, 130, 131, 132, 133, 134, 135, 136, 137, 138, 139, 140, 141, 142, 143, 144, 145, 146] rfl
theorem hvX12_count : yX12_count.cls = RX12 ∧ yX12_count.cls ≠ "java/lang/invoke/MethodHandle" ∧ yX12_count.cls ≠ "java/lang/invoke/VarHandle" ∧ (parseMethodDescriptor yX12_count.desc).map (fun d => d.parameters.length) = some 1 := by decide +kernel
set_option maxHeartbeats 4000000 in
set_option maxRecDepth 100000 in
theorem kX12_count (l : Launch) {D : va_G} {cA : Nat → ClassId} {τ : Nat → Nat} {G : Nat → Nat → Nat} {L : List Nat} (hS : SW τ G L) (σ : Nat → Nat → Int) {a0 : Nat} (h0 : τ a0 = 13) {x1 : Int} (r1 : rg x1) (hI : FI G a0 σ) : Met l yX12_count wsX12_count ({ frames := 7, cells := 0, slots := 0, locals := 154 }) (jP D cA τ G L σ [.ref a0, .int (jI x1)]) (jQI D cA τ G L (fun r σ' => (True) ∧ fr wr_X12_count τ σ σ')) 0 0 (fun q => q ∈ L) := by
  refine j_metI (by decide +kernel) rfl (Nat.le_of_ble_eq_true rfl) ?_
  intro p e s m args below meth c Q hx hb hml hown hts hK hW hRet ls hl
  have hl : lv_has ls 2 [(0, .ref a0), (1, .int (jI x1))] := hl
  have hA : ∀ q ∈ L, (fun q => q ∈ L) q := fun _ h => h
  have hF : va_S (fun q => q ∈ L) s.heap s.heap [] := va_S.rf
  have hR : fr wr_X12_count τ σ σ := fr_rf
  have hk_file : τ (G a0 0) = 40 := gty hS h0 (k := 0) rfl rfl
  have := FI_bd hI
  have := fbd hW h0 (k := 3) (lo := 0) (hi := 24) rfl rfl
  refine lv_iload_n hx hb dX12_count_0 rfl (lv_at hl 1 rfl) ?_
  refine j_const hx hb dX12_count_1 ?_
  refine j_bi hx hb dX12_count_2 (by decide) ?_
  refine j_cR (j_runS (As := [.int (jI x1), .int (jI 3), .int (jI 13)]) (rest := []) hx hb hml hown hts hK hW (kX12_in l hS σ (x0 := x1) (r0 := (by omega)) (x1 := 3) (r1 := (by decide)) (x2 := 13) (r2 := (by decide))) 3 gX12_count_X12_in rfl hsX12_in ⟨Nat.le_of_ble_eq_true rfl, Nat.le_of_ble_eq_true rfl⟩ rfl rfl rfl hl.1 rfl (Nat.le_of_ble_eq_true rfl) dX12_count_4 ⟨Nat.le_of_ble_eq_true rfl, Nat.le_of_ble_eq_true rfl⟩) (fun v_1 rv_1 pv_1 => ?_)
  try dsimp only at pv_1
  have q_in := pv_1
  refine j_if_eq (tgt := 16) hx hb (by omega) dX12_count_7 (by decide) (fun c_2 => ?_) (fun c_2 => ?_)
  · refine lv_iload_n hx hb dX12_count_16 rfl (lv_at hl 1 rfl) ?_
    have hrc_3 : rg x1 := by omega
    by_cases c_3_0 : x1 = 0
    · refine lv_lookup (tgt := 68) (off := 51) hx hb dX12_count_17 (by decide) (by rw [jI_toInt hrc_3, c_3_0]; decide) (by decide) ?_
      refine lv_aload_n hx hb dX12_count_68 rfl (lv_at hl 0 rfl) ?_
      refine j_cR (j_runV (As := []) (rest := []) hx hb hml hown hts hK hS hW (kX12_many l hS σ (a0 := a0) (h0 := h0)) 0 gX12_count_X12_many rfl hvX12_many ⟨Nat.le_of_ble_eq_true rfl, Nat.le_of_ble_eq_true rfl⟩ rfl rfl h0 rfl rfl rfl rfl hl.1 rfl (Nat.le_of_ble_eq_true rfl) dX12_count_69 ⟨Nat.le_of_ble_eq_true rfl, Nat.le_of_ble_eq_true rfl⟩) (fun v_4 rv_4 pv_4 => ?_)
      try dsimp only at pv_4
      have q_many := pv_4
      have := FI_bd hI
      exact hRet 72 _ _ _ v_4 _ dX12_count_72 hW hF (by omega) ⟨trivial, hR⟩
    by_cases c_3_1 : x1 = 1
    · refine lv_lookup (tgt := 73) (off := 56) hx hb dX12_count_17 (by decide) (by rw [jI_toInt hrc_3, c_3_1]; decide) (by decide) ?_
      refine lv_aload_n hx hb dX12_count_73 rfl (lv_at hl 0 rfl) ?_
      refine j_getR hx hb (C := RX12) (T := TX12) (N := 41) hts inX12_count_X12 hown hK hS hW h0 rfl 0 rfl rfl (by decide) (hts _ flX12_count_7) dX12_count_74 ?_
      refine j_const hx hb dX12_count_77 ?_
      refine j_ald hx hb hK hS hW hk_file (n := 17624) rfl (by omega) (by omega) (by decide) dX12_count_78 ?_
      have : -2147483648 ≤ σ (G a0 0) 1 ∧ σ (G a0 0) 1 ≤ 2147483647 := abd hW hk_file (n := 17624) (lo := -2147483648) (hi := 2147483647) (i := 1) rfl (by decide) (by decide)
      refine j_eq (z := σ (G a0 0) 1) rfl ?_
      have := FI_bd hI
      exact hRet 79 _ _ _ (σ (G a0 0) 1) _ dX12_count_79 hW hF (by omega) ⟨trivial, hR⟩
    by_cases c_3_2 : x1 = 2
    · refine lv_lookup (tgt := 80) (off := 63) hx hb dX12_count_17 (by decide) (by rw [jI_toInt hrc_3, c_3_2]; decide) (by decide) ?_
      refine lv_aload_n hx hb dX12_count_80 rfl (lv_at hl 0 rfl) ?_
      refine j_getR hx hb (C := RX12) (T := TX12) (N := 41) hts inX12_count_X12 hown hK hS hW h0 rfl 0 rfl rfl (by decide) (hts _ flX12_count_7) dX12_count_81 ?_
      refine j_const hx hb dX12_count_84 ?_
      refine j_ald hx hb hK hS hW hk_file (n := 17624) rfl (by omega) (by omega) (by decide) dX12_count_85 ?_
      have : -2147483648 ≤ σ (G a0 0) 2 ∧ σ (G a0 0) 2 ≤ 2147483647 := abd hW hk_file (n := 17624) (lo := -2147483648) (hi := 2147483647) (i := 2) rfl (by decide) (by decide)
      refine j_eq (z := σ (G a0 0) 2) rfl ?_
      have := FI_bd hI
      exact hRet 86 _ _ _ (σ (G a0 0) 2) _ dX12_count_86 hW hF (by omega) ⟨trivial, hR⟩
    by_cases c_3_14 : x1 = 14
    · refine lv_lookup (tgt := 87) (off := 70) hx hb dX12_count_17 (by decide) (by rw [jI_toInt hrc_3, c_3_14]; decide) (by decide) ?_
      refine lv_aload_n hx hb dX12_count_87 rfl (lv_at hl 0 rfl) ?_
      refine j_cR (j_runV (As := []) (rest := []) hx hb hml hown hts hK hS hW (kX12_valuesAll l hS σ (a0 := a0) (h0 := h0) (hI := hI)) 0 gX12_count_X12_valuesAll rfl hvX12_valuesAll ⟨Nat.le_of_ble_eq_true rfl, Nat.le_of_ble_eq_true rfl⟩ rfl rfl h0 rfl rfl rfl rfl hl.1 rfl (Nat.le_of_ble_eq_true rfl) dX12_count_88 ⟨Nat.le_of_ble_eq_true rfl, Nat.le_of_ble_eq_true rfl⟩) (fun v_5 rv_5 pv_5 => ?_)
      try dsimp only at pv_5
      have q_valuesAll := pv_5
      exact hRet 91 _ _ _ v_5 _ dX12_count_91 hW hF (by omega) ⟨trivial, hR⟩
    by_cases c_3_15 : x1 = 15
    · refine lv_lookup (tgt := 92) (off := 75) hx hb dX12_count_17 (by decide) (by rw [jI_toInt hrc_3, c_3_15]; decide) (by decide) ?_
      refine lv_aload_n hx hb dX12_count_92 rfl (lv_at hl 0 rfl) ?_
      refine j_getI hx hb (C := RX12) (T := TX12) (N := 41) hts inX12_count_X12 hown hK hS hW h0 rfl 11 rfl rfl (by decide) (hts _ flX12_count_147) dX12_count_93 ?_
      have := fbd hW h0 (k := 11) (lo := 0) (hi := 240) rfl rfl
      exact hRet 96 _ _ _ (σ a0 11) _ dX12_count_96 hW hF (by omega) ⟨trivial, hR⟩
    refine lv_lookup (tgt := 97) (off := 80) hx hb dX12_count_17 (by decide) (by rw [jI_toInt hrc_3]; simp [Op.lookupswitch.offset, Ne.symm c_3_0, Ne.symm c_3_1, Ne.symm c_3_2, Ne.symm c_3_14, Ne.symm c_3_15]) (by decide) ?_
    refine j_const hx hb dX12_count_97 ?_
    exact hRet 98 _ _ _ (-1) _ dX12_count_98 hW hF (by decide) ⟨trivial, hR⟩
  · refine lv_aload_n hx hb dX12_count_10 rfl (lv_at hl 0 rfl) ?_
    refine lv_iload_n hx hb dX12_count_11 rfl (lv_at hl 1 rfl) ?_
    refine j_cI (j_runV (As := [.int (jI x1)]) (rest := []) hx hb hml hown hts hK hS hW (kX12_sumOf l hS σ (a0 := a0) (h0 := h0) (x1 := x1) (r1 := (by omega)) (hI := hI) (q0 := (by omega)) (q1 := (by omega))) 1 gX12_count_X12_sumOf rfl hvX12_sumOf ⟨Nat.le_of_ble_eq_true rfl, Nat.le_of_ble_eq_true rfl⟩ rfl rfl h0 rfl rfl rfl rfl hl.1 rfl (Nat.le_of_ble_eq_true rfl) dX12_count_12 ⟨Nat.le_of_ble_eq_true rfl, Nat.le_of_ble_eq_true rfl⟩) hA hF (fun v_6 σ_7 H locs hW hF rv_6 pv_6 => ?_)
    try dsimp only at pv_6
    obtain ⟨pv_6, fpv_6⟩ := pv_6
    have q_sumOf := pv_6
    have hR := fr_call hR fpv_6 (by decide)
    have Efile : σ_7 (G a0 0) = σ (G a0 0) := row_fr fpv_6 hk_file 40 (by decide) (by decide)
    try clear hcf
    have hcf := congrFun Efile 0
    have hI := FI_dep hS h0 hI (kp_fr fpv_6 (by decide))
    exact hRet 15 _ _ _ v_6 _ dX12_count_15 hW hF (by omega) ⟨trivial, hR⟩
abbrev wr_X12_layer : List Nat := [13003, 13004, 13005, 13008, 13025, 41000, 42000, 43000]
theorem flX12_layer_7 : Cond.fieldLink RX12 7 "PageTrieModel" "file" "[I" ∈ wsX12_layer := List.mem_of_getElem? (i := 4) rfl
theorem flX12_layer_84 : Cond.fieldLink RX12 84 "PageTrieModel" "low" "I" ∈ wsX12_layer := List.mem_of_getElem? (i := 3) rfl
theorem flX12_layer_90 : Cond.fieldLink RX12 90 "PageTrieModel" "high" "I" ∈ wsX12_layer := List.mem_of_getElem? (i := 2) rfl
theorem flX12_layer_97 : Cond.fieldLink RX12 97 "PageTrieModel" "entries" "I" ∈ wsX12_layer := List.mem_of_getElem? (i := 5) rfl
theorem flX12_layer_240 : Cond.fieldLink RX12 240 "PageTrieModel" "layerDepth" "I" ∈ wsX12_layer := List.mem_of_getElem? (i := 1) rfl
theorem inX12_layer_X12 : ∀ w ∈ u_ws RX12 TX12 41, w ∈ wsX12_layer := mem_r _ [73, 74, 75, 76, 77, 78, 79, 80, 81, 82, 83, 84, 85, 86, 87, 88, 89, 90, 91, 92, 93, 94, 95, 96, 97, 98, 99, 100, 101, 102, 103, 104, 105, 106, 107, 108, 109, 110, 111, 112, 113] rfl
theorem hvX12_layer : yX12_layer.cls = RX12 ∧ yX12_layer.cls ≠ "java/lang/invoke/MethodHandle" ∧ yX12_layer.cls ≠ "java/lang/invoke/VarHandle" ∧ (parseMethodDescriptor yX12_layer.desc).map (fun d => d.parameters.length) = some 2 := by decide +kernel
set_option maxHeartbeats 4000000 in
set_option maxRecDepth 100000 in
theorem kX12_layer (l : Launch) {D : va_G} {cA : Nat → ClassId} {τ : Nat → Nat} {G : Nat → Nat → Nat} {L : List Nat} (hS : SW τ G L) (σ : Nat → Nat → Int) {a0 : Nat} (h0 : τ a0 = 13) {x1 : Int} (r1 : rg x1) {x2 : Int} (r2 : rg x2) (hI : FI G a0 σ) : Met l yX12_layer wsX12_layer ({ frames := 5, cells := 0, slots := 0, locals := 112 }) (jP D cA τ G L σ [.ref a0, .int (jI x1), .int (jI x2)]) (jQI D cA τ G L (fun r σ' => (True) ∧ fr wr_X12_layer τ σ σ')) 0 0 (fun q => q ∈ L) := by
  refine j_metI (by decide +kernel) rfl (Nat.le_of_ble_eq_true rfl) ?_
  intro p e s m args below meth c Q hx hb hml hown hts hK hW hRet ls hl
  have hl : lv_has ls 4 [(0, .ref a0), (1, .int (jI x1)), (2, .int (jI x2))] := hl
  have hA : ∀ q ∈ L, (fun q => q ∈ L) q := fun _ h => h
  have hF : va_S (fun q => q ∈ L) s.heap s.heap [] := va_S.rf
  have hR : fr wr_X12_layer τ σ σ := fr_rf
  have hk_file : τ (G a0 0) = 40 := gty hS h0 (k := 0) rfl rfl
  have := FI_bd hI
  have := fbd hW h0 (k := 3) (lo := 0) (hi := 24) rfl rfl
  refine lv_iload_n hx hb dX12_layer_0 rfl (lv_at hl 1 rfl) ?_
  refine j_if_lt (tgt := 26) hx hb (by omega) dX12_layer_1 (by decide) (fun c_1 => ?_) (fun c_1 => ?_)
  · refine j_const hx hb dX12_layer_26 ?_
    exact hRet 27 _ _ _ (-1) _ dX12_layer_27 hW hF (by decide) ⟨trivial, hR⟩
  · refine lv_iload_n hx hb dX12_layer_4 rfl (lv_at hl 2 rfl) ?_
    refine j_if_lt (tgt := 26) hx hb (by omega) dX12_layer_5 (by decide) (fun c_2 => ?_) (fun c_2 => ?_)
    · refine j_const hx hb dX12_layer_26 ?_
      exact hRet 27 _ _ _ (-1) _ dX12_layer_27 hW hF (by decide) ⟨trivial, hR⟩
    · refine lv_iload_n hx hb dX12_layer_8 rfl (lv_at hl 2 rfl) ?_
      refine j_const hx hb dX12_layer_9 ?_
      refine j_bi hx hb dX12_layer_10 (by decide) ?_
      refine j_cR (j_runS (As := [.int (jI x2), .int (jI 4), .int (jI 9)]) (rest := []) hx hb hml hown hts hK hW (kX12_in l hS σ (x0 := x2) (r0 := (by omega)) (x1 := 4) (r1 := (by decide)) (x2 := 9) (r2 := (by decide))) 3 gX12_layer_X12_in rfl hsX12_in ⟨Nat.le_of_ble_eq_true rfl, Nat.le_of_ble_eq_true rfl⟩ rfl rfl rfl hl.1 rfl (Nat.le_of_ble_eq_true rfl) dX12_layer_12 ⟨Nat.le_of_ble_eq_true rfl, Nat.le_of_ble_eq_true rfl⟩) (fun v_3 rv_3 pv_3 => ?_)
      try dsimp only at pv_3
      have q_in := pv_3
      refine j_if_ne (tgt := 26) hx hb (by omega) dX12_layer_15 (by decide) (fun c_4 => ?_) (fun c_4 => ?_)
      · refine j_const hx hb dX12_layer_26 ?_
        exact hRet 27 _ _ _ (-1) _ dX12_layer_27 hW hF (by decide) ⟨trivial, hR⟩
      · refine lv_aload_n hx hb dX12_layer_18 rfl (lv_at hl 0 rfl) ?_
        refine lv_iload_n hx hb dX12_layer_19 rfl (lv_at hl 1 rfl) ?_
        refine j_cI (j_runV (As := [.int (jI x1)]) (rest := []) hx hb hml hown hts hK hS hW (kX12_goesLayer l hS σ (a0 := a0) (h0 := h0) (x1 := x1) (r1 := (by omega)) (hI := hI)) 1 gX12_layer_X12_goesLayer rfl hvX12_goesLayer ⟨Nat.le_of_ble_eq_true rfl, Nat.le_of_ble_eq_true rfl⟩ rfl rfl h0 rfl rfl rfl rfl hl.1 rfl (Nat.le_of_ble_eq_true rfl) dX12_layer_20 ⟨Nat.le_of_ble_eq_true rfl, Nat.le_of_ble_eq_true rfl⟩) hA hF (fun v_5 σ_6 H locs hW hF rv_5 pv_5 => ?_)
        try dsimp only at pv_5
        obtain ⟨bpv_5, pv_5, fpv_5⟩ := pv_5
        have q_goesLayer := pv_5
        have hR := fr_call hR fpv_5 (by decide)
        have Efile : σ_6 (G a0 0) = σ (G a0 0) := row_fr fpv_5 hk_file 40 (by decide) (by decide)
        try clear hcf
        have hcf := congrFun Efile 0
        have hI := FI_dep hS h0 hI (kp_fr fpv_5 (by decide))
        refine j_if_ne (tgt := 28) hx hb (by omega) dX12_layer_23 (by decide) (fun c_7 => ?_) (fun c_7 => ?_)
        · refine lv_aload_n hx hb dX12_layer_28 rfl (lv_at hl 0 rfl) ?_
          refine lv_aload_n hx hb dX12_layer_29 rfl (lv_at hl 0 rfl) ?_
          refine j_getI hx hb (C := RX12) (T := TX12) (N := 41) hts inX12_layer_X12 hown hK hS hW h0 rfl 25 rfl rfl (by decide) (hts _ flX12_layer_240) dX12_layer_30 ?_
          have := fbd hW h0 (k := 25) (lo := -2147483648) (hi := 2147483647) rfl rfl
          have hldb := q_goesLayer (by omega)
          have hmb := mul_bd (a := (σ_6 a0 25)) (b := σ (G a0 0) 1) (A := 24) (B := 8) (by omega) (by omega) (by omega) (by omega)
          refine j_cV (j_runV (As := [.int (jI (σ_6 a0 25))]) (rest := []) hx hb hml hown hts hK hS hW (kX12_findsEntries l hS σ_6 (a0 := a0) (h0 := h0) (x1 := σ_6 a0 25) (r1 := (by omega)) (hI := hI) (q0 := (by omega)) (q1 := (by omega))) 1 gX12_layer_X12_findsEntries rfl hvX12_findsEntries ⟨Nat.le_of_ble_eq_true rfl, Nat.le_of_ble_eq_true rfl⟩ rfl rfl h0 rfl rfl rfl rfl hl.1 rfl (Nat.le_of_ble_eq_true rfl) dX12_layer_33 ⟨Nat.le_of_ble_eq_true rfl, Nat.le_of_ble_eq_true rfl⟩) hA hF (fun σ_8 H locs hW hF pσ_8 => ?_)
          try dsimp only at pσ_8
          obtain ⟨pσ_8, fpσ_8⟩ := pσ_8
          try simp only [Efile] at pσ_8
          have q_findsEntries := pσ_8
          have hR := fr_call hR fpσ_8 (by decide)
          have Efile : σ_8 (G a0 0) = σ (G a0 0) := (row_fr fpσ_8 hk_file 40 (by decide) (by decide)).trans Efile
          try clear hcf
          have hcf := congrFun Efile 0
          have Eld : σ_8 a0 25 = σ_6 a0 25 := fr_at fpσ_8 h0 25 13025 rfl (by decide)
          have hI := FI_dep hS h0 hI (kp_fr fpσ_8 (by decide))
          refine lv_aload_n hx hb dX12_layer_36 rfl (lv_at hl 0 rfl) ?_
          refine j_getI hx hb (C := RX12) (T := TX12) (N := 41) hts inX12_layer_X12 hown hK hS hW h0 rfl 5 rfl rfl (by decide) (hts _ flX12_layer_90) dX12_layer_37 ?_
          have := fbd hW h0 (k := 5) (lo := 0) (hi := 150) rfl rfl
          refine lv_aload_n hx hb dX12_layer_40 rfl (lv_at hl 0 rfl) ?_
          refine j_getI hx hb (C := RX12) (T := TX12) (N := 41) hts inX12_layer_X12 hown hK hS hW h0 rfl 4 rfl rfl (by decide) (hts _ flX12_layer_84) dX12_layer_41 ?_
          have := fbd hW h0 (k := 4) (lo := 0) (hi := 150) rfl rfl
          refine j_sub hx hb dX12_layer_44 ?_
          refine lv_istore_n (lv' := [(3, .int (jI ((σ_8 a0 5) - (σ_8 a0 4)))), (0, .ref a0), (1, .int (jI x1)), (2, .int (jI x2))]) hx hb dX12_layer_45 rfl hl (by decide) rfl (fun ls hl => ?_)
          refine lv_iload_n hx hb dX12_layer_46 rfl (lv_at hl 3 rfl) ?_
          have hrc_9 : rg x2 := by omega
          by_cases c_9_0 : x2 = 0
          · refine lv_tableIn (tgt := 76) (off := 29) hx hb dX12_layer_47 (by rw [jI_toInt hrc_9]; omega) (by rw [jI_toInt hrc_9]; omega) (by rw [jI_toInt hrc_9, c_9_0]; rfl) (by decide) ?_
            refine lv_aload_n hx hb dX12_layer_76 rfl (lv_at hl 1 rfl) ?_
            refine j_getI hx hb (C := RX12) (T := TX12) (N := 41) hts inX12_layer_X12 hown hK hS hW h0 rfl 25 rfl rfl (by decide) (hts _ flX12_layer_240) dX12_layer_77 ?_
            rw [Eld]
            refine lv_aload_n hx hb dX12_layer_80 rfl (lv_at hl 1 rfl) ?_
            refine j_getR hx hb (C := RX12) (T := TX12) (N := 41) hts inX12_layer_X12 hown hK hS hW h0 rfl 0 rfl rfl (by decide) (hts _ flX12_layer_7) dX12_layer_81 ?_
            refine j_const hx hb dX12_layer_84 ?_
            refine j_ald hx hb hK hS hW hk_file (n := 17624) rfl (by omega) (by omega) (by decide) dX12_layer_85 ?_
            have : -2147483648 ≤ σ_8 (G a0 0) 1 ∧ σ_8 (G a0 0) 1 ≤ 2147483647 := abd hW hk_file (n := 17624) (lo := -2147483648) (hi := 2147483647) (i := 1) rfl (by decide) (by decide)
            rw [Efile]
            try simp only [Efile] at this
            refine j_eq (z := σ (G a0 0) 1) rfl ?_
            have := FI_bd hI; rw [Efile] at this
            refine j_mul hx hb dX12_layer_86 ?_
            exact hRet 87 _ _ _ ((σ_6 a0 25) * (σ (G a0 0) 1)) _ dX12_layer_87 hW hF (by omega) ⟨trivial, hR⟩
          by_cases c_9_1 : x2 = 1
          · refine lv_tableIn (tgt := 88) (off := 41) hx hb dX12_layer_47 (by rw [jI_toInt hrc_9]; omega) (by rw [jI_toInt hrc_9]; omega) (by rw [jI_toInt hrc_9, c_9_1]; rfl) (by decide) ?_
            refine lv_aload_n hx hb dX12_layer_88 rfl (lv_at hl 1 rfl) ?_
            refine j_getI hx hb (C := RX12) (T := TX12) (N := 41) hts inX12_layer_X12 hown hK hS hW h0 rfl 8 rfl rfl (by decide) (hts _ flX12_layer_97) dX12_layer_89 ?_
            have := fbd hW h0 (k := 8) (lo := 0) (hi := 150) rfl rfl
            exact hRet 92 _ _ _ (σ_8 a0 8) _ dX12_layer_92 hW hF (by omega) ⟨trivial, hR⟩
          by_cases c_9_2 : x2 = 2
          · refine lv_tableIn (tgt := 93) (off := 46) hx hb dX12_layer_47 (by rw [jI_toInt hrc_9]; omega) (by rw [jI_toInt hrc_9]; omega) (by rw [jI_toInt hrc_9, c_9_2]; rfl) (by decide) ?_
            refine lv_aload_n hx hb dX12_layer_93 rfl (lv_at hl 1 rfl) ?_
            refine lv_aload_n hx hb dX12_layer_94 rfl (lv_at hl 1 rfl) ?_
            refine j_getI hx hb (C := RX12) (T := TX12) (N := 41) hts inX12_layer_X12 hown hK hS hW h0 rfl 25 rfl rfl (by decide) (hts _ flX12_layer_240) dX12_layer_95 ?_
            rw [Eld]
            refine j_cR (j_runV (As := [.int (jI (σ_6 a0 25))]) (rest := []) hx hb hml hown hts hK hS hW (kX12_pagesOf l hS σ_8 (a0 := a0) (h0 := h0) (x1 := σ_6 a0 25) (r1 := (by omega)) (q0 := (by omega)) (q1 := (by omega))) 1 gX12_layer_X12_pagesOf rfl hvX12_pagesOf ⟨Nat.le_of_ble_eq_true rfl, Nat.le_of_ble_eq_true rfl⟩ rfl rfl h0 rfl rfl rfl rfl hl.1 rfl (Nat.le_of_ble_eq_true rfl) dX12_layer_98 ⟨Nat.le_of_ble_eq_true rfl, Nat.le_of_ble_eq_true rfl⟩) (fun v_10 rv_10 pv_10 => ?_)
            try dsimp only at pv_10
            try simp only [Efile, Eld] at pv_10
            have q_pagesOf := pv_10
            exact hRet 101 _ _ _ v_10 _ dX12_layer_101 hW hF (by omega) ⟨trivial, hR⟩
          by_cases c_9_3 : x2 = 3
          · refine lv_tableIn (tgt := 102) (off := 55) hx hb dX12_layer_47 (by rw [jI_toInt hrc_9]; omega) (by rw [jI_toInt hrc_9]; omega) (by rw [jI_toInt hrc_9, c_9_3]; rfl) (by decide) ?_
            refine lv_iload_n hx hb dX12_layer_102 rfl (lv_at hl 0 rfl) ?_
            exact hRet 103 _ _ _ ((σ_8 a0 5) - (σ_8 a0 4)) _ dX12_layer_103 hW hF (by omega) ⟨trivial, hR⟩
          refine lv_tableOut (tgt := 104) hx hb dX12_layer_47 (by rw [jI_toInt hrc_9]; omega) (by decide) ?_
          refine lv_aload_n hx hb dX12_layer_104 rfl (lv_at hl 1 rfl) ?_
          refine lv_iload_n hx hb dX12_layer_105 rfl (lv_at hl 3 rfl) ?_
          refine j_bi hx hb dX12_layer_106 (by decide) ?_
          refine j_sub hx hb dX12_layer_108 ?_
          refine j_cR (j_runV (As := [.int (jI (x2 - 10))]) (rest := []) hx hb hml hown hts hK hS hW (kX12_pageSize l hS σ_8 (a0 := a0) (h0 := h0) (x1 := x2 - 10) (r1 := (by omega)) (q0 := (by omega)) (q1 := (by omega))) 1 gX12_layer_X12_pageSize rfl hvX12_pageSize ⟨Nat.le_of_ble_eq_true rfl, Nat.le_of_ble_eq_true rfl⟩ rfl rfl h0 rfl rfl rfl rfl hl.1 rfl (Nat.le_of_ble_eq_true rfl) dX12_layer_109 ⟨Nat.le_of_ble_eq_true rfl, Nat.le_of_ble_eq_true rfl⟩) (fun v_11 rv_11 pv_11 => ?_)
          try dsimp only at pv_11
          have q_pageSize := pv_11
          exact hRet 112 _ _ _ v_11 _ dX12_layer_112 hW hF (by omega) ⟨trivial, hR⟩
        · refine j_const hx hb dX12_layer_26 ?_
          exact hRet 27 _ _ _ (-1) _ dX12_layer_27 hW hF (by decide) ⟨trivial, hR⟩
