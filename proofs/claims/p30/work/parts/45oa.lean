abbrev wr_X12_keep : List Nat := [13001, 40000]
theorem flX12_keep_385 : Cond.fieldLink RX12 385 "PageTrieModel" "isKept" "Z" ∈ wsX12_keep := List.mem_of_getElem? (i := 1) rfl
theorem inX12_keep_X12 : ∀ w ∈ u_ws RX12 TX12 41, w ∈ wsX12_keep := mem_r _ [12, 13, 14, 15, 16, 17, 18, 19, 20, 21, 22, 23, 24, 25, 26, 27, 28, 29, 30, 31, 32, 33, 34, 35, 36, 37, 38, 39, 40, 41, 42, 43, 44, 45, 46, 47, 48, 49, 50, 51, 52] rfl
theorem hvX12_keep : yX12_keep.cls = RX12 ∧ yX12_keep.cls ≠ "java/lang/invoke/MethodHandle" ∧ yX12_keep.cls ≠ "java/lang/invoke/VarHandle" ∧ (parseMethodDescriptor yX12_keep.desc).map (fun d => d.parameters.length) = some 0 := by decide +kernel
set_option maxHeartbeats 4000000 in
set_option maxRecDepth 100000 in
theorem kX12_keep (l : Launch) {D : va_G} {cA : Nat → ClassId} {τ : Nat → Nat} {G : Nat → Nat → Nat} {L : List Nat} (hS : SW τ G L) (σ : Nat → Nat → Int) {a0 : Nat} (h0 : τ a0 = 13) (hI : FI G a0 σ) (q0 : FM (σ (G a0 0))) : Met l yX12_keep wsX12_keep ({ frames := 1, cells := 0, slots := 0, locals := 23 }) (jP D cA τ G L σ [.ref a0]) (jQI D cA τ G L (fun r σ' => ((FI G a0 σ') ∧ (FM (σ' (G a0 0))) ∧ (σ' a0 1 = 1)) ∧ fr wr_X12_keep τ σ σ')) 0 0 (fun q => q ∈ L) := by
  refine j_metI (by decide +kernel) rfl (Nat.le_of_ble_eq_true rfl) ?_
  intro p e s m args below meth c Q hx hb hml hown hts hK hW hRet ls hl
  have hl : lv_has ls 1 [(0, .ref a0)] := hl
  have hA : ∀ q ∈ L, (fun q => q ∈ L) q := fun _ h => h
  have hF : va_S (fun q => q ∈ L) s.heap s.heap [] := va_S.rf
  have hR : fr wr_X12_keep τ σ σ := fr_rf
  have hk_file : τ (G a0 0) = 40 := gty hS h0 (k := 0) rfl rfl
  have := FI_bd hI
  have := fbd hW h0 (k := 3) (lo := 0) (hi := 24) rfl rfl
  have hI0 := hI
  refine lv_aload_n hx hb dX12_keep_0 rfl (lv_at hl 0 rfl) ?_
  refine j_const hx hb dX12_keep_1 ?_
  refine j_putI hx hb (C := RX12) (T := TX12) (N := 41) hts inX12_keep_X12 tyX12 tyX12_ok nmX12 hown hK hS hA hW hF h0 rfl 1 (lo := 0) (hi := 1) rfl rfl (by decide) (hts _ flX12_keep_385) rfl .boolean rfl (by omega) (nar01 (by omega)) (fit01 (by omega)) dX12_keep_2 (fun σ_1 H locs e_2 hW hF => ?_)
  have hR := fr_up hR e_2 h0 13001 rfl (by decide)
  have Efile : σ_1 (G a0 0) = σ (G a0 0) := row_up e_2 h0 hk_file (by decide)
  try clear hcf
  have hcf := congrFun Efile 0
  try clear hfk
  have hfk : σ_1 a0 1 = 1 := by rw [e_2]; exact up2_at _ _ _ _
  have hkk := hfk
  refine lv_aload_n hx hb dX12_keep_5 rfl (lv_at hl 0 rfl) ?_
  refine j_const hx hb dX12_keep_6 ?_
  refine j_const hx hb dX12_keep_7 ?_
  refine j_cV (j_runV (As := [.int (jI 0), .int (jI 1)]) (rest := []) hx hb hml hown hts hK hS hW (kX12_copies l hS σ_1 (a0 := a0) (h0 := h0) (x1 := 0) (r1 := (by decide)) (x2 := 1) (r2 := (by decide)) (q0 := (by omega)) (q1 := (by omega)) (q2 := (by omega)) (q3 := (by omega)) (q4 := (by omega))) 2 gX12_keep_X12_copies rfl hvX12_copies ⟨Nat.le_of_ble_eq_true rfl, Nat.le_of_ble_eq_true rfl⟩ rfl rfl h0 rfl rfl rfl rfl hl.1 rfl (Nat.le_of_ble_eq_true rfl) dX12_keep_8 ⟨Nat.le_of_ble_eq_true rfl, Nat.le_of_ble_eq_true rfl⟩) hA hF (fun σ_3 H locs hW hF pσ_3 => ?_)
  try dsimp only at pσ_3
  obtain ⟨pσ_3, fpσ_3⟩ := pσ_3
  try simp only [Efile] at pσ_3
  have q_copies := pσ_3
  have hR := fr_call hR fpσ_3 (by decide)
  have Ekept : σ_3 a0 1 = σ_1 a0 1 := fr_at fpσ_3 h0 1 13001 rfl (by decide)
  have hfk2 := FI_keep hI0 q0 (by first | exact q_copies | (rw [Efile] at q_copies; exact q_copies))
  have hI := hfk2.1
  refine lv_aload_n hx hb dX12_keep_11 rfl (lv_at hl 0 rfl) ?_
  refine j_cR (j_runV (As := []) (rest := []) hx hb hml hown hts hK hS hW (kX12_many l hS σ_3 (a0 := a0) (h0 := h0)) 0 gX12_keep_X12_many rfl hvX12_many ⟨Nat.le_of_ble_eq_true rfl, Nat.le_of_ble_eq_true rfl⟩ rfl rfl h0 rfl rfl rfl rfl hl.1 rfl (Nat.le_of_ble_eq_true rfl) dX12_keep_12 ⟨Nat.le_of_ble_eq_true rfl, Nat.le_of_ble_eq_true rfl⟩) (fun v_4 rv_4 pv_4 => ?_)
  try dsimp only at pv_4
  try simp only [Ekept] at pv_4
  have q_many := pv_4
  have := FI_bd hI
  exact hRet 15 _ _ _ v_4 _ dX12_keep_15 hW hF (by omega) ⟨(by first | exact ⟨hfk2.1, hfk2.2, Ekept.trans hkk⟩ | (simp only [Ekept]; exact ⟨hfk2.1, hfk2.2, Ekept.trans hkk⟩)), hR⟩
abbrev wr_X12_undo : List Nat := [40000]
theorem flX12_undo_385 : Cond.fieldLink RX12 385 "PageTrieModel" "isKept" "Z" ∈ wsX12_undo := List.mem_of_getElem? (i := 1) rfl
theorem inX12_undo_X12 : ∀ w ∈ u_ws RX12 TX12 41, w ∈ wsX12_undo := mem_r _ [8, 9, 10, 11, 12, 13, 14, 15, 16, 17, 18, 19, 20, 21, 22, 23, 24, 25, 26, 27, 28, 29, 30, 31, 32, 33, 34, 35, 36, 37, 38, 39, 40, 41, 42, 43, 44, 45, 46, 47, 48] rfl
theorem hvX12_undo : yX12_undo.cls = RX12 ∧ yX12_undo.cls ≠ "java/lang/invoke/MethodHandle" ∧ yX12_undo.cls ≠ "java/lang/invoke/VarHandle" ∧ (parseMethodDescriptor yX12_undo.desc).map (fun d => d.parameters.length) = some 0 := by decide +kernel
set_option maxHeartbeats 4000000 in
set_option maxRecDepth 100000 in
theorem kX12_undo (l : Launch) {D : va_G} {cA : Nat → ClassId} {τ : Nat → Nat} {G : Nat → Nat → Nat} {L : List Nat} (hS : SW τ G L) (σ : Nat → Nat → Int) {a0 : Nat} (h0 : τ a0 = 13) (hI : FI G a0 σ) (q0 : FM (σ (G a0 0))) : Met l yX12_undo wsX12_undo ({ frames := 1, cells := 0, slots := 0, locals := 23 }) (jP D cA τ G L σ [.ref a0]) (jQI D cA τ G L (fun r σ' => (0 ≤ r ∧ r ≤ 1) ∧ (((FI G a0 σ') ∧ (FM (σ' (G a0 0))) ∧ (r = σ a0 1)) ∧ fr wr_X12_undo τ σ σ'))) 0 0 (fun q => q ∈ L) := by
  refine j_metZ (by decide +kernel) rfl (Nat.le_of_ble_eq_true rfl) ?_
  intro p e s m args below meth c Q hx hb hml hown hts hK hW hRet ls hl
  have hl : lv_has ls 1 [(0, .ref a0)] := hl
  have hA : ∀ q ∈ L, (fun q => q ∈ L) q := fun _ h => h
  have hF : va_S (fun q => q ∈ L) s.heap s.heap [] := va_S.rf
  have hR : fr wr_X12_undo τ σ σ := fr_rf
  have hk_file : τ (G a0 0) = 40 := gty hS h0 (k := 0) rfl rfl
  have := FI_bd hI
  have := fbd hW h0 (k := 3) (lo := 0) (hi := 24) rfl rfl
  have hI0 := hI
  have := fbd hW h0 (k := 1) (lo := 0) (hi := 1) rfl rfl
  refine lv_aload_n hx hb dX12_undo_0 rfl (lv_at hl 0 rfl) ?_
  refine j_getI hx hb (C := RX12) (T := TX12) (N := 41) hts inX12_undo_X12 hown hK hS hW h0 rfl 1 rfl rfl (by decide) (hts _ flX12_undo_385) dX12_undo_1 ?_
  have := fbd hW h0 (k := 1) (lo := 0) (hi := 1) rfl rfl
  refine j_if_ne (tgt := 9) hx hb (by omega) dX12_undo_4 (by decide) (fun c_1 => ?_) (fun c_1 => ?_)
  · refine lv_aload_n hx hb dX12_undo_9 rfl (lv_at hl 0 rfl) ?_
    refine j_const hx hb dX12_undo_10 ?_
    refine j_const hx hb dX12_undo_11 ?_
    refine j_cV (j_runV (As := [.int (jI 1), .int (jI 0)]) (rest := []) hx hb hml hown hts hK hS hW (kX12_copies l hS σ (a0 := a0) (h0 := h0) (x1 := 1) (r1 := (by decide)) (x2 := 0) (r2 := (by decide)) (q0 := (by omega)) (q1 := (by omega)) (q2 := (by omega)) (q3 := (by omega)) (q4 := (by omega))) 2 gX12_undo_X12_copies rfl hvX12_copies ⟨Nat.le_of_ble_eq_true rfl, Nat.le_of_ble_eq_true rfl⟩ rfl rfl h0 rfl rfl rfl rfl hl.1 rfl (Nat.le_of_ble_eq_true rfl) dX12_undo_12 ⟨Nat.le_of_ble_eq_true rfl, Nat.le_of_ble_eq_true rfl⟩) hA hF (fun σ_2 H locs hW hF pσ_2 => ?_)
    try dsimp only at pσ_2
    obtain ⟨pσ_2, fpσ_2⟩ := pσ_2
    have q_copies := pσ_2
    have hR := fr_call hR fpσ_2 (by decide)
    have Ekept : σ_2 a0 1 = σ a0 1 := fr_at fpσ_2 h0 1 13001 rfl (by decide)
    have hfu := FI_undo hI0 (by omega) q_copies Ekept
    refine j_const hx hb dX12_undo_15 ?_
    exact hRet 16 _ _ _ 1 _ dX12_undo_16 hW hF (by omega) ⟨(by first | exact ⟨hfu.1, hfu.2, by omega⟩ | (simp only [Ekept]; exact ⟨hfu.1, hfu.2, by omega⟩)), hR⟩
  · refine j_const hx hb dX12_undo_7 ?_
    exact hRet 8 _ _ _ 0 _ dX12_undo_8 hW hF (by omega) ⟨⟨hI, q0, by omega⟩, hR⟩
theorem flX12_keptOf_7 : Cond.fieldLink RX12 7 "PageTrieModel" "file" "[I" ∈ wsX12_keptOf := List.mem_of_getElem? (i := 1) rfl
theorem inX12_keptOf_X12 : ∀ w ∈ u_ws RX12 TX12 41, w ∈ wsX12_keptOf := mem_r _ [2, 3, 4, 5, 6, 7, 8, 9, 10, 11, 12, 13, 14, 15, 16, 17, 18, 19, 20, 21, 22, 23, 24, 25, 26, 27, 28, 29, 30, 31, 32, 33, 34, 35, 36, 37, 38, 39, 40, 41, 42] rfl
theorem hvX12_keptOf : yX12_keptOf.cls = RX12 ∧ yX12_keptOf.cls ≠ "java/lang/invoke/MethodHandle" ∧ yX12_keptOf.cls ≠ "java/lang/invoke/VarHandle" ∧ (parseMethodDescriptor yX12_keptOf.desc).map (fun d => d.parameters.length) = some 2 := by decide +kernel
set_option maxHeartbeats 4000000 in
set_option maxRecDepth 100000 in
theorem kX12_keptOf (l : Launch) {D : va_G} {cA : Nat → ClassId} {τ : Nat → Nat} {G : Nat → Nat → Nat} {L : List Nat} (hS : SW τ G L) (σ : Nat → Nat → Int) {a0 : Nat} (h0 : τ a0 = 13) {x1 : Int} (r1 : rg x1) {x2 : Int} (r2 : rg x2) (q0 : 0 ≤ 4646 + 27 * x1 + x2) (q1 : 4646 + 27 * x1 + x2 < 17624) (q2 : 0 ≤ x1) (q3 : x1 ≤ 200) : Met l yX12_keptOf wsX12_keptOf ({ frames := 0, cells := 0, slots := 0, locals := 0 }) (jP D cA τ G L σ [.ref a0, .int (jI x1), .int (jI x2)]) (jQR (fun r => True)) 0 0 (fun _ => False) := by
  refine j_metR (by decide +kernel) rfl (Nat.le_of_ble_eq_true rfl) ?_
  intro p e s m args below meth c Q hx hb hml hown hts hK hW hRet ls hl
  have hl : lv_has ls 3 [(0, .ref a0), (1, .int (jI x1)), (2, .int (jI x2))] := hl
  refine lv_aload_n hx hb dX12_keptOf_0 rfl (lv_at hl 0 rfl) ?_
  refine j_getR hx hb (C := RX12) (T := TX12) (N := 41) hts inX12_keptOf_X12 hown hK hS hW h0 rfl 0 rfl rfl (by decide) (hts _ flX12_keptOf_7) dX12_keptOf_1 ?_
  have h_1 : τ (G a0 0) = 40 := gty hS h0 (k := 0) rfl rfl
  refine j_si hx hb dX12_keptOf_4 (by decide) ?_
  refine j_bi hx hb dX12_keptOf_7 (by decide) ?_
  refine lv_iload_n hx hb dX12_keptOf_9 rfl (lv_at hl 1 rfl) ?_
  refine j_mul hx hb dX12_keptOf_10 ?_
  refine j_add hx hb dX12_keptOf_11 ?_
  refine lv_iload_n hx hb dX12_keptOf_12 rfl (lv_at hl 2 rfl) ?_
  refine j_add hx hb dX12_keptOf_13 ?_
  refine j_ald hx hb hK hS hW h_1 (n := 17624) rfl (by omega) (by omega) (by decide) dX12_keptOf_14 ?_
  have := abd hW h_1 (n := 17624) (lo := -2147483648) (hi := 2147483647) (i := (4646 + (27 * x1)) + x2) rfl (by omega) (by omega)
  exact hRet 15 _ (σ (G a0 0) ((4646 + (27 * x1)) + x2).toNat) dX12_keptOf_15 (by omega) trivial
theorem flX12_keptAs_7 : Cond.fieldLink RX12 7 "PageTrieModel" "file" "[I" ∈ wsX12_keptAs := List.mem_of_getElem? (i := 1) rfl
theorem inX12_keptAs_X12 : ∀ w ∈ u_ws RX12 TX12 41, w ∈ wsX12_keptAs := mem_r _ [15, 16, 17, 18, 19, 20, 21, 22, 23, 24, 25, 26, 27, 28, 29, 30, 31, 32, 33, 34, 35, 36, 37, 38, 39, 40, 41, 42, 43, 44, 45, 46, 47, 48, 49, 50, 51, 52, 53, 54, 55] rfl
theorem hvX12_keptAs : yX12_keptAs.cls = RX12 ∧ yX12_keptAs.cls ≠ "java/lang/invoke/MethodHandle" ∧ yX12_keptAs.cls ≠ "java/lang/invoke/VarHandle" ∧ (parseMethodDescriptor yX12_keptAs.desc).map (fun d => d.parameters.length) = some 1 := by decide +kernel
set_option maxHeartbeats 4000000 in
set_option maxRecDepth 100000 in
theorem kX12_keptAs (l : Launch) {D : va_G} {cA : Nat → ClassId} {τ : Nat → Nat} {G : Nat → Nat → Nat} {L : List Nat} (hS : SW τ G L) (σ : Nat → Nat → Int) {a0 : Nat} (h0 : τ a0 = 13) {x1 : Int} (r1 : rg x1) (hI : FI G a0 σ) (q0 : 0 ≤ x1) (q1 : x1 < σ (G a0 0) 0) (q2 : ¬ σ a0 1 = 0) : Met l yX12_keptAs wsX12_keptAs ({ frames := 1, cells := 0, slots := 0, locals := 22 }) (jP D cA τ G L σ [.ref a0, .int (jI x1)]) (jQR (fun r => (-1 ≤ r) ∧ (r < 150))) 0 0 (fun _ => False) := by
  refine j_metR (by decide +kernel) rfl (Nat.le_of_ble_eq_true rfl) ?_
  intro p e s m args below meth c Q hx hb hml hown hts hK hW hRet ls hl
  have hl : lv_has ls 5 [(0, .ref a0), (1, .int (jI x1))] := hl
  have := FI_bd hI
  have := fbd hW h0 (k := 3) (lo := 0) (hi := 24) rfl rfl
  have hkp := FI_kn hI q2
  have := FI_len hI q0 q1
  refine j_const hx hb dX12_keptAs_0 ?_
  refine lv_istore_n (lv' := [(2, .int (jI 0)), (0, .ref a0), (1, .int (jI x1))]) hx hb dX12_keptAs_1 rfl hl (by decide) rfl (fun ls hl => ?_)
  have L_2 : ∀ (N : Nat) (v2_2 : Int) (ls : Array Slot), N = (2147483647 - v2_2 : Int).toNat → (0 ≤ v2_2) → (v2_2 ≤ 150) → rg v2_2 → lv_has ls 5 [(0, .ref a0), (1, .int (jI x1)), (2, .int (jI v2_2))] → W p l e ({ frames := 1, cells := 0, slots := 0, locals := 22 }) s m args below meth c s.heap [] 0 0 Q (F0 m 2 ls []) := by
    intro N
    induction N using Nat.strongRecOn with
    | ind N ih_2 =>
      intro v2_2 ls hN i0_2 i1_2 rv2_2 hl
      refine lv_iload_n hx hb dX12_keptAs_2 rfl (lv_at hl 2 rfl) ?_
      refine lv_aload_n hx hb dX12_keptAs_3 rfl (lv_at hl 0 rfl) ?_
      refine j_getR hx hb (C := RX12) (T := TX12) (N := 41) hts inX12_keptAs_X12 hown hK hS hW h0 rfl 0 rfl rfl (by decide) (hts _ flX12_keptAs_7) dX12_keptAs_4 ?_
      have h_1 : τ (G a0 0) = 40 := gty hS h0 (k := 0) rfl rfl
      refine j_si hx hb dX12_keptAs_7 (by decide) ?_
      refine j_ald hx hb hK hS hW h_1 (n := 17624) rfl (by omega) (by omega) (by decide) dX12_keptAs_10 ?_
      have : -2147483648 ≤ σ (G a0 0) 4406 ∧ σ (G a0 0) 4406 ≤ 2147483647 := abd hW h_1 (n := 17624) (lo := -2147483648) (hi := 2147483647) (i := 4406) rfl (by decide) (by decide)
      refine j_eq (z := σ (G a0 0) 4406) rfl ?_
      have := FI_bd hI
      refine j_icmp_ge (tgt := 96) hx hb (by omega) (by omega) dX12_keptAs_11 (by decide) (fun c_2 => ?_) (fun c_2 => ?_)
      · refine j_const hx hb dX12_keptAs_96 ?_
        exact hRet 97 _ (-1) dX12_keptAs_97 (by decide) ⟨by omega, by omega⟩
      · refine lv_aload_n hx hb dX12_keptAs_14 rfl (lv_at hl 0 rfl) ?_
        refine lv_iload_n hx hb dX12_keptAs_15 rfl (lv_at hl 2 rfl) ?_
        refine j_const hx hb dX12_keptAs_16 ?_
        refine j_cR (j_runV (As := [.int (jI v2_2), .int (jI 0)]) (rest := []) hx hb hml hown hts hK hS hW (kX12_keptOf l hS σ (a0 := a0) (h0 := h0) (x1 := v2_2) (r1 := (by omega)) (x2 := 0) (r2 := (by decide)) (q0 := (by omega)) (q1 := (by omega)) (q2 := (by omega)) (q3 := (by omega))) 2 gX12_keptAs_X12_keptOf rfl hvX12_keptOf ⟨Nat.le_of_ble_eq_true rfl, Nat.le_of_ble_eq_true rfl⟩ rfl rfl h0 rfl rfl rfl rfl hl.1 rfl (Nat.le_of_ble_eq_true rfl) dX12_keptAs_17 ⟨Nat.le_of_ble_eq_true rfl, Nat.le_of_ble_eq_true rfl⟩) (fun v_3 rv_3 pv_3 => ?_)
        try dsimp only at pv_3
        have q_keptOf := pv_3
        refine lv_aload_n hx hb dX12_keptAs_20 rfl (lv_at hl 0 rfl) ?_
        refine lv_iload_n hx hb dX12_keptAs_21 rfl (lv_at hl 1 rfl) ?_
        refine j_const hx hb dX12_keptAs_22 ?_
        refine j_cR (j_runV (As := [.int (jI x1), .int (jI 0)]) (rest := [.int (jI v_3)]) hx hb hml hown hts hK hS hW (kX12_of l hS σ (a0 := a0) (h0 := h0) (x1 := x1) (r1 := (by omega)) (x2 := 0) (r2 := (by decide)) (q0 := (by omega)) (q1 := (by omega))) 2 gX12_keptAs_X12_of rfl hvX12_of ⟨Nat.le_of_ble_eq_true rfl, Nat.le_of_ble_eq_true rfl⟩ rfl rfl h0 rfl rfl rfl rfl hl.1 rfl (Nat.le_of_ble_eq_true rfl) dX12_keptAs_23 ⟨Nat.le_of_ble_eq_true rfl, Nat.le_of_ble_eq_true rfl⟩) (fun v_4 rv_4 pv_4 => ?_)
        try dsimp only at pv_4
        have q_of := pv_4
        have := @FI_len _ _ _ hI x1
        have L_34 : ∀ (t0_34 : Int) (ls : Array Slot), (0 ≤ t0_34) → (t0_34 ≤ 1) → rg t0_34 → lv_has ls 5 [(0, .ref a0), (1, .int (jI x1)), (2, .int (jI v2_2))] → W p l e ({ frames := 1, cells := 0, slots := 0, locals := 22 }) s m args below meth c s.heap [] 0 0 Q (F0 m 34 ls [.int (jI t0_34)]) := by
          intro t0_34 ls i0_34 i1_34 rt0_34 hl
          refine lv_istore_n (lv' := [(3, .int (jI t0_34)), (0, .ref a0), (1, .int (jI x1)), (2, .int (jI v2_2))]) hx hb dX12_keptAs_34 rfl hl (by decide) rfl (fun ls hl => ?_)
          refine j_const hx hb dX12_keptAs_35 ?_
          refine lv_istore (lv' := [(4, .int (jI 0)), (3, .int (jI t0_34)), (0, .ref a0), (1, .int (jI x1)), (2, .int (jI v2_2))]) hx hb dX12_keptAs_36 hl (by decide) rfl (fun ls hl => ?_)
          have L_38 : ∀ (N : Nat) (v3_38 v4_38 : Int) (ls : Array Slot), N = (2147483647 - v4_38 : Int).toNat → (0 ≤ v4_38) → (0 ≤ v3_38) → (v3_38 ≤ 1) → rg v3_38 → rg v4_38 → lv_has ls 5 [(0, .ref a0), (1, .int (jI x1)), (2, .int (jI v2_2)), (3, .int (jI v3_38)), (4, .int (jI v4_38))] → W p l e ({ frames := 1, cells := 0, slots := 0, locals := 22 }) s m args below meth c s.heap [] 0 0 Q (F0 m 38 ls []) := by
            intro N
            induction N using Nat.strongRecOn with
            | ind N ih_38 =>
              intro v3_38 v4_38 ls hN i0_38 i1_38 i2_38 rv3_38 rv4_38 hl
              refine lv_iload hx hb dX12_keptAs_38 (lv_at hl 4 rfl) ?_
              refine lv_aload_n hx hb dX12_keptAs_40 rfl (lv_at hl 0 rfl) ?_
              refine lv_iload_n hx hb dX12_keptAs_41 rfl (lv_at hl 1 rfl) ?_
              refine j_const hx hb dX12_keptAs_42 ?_
              refine j_cR (j_runV (As := [.int (jI x1), .int (jI 0)]) (rest := [.int (jI v4_38)]) hx hb hml hown hts hK hS hW (kX12_of l hS σ (a0 := a0) (h0 := h0) (x1 := x1) (r1 := (by omega)) (x2 := 0) (r2 := (by decide)) (q0 := (by omega)) (q1 := (by omega))) 2 gX12_keptAs_X12_of rfl hvX12_of ⟨Nat.le_of_ble_eq_true rfl, Nat.le_of_ble_eq_true rfl⟩ rfl rfl h0 rfl rfl rfl rfl hl.1 rfl (Nat.le_of_ble_eq_true rfl) dX12_keptAs_43 ⟨Nat.le_of_ble_eq_true rfl, Nat.le_of_ble_eq_true rfl⟩) (fun v_5 rv_5 pv_5 => ?_)
              try dsimp only at pv_5
              have q_of := pv_5
              have := @FI_len _ _ _ hI x1
              refine j_icmp_ge (tgt := 84) hx hb (by omega) (by omega) dX12_keptAs_46 (by decide) (fun c_6 => ?_) (fun c_6 => ?_)
              · refine lv_iload_n hx hb dX12_keptAs_84 rfl (lv_at hl 3 rfl) ?_
                refine j_if_eq (tgt := 90) hx hb (by omega) dX12_keptAs_85 (by decide) (fun c_7 => ?_) (fun c_7 => ?_)
                · refine j_iinc (lv' := [(2, .int (jI (v2_2 + 1))), (0, .ref a0), (1, .int (jI x1)), (3, .int (jI v3_38)), (4, .int (jI v4_38))]) hx hb dX12_keptAs_90 hl (k := 2) rfl (by decide) rfl (fun ls hl => ?_)
                  refine lv_goto (tgt := 2) hx hb dX12_keptAs_93 (by decide) ?_
                  exact ih_2 ((2147483647 - (v2_2 + 1) : Int).toNat) (by omega) (v2_2 + 1) _ rfl (by omega) (by omega) (by omega) (lv_sub hl [1, 2, 0] rfl)
                · refine lv_iload_n hx hb dX12_keptAs_88 rfl (lv_at hl 2 rfl) ?_
                  exact hRet 89 _ v2_2 dX12_keptAs_89 (by omega) ⟨by omega, by omega⟩
              · refine lv_iload_n hx hb dX12_keptAs_49 rfl (lv_at hl 3 rfl) ?_
                refine j_if_eq (tgt := 84) hx hb (by omega) dX12_keptAs_50 (by decide) (fun c_8 => ?_) (fun c_8 => ?_)
                · refine lv_iload_n hx hb dX12_keptAs_84 rfl (lv_at hl 3 rfl) ?_
                  refine j_if_eq (tgt := 90) hx hb (by omega) dX12_keptAs_85 (by decide) (fun c_9 => ?_) (fun c_9 => ?_)
                  · refine j_iinc (lv' := [(2, .int (jI (v2_2 + 1))), (0, .ref a0), (1, .int (jI x1)), (3, .int (jI v3_38)), (4, .int (jI v4_38))]) hx hb dX12_keptAs_90 hl (k := 2) rfl (by decide) rfl (fun ls hl => ?_)
                    refine lv_goto (tgt := 2) hx hb dX12_keptAs_93 (by decide) ?_
                    exact ih_2 ((2147483647 - (v2_2 + 1) : Int).toNat) (by omega) (v2_2 + 1) _ rfl (by omega) (by omega) (by omega) (lv_sub hl [1, 2, 0] rfl)
                  · refine lv_iload_n hx hb dX12_keptAs_88 rfl (lv_at hl 2 rfl) ?_
                    exact hRet 89 _ v2_2 dX12_keptAs_89 (by omega) ⟨by omega, by omega⟩
                · refine lv_aload_n hx hb dX12_keptAs_53 rfl (lv_at hl 0 rfl) ?_
                  refine lv_iload_n hx hb dX12_keptAs_54 rfl (lv_at hl 2 rfl) ?_
                  refine j_const hx hb dX12_keptAs_55 ?_
                  refine lv_iload hx hb dX12_keptAs_56 (lv_at hl 4 rfl) ?_
                  refine j_add hx hb dX12_keptAs_58 ?_
                  refine j_cR (j_runV (As := [.int (jI v2_2), .int (jI (3 + v4_38))]) (rest := []) hx hb hml hown hts hK hS hW (kX12_keptOf l hS σ (a0 := a0) (h0 := h0) (x1 := v2_2) (r1 := (by omega)) (x2 := 3 + v4_38) (r2 := (by omega)) (q0 := (by omega)) (q1 := (by omega)) (q2 := (by omega)) (q3 := (by omega))) 2 gX12_keptAs_X12_keptOf rfl hvX12_keptOf ⟨Nat.le_of_ble_eq_true rfl, Nat.le_of_ble_eq_true rfl⟩ rfl rfl h0 rfl rfl rfl rfl hl.1 rfl (Nat.le_of_ble_eq_true rfl) dX12_keptAs_59 ⟨Nat.le_of_ble_eq_true rfl, Nat.le_of_ble_eq_true rfl⟩) (fun v_10 rv_10 pv_10 => ?_)
                  try dsimp only at pv_10
                  have q_keptOf := pv_10
                  refine lv_aload_n hx hb dX12_keptAs_62 rfl (lv_at hl 0 rfl) ?_
                  refine lv_iload_n hx hb dX12_keptAs_63 rfl (lv_at hl 1 rfl) ?_
                  refine lv_iload hx hb dX12_keptAs_64 (lv_at hl 4 rfl) ?_
                  refine j_cR (j_runV (As := [.int (jI x1), .int (jI v4_38)]) (rest := [.int (jI v_10)]) hx hb hml hown hts hK hS hW (kX12_byteOf l hS σ (a0 := a0) (h0 := h0) (x1 := x1) (r1 := (by omega)) (x2 := v4_38) (r2 := (by omega)) (q0 := (by omega)) (q1 := (by omega))) 2 gX12_keptAs_X12_byteOf rfl hvX12_byteOf ⟨Nat.le_of_ble_eq_true rfl, Nat.le_of_ble_eq_true rfl⟩ rfl rfl h0 rfl rfl rfl rfl hl.1 rfl (Nat.le_of_ble_eq_true rfl) dX12_keptAs_66 ⟨Nat.le_of_ble_eq_true rfl, Nat.le_of_ble_eq_true rfl⟩) (fun v_11 rv_11 pv_11 => ?_)
                  try dsimp only at pv_11
                  have q_byteOf := pv_11
                  have := @FI_byte _ _ _ hI x1 v4_38
                  refine j_icmp_ne (tgt := 76) hx hb (by omega) (by omega) dX12_keptAs_69 (by decide) (fun c_12 => ?_) (fun c_12 => ?_)
                  · refine j_const hx hb dX12_keptAs_76 ?_
                    refine lv_istore_n (lv' := [(3, .int (jI 0)), (0, .ref a0), (1, .int (jI x1)), (2, .int (jI v2_2)), (4, .int (jI v4_38))]) hx hb dX12_keptAs_77 rfl hl (by decide) rfl (fun ls hl => ?_)
                    refine j_iinc (lv' := [(4, .int (jI (v4_38 + 1))), (3, .int (jI 0)), (0, .ref a0), (1, .int (jI x1)), (2, .int (jI v2_2))]) hx hb dX12_keptAs_78 hl (k := 4) rfl (by decide) rfl (fun ls hl => ?_)
                    refine lv_goto (tgt := 38) hx hb dX12_keptAs_81 (by decide) ?_
                    exact ih_38 ((2147483647 - (v4_38 + 1) : Int).toNat) (by omega) 0 (v4_38 + 1) _ rfl (by omega) (by omega) (by omega) (by decide) (by omega) (lv_sub hl [2, 3, 4, 1, 0] rfl)
                  · refine j_const hx hb dX12_keptAs_72 ?_
                    refine lv_goto (tgt := 77) hx hb dX12_keptAs_73 (by decide) ?_
                    refine lv_istore_n (lv' := [(3, .int (jI 1)), (0, .ref a0), (1, .int (jI x1)), (2, .int (jI v2_2)), (4, .int (jI v4_38))]) hx hb dX12_keptAs_77 rfl hl (by decide) rfl (fun ls hl => ?_)
                    refine j_iinc (lv' := [(4, .int (jI (v4_38 + 1))), (3, .int (jI 1)), (0, .ref a0), (1, .int (jI x1)), (2, .int (jI v2_2))]) hx hb dX12_keptAs_78 hl (k := 4) rfl (by decide) rfl (fun ls hl => ?_)
                    refine lv_goto (tgt := 38) hx hb dX12_keptAs_81 (by decide) ?_
                    exact ih_38 ((2147483647 - (v4_38 + 1) : Int).toNat) (by omega) 1 (v4_38 + 1) _ rfl (by omega) (by omega) (by omega) (by decide) (by omega) (lv_sub hl [2, 3, 4, 1, 0] rfl)
          exact L_38 ((2147483647 - 0 : Int).toNat) t0_34 0 _ rfl (by omega) (by omega) (by omega) (by omega) (by decide) (lv_sub hl [2, 3, 4, 1, 0] rfl)
        refine j_icmp_ne (tgt := 33) hx hb (by omega) (by omega) dX12_keptAs_26 (by decide) (fun c_13 => ?_) (fun c_13 => ?_)
        · refine j_const hx hb dX12_keptAs_33 ?_
          exact L_34 0 _ (by omega) (by omega) (by decide) (lv_sub hl [0, 1, 2] rfl)
        · refine j_const hx hb dX12_keptAs_29 ?_
          refine lv_goto (tgt := 34) hx hb dX12_keptAs_30 (by decide) ?_
          exact L_34 1 _ (by omega) (by omega) (by decide) (lv_sub hl [0, 1, 2] rfl)
  exact L_2 ((2147483647 - 0 : Int).toNat) 0 _ rfl (by omega) (by omega) (by decide) (lv_sub hl [1, 2, 0] rfl)
theorem flX12_unlike_7 : Cond.fieldLink RX12 7 "PageTrieModel" "file" "[I" ∈ wsX12_unlike := List.mem_of_getElem? (i := 2) rfl
theorem flX12_unlike_385 : Cond.fieldLink RX12 385 "PageTrieModel" "isKept" "Z" ∈ wsX12_unlike := List.mem_of_getElem? (i := 1) rfl
theorem inX12_unlike_X12 : ∀ w ∈ u_ws RX12 TX12 41, w ∈ wsX12_unlike := mem_r _ [27, 28, 29, 30, 31, 32, 33, 34, 35, 36, 37, 38, 39, 40, 41, 42, 43, 44, 45, 46, 47, 48, 49, 50, 51, 52, 53, 54, 55, 56, 57, 58, 59, 60, 61, 62, 63, 64, 65, 66, 67] rfl
theorem hvX12_unlike : yX12_unlike.cls = RX12 ∧ yX12_unlike.cls ≠ "java/lang/invoke/MethodHandle" ∧ yX12_unlike.cls ≠ "java/lang/invoke/VarHandle" ∧ (parseMethodDescriptor yX12_unlike.desc).map (fun d => d.parameters.length) = some 1 := by decide +kernel
set_option maxHeartbeats 4000000 in
set_option maxRecDepth 100000 in
theorem kX12_unlike (l : Launch) {D : va_G} {cA : Nat → ClassId} {τ : Nat → Nat} {G : Nat → Nat → Nat} {L : List Nat} (hS : SW τ G L) (σ : Nat → Nat → Int) {a0 : Nat} (h0 : τ a0 = 13) {x1 : Int} (r1 : rg x1) (hI : FI G a0 σ) : Met l yX12_unlike wsX12_unlike ({ frames := 2, cells := 0, slots := 0, locals := 46 }) (jP D cA τ G L σ [.ref a0, .int (jI x1)]) (jQR (fun r => True)) 0 0 (fun _ => False) := by
  refine j_metR (by decide +kernel) rfl (Nat.le_of_ble_eq_true rfl) ?_
  intro p e s m args below meth c Q hx hb hml hown hts hK hW hRet ls hl
  have hl : lv_has ls 6 [(0, .ref a0), (1, .int (jI x1))] := hl
  have := FI_bd hI
  have := fbd hW h0 (k := 3) (lo := 0) (hi := 24) rfl rfl
  have := fbd hW h0 (k := 1) (lo := 0) (hi := 1) rfl rfl
  refine lv_iload_n hx hb dX12_unlike_0 rfl (lv_at hl 1 rfl) ?_
  refine j_const hx hb dX12_unlike_1 ?_
  refine j_const hx hb dX12_unlike_2 ?_
  refine j_cR (j_runS (As := [.int (jI x1), .int (jI 0), .int (jI 2)]) (rest := []) hx hb hml hown hts hK hW (kX12_in l hS σ (x0 := x1) (r0 := (by omega)) (x1 := 0) (r1 := (by decide)) (x2 := 2) (r2 := (by decide))) 3 gX12_unlike_X12_in rfl hsX12_in ⟨Nat.le_of_ble_eq_true rfl, Nat.le_of_ble_eq_true rfl⟩ rfl rfl rfl hl.1 rfl (Nat.le_of_ble_eq_true rfl) dX12_unlike_3 ⟨Nat.le_of_ble_eq_true rfl, Nat.le_of_ble_eq_true rfl⟩) (fun v_1 rv_1 pv_1 => ?_)
  try dsimp only at pv_1
  have q_in := pv_1
  refine j_if_ne (tgt := 11) hx hb (by omega) dX12_unlike_6 (by decide) (fun c_2 => ?_) (fun c_2 => ?_)
  · refine lv_aload_n hx hb dX12_unlike_11 rfl (lv_at hl 0 rfl) ?_
    refine j_getI hx hb (C := RX12) (T := TX12) (N := 41) hts inX12_unlike_X12 hown hK hS hW h0 rfl 1 rfl rfl (by decide) (hts _ flX12_unlike_385) dX12_unlike_12 ?_
    have := fbd hW h0 (k := 1) (lo := 0) (hi := 1) rfl rfl
    refine j_if_ne (tgt := 21) hx hb (by omega) dX12_unlike_15 (by decide) (fun c_3 => ?_) (fun c_3 => ?_)
    · refine j_const hx hb dX12_unlike_21 ?_
      refine lv_istore_n (lv' := [(2, .int (jI 0)), (0, .ref a0), (1, .int (jI x1))]) hx hb dX12_unlike_22 rfl hl (by decide) rfl (fun ls hl => ?_)
      refine j_const hx hb dX12_unlike_23 ?_
      refine lv_istore_n (lv' := [(3, .int (jI 0)), (2, .int (jI 0)), (0, .ref a0), (1, .int (jI x1))]) hx hb dX12_unlike_24 rfl hl (by decide) rfl (fun ls hl => ?_)
      refine j_const hx hb dX12_unlike_25 ?_
      refine lv_istore (lv' := [(4, .int (jI 0)), (3, .int (jI 0)), (2, .int (jI 0)), (0, .ref a0), (1, .int (jI x1))]) hx hb dX12_unlike_26 hl (by decide) rfl (fun ls hl => ?_)
      have L_28 : ∀ (N : Nat) (v2_28 v3_28 v4_28 : Int) (ls : Array Slot), N = (2147483647 - v4_28 : Int).toNat → (0 ≤ v4_28) → rg v2_28 → rg v3_28 → rg v4_28 → lv_has ls 6 [(0, .ref a0), (1, .int (jI x1)), (2, .int (jI v2_28)), (3, .int (jI v3_28)), (4, .int (jI v4_28))] → W p l e ({ frames := 2, cells := 0, slots := 0, locals := 46 }) s m args below meth c s.heap [] 0 0 Q (F0 m 28 ls []) := by
        intro N
        induction N using Nat.strongRecOn with
        | ind N ih_28 =>
          intro v2_28 v3_28 v4_28 ls hN i0_28 rv2_28 rv3_28 rv4_28 hl
          refine lv_iload hx hb dX12_unlike_28 (lv_at hl 4 rfl) ?_
          refine lv_aload_n hx hb dX12_unlike_30 rfl (lv_at hl 0 rfl) ?_
          refine j_cR (j_runV (As := []) (rest := [.int (jI v4_28)]) hx hb hml hown hts hK hS hW (kX12_many l hS σ (a0 := a0) (h0 := h0)) 0 gX12_unlike_X12_many rfl hvX12_many ⟨Nat.le_of_ble_eq_true rfl, Nat.le_of_ble_eq_true rfl⟩ rfl rfl h0 rfl rfl rfl rfl hl.1 rfl (Nat.le_of_ble_eq_true rfl) dX12_unlike_31 ⟨Nat.le_of_ble_eq_true rfl, Nat.le_of_ble_eq_true rfl⟩) (fun v_4 rv_4 pv_4 => ?_)
          try dsimp only at pv_4
          have q_many := pv_4
          have := FI_bd hI
          refine j_icmp_ge (tgt := 85) hx hb (by omega) (by omega) dX12_unlike_34 (by decide) (fun c_5 => ?_) (fun c_5 => ?_)
          · refine lv_iload_n hx hb dX12_unlike_85 rfl (lv_at hl 1 rfl) ?_
            refine j_if_ne (tgt := 98) hx hb (by omega) dX12_unlike_86 (by decide) (fun c_6 => ?_) (fun c_6 => ?_)
            · refine lv_iload_n hx hb dX12_unlike_98 rfl (lv_at hl 1 rfl) ?_
              refine j_const hx hb dX12_unlike_99 ?_
              refine j_icmp_ne (tgt := 116) hx hb (by omega) (by decide) dX12_unlike_100 (by decide) (fun c_7 => ?_) (fun c_7 => ?_)
              · refine lv_iload_n hx hb dX12_unlike_116 rfl (lv_at hl 3 rfl) ?_
                exact hRet 117 _ v3_28 dX12_unlike_117 (by omega) trivial
              · refine lv_aload_n hx hb dX12_unlike_103 rfl (lv_at hl 0 rfl) ?_
                refine j_getR hx hb (C := RX12) (T := TX12) (N := 41) hts inX12_unlike_X12 hown hK hS hW h0 rfl 0 rfl rfl (by decide) (hts _ flX12_unlike_7) dX12_unlike_104 ?_
                have h_8 : τ (G a0 0) = 40 := gty hS h0 (k := 0) rfl rfl
                refine j_si hx hb dX12_unlike_107 (by decide) ?_
                refine j_ald hx hb hK hS hW h_8 (n := 17624) rfl (by omega) (by omega) (by decide) dX12_unlike_110 ?_
                have : -2147483648 ≤ σ (G a0 0) 4406 ∧ σ (G a0 0) 4406 ≤ 2147483647 := abd hW h_8 (n := 17624) (lo := -2147483648) (hi := 2147483647) (i := 4406) rfl (by decide) (by decide)
                refine j_eq (z := σ (G a0 0) 4406) rfl ?_
                have := FI_bd hI
                refine lv_iload_n hx hb dX12_unlike_111 rfl (lv_at hl 2 rfl) ?_
                refine j_sub hx hb dX12_unlike_112 ?_
                refine j_wrap (fun z_9 rz_9 ez_9 => ?_)
                refine lv_goto (tgt := 117) hx hb dX12_unlike_113 (by decide) ?_
                exact hRet 117 _ z_9 dX12_unlike_117 (by omega) trivial
            · refine lv_aload_n hx hb dX12_unlike_89 rfl (lv_at hl 0 rfl) ?_
              refine j_cR (j_runV (As := []) (rest := []) hx hb hml hown hts hK hS hW (kX12_many l hS σ (a0 := a0) (h0 := h0)) 0 gX12_unlike_X12_many rfl hvX12_many ⟨Nat.le_of_ble_eq_true rfl, Nat.le_of_ble_eq_true rfl⟩ rfl rfl h0 rfl rfl rfl rfl hl.1 rfl (Nat.le_of_ble_eq_true rfl) dX12_unlike_90 ⟨Nat.le_of_ble_eq_true rfl, Nat.le_of_ble_eq_true rfl⟩) (fun v_10 rv_10 pv_10 => ?_)
              try dsimp only at pv_10
              have q_many := pv_10
              have := FI_bd hI
              refine lv_iload_n hx hb dX12_unlike_93 rfl (lv_at hl 2 rfl) ?_
              refine j_sub hx hb dX12_unlike_94 ?_
              refine j_wrap (fun z_11 rz_11 ez_11 => ?_)
              refine lv_goto (tgt := 117) hx hb dX12_unlike_95 (by decide) ?_
              exact hRet 117 _ z_11 dX12_unlike_117 (by omega) trivial
          · refine lv_aload_n hx hb dX12_unlike_37 rfl (lv_at hl 0 rfl) ?_
            refine lv_iload hx hb dX12_unlike_38 (lv_at hl 4 rfl) ?_
            refine j_cR (j_runV (As := [.int (jI v4_28)]) (rest := []) hx hb hml hown hts hK hS hW (kX12_keptAs l hS σ (a0 := a0) (h0 := h0) (x1 := v4_28) (r1 := (by omega)) (hI := hI) (q0 := (by omega)) (q1 := (by omega)) (q2 := (by omega))) 1 gX12_unlike_X12_keptAs rfl hvX12_keptAs ⟨Nat.le_of_ble_eq_true rfl, Nat.le_of_ble_eq_true rfl⟩ rfl rfl h0 rfl rfl rfl rfl hl.1 rfl (Nat.le_of_ble_eq_true rfl) dX12_unlike_40 ⟨Nat.le_of_ble_eq_true rfl, Nat.le_of_ble_eq_true rfl⟩) (fun v_12 rv_12 pv_12 => ?_)
            try dsimp only at pv_12
            have q_keptAs := pv_12
            refine lv_istore (lv' := [(5, .int (jI v_12)), (0, .ref a0), (1, .int (jI x1)), (2, .int (jI v2_28)), (3, .int (jI v3_28)), (4, .int (jI v4_28))]) hx hb dX12_unlike_43 hl (by decide) rfl (fun ls hl => ?_)
            refine lv_iload hx hb dX12_unlike_45 (lv_at hl 0 rfl) ?_
            refine j_const hx hb dX12_unlike_47 ?_
            refine j_icmp_ne (tgt := 54) hx hb (by omega) (by decide) dX12_unlike_48 (by decide) (fun c_13 => ?_) (fun c_13 => ?_)
            · refine lv_iload_n hx hb dX12_unlike_54 rfl (lv_at hl 3 rfl) ?_
              refine j_const hx hb dX12_unlike_55 ?_
              refine j_add hx hb dX12_unlike_56 ?_
              refine j_wrap (fun z_14 rz_14 ez_14 => ?_)
              refine lv_istore_n (lv' := [(2, .int (jI z_14)), (5, .int (jI v_12)), (0, .ref a0), (1, .int (jI x1)), (3, .int (jI v3_28)), (4, .int (jI v4_28))]) hx hb dX12_unlike_57 rfl hl (by decide) rfl (fun ls hl => ?_)
              refine lv_aload_n hx hb dX12_unlike_58 rfl (lv_at hl 2 rfl) ?_
              refine lv_iload hx hb dX12_unlike_59 (lv_at hl 1 rfl) ?_
              refine j_const hx hb dX12_unlike_61 ?_
              refine j_cR (j_runV (As := [.int (jI v_12), .int (jI 1)]) (rest := []) hx hb hml hown hts hK hS hW (kX12_keptOf l hS σ (a0 := a0) (h0 := h0) (x1 := v_12) (r1 := (by omega)) (x2 := 1) (r2 := (by decide)) (q0 := (by omega)) (q1 := (by omega)) (q2 := (by omega)) (q3 := (by omega))) 2 gX12_unlike_X12_keptOf rfl hvX12_keptOf ⟨Nat.le_of_ble_eq_true rfl, Nat.le_of_ble_eq_true rfl⟩ rfl rfl h0 rfl rfl rfl rfl hl.1 rfl (Nat.le_of_ble_eq_true rfl) dX12_unlike_62 ⟨Nat.le_of_ble_eq_true rfl, Nat.le_of_ble_eq_true rfl⟩) (fun v_15 rv_15 pv_15 => ?_)
              try dsimp only at pv_15
              have q_keptOf := pv_15
              refine lv_aload_n hx hb dX12_unlike_65 rfl (lv_at hl 2 rfl) ?_
              refine lv_iload hx hb dX12_unlike_66 (lv_at hl 5 rfl) ?_
              refine j_const hx hb dX12_unlike_68 ?_
              refine j_cR (j_runV (As := [.int (jI v4_28), .int (jI 1)]) (rest := [.int (jI v_15)]) hx hb hml hown hts hK hS hW (kX12_of l hS σ (a0 := a0) (h0 := h0) (x1 := v4_28) (r1 := (by omega)) (x2 := 1) (r2 := (by decide)) (q0 := (by omega)) (q1 := (by omega))) 2 gX12_unlike_X12_of rfl hvX12_of ⟨Nat.le_of_ble_eq_true rfl, Nat.le_of_ble_eq_true rfl⟩ rfl rfl h0 rfl rfl rfl rfl hl.1 rfl (Nat.le_of_ble_eq_true rfl) dX12_unlike_69 ⟨Nat.le_of_ble_eq_true rfl, Nat.le_of_ble_eq_true rfl⟩) (fun v_16 rv_16 pv_16 => ?_)
              try dsimp only at pv_16
              have q_of := pv_16
              refine j_icmp_eq (tgt := 79) hx hb (by omega) (by omega) dX12_unlike_72 (by decide) (fun c_17 => ?_) (fun c_17 => ?_)
              · refine j_iinc (lv' := [(4, .int (jI (v4_28 + 1))), (2, .int (jI z_14)), (5, .int (jI v_12)), (0, .ref a0), (1, .int (jI x1)), (3, .int (jI v3_28))]) hx hb dX12_unlike_79 hl (k := 5) rfl (by decide) rfl (fun ls hl => ?_)
                refine lv_goto (tgt := 28) hx hb dX12_unlike_82 (by decide) ?_
                exact ih_28 ((2147483647 - (v4_28 + 1) : Int).toNat) (by omega) z_14 v3_28 (v4_28 + 1) _ rfl (by omega) (by omega) (by omega) (by omega) (lv_sub hl [3, 4, 1, 5, 0] rfl)
              · refine lv_iload_n hx hb dX12_unlike_75 rfl (lv_at hl 4 rfl) ?_
                refine j_const hx hb dX12_unlike_76 ?_
                refine j_add hx hb dX12_unlike_77 ?_
                refine j_wrap (fun z_18 rz_18 ez_18 => ?_)
                refine lv_istore_n (lv' := [(3, .int (jI z_18)), (2, .int (jI z_14)), (5, .int (jI v_12)), (0, .ref a0), (1, .int (jI x1)), (4, .int (jI v4_28))]) hx hb dX12_unlike_78 rfl hl (by decide) rfl (fun ls hl => ?_)
                refine j_iinc (lv' := [(4, .int (jI (v4_28 + 1))), (3, .int (jI z_18)), (2, .int (jI z_14)), (5, .int (jI v_12)), (0, .ref a0), (1, .int (jI x1))]) hx hb dX12_unlike_79 hl (k := 5) rfl (by decide) rfl (fun ls hl => ?_)
                refine lv_goto (tgt := 28) hx hb dX12_unlike_82 (by decide) ?_
                exact ih_28 ((2147483647 - (v4_28 + 1) : Int).toNat) (by omega) z_14 z_18 (v4_28 + 1) _ rfl (by omega) (by omega) (by omega) (by omega) (lv_sub hl [4, 5, 2, 1, 0] rfl)
            · refine lv_goto (tgt := 79) hx hb dX12_unlike_51 (by decide) ?_
              refine j_iinc (lv' := [(4, .int (jI (v4_28 + 1))), (5, .int (jI v_12)), (0, .ref a0), (1, .int (jI x1)), (2, .int (jI v2_28)), (3, .int (jI v3_28))]) hx hb dX12_unlike_79 hl (k := 5) rfl (by decide) rfl (fun ls hl => ?_)
              refine lv_goto (tgt := 28) hx hb dX12_unlike_82 (by decide) ?_
              exact ih_28 ((2147483647 - (v4_28 + 1) : Int).toNat) (by omega) v2_28 v3_28 (v4_28 + 1) _ rfl (by omega) (by omega) (by omega) (by omega) (lv_sub hl [2, 3, 4, 5, 0] rfl)
      exact L_28 ((2147483647 - 0 : Int).toNat) 0 0 0 _ rfl (by omega) (by decide) (by decide) (by decide) (lv_sub hl [3, 4, 2, 1, 0] rfl)
    · refine j_bi hx hb dX12_unlike_18 (by decide) ?_
      exact hRet 20 _ (-2) dX12_unlike_20 (by decide) trivial
  · refine j_const hx hb dX12_unlike_9 ?_
    exact hRet 10 _ (-1) dX12_unlike_10 (by decide) trivial
abbrev wr_X12_check : List Nat := [13011]
theorem flX12_check_22 : Cond.fieldLink RX12 22 "PageTrieModel" "tape" "[B" ∈ wsX12_check := List.mem_of_getElem? (i := 2) rfl
theorem flX12_check_147 : Cond.fieldLink RX12 147 "PageTrieModel" "taped" "I" ∈ wsX12_check := List.mem_of_getElem? (i := 1) rfl
theorem inX12_check_X12 : ∀ w ∈ u_ws RX12 TX12 41, w ∈ wsX12_check := mem_r _ [20, 21, 22, 23, 24, 25, 26, 27, 28, 29, 30, 31, 32, 33, 34, 35, 36, 37, 38, 39, 40, 41, 42, 43, 44, 45, 46, 47, 48, 49, 50, 51, 52, 53, 54, 55, 56, 57, 58, 59, 60] rfl
theorem hvX12_check : yX12_check.cls = RX12 ∧ yX12_check.cls ≠ "java/lang/invoke/MethodHandle" ∧ yX12_check.cls ≠ "java/lang/invoke/VarHandle" ∧ (parseMethodDescriptor yX12_check.desc).map (fun d => d.parameters.length) = some 1 := by decide +kernel
set_option maxHeartbeats 4000000 in
set_option maxRecDepth 100000 in
theorem kX12_check (l : Launch) {D : va_G} {cA : Nat → ClassId} {τ : Nat → Nat} {G : Nat → Nat → Nat} {L : List Nat} (hS : SW τ G L) (σ : Nat → Nat → Int) {a0 : Nat} (h0 : τ a0 = 13) {x1 : Int} (r1 : rg x1) (hI : FI G a0 σ) : Met l yX12_check wsX12_check ({ frames := 1, cells := 0, slots := 0, locals := 22 }) (jP D cA τ G L σ [.ref a0, .int (jI x1)]) (jQI D cA τ G L (fun r σ' => (True) ∧ fr wr_X12_check τ σ σ')) 0 0 (fun q => q ∈ L) := by
  refine j_metI (by decide +kernel) rfl (Nat.le_of_ble_eq_true rfl) ?_
  intro p e s m args below meth c Q hx hb hml hown hts hK hW hRet ls hl
  have hl : lv_has ls 4 [(0, .ref a0), (1, .int (jI x1))] := hl
  have hA : ∀ q ∈ L, (fun q => q ∈ L) q := fun _ h => h
  have hF : va_S (fun q => q ∈ L) s.heap s.heap [] := va_S.rf
  have hR : fr wr_X12_check τ σ σ := fr_rf
  have hk_file : τ (G a0 0) = 40 := gty hS h0 (k := 0) rfl rfl
  have := FI_bd hI
  have := fbd hW h0 (k := 3) (lo := 0) (hi := 24) rfl rfl
  refine lv_iload_n hx hb dX12_check_0 rfl (lv_at hl 1 rfl) ?_
  refine j_const hx hb dX12_check_1 ?_
  refine j_bi hx hb dX12_check_2 (by decide) ?_
  refine j_cR (j_runS (As := [.int (jI x1), .int (jI 0), .int (jI 24)]) (rest := []) hx hb hml hown hts hK hW (kX12_in l hS σ (x0 := x1) (r0 := (by omega)) (x1 := 0) (r1 := (by decide)) (x2 := 24) (r2 := (by decide))) 3 gX12_check_X12_in rfl hsX12_in ⟨Nat.le_of_ble_eq_true rfl, Nat.le_of_ble_eq_true rfl⟩ rfl rfl rfl hl.1 rfl (Nat.le_of_ble_eq_true rfl) dX12_check_4 ⟨Nat.le_of_ble_eq_true rfl, Nat.le_of_ble_eq_true rfl⟩) (fun v_1 rv_1 pv_1 => ?_)
  try dsimp only at pv_1
  have q_in := pv_1
  refine j_if_eq (tgt := 18) hx hb (by omega) dX12_check_7 (by decide) (fun c_2 => ?_) (fun c_2 => ?_)
  · refine j_bi hx hb dX12_check_18 (by decide) ?_
    exact hRet 20 _ _ _ (-2) _ dX12_check_20 hW hF (by decide) ⟨trivial, hR⟩
  · refine lv_iload_n hx hb dX12_check_10 rfl (lv_at hl 1 rfl) ?_
    refine lv_aload_n hx hb dX12_check_11 rfl (lv_at hl 0 rfl) ?_
    refine j_getI hx hb (C := RX12) (T := TX12) (N := 41) hts inX12_check_X12 hown hK hS hW h0 rfl 11 rfl rfl (by decide) (hts _ flX12_check_147) dX12_check_12 ?_
    have := fbd hW h0 (k := 11) (lo := 0) (hi := 240) rfl rfl
    refine j_icmp_le (tgt := 21) hx hb (by omega) (by omega) dX12_check_15 (by decide) (fun c_3 => ?_) (fun c_3 => ?_)
    · refine j_const hx hb dX12_check_21 ?_
      refine lv_istore_n (lv' := [(2, .int (jI (-1))), (0, .ref a0), (1, .int (jI x1))]) hx hb dX12_check_22 rfl hl (by decide) rfl (fun ls hl => ?_)
      refine lv_iload_n hx hb dX12_check_23 rfl (lv_at hl 2 rfl) ?_
      refine j_const hx hb dX12_check_24 ?_
      refine j_sub hx hb dX12_check_25 ?_
      refine lv_istore_n (lv' := [(3, .int (jI (x1 - 1))), (2, .int (jI (-1))), (0, .ref a0), (1, .int (jI x1))]) hx hb dX12_check_26 rfl hl (by decide) rfl (fun ls hl => ?_)
      have L_27 : ∀ (N : Nat) (v2_27 v3_27 : Int) (ls : Array Slot), N = (v3_27 + 1 : Int).toNat → (-1 ≤ v3_27) → (v3_27 ≤ 23) → rg v2_27 → rg v3_27 → lv_has ls 4 [(0, .ref a0), (2, .int (jI v2_27)), (3, .int (jI v3_27))] → W p l e ({ frames := 1, cells := 0, slots := 0, locals := 22 }) s m args below meth c s.heap [] 0 0 Q (F0 m 27 ls []) := by
        intro N
        induction N using Nat.strongRecOn with
        | ind N ih_27 =>
          intro v2_27 v3_27 ls hN i0_27 i1_27 rv2_27 rv3_27 hl
          refine lv_iload_n hx hb dX12_check_27 rfl (lv_at hl 2 rfl) ?_
          refine j_if_lt (tgt := 75) hx hb (by omega) dX12_check_28 (by decide) (fun c_4 => ?_) (fun c_4 => ?_)
          · refine lv_aload_n hx hb dX12_check_75 rfl (lv_at hl 0 rfl) ?_
            refine j_const hx hb dX12_check_76 ?_
            refine j_putI hx hb (C := RX12) (T := TX12) (N := 41) hts inX12_check_X12 tyX12 tyX12_ok nmX12 hown hK hS hA hW hF h0 rfl 11 (lo := 0) (hi := 240) rfl rfl (by decide) (hts _ flX12_check_147) rfl .int rfl (by omega) rfl rfl dX12_check_77 (fun σ_5 H locs e_6 hW hF => ?_)
            have hR := fr_up hR e_6 h0 13011 rfl (by decide)
            have Efile : σ_5 (G a0 0) = σ (G a0 0) := row_up e_6 h0 hk_file (by decide)
            try clear hcf
            have hcf := congrFun Efile 0
            have hI := FI_dep hS h0 hI (kp_up e_6 h0 13011 rfl (by decide))
            try clear hfk
            have hfk : σ_5 a0 11 = 0 := by rw [e_6]; exact up2_at _ _ _ _
            refine lv_iload_n hx hb dX12_check_80 rfl (lv_at hl 1 rfl) ?_
            exact hRet 81 _ _ _ v2_27 _ dX12_check_81 hW hF (by omega) ⟨trivial, hR⟩
          · refine lv_aload_n hx hb dX12_check_31 rfl (lv_at hl 0 rfl) ?_
            refine j_cR (j_runV (As := []) (rest := []) hx hb hml hown hts hK hS hW (kX12_many l hS σ (a0 := a0) (h0 := h0)) 0 gX12_check_X12_many rfl hvX12_many ⟨Nat.le_of_ble_eq_true rfl, Nat.le_of_ble_eq_true rfl⟩ rfl rfl h0 rfl rfl rfl rfl hl.1 rfl (Nat.le_of_ble_eq_true rfl) dX12_check_32 ⟨Nat.le_of_ble_eq_true rfl, Nat.le_of_ble_eq_true rfl⟩) (fun v_7 rv_7 pv_7 => ?_)
            try dsimp only at pv_7
            have q_many := pv_7
            have := FI_bd hI
            refine j_if_eq (tgt := 67) hx hb (by omega) dX12_check_35 (by decide) (fun c_8 => ?_) (fun c_8 => ?_)
            · refine lv_iload_n hx hb dX12_check_67 rfl (lv_at hl 2 rfl) ?_
              refine lv_istore_n (lv' := [(2, .int (jI v3_27)), (0, .ref a0), (3, .int (jI v3_27))]) hx hb dX12_check_68 rfl hl (by decide) rfl (fun ls hl => ?_)
              refine j_iinc (lv' := [(3, .int (jI (v3_27 + (-1)))), (2, .int (jI v3_27)), (0, .ref a0)]) hx hb dX12_check_69 hl (k := 2) rfl (by decide) rfl (fun ls hl => ?_)
              refine lv_goto (tgt := 27) hx hb dX12_check_72 (by decide) ?_
              exact ih_27 (((v3_27 + (-1)) + 1 : Int).toNat) (by omega) v3_27 (v3_27 + (-1)) _ rfl (by omega) (by omega) (by omega) (by omega) (lv_sub hl [2, 1, 0] rfl)
            · refine lv_iload_n hx hb dX12_check_38 rfl (lv_at hl 2 rfl) ?_
              refine lv_aload_n hx hb dX12_check_39 rfl (lv_at hl 0 rfl) ?_
              refine j_const hx hb dX12_check_40 ?_
              refine j_const hx hb dX12_check_41 ?_
              refine j_cR (j_runV (As := [.int (jI 0), .int (jI 0)]) (rest := [.int (jI v3_27)]) hx hb hml hown hts hK hS hW (kX12_of l hS σ (a0 := a0) (h0 := h0) (x1 := 0) (r1 := (by decide)) (x2 := 0) (r2 := (by decide)) (q0 := (by omega)) (q1 := (by omega))) 2 gX12_check_X12_of rfl hvX12_of ⟨Nat.le_of_ble_eq_true rfl, Nat.le_of_ble_eq_true rfl⟩ rfl rfl h0 rfl rfl rfl rfl hl.1 rfl (Nat.le_of_ble_eq_true rfl) dX12_check_42 ⟨Nat.le_of_ble_eq_true rfl, Nat.le_of_ble_eq_true rfl⟩) (fun v_9 rv_9 pv_9 => ?_)
              try dsimp only at pv_9
              have q_of := pv_9
              have := @FI_len _ _ _ hI 0
              refine j_icmp_ge (tgt := 67) hx hb (by omega) (by omega) dX12_check_45 (by decide) (fun c_10 => ?_) (fun c_10 => ?_)
              · refine lv_iload_n hx hb dX12_check_67 rfl (lv_at hl 2 rfl) ?_
                refine lv_istore_n (lv' := [(2, .int (jI v3_27)), (0, .ref a0), (3, .int (jI v3_27))]) hx hb dX12_check_68 rfl hl (by decide) rfl (fun ls hl => ?_)
                refine j_iinc (lv' := [(3, .int (jI (v3_27 + (-1)))), (2, .int (jI v3_27)), (0, .ref a0)]) hx hb dX12_check_69 hl (k := 2) rfl (by decide) rfl (fun ls hl => ?_)
                refine lv_goto (tgt := 27) hx hb dX12_check_72 (by decide) ?_
                exact ih_27 (((v3_27 + (-1)) + 1 : Int).toNat) (by omega) v3_27 (v3_27 + (-1)) _ rfl (by omega) (by omega) (by omega) (by omega) (lv_sub hl [2, 1, 0] rfl)
              · refine lv_aload_n hx hb dX12_check_48 rfl (lv_at hl 0 rfl) ?_
                refine j_getR hx hb (C := RX12) (T := TX12) (N := 41) hts inX12_check_X12 hown hK hS hW h0 rfl 10 rfl rfl (by decide) (hts _ flX12_check_22) dX12_check_49 ?_
                have h_11 : τ (G a0 10) = 44 := gty hS h0 (k := 10) rfl rfl
                refine lv_iload_n hx hb dX12_check_52 rfl (lv_at hl 2 rfl) ?_
                refine j_bald hx hb hK hS hW h_11 (n := 240) rfl (by omega) (by omega) (by decide) dX12_check_53 ?_
                have := abd hW h_11 (n := 240) (lo := -128) (hi := 127) (i := v3_27) rfl (by omega) (by omega)
                refine j_si hx hb dX12_check_54 (by decide) ?_
                refine j_and255 hx hb dX12_check_57 ?_
                refine lv_aload_n hx hb dX12_check_58 rfl (lv_at hl 0 rfl) ?_
                refine j_const hx hb dX12_check_59 ?_
                refine lv_iload_n hx hb dX12_check_60 rfl (lv_at hl 2 rfl) ?_
                refine j_cR (j_runV (As := [.int (jI 0), .int (jI v3_27)]) (rest := [.int (jI ((σ (G a0 10) (v3_27).toNat) % 256))]) hx hb hml hown hts hK hS hW (kX12_byteOf l hS σ (a0 := a0) (h0 := h0) (x1 := 0) (r1 := (by decide)) (x2 := v3_27) (r2 := (by omega)) (q0 := (by omega)) (q1 := (by omega))) 2 gX12_check_X12_byteOf rfl hvX12_byteOf ⟨Nat.le_of_ble_eq_true rfl, Nat.le_of_ble_eq_true rfl⟩ rfl rfl h0 rfl rfl rfl rfl hl.1 rfl (Nat.le_of_ble_eq_true rfl) dX12_check_61 ⟨Nat.le_of_ble_eq_true rfl, Nat.le_of_ble_eq_true rfl⟩) (fun v_12 rv_12 pv_12 => ?_)
                try dsimp only at pv_12
                have q_byteOf := pv_12
                have := @FI_byte _ _ _ hI 0 v3_27
                refine j_icmp_eq (tgt := 69) hx hb (by omega) (by omega) dX12_check_64 (by decide) (fun c_13 => ?_) (fun c_13 => ?_)
                · refine j_iinc (lv' := [(3, .int (jI (v3_27 + (-1)))), (0, .ref a0), (2, .int (jI v2_27))]) hx hb dX12_check_69 hl (k := 2) rfl (by decide) rfl (fun ls hl => ?_)
                  refine lv_goto (tgt := 27) hx hb dX12_check_72 (by decide) ?_
                  exact ih_27 (((v3_27 + (-1)) + 1 : Int).toNat) (by omega) v2_27 (v3_27 + (-1)) _ rfl (by omega) (by omega) (by omega) (by omega) (lv_sub hl [1, 2, 0] rfl)
                · refine lv_iload_n hx hb dX12_check_67 rfl (lv_at hl 2 rfl) ?_
                  refine lv_istore_n (lv' := [(2, .int (jI v3_27)), (0, .ref a0), (3, .int (jI v3_27))]) hx hb dX12_check_68 rfl hl (by decide) rfl (fun ls hl => ?_)
                  refine j_iinc (lv' := [(3, .int (jI (v3_27 + (-1)))), (2, .int (jI v3_27)), (0, .ref a0)]) hx hb dX12_check_69 hl (k := 2) rfl (by decide) rfl (fun ls hl => ?_)
                  refine lv_goto (tgt := 27) hx hb dX12_check_72 (by decide) ?_
                  exact ih_27 (((v3_27 + (-1)) + 1 : Int).toNat) (by omega) v3_27 (v3_27 + (-1)) _ rfl (by omega) (by omega) (by omega) (by omega) (lv_sub hl [2, 1, 0] rfl)
      exact L_27 (((x1 - 1) + 1 : Int).toNat) (-1) (x1 - 1) _ rfl (by omega) (by omega) (by decide) (by omega) (lv_sub hl [2, 1, 0] rfl)
    · refine j_bi hx hb dX12_check_18 (by decide) ?_
      exact hRet 20 _ _ _ (-2) _ dX12_check_20 hW hF (by decide) ⟨trivial, hR⟩
