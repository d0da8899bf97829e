abbrev wr_X12_beginsLayer : List Nat := [13003, 13004, 13005, 41000]
theorem flX12_beginsLayer_7 : Cond.fieldLink RX12 7 "PageTrieModel" "file" "[I" ∈ wsX12_beginsLayer := List.mem_of_getElem? (i := 1) rfl
theorem flX12_beginsLayer_84 : Cond.fieldLink RX12 84 "PageTrieModel" "low" "I" ∈ wsX12_beginsLayer := List.mem_of_getElem? (i := 2) rfl
theorem flX12_beginsLayer_90 : Cond.fieldLink RX12 90 "PageTrieModel" "high" "I" ∈ wsX12_beginsLayer := List.mem_of_getElem? (i := 3) rfl
theorem inX12_beginsLayer_X12 : ∀ w ∈ u_ws RX12 TX12 41, w ∈ wsX12_beginsLayer := mem_r _ [31, 32, 33, 34, 35, 36, 37, 38, 39, 40, 41, 42, 43, 44, 45, 46, 47, 48, 49, 50, 51, 52, 53, 54, 55, 56, 57, 58, 59, 60, 61, 62, 63, 64, 65, 66, 67, 68, 69, 70, 71] rfl
theorem hvX12_beginsLayer : yX12_beginsLayer.cls = RX12 ∧ yX12_beginsLayer.cls ≠ "java/lang/invoke/MethodHandle" ∧ yX12_beginsLayer.cls ≠ "java/lang/invoke/VarHandle" ∧ (parseMethodDescriptor yX12_beginsLayer.desc).map (fun d => d.parameters.length) = some 2 := by decide +kernel
set_option maxHeartbeats 4000000 in
set_option maxRecDepth 100000 in
theorem kX12_beginsLayer (l : Launch) {D : va_G} {cA : Nat → ClassId} {τ : Nat → Nat} {G : Nat → Nat → Nat} {L : List Nat} (hS : SW τ G L) (σ : Nat → Nat → Int) {a0 : Nat} (h0 : τ a0 = 13) {x1 : Int} (r1 : rg x1) {x2 : Int} (r2 : rg x2) (hI : FI G a0 σ) (q0 : 0 ≤ x1) (q1 : x1 < σ (G a0 0) 0) (q2 : 0 ≤ x2) (q3 : x2 * σ (G a0 0) 1 < kO (σ (G a0 0)) x1 0) : Met l yX12_beginsLayer wsX12_beginsLayer ({ frames := 3, cells := 0, slots := 0, locals := 66 }) (jP D cA τ G L σ [.ref a0, .int (jI x1), .int (jI x2)]) (jQI D cA τ G L (fun r σ' => (0 ≤ r ∧ r ≤ 1) ∧ (((σ' a0 3 = kO (σ (G a0 0)) x1 0)) ∧ fr wr_X12_beginsLayer τ σ σ'))) 0 0 (fun q => q ∈ L) := by
  refine j_metZ (by decide +kernel) rfl (Nat.le_of_ble_eq_true rfl) ?_
  intro p e s m args below meth c Q hx hb hml hown hts hK hW hRet ls hl
  have hl : lv_has ls 3 [(0, .ref a0), (1, .int (jI x1)), (2, .int (jI x2))] := hl
  have hA : ∀ q ∈ L, (fun q => q ∈ L) q := fun _ h => h
  have hF : va_S (fun q => q ∈ L) s.heap s.heap [] := va_S.rf
  have hR : fr wr_X12_beginsLayer τ σ σ := fr_rf
  have hk_file : τ (G a0 0) = 40 := gty hS h0 (k := 0) rfl rfl
  have hk_hand : τ (G a0 2) = 41 := gty hS h0 (k := 2) rfl rfl
  have := FI_bd hI
  have := fbd hW h0 (k := 3) (lo := 0) (hi := 24) rfl rfl
  have hln := FI_len hI q0 q1
  have hm2 : x2 ≤ x2 * σ (G a0 0) 1 := mul_le q2 (by omega)
  refine lv_aload_n hx hb dX12_beginsLayer_0 rfl (lv_at hl 0 rfl) ?_
  refine lv_iload_n hx hb dX12_beginsLayer_1 rfl (lv_at hl 1 rfl) ?_
  refine j_cV (j_runV (As := [.int (jI x1)]) (rest := []) hx hb hml hown hts hK hS hW (kX12_takesHand l hS σ (a0 := a0) (h0 := h0) (x1 := x1) (r1 := (by omega)) (hI := hI) (q0 := (by omega)) (q1 := (by omega))) 1 gX12_beginsLayer_X12_takesHand rfl hvX12_takesHand ⟨Nat.le_of_ble_eq_true rfl, Nat.le_of_ble_eq_true rfl⟩ rfl rfl h0 rfl rfl rfl rfl hl.1 rfl (Nat.le_of_ble_eq_true rfl) dX12_beginsLayer_2 ⟨Nat.le_of_ble_eq_true rfl, Nat.le_of_ble_eq_true rfl⟩) hA hF (fun σ_1 H locs hW hF pσ_1 => ?_)
  try dsimp only at pσ_1
  obtain ⟨pσ_1, fpσ_1⟩ := pσ_1
  have q_takesHand := pσ_1
  have hR := fr_call hR fpσ_1 (by decide)
  have Efile : σ_1 (G a0 0) = σ (G a0 0) := row_fr fpσ_1 hk_file 40 (by decide) (by decide)
  have := congrFun Efile 0
  have Elow : σ_1 a0 4 = σ a0 4 := fr_at fpσ_1 h0 4 13004 rfl (by decide)
  have Ehigh : σ_1 a0 5 = σ a0 5 := fr_at fpσ_1 h0 5 13005 rfl (by decide)
  have hI := FI_dep hS h0 hI (kp_fr fpσ_1 (by decide))
  have hth := q_takesHand.1
  refine lv_aload_n hx hb dX12_beginsLayer_5 rfl (lv_at hl 0 rfl) ?_
  refine lv_iload_n hx hb dX12_beginsLayer_6 rfl (lv_at hl 2 rfl) ?_
  refine lv_aload_n hx hb dX12_beginsLayer_7 rfl (lv_at hl 0 rfl) ?_
  refine j_getR hx hb (C := RX12) (T := TX12) (N := 41) hts inX12_beginsLayer_X12 hown hK hS hW h0 rfl 0 rfl rfl (by decide) (hts _ flX12_beginsLayer_7) dX12_beginsLayer_8 ?_
  refine j_const hx hb dX12_beginsLayer_11 ?_
  refine j_ald hx hb hK hS hW hk_file (n := 17624) rfl (by omega) (by omega) (by decide) dX12_beginsLayer_12 ?_
  have : -2147483648 ≤ σ_1 (G a0 0) 1 ∧ σ_1 (G a0 0) 1 ≤ 2147483647 := abd hW hk_file (n := 17624) (lo := -2147483648) (hi := 2147483647) (i := 1) rfl (by decide) (by decide)
  rw [Efile]
  try simp only [Efile] at this
  refine j_eq (z := σ (G a0 0) 1) rfl ?_
  have := FI_bd hI; rw [Efile] at this
  refine j_mul hx hb dX12_beginsLayer_13 ?_
  refine j_cV (j_runV (As := [.int (jI (x2 * (σ (G a0 0) 1)))]) (rest := []) hx hb hml hown hts hK hS hW (kX12_findsRange l hS σ_1 (a0 := a0) (h0 := h0) (x1 := x2 * (σ (G a0 0) 1)) (r1 := (by omega)) (hI := hI) (q0 := (by omega)) (q1 := (by omega))) 1 gX12_beginsLayer_X12_findsRange rfl hvX12_findsRange ⟨Nat.le_of_ble_eq_true rfl, Nat.le_of_ble_eq_true rfl⟩ rfl rfl h0 rfl rfl rfl rfl hl.1 rfl (Nat.le_of_ble_eq_true rfl) dX12_beginsLayer_14 ⟨Nat.le_of_ble_eq_true rfl, Nat.le_of_ble_eq_true rfl⟩) hA hF (fun σ_2 H locs hW hF pσ_2 => ?_)
  try dsimp only at pσ_2
  obtain ⟨pσ_2, fpσ_2⟩ := pσ_2
  try simp only [Efile, Elow, Ehigh] at pσ_2
  have q_findsRange := pσ_2
  have hR := fr_call hR fpσ_2 (by decide)
  have Efile : σ_2 (G a0 0) = σ (G a0 0) := (row_fr fpσ_2 hk_file 40 (by decide) (by decide)).trans Efile
  have := congrFun Efile 0
  have Ehl : σ_2 a0 3 = σ_1 a0 3 := fr_at fpσ_2 h0 3 13003 rfl (by decide)
  have Ehand : σ_2 (G a0 2) = σ_1 (G a0 2) := row_fr fpσ_2 hk_hand 41 (by decide) (by decide)
  have hI := FI_dep hS h0 hI (kp_fr fpσ_2 (by decide))
  have hrg := q_findsRange.1; have hrn := q_findsRange.2
  have : 0 ≤ σ_2 a0 4 ∧ σ_2 a0 4 ≤ σ_2 a0 5 ∧ σ_2 a0 5 ≤ σ (G a0 0) 0 := ⟨hrg.1, hrg.2.1, hrg.2.2.1⟩
  refine lv_iload_n hx hb dX12_beginsLayer_17 rfl (lv_at hl 2 rfl) ?_
  refine j_if_ne (tgt := 33) hx hb (by omega) dX12_beginsLayer_18 (by decide) (fun c_3 => ?_) (fun c_3 => ?_)
  · refine lv_aload_n hx hb dX12_beginsLayer_33 rfl (lv_at hl 0 rfl) ?_
    refine j_getI hx hb (C := RX12) (T := TX12) (N := 41) hts inX12_beginsLayer_X12 hown hK hS hW h0 rfl 4 rfl rfl (by decide) (hts _ flX12_beginsLayer_84) dX12_beginsLayer_34 ?_
    have := fbd hW h0 (k := 4) (lo := 0) (hi := 150) rfl rfl
    refine lv_iload_n hx hb dX12_beginsLayer_37 rfl (lv_at hl 1 rfl) ?_
    refine j_icmp_ne (tgt := 58) hx hb (by omega) (by omega) dX12_beginsLayer_38 (by decide) (fun c_4 => ?_) (fun c_4 => ?_)
    · refine j_const hx hb dX12_beginsLayer_58 ?_
      exact hRet 59 _ _ _ 0 _ dX12_beginsLayer_59 hW hF (by omega) ⟨(by omega), hR⟩
    · refine lv_aload_n hx hb dX12_beginsLayer_41 rfl (lv_at hl 0 rfl) ?_
      refine j_getI hx hb (C := RX12) (T := TX12) (N := 41) hts inX12_beginsLayer_X12 hown hK hS hW h0 rfl 5 rfl rfl (by decide) (hts _ flX12_beginsLayer_90) dX12_beginsLayer_42 ?_
      have := fbd hW h0 (k := 5) (lo := 0) (hi := 150) rfl rfl
      refine lv_aload_n hx hb dX12_beginsLayer_45 rfl (lv_at hl 0 rfl) ?_
      refine j_getI hx hb (C := RX12) (T := TX12) (N := 41) hts inX12_beginsLayer_X12 hown hK hS hW h0 rfl 4 rfl rfl (by decide) (hts _ flX12_beginsLayer_84) dX12_beginsLayer_46 ?_
      refine j_sub hx hb dX12_beginsLayer_49 ?_
      refine j_const hx hb dX12_beginsLayer_50 ?_
      refine j_icmp_le (tgt := 58) hx hb (by omega) (by decide) dX12_beginsLayer_51 (by decide) (fun c_5 => ?_) (fun c_5 => ?_)
      · refine j_const hx hb dX12_beginsLayer_58 ?_
        exact hRet 59 _ _ _ 0 _ dX12_beginsLayer_59 hW hF (by omega) ⟨(by omega), hR⟩
      · refine j_const hx hb dX12_beginsLayer_54 ?_
        refine lv_goto (tgt := 59) hx hb dX12_beginsLayer_55 (by decide) ?_
        exact hRet 59 _ _ _ 1 _ dX12_beginsLayer_59 hW hF (by omega) ⟨(by omega), hR⟩
  · refine lv_iload_n hx hb dX12_beginsLayer_21 rfl (lv_at hl 1 rfl) ?_
    refine j_if_ne (tgt := 29) hx hb (by omega) dX12_beginsLayer_22 (by decide) (fun c_6 => ?_) (fun c_6 => ?_)
    · refine j_const hx hb dX12_beginsLayer_29 ?_
      refine lv_goto (tgt := 59) hx hb dX12_beginsLayer_30 (by decide) ?_
      exact hRet 59 _ _ _ 0 _ dX12_beginsLayer_59 hW hF (by omega) ⟨(by omega), hR⟩
    · refine j_const hx hb dX12_beginsLayer_25 ?_
      refine lv_goto (tgt := 59) hx hb dX12_beginsLayer_26 (by decide) ?_
      exact hRet 59 _ _ _ 1 _ dX12_beginsLayer_59 hW hF (by omega) ⟨(by omega), hR⟩
theorem flX12_pagesOf_16 : Cond.fieldLink RX12 16 "PageTrieModel" "entryAt" "[I" ∈ wsX12_pagesOf := List.mem_of_getElem? (i := 2) rfl
theorem flX12_pagesOf_97 : Cond.fieldLink RX12 97 "PageTrieModel" "entries" "I" ∈ wsX12_pagesOf := List.mem_of_getElem? (i := 1) rfl
theorem inX12_pagesOf_X12 : ∀ w ∈ u_ws RX12 TX12 41, w ∈ wsX12_pagesOf := mem_r _ [16, 17, 18, 19, 20, 21, 22, 23, 24, 25, 26, 27, 28, 29, 30, 31, 32, 33, 34, 35, 36, 37, 38, 39, 40, 41, 42, 43, 44, 45, 46, 47, 48, 49, 50, 51, 52, 53, 54, 55, 56] rfl
theorem hvX12_pagesOf : yX12_pagesOf.cls = RX12 ∧ yX12_pagesOf.cls ≠ "java/lang/invoke/MethodHandle" ∧ yX12_pagesOf.cls ≠ "java/lang/invoke/VarHandle" ∧ (parseMethodDescriptor yX12_pagesOf.desc).map (fun d => d.parameters.length) = some 1 := by decide +kernel
set_option maxHeartbeats 4000000 in
set_option maxRecDepth 100000 in
theorem kX12_pagesOf (l : Launch) {D : va_G} {cA : Nat → ClassId} {τ : Nat → Nat} {G : Nat → Nat → Nat} {L : List Nat} (hS : SW τ G L) (σ : Nat → Nat → Int) {a0 : Nat} (h0 : τ a0 = 13) {x1 : Int} (r1 : rg x1) (q0 : 0 ≤ x1) (q1 : x1 ≤ 31) : Met l yX12_pagesOf wsX12_pagesOf ({ frames := 2, cells := 0, slots := 0, locals := 44 }) (jP D cA τ G L σ [.ref a0, .int (jI x1)]) (jQR (fun r => (0 ≤ r) ∧ (r ≤ 150))) 0 0 (fun _ => False) := by
  refine j_metR (by decide +kernel) rfl (Nat.le_of_ble_eq_true rfl) ?_
  intro p e s m args below meth c Q hx hb hml hown hts hK hW hRet ls hl
  have hl : lv_has ls 4 [(0, .ref a0), (1, .int (jI x1))] := hl
  have := fbd hW h0 (k := 8) (lo := 0) (hi := 150) rfl rfl
  refine j_const hx hb dX12_pagesOf_0 ?_
  refine lv_istore_n (lv' := [(2, .int (jI 0)), (0, .ref a0), (1, .int (jI x1))]) hx hb dX12_pagesOf_1 rfl hl (by decide) rfl (fun ls hl => ?_)
  refine j_const hx hb dX12_pagesOf_2 ?_
  refine lv_istore_n (lv' := [(3, .int (jI 0)), (2, .int (jI 0)), (0, .ref a0), (1, .int (jI x1))]) hx hb dX12_pagesOf_3 rfl hl (by decide) rfl (fun ls hl => ?_)
  have L_4 : ∀ (N : Nat) (v2_4 v3_4 : Int) (ls : Array Slot), N = (2147483647 - v3_4 : Int).toNat → (0 ≤ v3_4) → (0 ≤ v2_4) → (v2_4 ≤ v3_4) → (v3_4 ≤ 150) → rg v2_4 → rg v3_4 → lv_has ls 4 [(0, .ref a0), (1, .int (jI x1)), (2, .int (jI v2_4)), (3, .int (jI v3_4))] → W p l e ({ frames := 2, cells := 0, slots := 0, locals := 44 }) s m args below meth c s.heap [] 0 0 Q (F0 m 4 ls []) := by
    intro N
    induction N using Nat.strongRecOn with
    | ind N ih_4 =>
      intro v2_4 v3_4 ls hN i0_4 i1_4 i2_4 i3_4 rv2_4 rv3_4 hl
      refine lv_iload_n hx hb dX12_pagesOf_4 rfl (lv_at hl 3 rfl) ?_
      refine lv_aload_n hx hb dX12_pagesOf_5 rfl (lv_at hl 0 rfl) ?_
      refine j_getI hx hb (C := RX12) (T := TX12) (N := 41) hts inX12_pagesOf_X12 hown hK hS hW h0 rfl 8 rfl rfl (by decide) (hts _ flX12_pagesOf_97) dX12_pagesOf_6 ?_
      have := fbd hW h0 (k := 8) (lo := 0) (hi := 150) rfl rfl
      refine j_icmp_ge (tgt := 36) hx hb (by omega) (by omega) dX12_pagesOf_9 (by decide) (fun c_1 => ?_) (fun c_1 => ?_)
      · refine lv_iload_n hx hb dX12_pagesOf_36 rfl (lv_at hl 2 rfl) ?_
        exact hRet 37 _ v2_4 dX12_pagesOf_37 (by omega) ⟨by omega, by omega⟩
      · refine lv_aload_n hx hb dX12_pagesOf_12 rfl (lv_at hl 0 rfl) ?_
        refine lv_aload_n hx hb dX12_pagesOf_13 rfl (lv_at hl 0 rfl) ?_
        refine j_getR hx hb (C := RX12) (T := TX12) (N := 41) hts inX12_pagesOf_X12 hown hK hS hW h0 rfl 6 rfl rfl (by decide) (hts _ flX12_pagesOf_16) dX12_pagesOf_14 ?_
        have h_2 : τ (G a0 6) = 42 := gty hS h0 (k := 6) rfl rfl
        refine lv_iload_n hx hb dX12_pagesOf_17 rfl (lv_at hl 3 rfl) ?_
        refine j_ald hx hb hK hS hW h_2 (n := 151) rfl (by omega) (by omega) (by decide) dX12_pagesOf_18 ?_
        have := abd hW h_2 (n := 151) (lo := 0) (hi := 150) (i := v3_4) rfl (by omega) (by omega)
        refine lv_iload_n hx hb dX12_pagesOf_19 rfl (lv_at hl 1 rfl) ?_
        refine j_cR (j_runV (As := [.int (jI (σ (G a0 6) (v3_4).toNat)), .int (jI x1)]) (rest := []) hx hb hml hown hts hK hS hW (kX12_beginsPage l hS σ (a0 := a0) (h0 := h0) (x1 := σ (G a0 6) (v3_4).toNat) (r1 := (by omega)) (x2 := x1) (r2 := (by omega)) (q0 := (by omega)) (q1 := (by omega)) (q2 := (by omega)) (q3 := (by omega))) 2 gX12_pagesOf_X12_beginsPage rfl hvX12_beginsPage ⟨Nat.le_of_ble_eq_true rfl, Nat.le_of_ble_eq_true rfl⟩ rfl rfl h0 rfl rfl rfl rfl hl.1 rfl (Nat.le_of_ble_eq_true rfl) dX12_pagesOf_20 ⟨Nat.le_of_ble_eq_true rfl, Nat.le_of_ble_eq_true rfl⟩) (fun v_3 rv_3 pv_3 => ?_)
        try dsimp only at pv_3
        have q_beginsPage := pv_3
        refine j_if_eq (tgt := 30) hx hb (by omega) dX12_pagesOf_23 (by decide) (fun c_4 => ?_) (fun c_4 => ?_)
        · refine j_iinc (lv' := [(3, .int (jI (v3_4 + 1))), (0, .ref a0), (1, .int (jI x1)), (2, .int (jI v2_4))]) hx hb dX12_pagesOf_30 hl (k := 3) rfl (by decide) rfl (fun ls hl => ?_)
          refine lv_goto (tgt := 4) hx hb dX12_pagesOf_33 (by decide) ?_
          exact ih_4 ((2147483647 - (v3_4 + 1) : Int).toNat) (by omega) v2_4 (v3_4 + 1) _ rfl (by omega) (by omega) (by omega) (by omega) (by omega) (by omega) (lv_sub hl [1, 2, 3, 0] rfl)
        · refine lv_iload_n hx hb dX12_pagesOf_26 rfl (lv_at hl 2 rfl) ?_
          refine j_const hx hb dX12_pagesOf_27 ?_
          refine j_add hx hb dX12_pagesOf_28 ?_
          refine lv_istore_n (lv' := [(2, .int (jI (v2_4 + 1))), (0, .ref a0), (1, .int (jI x1)), (3, .int (jI v3_4))]) hx hb dX12_pagesOf_29 rfl hl (by decide) rfl (fun ls hl => ?_)
          refine j_iinc (lv' := [(3, .int (jI (v3_4 + 1))), (2, .int (jI (v2_4 + 1))), (0, .ref a0), (1, .int (jI x1))]) hx hb dX12_pagesOf_30 hl (k := 3) rfl (by decide) rfl (fun ls hl => ?_)
          refine lv_goto (tgt := 4) hx hb dX12_pagesOf_33 (by decide) ?_
          exact ih_4 ((2147483647 - (v3_4 + 1) : Int).toNat) (by omega) (v2_4 + 1) (v3_4 + 1) _ rfl (by omega) (by omega) (by omega) (by omega) (by omega) (by omega) (lv_sub hl [2, 3, 1, 0] rfl)
  exact L_4 ((2147483647 - 0 : Int).toNat) 0 0 _ rfl (by omega) (by omega) (by omega) (by omega) (by decide) (by decide) (lv_sub hl [2, 3, 1, 0] rfl)
theorem flX12_kindsOf_19 : Cond.fieldLink RX12 19 "PageTrieModel" "entryKind" "[I" ∈ wsX12_kindsOf := List.mem_of_getElem? (i := 2) rfl
theorem flX12_kindsOf_97 : Cond.fieldLink RX12 97 "PageTrieModel" "entries" "I" ∈ wsX12_kindsOf := List.mem_of_getElem? (i := 1) rfl
theorem inX12_kindsOf_X12 : ∀ w ∈ u_ws RX12 TX12 41, w ∈ wsX12_kindsOf := mem_r _ [3, 4, 5, 6, 7, 8, 9, 10, 11, 12, 13, 14, 15, 16, 17, 18, 19, 20, 21, 22, 23, 24, 25, 26, 27, 28, 29, 30, 31, 32, 33, 34, 35, 36, 37, 38, 39, 40, 41, 42, 43] rfl
theorem hvX12_kindsOf : yX12_kindsOf.cls = RX12 ∧ yX12_kindsOf.cls ≠ "java/lang/invoke/MethodHandle" ∧ yX12_kindsOf.cls ≠ "java/lang/invoke/VarHandle" ∧ (parseMethodDescriptor yX12_kindsOf.desc).map (fun d => d.parameters.length) = some 1 := by decide +kernel
set_option maxHeartbeats 4000000 in
set_option maxRecDepth 100000 in
theorem kX12_kindsOf (l : Launch) {D : va_G} {cA : Nat → ClassId} {τ : Nat → Nat} {G : Nat → Nat → Nat} {L : List Nat} (hS : SW τ G L) (σ : Nat → Nat → Int) {a0 : Nat} (h0 : τ a0 = 13) {x1 : Int} (r1 : rg x1) : Met l yX12_kindsOf wsX12_kindsOf ({ frames := 0, cells := 0, slots := 0, locals := 0 }) (jP D cA τ G L σ [.ref a0, .int (jI x1)]) (jQR (fun r => (0 ≤ r) ∧ (r ≤ 150))) 0 0 (fun _ => False) := by
  refine j_metR (by decide +kernel) rfl (Nat.le_of_ble_eq_true rfl) ?_
  intro p e s m args below meth c Q hx hb hml hown hts hK hW hRet ls hl
  have hl : lv_has ls 4 [(0, .ref a0), (1, .int (jI x1))] := hl
  have := fbd hW h0 (k := 8) (lo := 0) (hi := 150) rfl rfl
  refine j_const hx hb dX12_kindsOf_0 ?_
  refine lv_istore_n (lv' := [(2, .int (jI 0)), (0, .ref a0), (1, .int (jI x1))]) hx hb dX12_kindsOf_1 rfl hl (by decide) rfl (fun ls hl => ?_)
  refine j_const hx hb dX12_kindsOf_2 ?_
  refine lv_istore_n (lv' := [(3, .int (jI 0)), (2, .int (jI 0)), (0, .ref a0), (1, .int (jI x1))]) hx hb dX12_kindsOf_3 rfl hl (by decide) rfl (fun ls hl => ?_)
  have L_4 : ∀ (N : Nat) (v2_4 v3_4 : Int) (ls : Array Slot), N = (2147483647 - v3_4 : Int).toNat → (0 ≤ v3_4) → (0 ≤ v2_4) → (v2_4 ≤ v3_4) → (v3_4 ≤ 150) → rg v2_4 → rg v3_4 → lv_has ls 4 [(0, .ref a0), (1, .int (jI x1)), (2, .int (jI v2_4)), (3, .int (jI v3_4))] → W p l e ({ frames := 0, cells := 0, slots := 0, locals := 0 }) s m args below meth c s.heap [] 0 0 Q (F0 m 4 ls []) := by
    intro N
    induction N using Nat.strongRecOn with
    | ind N ih_4 =>
      intro v2_4 v3_4 ls hN i0_4 i1_4 i2_4 i3_4 rv2_4 rv3_4 hl
      refine lv_iload_n hx hb dX12_kindsOf_4 rfl (lv_at hl 3 rfl) ?_
      refine lv_aload_n hx hb dX12_kindsOf_5 rfl (lv_at hl 0 rfl) ?_
      refine j_getI hx hb (C := RX12) (T := TX12) (N := 41) hts inX12_kindsOf_X12 hown hK hS hW h0 rfl 8 rfl rfl (by decide) (hts _ flX12_kindsOf_97) dX12_kindsOf_6 ?_
      have := fbd hW h0 (k := 8) (lo := 0) (hi := 150) rfl rfl
      refine j_icmp_ge (tgt := 32) hx hb (by omega) (by omega) dX12_kindsOf_9 (by decide) (fun c_1 => ?_) (fun c_1 => ?_)
      · refine lv_iload_n hx hb dX12_kindsOf_32 rfl (lv_at hl 2 rfl) ?_
        exact hRet 33 _ v2_4 dX12_kindsOf_33 (by omega) ⟨by omega, by omega⟩
      · refine lv_aload_n hx hb dX12_kindsOf_12 rfl (lv_at hl 0 rfl) ?_
        refine j_getR hx hb (C := RX12) (T := TX12) (N := 41) hts inX12_kindsOf_X12 hown hK hS hW h0 rfl 7 rfl rfl (by decide) (hts _ flX12_kindsOf_19) dX12_kindsOf_13 ?_
        have h_2 : τ (G a0 7) = 43 := gty hS h0 (k := 7) rfl rfl
        refine lv_iload_n hx hb dX12_kindsOf_16 rfl (lv_at hl 3 rfl) ?_
        refine j_ald hx hb hK hS hW h_2 (n := 150) rfl (by omega) (by omega) (by decide) dX12_kindsOf_17 ?_
        have := abd hW h_2 (n := 150) (lo := -2147483648) (hi := 2147483647) (i := v3_4) rfl (by omega) (by omega)
        refine lv_iload_n hx hb dX12_kindsOf_18 rfl (lv_at hl 1 rfl) ?_
        refine j_icmp_ne (tgt := 26) hx hb (by omega) (by omega) dX12_kindsOf_19 (by decide) (fun c_3 => ?_) (fun c_3 => ?_)
        · refine j_iinc (lv' := [(3, .int (jI (v3_4 + 1))), (0, .ref a0), (1, .int (jI x1)), (2, .int (jI v2_4))]) hx hb dX12_kindsOf_26 hl (k := 3) rfl (by decide) rfl (fun ls hl => ?_)
          refine lv_goto (tgt := 4) hx hb dX12_kindsOf_29 (by decide) ?_
          exact ih_4 ((2147483647 - (v3_4 + 1) : Int).toNat) (by omega) v2_4 (v3_4 + 1) _ rfl (by omega) (by omega) (by omega) (by omega) (by omega) (by omega) (lv_sub hl [1, 2, 3, 0] rfl)
        · refine lv_iload_n hx hb dX12_kindsOf_22 rfl (lv_at hl 2 rfl) ?_
          refine j_const hx hb dX12_kindsOf_23 ?_
          refine j_add hx hb dX12_kindsOf_24 ?_
          refine lv_istore_n (lv' := [(2, .int (jI (v2_4 + 1))), (0, .ref a0), (1, .int (jI x1)), (3, .int (jI v3_4))]) hx hb dX12_kindsOf_25 rfl hl (by decide) rfl (fun ls hl => ?_)
          refine j_iinc (lv' := [(3, .int (jI (v3_4 + 1))), (2, .int (jI (v2_4 + 1))), (0, .ref a0), (1, .int (jI x1))]) hx hb dX12_kindsOf_26 hl (k := 3) rfl (by decide) rfl (fun ls hl => ?_)
          refine lv_goto (tgt := 4) hx hb dX12_kindsOf_29 (by decide) ?_
          exact ih_4 ((2147483647 - (v3_4 + 1) : Int).toNat) (by omega) (v2_4 + 1) (v3_4 + 1) _ rfl (by omega) (by omega) (by omega) (by omega) (by omega) (by omega) (lv_sub hl [2, 3, 1, 0] rfl)
  exact L_4 ((2147483647 - 0 : Int).toNat) 0 0 _ rfl (by omega) (by omega) (by omega) (by omega) (by decide) (by decide) (lv_sub hl [2, 3, 1, 0] rfl)
theorem hvX12_valuesAll : yX12_valuesAll.cls = RX12 ∧ yX12_valuesAll.cls ≠ "java/lang/invoke/MethodHandle" ∧ yX12_valuesAll.cls ≠ "java/lang/invoke/VarHandle" ∧ (parseMethodDescriptor yX12_valuesAll.desc).map (fun d => d.parameters.length) = some 0 := by decide +kernel
set_option maxHeartbeats 4000000 in
set_option maxRecDepth 100000 in
theorem kX12_valuesAll (l : Launch) {D : va_G} {cA : Nat → ClassId} {τ : Nat → Nat} {G : Nat → Nat → Nat} {L : List Nat} (hS : SW τ G L) (σ : Nat → Nat → Int) {a0 : Nat} (h0 : τ a0 = 13) (hI : FI G a0 σ) : Met l yX12_valuesAll wsX12_valuesAll ({ frames := 1, cells := 0, slots := 0, locals := 22 }) (jP D cA τ G L σ [.ref a0]) (jQR (fun r => True)) 0 0 (fun _ => False) := by
  refine j_metR (by decide +kernel) rfl (Nat.le_of_ble_eq_true rfl) ?_
  intro p e s m args below meth c Q hx hb hml hown hts hK hW hRet ls hl
  have hl : lv_has ls 3 [(0, .ref a0)] := hl
  have := FI_bd hI
  have := fbd hW h0 (k := 3) (lo := 0) (hi := 24) rfl rfl
  refine j_const hx hb dX12_valuesAll_0 ?_
  refine lv_istore_n (lv' := [(1, .int (jI 0)), (0, .ref a0)]) hx hb dX12_valuesAll_1 rfl hl (by decide) rfl (fun ls hl => ?_)
  refine j_const hx hb dX12_valuesAll_2 ?_
  refine lv_istore_n (lv' := [(2, .int (jI 0)), (1, .int (jI 0)), (0, .ref a0)]) hx hb dX12_valuesAll_3 rfl hl (by decide) rfl (fun ls hl => ?_)
  have L_4 : ∀ (N : Nat) (v1_4 v2_4 : Int) (ls : Array Slot), N = (2147483647 - v2_4 : Int).toNat → (0 ≤ v2_4) → rg v1_4 → rg v2_4 → lv_has ls 3 [(0, .ref a0), (1, .int (jI v1_4)), (2, .int (jI v2_4))] → W p l e ({ frames := 1, cells := 0, slots := 0, locals := 22 }) s m args below meth c s.heap [] 0 0 Q (F0 m 4 ls []) := by
    intro N
    induction N using Nat.strongRecOn with
    | ind N ih_4 =>
      intro v1_4 v2_4 ls hN i0_4 rv1_4 rv2_4 hl
      refine lv_iload_n hx hb dX12_valuesAll_4 rfl (lv_at hl 2 rfl) ?_
      refine lv_aload_n hx hb dX12_valuesAll_5 rfl (lv_at hl 0 rfl) ?_
      refine j_cR (j_runV (As := []) (rest := [.int (jI v2_4)]) hx hb hml hown hts hK hS hW (kX12_many l hS σ (a0 := a0) (h0 := h0)) 0 gX12_valuesAll_X12_many rfl hvX12_many ⟨Nat.le_of_ble_eq_true rfl, Nat.le_of_ble_eq_true rfl⟩ rfl rfl h0 rfl rfl rfl rfl hl.1 rfl (Nat.le_of_ble_eq_true rfl) dX12_valuesAll_6 ⟨Nat.le_of_ble_eq_true rfl, Nat.le_of_ble_eq_true rfl⟩) (fun v_1 rv_1 pv_1 => ?_)
      try dsimp only at pv_1
      have q_many := pv_1
      have := FI_bd hI
      refine j_icmp_ge (tgt := 27) hx hb (by omega) (by omega) dX12_valuesAll_9 (by decide) (fun c_2 => ?_) (fun c_2 => ?_)
      · refine lv_iload_n hx hb dX12_valuesAll_27 rfl (lv_at hl 1 rfl) ?_
        exact hRet 28 _ v1_4 dX12_valuesAll_28 (by omega) trivial
      · refine lv_iload_n hx hb dX12_valuesAll_12 rfl (lv_at hl 1 rfl) ?_
        refine lv_aload_n hx hb dX12_valuesAll_13 rfl (lv_at hl 0 rfl) ?_
        refine lv_iload_n hx hb dX12_valuesAll_14 rfl (lv_at hl 2 rfl) ?_
        refine j_const hx hb dX12_valuesAll_15 ?_
        refine j_cR (j_runV (As := [.int (jI v2_4), .int (jI 1)]) (rest := [.int (jI v1_4)]) hx hb hml hown hts hK hS hW (kX12_of l hS σ (a0 := a0) (h0 := h0) (x1 := v2_4) (r1 := (by omega)) (x2 := 1) (r2 := (by decide)) (q0 := (by omega)) (q1 := (by omega))) 2 gX12_valuesAll_X12_of rfl hvX12_of ⟨Nat.le_of_ble_eq_true rfl, Nat.le_of_ble_eq_true rfl⟩ rfl rfl h0 rfl rfl rfl rfl hl.1 rfl (Nat.le_of_ble_eq_true rfl) dX12_valuesAll_16 ⟨Nat.le_of_ble_eq_true rfl, Nat.le_of_ble_eq_true rfl⟩) (fun v_3 rv_3 pv_3 => ?_)
        try dsimp only at pv_3
        have q_of := pv_3
        refine j_add hx hb dX12_valuesAll_19 ?_
        refine j_wrap (fun z_4 rz_4 ez_4 => ?_)
        refine lv_istore_n (lv' := [(1, .int (jI z_4)), (0, .ref a0), (2, .int (jI v2_4))]) hx hb dX12_valuesAll_20 rfl hl (by decide) rfl (fun ls hl => ?_)
        refine j_iinc (lv' := [(2, .int (jI (v2_4 + 1))), (1, .int (jI z_4)), (0, .ref a0)]) hx hb dX12_valuesAll_21 hl (k := 2) rfl (by decide) rfl (fun ls hl => ?_)
        refine lv_goto (tgt := 4) hx hb dX12_valuesAll_24 (by decide) ?_
        exact ih_4 ((2147483647 - (v2_4 + 1) : Int).toNat) (by omega) z_4 (v2_4 + 1) _ rfl (by omega) (by omega) (by omega) (lv_sub hl [2, 1, 0] rfl)
  exact L_4 ((2147483647 - 0 : Int).toNat) 0 0 _ rfl (by omega) (by decide) (by decide) (lv_sub hl [2, 1, 0] rfl)
abbrev wr_X12_value : List Nat := [13003, 13011, 41000]
theorem hvX12_value : yX12_value.cls = RX12 ∧ yX12_value.cls ≠ "java/lang/invoke/MethodHandle" ∧ yX12_value.cls ≠ "java/lang/invoke/VarHandle" ∧ (parseMethodDescriptor yX12_value.desc).map (fun d => d.parameters.length) = some 1 := by decide +kernel
set_option maxHeartbeats 4000000 in
set_option maxRecDepth 100000 in
theorem kX12_value (l : Launch) {D : va_G} {cA : Nat → ClassId} {τ : Nat → Nat} {G : Nat → Nat → Nat} {L : List Nat} (hS : SW τ G L) (σ : Nat → Nat → Int) {a0 : Nat} (h0 : τ a0 = 13) {x1 : Int} (r1 : rg x1) (hI : FI G a0 σ) : Met l yX12_value wsX12_value ({ frames := 4, cells := 0, slots := 0, locals := 86 }) (jP D cA τ G L σ [.ref a0, .int (jI x1)]) (jQI D cA τ G L (fun r σ' => (True) ∧ fr wr_X12_value τ σ σ')) 0 0 (fun q => q ∈ L) := by
  refine j_metI (by decide +kernel) rfl (Nat.le_of_ble_eq_true rfl) ?_
  intro p e s m args below meth c Q hx hb hml hown hts hK hW hRet ls hl
  have hl : lv_has ls 2 [(0, .ref a0), (1, .int (jI x1))] := hl
  have hA : ∀ q ∈ L, (fun q => q ∈ L) q := fun _ h => h
  have hF : va_S (fun q => q ∈ L) s.heap s.heap [] := va_S.rf
  have hR : fr wr_X12_value τ σ σ := fr_rf
  have hk_file : τ (G a0 0) = 40 := gty hS h0 (k := 0) rfl rfl
  have hk_hand : τ (G a0 2) = 41 := gty hS h0 (k := 2) rfl rfl
  have := FI_bd hI
  have := fbd hW h0 (k := 3) (lo := 0) (hi := 24) rfl rfl
  refine lv_aload_n hx hb dX12_value_0 rfl (lv_at hl 0 rfl) ?_
  refine lv_iload_n hx hb dX12_value_1 rfl (lv_at hl 1 rfl) ?_
  refine j_cR (j_runV (As := [.int (jI x1)]) (rest := []) hx hb hml hown hts hK hS hW (kX12_isLong l hS σ (a0 := a0) (h0 := h0) (x1 := x1) (r1 := (by omega))) 1 gX12_value_X12_isLong rfl hvX12_isLong ⟨Nat.le_of_ble_eq_true rfl, Nat.le_of_ble_eq_true rfl⟩ rfl rfl h0 rfl rfl rfl rfl hl.1 rfl (Nat.le_of_ble_eq_true rfl) dX12_value_2 ⟨Nat.le_of_ble_eq_true rfl, Nat.le_of_ble_eq_true rfl⟩) (fun v_1 rv_1 pv_1 => ?_)
  try dsimp only at pv_1
  have q_isLong := pv_1
  refine j_if_ne (tgt := 10) hx hb (by omega) dX12_value_5 (by decide) (fun c_2 => ?_) (fun c_2 => ?_)
  · refine lv_aload_n hx hb dX12_value_10 rfl (lv_at hl 0 rfl) ?_
    refine lv_iload_n hx hb dX12_value_11 rfl (lv_at hl 1 rfl) ?_
    refine j_cI (j_runV (As := [.int (jI x1)]) (rest := []) hx hb hml hown hts hK hS hW (kX12_takesKey l hS σ (a0 := a0) (h0 := h0) (x1 := x1) (r1 := (by omega)) (q0 := (by omega)) (q1 := (by omega))) 1 gX12_value_X12_takesKey rfl hvX12_takesKey ⟨Nat.le_of_ble_eq_true rfl, Nat.le_of_ble_eq_true rfl⟩ rfl rfl h0 rfl rfl rfl rfl hl.1 rfl (Nat.le_of_ble_eq_true rfl) dX12_value_12 ⟨Nat.le_of_ble_eq_true rfl, Nat.le_of_ble_eq_true rfl⟩) hA hF (fun v_3 σ_4 H locs hW hF rv_3 pv_3 => ?_)
    try dsimp only at pv_3
    obtain ⟨bpv_3, pv_3, fpv_3⟩ := pv_3
    have q_takesKey := pv_3
    have hR := fr_call hR fpv_3 (by decide)
    have Efile : σ_4 (G a0 0) = σ (G a0 0) := row_fr fpv_3 hk_file 40 (by decide) (by decide)
    have := congrFun Efile 0
    have hI := FI_dep hS h0 hI (kp_fr fpv_3 (by decide))
    refine j_if_ne (tgt := 21) hx hb (by omega) dX12_value_15 (by decide) (fun c_5 => ?_) (fun c_5 => ?_)
    · refine lv_aload_n hx hb dX12_value_21 rfl (lv_at hl 0 rfl) ?_
      refine j_cR (j_runV (As := []) (rest := []) hx hb hml hown hts hK hS hW (kX12_isHandThere l hS σ_4 (a0 := a0) (h0 := h0) (hI := hI)) 0 gX12_value_X12_isHandThere rfl hvX12_isHandThere ⟨Nat.le_of_ble_eq_true rfl, Nat.le_of_ble_eq_true rfl⟩ rfl rfl h0 rfl rfl rfl rfl hl.1 rfl (Nat.le_of_ble_eq_true rfl) dX12_value_22 ⟨Nat.le_of_ble_eq_true rfl, Nat.le_of_ble_eq_true rfl⟩) (fun v_6 rv_6 pv_6 => ?_)
      try dsimp only at pv_6
      try simp only [Efile] at pv_6
      have q_isHandThere := pv_6
      refine j_if_eq (tgt := 40) hx hb (by omega) dX12_value_25 (by decide) (fun c_7 => ?_) (fun c_7 => ?_)
      · refine j_bi hx hb dX12_value_40 (by decide) ?_
        exact hRet 42 _ _ _ (-3) _ dX12_value_42 hW hF (by decide) ⟨trivial, hR⟩
      · refine lv_aload_n hx hb dX12_value_28 rfl (lv_at hl 0 rfl) ?_
        refine lv_aload_n hx hb dX12_value_29 rfl (lv_at hl 0 rfl) ?_
        refine j_cR (j_runV (As := []) (rest := [.ref a0]) hx hb hml hown hts hK hS hW (kX12_rankOfHand l hS σ_4 (a0 := a0) (h0 := h0) (hI := hI)) 0 gX12_value_X12_rankOfHand rfl hvX12_rankOfHand ⟨Nat.le_of_ble_eq_true rfl, Nat.le_of_ble_eq_true rfl⟩ rfl rfl h0 rfl rfl rfl rfl hl.1 rfl (Nat.le_of_ble_eq_true rfl) dX12_value_30 ⟨Nat.le_of_ble_eq_true rfl, Nat.le_of_ble_eq_true rfl⟩) (fun v_8 rv_8 pv_8 => ?_)
        try dsimp only at pv_8
        try simp only [Efile] at pv_8
        have q_rankOfHand := pv_8
        have : 0 ≤ v_8 ∧ v_8 ≤ σ (G a0 0) 0 := ⟨pv_8.1, pv_8.2.1⟩
        have hrk := TH_rank q_rankOfHand (q_isHandThere.2.mp (by omega))
        refine j_const hx hb dX12_value_33 ?_
        refine j_cR (j_runV (As := [.int (jI v_8), .int (jI 1)]) (rest := []) hx hb hml hown hts hK hS hW (kX12_of l hS σ_4 (a0 := a0) (h0 := h0) (x1 := v_8) (r1 := (by omega)) (x2 := 1) (r2 := (by decide)) (q0 := (by omega)) (q1 := (by omega))) 2 gX12_value_X12_of rfl hvX12_of ⟨Nat.le_of_ble_eq_true rfl, Nat.le_of_ble_eq_true rfl⟩ rfl rfl h0 rfl rfl rfl rfl hl.1 rfl (Nat.le_of_ble_eq_true rfl) dX12_value_34 ⟨Nat.le_of_ble_eq_true rfl, Nat.le_of_ble_eq_true rfl⟩) (fun v_9 rv_9 pv_9 => ?_)
        try dsimp only at pv_9
        try simp only [Efile] at pv_9
        have q_of := pv_9
        refine lv_goto (tgt := 42) hx hb dX12_value_37 (by decide) ?_
        exact hRet 42 _ _ _ v_9 _ dX12_value_42 hW hF (by omega) ⟨trivial, hR⟩
    · refine j_bi hx hb dX12_value_18 (by decide) ?_
      exact hRet 20 _ _ _ (-2) _ dX12_value_20 hW hF (by decide) ⟨trivial, hR⟩
  · refine j_const hx hb dX12_value_8 ?_
    exact hRet 9 _ _ _ (-1) _ dX12_value_9 hW hF (by decide) ⟨trivial, hR⟩
abbrev wr_X12_rank : List Nat := [13003, 13011, 41000]
theorem hvX12_rank : yX12_rank.cls = RX12 ∧ yX12_rank.cls ≠ "java/lang/invoke/MethodHandle" ∧ yX12_rank.cls ≠ "java/lang/invoke/VarHandle" ∧ (parseMethodDescriptor yX12_rank.desc).map (fun d => d.parameters.length) = some 1 := by decide +kernel
set_option maxHeartbeats 4000000 in
set_option maxRecDepth 100000 in
theorem kX12_rank (l : Launch) {D : va_G} {cA : Nat → ClassId} {τ : Nat → Nat} {G : Nat → Nat → Nat} {L : List Nat} (hS : SW τ G L) (σ : Nat → Nat → Int) {a0 : Nat} (h0 : τ a0 = 13) {x1 : Int} (r1 : rg x1) (hI : FI G a0 σ) : Met l yX12_rank wsX12_rank ({ frames := 3, cells := 0, slots := 0, locals := 65 }) (jP D cA τ G L σ [.ref a0, .int (jI x1)]) (jQI D cA τ G L (fun r σ' => (True) ∧ fr wr_X12_rank τ σ σ')) 0 0 (fun q => q ∈ L) := by
  refine j_metI (by decide +kernel) rfl (Nat.le_of_ble_eq_true rfl) ?_
  intro p e s m args below meth c Q hx hb hml hown hts hK hW hRet ls hl
  have hl : lv_has ls 2 [(0, .ref a0), (1, .int (jI x1))] := hl
  have hA : ∀ q ∈ L, (fun q => q ∈ L) q := fun _ h => h
  have hF : va_S (fun q => q ∈ L) s.heap s.heap [] := va_S.rf
  have hR : fr wr_X12_rank τ σ σ := fr_rf
  have hk_file : τ (G a0 0) = 40 := gty hS h0 (k := 0) rfl rfl
  have hk_hand : τ (G a0 2) = 41 := gty hS h0 (k := 2) rfl rfl
  have := FI_bd hI
  have := fbd hW h0 (k := 3) (lo := 0) (hi := 24) rfl rfl
  refine lv_aload_n hx hb dX12_rank_0 rfl (lv_at hl 0 rfl) ?_
  refine lv_iload_n hx hb dX12_rank_1 rfl (lv_at hl 1 rfl) ?_
  refine j_cR (j_runV (As := [.int (jI x1)]) (rest := []) hx hb hml hown hts hK hS hW (kX12_isLong l hS σ (a0 := a0) (h0 := h0) (x1 := x1) (r1 := (by omega))) 1 gX12_rank_X12_isLong rfl hvX12_isLong ⟨Nat.le_of_ble_eq_true rfl, Nat.le_of_ble_eq_true rfl⟩ rfl rfl h0 rfl rfl rfl rfl hl.1 rfl (Nat.le_of_ble_eq_true rfl) dX12_rank_2 ⟨Nat.le_of_ble_eq_true rfl, Nat.le_of_ble_eq_true rfl⟩) (fun v_1 rv_1 pv_1 => ?_)
  try dsimp only at pv_1
  have q_isLong := pv_1
  refine j_if_ne (tgt := 10) hx hb (by omega) dX12_rank_5 (by decide) (fun c_2 => ?_) (fun c_2 => ?_)
  · refine lv_aload_n hx hb dX12_rank_10 rfl (lv_at hl 0 rfl) ?_
    refine lv_iload_n hx hb dX12_rank_11 rfl (lv_at hl 1 rfl) ?_
    refine j_cI (j_runV (As := [.int (jI x1)]) (rest := []) hx hb hml hown hts hK hS hW (kX12_takesKey l hS σ (a0 := a0) (h0 := h0) (x1 := x1) (r1 := (by omega)) (q0 := (by omega)) (q1 := (by omega))) 1 gX12_rank_X12_takesKey rfl hvX12_takesKey ⟨Nat.le_of_ble_eq_true rfl, Nat.le_of_ble_eq_true rfl⟩ rfl rfl h0 rfl rfl rfl rfl hl.1 rfl (Nat.le_of_ble_eq_true rfl) dX12_rank_12 ⟨Nat.le_of_ble_eq_true rfl, Nat.le_of_ble_eq_true rfl⟩) hA hF (fun v_3 σ_4 H locs hW hF rv_3 pv_3 => ?_)
    try dsimp only at pv_3
    obtain ⟨bpv_3, pv_3, fpv_3⟩ := pv_3
    have q_takesKey := pv_3
    have hR := fr_call hR fpv_3 (by decide)
    have Efile : σ_4 (G a0 0) = σ (G a0 0) := row_fr fpv_3 hk_file 40 (by decide) (by decide)
    have := congrFun Efile 0
    have hI := FI_dep hS h0 hI (kp_fr fpv_3 (by decide))
    refine j_if_eq (tgt := 25) hx hb (by omega) dX12_rank_15 (by decide) (fun c_5 => ?_) (fun c_5 => ?_)
    · refine j_bi hx hb dX12_rank_25 (by decide) ?_
      exact hRet 27 _ _ _ (-2) _ dX12_rank_27 hW hF (by decide) ⟨trivial, hR⟩
    · refine lv_aload_n hx hb dX12_rank_18 rfl (lv_at hl 0 rfl) ?_
      refine j_cR (j_runV (As := []) (rest := []) hx hb hml hown hts hK hS hW (kX12_rankOfHand l hS σ_4 (a0 := a0) (h0 := h0) (hI := hI)) 0 gX12_rank_X12_rankOfHand rfl hvX12_rankOfHand ⟨Nat.le_of_ble_eq_true rfl, Nat.le_of_ble_eq_true rfl⟩ rfl rfl h0 rfl rfl rfl rfl hl.1 rfl (Nat.le_of_ble_eq_true rfl) dX12_rank_19 ⟨Nat.le_of_ble_eq_true rfl, Nat.le_of_ble_eq_true rfl⟩) (fun v_6 rv_6 pv_6 => ?_)
      try dsimp only at pv_6
      try simp only [Efile] at pv_6
      have q_rankOfHand := pv_6
      have : 0 ≤ v_6 ∧ v_6 ≤ σ (G a0 0) 0 := ⟨pv_6.1, pv_6.2.1⟩
      refine lv_goto (tgt := 27) hx hb dX12_rank_22 (by decide) ?_
      exact hRet 27 _ _ _ v_6 _ dX12_rank_27 hW hF (by omega) ⟨trivial, hR⟩
  · refine j_const hx hb dX12_rank_8 ?_
    exact hRet 9 _ _ _ (-1) _ dX12_rank_9 hW hF (by decide) ⟨trivial, hR⟩
