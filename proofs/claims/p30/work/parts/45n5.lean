theorem flX12_weightOf_97 : Cond.fieldLink RX12 97 "PageTrieModel" "entries" "I" ∈ wsX12_weightOf := List.mem_of_getElem? (i := 1) rfl
theorem inX12_weightOf_X12 : ∀ w ∈ u_ws RX12 TX12 41, w ∈ wsX12_weightOf := mem_r _ [32, 33, 34, 35, 36, 37, 38, 39, 40, 41, 42, 43, 44, 45, 46, 47, 48, 49, 50, 51, 52, 53, 54, 55, 56, 57, 58, 59, 60, 61, 62, 63, 64, 65, 66, 67, 68, 69, 70, 71, 72] rfl
theorem hvX12_weightOf : yX12_weightOf.cls = RX12 ∧ yX12_weightOf.cls ≠ "java/lang/invoke/MethodHandle" ∧ yX12_weightOf.cls ≠ "java/lang/invoke/VarHandle" ∧ (parseMethodDescriptor yX12_weightOf.desc).map (fun d => d.parameters.length) = some 1 := by decide +kernel
set_option maxHeartbeats 4000000 in
set_option maxRecDepth 100000 in
theorem kX12_weightOf (l : Launch) {D : va_G} {cA : Nat → ClassId} {τ : Nat → Nat} {G : Nat → Nat → Nat} {L : List Nat} (hS : SW τ G L) (σ : Nat → Nat → Int) {a0 : Nat} (h0 : τ a0 = 13) {x1 : Int} (r1 : rg x1) (hI : FI G a0 σ) (q0 : 0 ≤ x1) (q1 : x1 ≤ 23) : Met l yX12_weightOf wsX12_weightOf ({ frames := 3, cells := 0, slots := 0, locals := 67 }) (jP D cA τ G L σ [.ref a0, .int (jI x1)]) (jQR (fun r => True)) 0 0 (fun _ => False) := by
  refine j_metR (by decide +kernel) rfl (Nat.le_of_ble_eq_true rfl) ?_
  intro p e s m args below meth c Q hx hb hml hown hts hK hW hRet ls hl
  have hl : lv_has ls 4 [(0, .ref a0), (1, .int (jI x1))] := hl
  have := FI_bd hI
  have := fbd hW h0 (k := 3) (lo := 0) (hi := 24) rfl rfl
  have := fbd hW h0 (k := 8) (lo := 0) (hi := 150) rfl rfl
  refine j_bi hx hb dX12_weightOf_0 (by decide) ?_
  refine j_const hx hb dX12_weightOf_2 ?_
  refine lv_aload_n hx hb dX12_weightOf_3 rfl (lv_at hl 0 rfl) ?_
  refine lv_iload_n hx hb dX12_weightOf_4 rfl (lv_at hl 1 rfl) ?_
  refine j_cR (j_runV (As := [.int (jI x1)]) (rest := [.int (jI 4), .int (jI 8)]) hx hb hml hown hts hK hS hW (kX12_pagesOf l hS σ (a0 := a0) (h0 := h0) (x1 := x1) (r1 := (by omega)) (q0 := (by omega)) (q1 := (by omega))) 1 gX12_weightOf_X12_pagesOf rfl hvX12_pagesOf ⟨Nat.le_of_ble_eq_true rfl, Nat.le_of_ble_eq_true rfl⟩ rfl rfl h0 rfl rfl rfl rfl hl.1 rfl (Nat.le_of_ble_eq_true rfl) dX12_weightOf_5 ⟨Nat.le_of_ble_eq_true rfl, Nat.le_of_ble_eq_true rfl⟩) (fun v_1 rv_1 pv_1 => ?_)
  try dsimp only at pv_1
  have q_pagesOf := pv_1
  refine j_mul hx hb dX12_weightOf_8 ?_
  refine j_add hx hb dX12_weightOf_9 ?_
  refine lv_istore_n (lv' := [(2, .int (jI (8 + (4 * v_1)))), (0, .ref a0), (1, .int (jI x1))]) hx hb dX12_weightOf_10 rfl hl (by decide) rfl (fun ls hl => ?_)
  refine j_const hx hb dX12_weightOf_11 ?_
  refine lv_istore_n (lv' := [(3, .int (jI 0)), (2, .int (jI (8 + (4 * v_1)))), (0, .ref a0), (1, .int (jI x1))]) hx hb dX12_weightOf_12 rfl hl (by decide) rfl (fun ls hl => ?_)
  have L_13 : ∀ (N : Nat) (v2_13 v3_13 : Int) (ls : Array Slot), N = (2147483647 - v3_13 : Int).toNat → (0 ≤ v3_13) → rg v2_13 → rg v3_13 → lv_has ls 4 [(0, .ref a0), (1, .int (jI x1)), (2, .int (jI v2_13)), (3, .int (jI v3_13))] → W p l e ({ frames := 3, cells := 0, slots := 0, locals := 67 }) s m args below meth c s.heap [] 0 0 Q (F0 m 13 ls []) := by
    intro N
    induction N using Nat.strongRecOn with
    | ind N ih_13 =>
      intro v2_13 v3_13 ls hN i0_13 rv2_13 rv3_13 hl
      refine lv_iload_n hx hb dX12_weightOf_13 rfl (lv_at hl 3 rfl) ?_
      refine lv_aload_n hx hb dX12_weightOf_14 rfl (lv_at hl 0 rfl) ?_
      refine j_getI hx hb (C := RX12) (T := TX12) (N := 41) hts inX12_weightOf_X12 hown hK hS hW h0 rfl 8 rfl rfl (by decide) (hts _ flX12_weightOf_97) dX12_weightOf_15 ?_
      have := fbd hW h0 (k := 8) (lo := 0) (hi := 150) rfl rfl
      refine j_icmp_ge (tgt := 45) hx hb (by omega) (by omega) dX12_weightOf_18 (by decide) (fun c_2 => ?_) (fun c_2 => ?_)
      · refine lv_iload_n hx hb dX12_weightOf_45 rfl (lv_at hl 2 rfl) ?_
        exact hRet 46 _ v2_13 dX12_weightOf_46 (by omega) trivial
      · refine lv_iload_n hx hb dX12_weightOf_21 rfl (lv_at hl 2 rfl) ?_
        refine j_const hx hb dX12_weightOf_22 ?_
        refine j_add hx hb dX12_weightOf_23 ?_
        refine j_wrap (fun z_3 rz_3 ez_3 => ?_)
        refine lv_aload_n hx hb dX12_weightOf_24 rfl (lv_at hl 0 rfl) ?_
        refine lv_iload_n hx hb dX12_weightOf_25 rfl (lv_at hl 3 rfl) ?_
        refine lv_iload_n hx hb dX12_weightOf_26 rfl (lv_at hl 1 rfl) ?_
        refine j_cR (j_runV (As := [.int (jI v3_13), .int (jI x1)]) (rest := [.int (jI z_3)]) hx hb hml hown hts hK hS hW (kX12_partLong l hS σ (a0 := a0) (h0 := h0) (x1 := v3_13) (r1 := (by omega)) (x2 := x1) (r2 := (by omega)) (hI := hI) (q0 := (by omega)) (q1 := (by omega)) (q2 := (by omega)) (q3 := (by omega))) 2 gX12_weightOf_X12_partLong rfl hvX12_partLong ⟨Nat.le_of_ble_eq_true rfl, Nat.le_of_ble_eq_true rfl⟩ rfl rfl h0 rfl rfl rfl rfl hl.1 rfl (Nat.le_of_ble_eq_true rfl) dX12_weightOf_27 ⟨Nat.le_of_ble_eq_true rfl, Nat.le_of_ble_eq_true rfl⟩) (fun v_4 rv_4 pv_4 => ?_)
        try dsimp only at pv_4
        have q_partLong := pv_4
        refine j_add hx hb dX12_weightOf_30 ?_
        refine j_wrap (fun z_5 rz_5 ez_5 => ?_)
        refine lv_aload_n hx hb dX12_weightOf_31 rfl (lv_at hl 0 rfl) ?_
        refine lv_iload_n hx hb dX12_weightOf_32 rfl (lv_at hl 3 rfl) ?_
        refine lv_iload_n hx hb dX12_weightOf_33 rfl (lv_at hl 1 rfl) ?_
        refine j_cR (j_runV (As := [.int (jI v3_13), .int (jI x1)]) (rest := [.int (jI z_5)]) hx hb hml hown hts hK hS hW (kX12_restLong l hS σ (a0 := a0) (h0 := h0) (x1 := v3_13) (r1 := (by omega)) (x2 := x1) (r2 := (by omega)) (hI := hI) (q0 := (by omega)) (q1 := (by omega)) (q2 := (by omega)) (q3 := (by omega))) 2 gX12_weightOf_X12_restLong rfl hvX12_restLong ⟨Nat.le_of_ble_eq_true rfl, Nat.le_of_ble_eq_true rfl⟩ rfl rfl h0 rfl rfl rfl rfl hl.1 rfl (Nat.le_of_ble_eq_true rfl) dX12_weightOf_34 ⟨Nat.le_of_ble_eq_true rfl, Nat.le_of_ble_eq_true rfl⟩) (fun v_6 rv_6 pv_6 => ?_)
        try dsimp only at pv_6
        have q_restLong := pv_6
        refine j_add hx hb dX12_weightOf_37 ?_
        refine j_wrap (fun z_7 rz_7 ez_7 => ?_)
        refine lv_istore_n (lv' := [(2, .int (jI z_7)), (0, .ref a0), (1, .int (jI x1)), (3, .int (jI v3_13))]) hx hb dX12_weightOf_38 rfl hl (by decide) rfl (fun ls hl => ?_)
        refine j_iinc (lv' := [(3, .int (jI (v3_13 + 1))), (2, .int (jI z_7)), (0, .ref a0), (1, .int (jI x1))]) hx hb dX12_weightOf_39 hl (k := 3) rfl (by decide) rfl (fun ls hl => ?_)
        refine lv_goto (tgt := 13) hx hb dX12_weightOf_42 (by decide) ?_
        exact ih_13 ((2147483647 - (v3_13 + 1) : Int).toNat) (by omega) z_7 (v3_13 + 1) _ rfl (by omega) (by omega) (by omega) (lv_sub hl [2, 3, 1, 0] rfl)
  exact L_13 ((2147483647 - 0 : Int).toNat) (8 + (4 * v_1)) 0 _ rfl (by omega) (by omega) (by decide) (lv_sub hl [2, 3, 1, 0] rfl)
