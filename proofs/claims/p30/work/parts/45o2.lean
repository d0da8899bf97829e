theorem hvX12_cursorAt : yX12_cursorAt.cls = RX12 ∧ yX12_cursorAt.cls ≠ "java/lang/invoke/MethodHandle" ∧ yX12_cursorAt.cls ≠ "java/lang/invoke/VarHandle" ∧ (parseMethodDescriptor yX12_cursorAt.desc).map (fun d => d.parameters.length) = some 1 := by decide +kernel
set_option maxHeartbeats 4000000 in
set_option maxRecDepth 100000 in
theorem kX12_cursorAt (l : Launch) {D : va_G} {cA : Nat → ClassId} {τ : Nat → Nat} {G : Nat → Nat → Nat} {L : List Nat} (hS : SW τ G L) (σ : Nat → Nat → Int) {a0 : Nat} (h0 : τ a0 = 13) {x1 : Int} (r1 : rg x1) (q0 : 0 ≤ x1) (q1 : x1 ≤ 3) : Met l yX12_cursorAt wsX12_cursorAt ({ frames := 0, cells := 0, slots := 0, locals := 0 }) (jP D cA τ G L σ [.ref a0, .int (jI x1)]) (jQR (fun r => (r = 4290 + 29 * x1))) 0 0 (fun _ => False) := by
  refine j_metR (by decide +kernel) rfl (Nat.le_of_ble_eq_true rfl) ?_
  intro p e s m args below meth c Q hx hb hml hown hts hK hW hRet ls hl
  have hl : lv_has ls 2 [(0, .ref a0), (1, .int (jI x1))] := hl
  refine j_si hx hb dX12_cursorAt_0 (by decide) ?_
  refine j_bi hx hb dX12_cursorAt_3 (by decide) ?_
  refine lv_iload_n hx hb dX12_cursorAt_5 rfl (lv_at hl 1 rfl) ?_
  refine j_mul hx hb dX12_cursorAt_6 ?_
  refine j_add hx hb dX12_cursorAt_7 ?_
  exact hRet 8 _ (4290 + (29 * x1)) dX12_cursorAt_8 (by omega) (by omega)
theorem hsX12_isCursor : yX12_isCursor.cls = RX12 ∧ yX12_isCursor.cls ≠ "java/lang/invoke/MethodHandle" ∧ yX12_isCursor.cls ≠ "java/lang/invoke/VarHandle" ∧ (parseMethodDescriptor yX12_isCursor.desc).map (fun d => d.parameters.length) = some 1 := by decide +kernel
theorem hvX12_isCursor : yX12_isCursor.cls ≠ "java/lang/invoke/MethodHandle" ∧ yX12_isCursor.cls ≠ "java/lang/invoke/VarHandle" ∧ (parseMethodDescriptor yX12_isCursor.desc).map (fun d => d.parameters.length) = some 1 := hsX12_isCursor.2
set_option maxHeartbeats 4000000 in
set_option maxRecDepth 100000 in
theorem kX12_isCursor (l : Launch) {D : va_G} {cA : Nat → ClassId} {τ : Nat → Nat} {G : Nat → Nat → Nat} {L : List Nat} (hS : SW τ G L) (σ : Nat → Nat → Int) {x0 : Int} (r0 : rg x0) : Met l yX12_isCursor wsX12_isCursor ({ frames := 1, cells := 0, slots := 0, locals := 22 }) (jP D cA τ G L σ [.int (jI x0)]) (jQR (fun r => (0 ≤ r ∧ r ≤ 1) ∧ ((r = 1 ↔ (0 ≤ x0 ∧ x0 ≤ 3))))) 0 0 (fun _ => False) := by
  refine j_metRZ (by decide +kernel) rfl (Nat.le_of_ble_eq_true rfl) ?_
  intro p e s m args below meth c Q hx hb hml hown hts hK hW hRet ls hl
  have hl : lv_has ls 1 [(0, .int (jI x0))] := hl
  refine lv_iload_n hx hb dX12_isCursor_0 rfl (lv_at hl 0 rfl) ?_
  refine j_const hx hb dX12_isCursor_1 ?_
  refine j_const hx hb dX12_isCursor_2 ?_
  refine j_cR (j_runS (As := [.int (jI x0), .int (jI 0), .int (jI 3)]) (rest := []) hx hb hml hown hts hK hW (kX12_in l hS σ (x0 := x0) (r0 := (by omega)) (x1 := 0) (r1 := (by decide)) (x2 := 3) (r2 := (by decide))) 3 gX12_isCursor_X12_in rfl hsX12_in ⟨Nat.le_of_ble_eq_true rfl, Nat.le_of_ble_eq_true rfl⟩ rfl rfl rfl hl.1 rfl (Nat.le_of_ble_eq_true rfl) dX12_isCursor_3 ⟨Nat.le_of_ble_eq_true rfl, Nat.le_of_ble_eq_true rfl⟩) (fun v_1 rv_1 pv_1 => ?_)
  try dsimp only at pv_1
  have q_in := pv_1
  exact hRet 6 _ v_1 dX12_isCursor_6 (by omega) (by omega)
abbrev wr_X12_laysCursor : List Nat := [40000]
theorem flX12_laysCursor_7 : Cond.fieldLink RX12 7 "PageTrieModel" "file" "[I" ∈ wsX12_laysCursor := List.mem_of_getElem? (i := 1) rfl
theorem flX12_laysCursor_13 : Cond.fieldLink RX12 13 "PageTrieModel" "hand" "[I" ∈ wsX12_laysCursor := List.mem_of_getElem? (i := 3) rfl
theorem flX12_laysCursor_70 : Cond.fieldLink RX12 70 "PageTrieModel" "handLong" "I" ∈ wsX12_laysCursor := List.mem_of_getElem? (i := 2) rfl
theorem inX12_laysCursor_X12 : ∀ w ∈ u_ws RX12 TX12 41, w ∈ wsX12_laysCursor := mem_r _ [9, 10, 11, 12, 13, 14, 15, 16, 17, 18, 19, 20, 21, 22, 23, 24, 25, 26, 27, 28, 29, 30, 31, 32, 33, 34, 35, 36, 37, 38, 39, 40, 41, 42, 43, 44, 45, 46, 47, 48, 49] rfl
theorem hvX12_laysCursor : yX12_laysCursor.cls = RX12 ∧ yX12_laysCursor.cls ≠ "java/lang/invoke/MethodHandle" ∧ yX12_laysCursor.cls ≠ "java/lang/invoke/VarHandle" ∧ (parseMethodDescriptor yX12_laysCursor.desc).map (fun d => d.parameters.length) = some 1 := by decide +kernel
set_option maxHeartbeats 4000000 in
set_option maxRecDepth 100000 in
theorem kX12_laysCursor (l : Launch) {D : va_G} {cA : Nat → ClassId} {τ : Nat → Nat} {G : Nat → Nat → Nat} {L : List Nat} (hS : SW τ G L) (σ : Nat → Nat → Int) {a0 : Nat} (h0 : τ a0 = 13) {x1 : Int} (r1 : rg x1) (hI : FI G a0 σ) (q0 : 0 ≤ x1) (q1 : x1 ≤ 3) (q2 : FM (σ (G a0 0))) : Met l yX12_laysCursor wsX12_laysCursor ({ frames := 1, cells := 0, slots := 0, locals := 21 }) (jP D cA τ G L σ [.ref a0, .int (jI x1)]) (jQV D cA τ G L (fun σ' => ((FI G a0 σ') ∧ (FM (σ' (G a0 0))) ∧ (∀ q : Nat, q < 4290 → σ' (G a0 0) q = σ (G a0 0) q)) ∧ fr wr_X12_laysCursor τ σ σ')) 0 0 (fun q => q ∈ L) := by
  refine j_metV (by decide +kernel) rfl (Nat.le_of_ble_eq_true rfl) ?_
  intro p e s m args below meth c Q hx hb hml hown hts hK hW hRet ls hl
  have hl : lv_has ls 4 [(0, .ref a0), (1, .int (jI x1))] := hl
  have hA : ∀ q ∈ L, (fun q => q ∈ L) q := fun _ h => h
  have hF : va_S (fun q => q ∈ L) s.heap s.heap [] := va_S.rf
  have hR : fr wr_X12_laysCursor τ σ σ := fr_rf
  have hk_file : τ (G a0 0) = 40 := gty hS h0 (k := 0) rfl rfl
  have hk_hand : τ (G a0 2) = 41 := gty hS h0 (k := 2) rfl rfl
  have := FI_bd hI
  have := fbd hW h0 (k := 3) (lo := 0) (hi := 24) rfl rfl
  have hI0 := hI
  refine lv_aload_n hx hb dX12_laysCursor_0 rfl (lv_at hl 0 rfl) ?_
  refine lv_iload_n hx hb dX12_laysCursor_1 rfl (lv_at hl 1 rfl) ?_
  refine j_cR (j_runV (As := [.int (jI x1)]) (rest := []) hx hb hml hown hts hK hS hW (kX12_cursorAt l hS σ (a0 := a0) (h0 := h0) (x1 := x1) (r1 := (by omega)) (q0 := (by omega)) (q1 := (by omega))) 1 gX12_laysCursor_X12_cursorAt rfl hvX12_cursorAt ⟨Nat.le_of_ble_eq_true rfl, Nat.le_of_ble_eq_true rfl⟩ rfl rfl h0 rfl rfl rfl rfl hl.1 rfl (Nat.le_of_ble_eq_true rfl) dX12_laysCursor_2 ⟨Nat.le_of_ble_eq_true rfl, Nat.le_of_ble_eq_true rfl⟩) (fun v_1 rv_1 pv_1 => ?_)
  try dsimp only at pv_1
  have q_cursorAt := pv_1
  refine lv_istore_n (lv' := [(2, .int (jI v_1)), (0, .ref a0), (1, .int (jI x1))]) hx hb dX12_laysCursor_5 rfl hl (by decide) rfl (fun ls hl => ?_)
  refine lv_aload_n hx hb dX12_laysCursor_6 rfl (lv_at hl 1 rfl) ?_
  refine j_getR hx hb (C := RX12) (T := TX12) (N := 41) hts inX12_laysCursor_X12 hown hK hS hW h0 rfl 0 rfl rfl (by decide) (hts _ flX12_laysCursor_7) dX12_laysCursor_7 ?_
  refine lv_iload_n hx hb dX12_laysCursor_10 rfl (lv_at hl 0 rfl) ?_
  refine j_const hx hb dX12_laysCursor_11 ?_
  refine j_ast hx hb hK hS hA hW hF hk_file (n := 17624) (lo := -2147483648) (hi := 2147483647) rfl (by omega) (by omega) (by decide) (by omega) dX12_laysCursor_12 (fun σ_2 H locs e_3 hW hF => ?_)
  have st_file := e_3
  have hR := fr_up hR e_3 hk_file 40000 (cdA 40 (by decide) _) (by decide)
  have Ehl : σ_2 a0 3 = σ a0 3 := fld_up e_3 hk_file h0 (fun q => absurd q.1 (by decide))
  have Ehand : σ_2 (G a0 2) = σ (G a0 2) := row_up e_3 hk_file hk_hand (by decide)
  have Ekept : σ_2 a0 1 = σ a0 1 := fld_up e_3 hk_file h0 (fun q => absurd q.1 (by decide))
  have st1 := st_file
  have st1F := congrFun (congrFun st1 (G a0 0)) 0
  refine lv_aload_n hx hb dX12_laysCursor_13 rfl (lv_at hl 1 rfl) ?_
  refine j_getR hx hb (C := RX12) (T := TX12) (N := 41) hts inX12_laysCursor_X12 hown hK hS hW h0 rfl 0 rfl rfl (by decide) (hts _ flX12_laysCursor_7) dX12_laysCursor_14 ?_
  refine lv_iload_n hx hb dX12_laysCursor_17 rfl (lv_at hl 0 rfl) ?_
  refine j_const hx hb dX12_laysCursor_18 ?_
  refine j_add hx hb dX12_laysCursor_19 ?_
  refine lv_aload_n hx hb dX12_laysCursor_20 rfl (lv_at hl 1 rfl) ?_
  refine j_getI hx hb (C := RX12) (T := TX12) (N := 41) hts inX12_laysCursor_X12 hown hK hS hW h0 rfl 3 rfl rfl (by decide) (hts _ flX12_laysCursor_70) dX12_laysCursor_21 ?_
  rw [Ehl]
  have := fbd hW h0 (k := 3) (lo := 0) (hi := 24) rfl rfl
  try simp only [Ehl] at this
  refine j_ast hx hb hK hS hA hW hF hk_file (n := 17624) (lo := -2147483648) (hi := 2147483647) rfl (by omega) (by omega) (by decide) (by omega) dX12_laysCursor_24 (fun σ_4 H locs e_5 hW hF => ?_)
  have st_file := e_5
  have hR := fr_up hR e_5 hk_file 40000 (cdA 40 (by decide) _) (by decide)
  have Ehl : σ_4 a0 3 = σ a0 3 := (fld_up e_5 hk_file h0 (fun q => absurd q.1 (by decide))).trans Ehl
  have Ehand : σ_4 (G a0 2) = σ (G a0 2) := (row_up e_5 hk_file hk_hand (by decide)).trans Ehand
  have Ekept : σ_4 a0 1 = σ a0 1 := (fld_up e_5 hk_file h0 (fun q => absurd q.1 (by decide))).trans Ekept
  have hcu := CU_2 st1 rfl (by omega) st_file rfl q0
  refine j_const hx hb dX12_laysCursor_25 ?_
  refine lv_istore_n (lv' := [(3, .int (jI 0)), (2, .int (jI v_1)), (0, .ref a0), (1, .int (jI x1))]) hx hb dX12_laysCursor_26 rfl hl (by decide) rfl (fun ls hl => ?_)
  have L_27 : ∀ (N : Nat) (v3_27 : Int) (σL_27 : Nat → Nat → Int) (H : Heap) (locs : List Loc) (ls : Array Slot), N = (2147483647 - v3_27 : Int).toNat → (0 ≤ v3_27) → (v3_27 ≤ 24) → (CU (σ (G a0 0)) (σL_27 (G a0 0)) x1 (σ a0 3) v3_27) → rg v3_27 → PW D cA τ G L σL_27 H → va_S (fun q => q ∈ L) s.heap H locs → fr wr_X12_laysCursor τ σ σL_27 → σL_27 a0 3 = σ a0 3 → σL_27 (G a0 2) = σ (G a0 2) → σL_27 a0 1 = σ a0 1 → lv_has ls 4 [(0, .ref a0), (2, .int (jI v_1)), (3, .int (jI v3_27))] → W p l e ({ frames := 1, cells := 0, slots := 0, locals := 21 }) s m args below meth c H locs 0 0 Q (F0 m 27 ls []) := by
    intro N
    induction N using Nat.strongRecOn with
    | ind N ih_27 =>
      intro v3_27 σL_27 H locs ls hN i0_27 i1_27 i2_27 rv3_27 hW hF hR Ehl Ehand Ekept hl
      refine lv_iload_n hx hb dX12_laysCursor_27 rfl (lv_at hl 2 rfl) ?_
      refine j_bi hx hb dX12_laysCursor_28 (by decide) ?_
      refine j_icmp_ge (tgt := 67) hx hb (by omega) (by decide) dX12_laysCursor_30 (by decide) (fun c_6 => ?_) (fun c_6 => ?_)
      · exact hRet 67 _ _ _ _ dX12_laysCursor_67 hW hF ⟨(by first | exact (have hfb := FI_cu hI0 q2 i2_27 q0 (by omega) (by omega) (by omega) (by omega) Ekept; ⟨hfb.1, hfb.2, fun q hq => i2_27.1 q (by omega)⟩) | (simp only [Ehl, Ehand, Ekept]; exact (have hfb := FI_cu hI0 q2 i2_27 q0 (by omega) (by omega) (by omega) (by omega) Ekept; ⟨hfb.1, hfb.2, fun q hq => i2_27.1 q (by omega)⟩))), hR⟩
      · refine lv_aload_n hx hb dX12_laysCursor_33 rfl (lv_at hl 0 rfl) ?_
        refine j_getR hx hb (C := RX12) (T := TX12) (N := 41) hts inX12_laysCursor_X12 hown hK hS hW h0 rfl 0 rfl rfl (by decide) (hts _ flX12_laysCursor_7) dX12_laysCursor_34 ?_
        refine lv_iload_n hx hb dX12_laysCursor_37 rfl (lv_at hl 1 rfl) ?_
        refine j_const hx hb dX12_laysCursor_38 ?_
        refine j_add hx hb dX12_laysCursor_39 ?_
        refine lv_iload_n hx hb dX12_laysCursor_40 rfl (lv_at hl 2 rfl) ?_
        refine j_add hx hb dX12_laysCursor_41 ?_
        refine lv_iload_n hx hb dX12_laysCursor_42 rfl (lv_at hl 2 rfl) ?_
        refine lv_aload_n hx hb dX12_laysCursor_43 rfl (lv_at hl 0 rfl) ?_
        refine j_getI hx hb (C := RX12) (T := TX12) (N := 41) hts inX12_laysCursor_X12 hown hK hS hW h0 rfl 3 rfl rfl (by decide) (hts _ flX12_laysCursor_70) dX12_laysCursor_44 ?_
        rw [Ehl]
        refine j_icmp_ge (tgt := 59) hx hb (by omega) (by omega) dX12_laysCursor_47 (by decide) (fun c_7 => ?_) (fun c_7 => ?_)
        · refine j_const hx hb dX12_laysCursor_59 ?_
          refine j_ast hx hb hK hS hA hW hF hk_file (n := 17624) (lo := -2147483648) (hi := 2147483647) rfl (by omega) (by omega) (by decide) (by omega) dX12_laysCursor_60 (fun σ_8 H locs e_9 hW hF => ?_)
          have st_file := e_9
          have hR := fr_up hR e_9 hk_file 40000 (cdA 40 (by decide) _) (by decide)
          have Ehl : σ_8 a0 3 = σ a0 3 := (fld_up e_9 hk_file h0 (fun q => absurd q.1 (by decide))).trans Ehl
          have Ehand : σ_8 (G a0 2) = σ (G a0 2) := (row_up e_9 hk_file hk_hand (by decide)).trans Ehand
          have Ekept : σ_8 a0 1 = σ a0 1 := (fld_up e_9 hk_file h0 (fun q => absurd q.1 (by decide))).trans Ekept
          refine j_iinc (lv' := [(3, .int (jI (v3_27 + 1))), (0, .ref a0), (2, .int (jI v_1))]) hx hb dX12_laysCursor_61 hl (k := 2) rfl (by decide) rfl (fun ls hl => ?_)
          refine lv_goto (tgt := 27) hx hb dX12_laysCursor_64 (by decide) ?_
          exact ih_27 ((2147483647 - (v3_27 + 1) : Int).toNat) (by omega) (v3_27 + 1) σ_8 _ _ _ rfl (by omega) (by omega) (by first | exact (by first | exact hcu | exact CU_s i2_27 st_file (by first | rfl | exact Efile) (by omega) q0 i0_27 (by omega) (by omega) (by omega)) | (simp only [Ehl, Ehand, Ekept]; exact (by first | exact hcu | exact CU_s i2_27 st_file (by first | rfl | exact Efile) (by omega) q0 i0_27 (by omega) (by omega) (by omega)))) (by omega) hW hF hR Ehl Ehand Ekept (lv_sub hl [1, 2, 0] rfl)
        · refine lv_aload_n hx hb dX12_laysCursor_50 rfl (lv_at hl 0 rfl) ?_
          refine j_getR hx hb (C := RX12) (T := TX12) (N := 41) hts inX12_laysCursor_X12 hown hK hS hW h0 rfl 2 rfl rfl (by decide) (hts _ flX12_laysCursor_13) dX12_laysCursor_51 ?_
          refine lv_iload_n hx hb dX12_laysCursor_54 rfl (lv_at hl 2 rfl) ?_
          refine j_ald hx hb hK hS hW hk_hand (n := 24) rfl (by omega) (by omega) (by decide) dX12_laysCursor_55 ?_
          have := abd hW hk_hand (n := 24) (lo := 0) (hi := 255) (i := v3_27) rfl (by omega) (by omega)
          rw [Ehand]
          try simp only [Ehand] at this
          refine lv_goto (tgt := 60) hx hb dX12_laysCursor_56 (by decide) ?_
          refine j_ast hx hb hK hS hA hW hF hk_file (n := 17624) (lo := -2147483648) (hi := 2147483647) rfl (by omega) (by omega) (by decide) (by omega) dX12_laysCursor_60 (fun σ_10 H locs e_11 hW hF => ?_)
          have st_file := e_11
          have hR := fr_up hR e_11 hk_file 40000 (cdA 40 (by decide) _) (by decide)
          have Ehl : σ_10 a0 3 = σ a0 3 := (fld_up e_11 hk_file h0 (fun q => absurd q.1 (by decide))).trans Ehl
          have Ehand : σ_10 (G a0 2) = σ (G a0 2) := (row_up e_11 hk_file hk_hand (by decide)).trans Ehand
          have Ekept : σ_10 a0 1 = σ a0 1 := (fld_up e_11 hk_file h0 (fun q => absurd q.1 (by decide))).trans Ekept
          refine j_iinc (lv' := [(3, .int (jI (v3_27 + 1))), (0, .ref a0), (2, .int (jI v_1))]) hx hb dX12_laysCursor_61 hl (k := 2) rfl (by decide) rfl (fun ls hl => ?_)
          refine lv_goto (tgt := 27) hx hb dX12_laysCursor_64 (by decide) ?_
          exact ih_27 ((2147483647 - (v3_27 + 1) : Int).toNat) (by omega) (v3_27 + 1) σ_10 _ _ _ rfl (by omega) (by omega) (by first | exact (by first | exact hcu | exact CU_s i2_27 st_file (by first | rfl | exact Efile) (by omega) q0 i0_27 (by omega) (by omega) (by omega)) | (simp only [Ehl, Ehand, Ekept]; exact (by first | exact hcu | exact CU_s i2_27 st_file (by first | rfl | exact Efile) (by omega) q0 i0_27 (by omega) (by omega) (by omega)))) (by omega) hW hF hR Ehl Ehand Ekept (lv_sub hl [1, 2, 0] rfl)
  exact L_27 ((2147483647 - 0 : Int).toNat) 0 σ_4 _ _ _ rfl (by omega) (by omega) (by first | exact (by first | exact hcu | exact CU_s i2_27 st_file (by first | rfl | exact Efile) (by omega) q0 i0_27 (by omega) (by omega) (by omega)) | (simp only [Ehl, Ehand, Ekept]; exact (by first | exact hcu | exact CU_s i2_27 st_file (by first | rfl | exact Efile) (by omega) q0 i0_27 (by omega) (by omega) (by omega)))) (by decide) hW hF hR Ehl Ehand Ekept (lv_sub hl [2, 1, 0] rfl)
abbrev wr_X12_handsCursor : List Nat := [13003, 41000]
theorem flX12_handsCursor_7 : Cond.fieldLink RX12 7 "PageTrieModel" "file" "[I" ∈ wsX12_handsCursor := List.mem_of_getElem? (i := 1) rfl
theorem flX12_handsCursor_13 : Cond.fieldLink RX12 13 "PageTrieModel" "hand" "[I" ∈ wsX12_handsCursor := List.mem_of_getElem? (i := 3) rfl
theorem flX12_handsCursor_70 : Cond.fieldLink RX12 70 "PageTrieModel" "handLong" "I" ∈ wsX12_handsCursor := List.mem_of_getElem? (i := 2) rfl
theorem inX12_handsCursor_X12 : ∀ w ∈ u_ws RX12 TX12 41, w ∈ wsX12_handsCursor := mem_r _ [9, 10, 11, 12, 13, 14, 15, 16, 17, 18, 19, 20, 21, 22, 23, 24, 25, 26, 27, 28, 29, 30, 31, 32, 33, 34, 35, 36, 37, 38, 39, 40, 41, 42, 43, 44, 45, 46, 47, 48, 49] rfl
theorem hvX12_handsCursor : yX12_handsCursor.cls = RX12 ∧ yX12_handsCursor.cls ≠ "java/lang/invoke/MethodHandle" ∧ yX12_handsCursor.cls ≠ "java/lang/invoke/VarHandle" ∧ (parseMethodDescriptor yX12_handsCursor.desc).map (fun d => d.parameters.length) = some 1 := by decide +kernel
set_option maxHeartbeats 4000000 in
set_option maxRecDepth 100000 in
theorem kX12_handsCursor (l : Launch) {D : va_G} {cA : Nat → ClassId} {τ : Nat → Nat} {G : Nat → Nat → Nat} {L : List Nat} (hS : SW τ G L) (σ : Nat → Nat → Int) {a0 : Nat} (h0 : τ a0 = 13) {x1 : Int} (r1 : rg x1) (hI : FI G a0 σ) (q0 : 0 ≤ x1) (q1 : x1 ≤ 3) : Met l yX12_handsCursor wsX12_handsCursor ({ frames := 1, cells := 0, slots := 0, locals := 21 }) (jP D cA τ G L σ [.ref a0, .int (jI x1)]) (jQV D cA τ G L (fun σ' => (True) ∧ fr wr_X12_handsCursor τ σ σ')) 0 0 (fun q => q ∈ L) := by
  refine j_metV (by decide +kernel) rfl (Nat.le_of_ble_eq_true rfl) ?_
  intro p e s m args below meth c Q hx hb hml hown hts hK hW hRet ls hl
  have hl : lv_has ls 4 [(0, .ref a0), (1, .int (jI x1))] := hl
  have hA : ∀ q ∈ L, (fun q => q ∈ L) q := fun _ h => h
  have hF : va_S (fun q => q ∈ L) s.heap s.heap [] := va_S.rf
  have hR : fr wr_X12_handsCursor τ σ σ := fr_rf
  have hk_file : τ (G a0 0) = 40 := gty hS h0 (k := 0) rfl rfl
  have := FI_bd hI
  have := fbd hW h0 (k := 3) (lo := 0) (hi := 24) rfl rfl
  refine lv_aload_n hx hb dX12_handsCursor_0 rfl (lv_at hl 0 rfl) ?_
  refine lv_iload_n hx hb dX12_handsCursor_1 rfl (lv_at hl 1 rfl) ?_
  refine j_cR (j_runV (As := [.int (jI x1)]) (rest := []) hx hb hml hown hts hK hS hW (kX12_cursorAt l hS σ (a0 := a0) (h0 := h0) (x1 := x1) (r1 := (by omega)) (q0 := (by omega)) (q1 := (by omega))) 1 gX12_handsCursor_X12_cursorAt rfl hvX12_cursorAt ⟨Nat.le_of_ble_eq_true rfl, Nat.le_of_ble_eq_true rfl⟩ rfl rfl h0 rfl rfl rfl rfl hl.1 rfl (Nat.le_of_ble_eq_true rfl) dX12_handsCursor_2 ⟨Nat.le_of_ble_eq_true rfl, Nat.le_of_ble_eq_true rfl⟩) (fun v_1 rv_1 pv_1 => ?_)
  try dsimp only at pv_1
  have q_cursorAt := pv_1
  refine lv_istore_n (lv' := [(2, .int (jI v_1)), (0, .ref a0), (1, .int (jI x1))]) hx hb dX12_handsCursor_5 rfl hl (by decide) rfl (fun ls hl => ?_)
  obtain ⟨hc1, hc2⟩ := hI.2.1.2.2 x1 (by omega) (by omega)
  rw [show (4290 + 29 * x1 : Int) = v_1 by omega] at hc1 hc2
  refine lv_aload_n hx hb dX12_handsCursor_6 rfl (lv_at hl 1 rfl) ?_
  refine lv_aload_n hx hb dX12_handsCursor_7 rfl (lv_at hl 1 rfl) ?_
  refine j_getR hx hb (C := RX12) (T := TX12) (N := 41) hts inX12_handsCursor_X12 hown hK hS hW h0 rfl 0 rfl rfl (by decide) (hts _ flX12_handsCursor_7) dX12_handsCursor_8 ?_
  refine lv_iload_n hx hb dX12_handsCursor_11 rfl (lv_at hl 0 rfl) ?_
  refine j_const hx hb dX12_handsCursor_12 ?_
  refine j_add hx hb dX12_handsCursor_13 ?_
  refine j_ald hx hb hK hS hW hk_file (n := 17624) rfl (by omega) (by omega) (by decide) dX12_handsCursor_14 ?_
  have := abd hW hk_file (n := 17624) (lo := -2147483648) (hi := 2147483647) (i := v_1 + 4) rfl (by omega) (by omega)
  refine j_putI hx hb (C := RX12) (T := TX12) (N := 41) hts inX12_handsCursor_X12 tyX12 tyX12_ok nmX12 hown hK hS hA hW hF h0 rfl 3 (lo := 0) (hi := 24) rfl rfl (by decide) (hts _ flX12_handsCursor_70) rfl .int rfl (by omega) rfl rfl dX12_handsCursor_15 (fun σ_2 H locs e_3 hW hF => ?_)
  have hR := fr_up hR e_3 h0 13003 rfl (by decide)
  have Efile : σ_2 (G a0 0) = σ (G a0 0) := row_up e_3 h0 hk_file (by decide)
  have := congrFun Efile 0
  have hI := FI_dep hS h0 hI (kp_up e_3 h0 13003 rfl (by decide))
  have hfk : σ_2 a0 3 = σ (G a0 0) (v_1 + 4).toNat := by rw [e_3]; exact up2_at _ _ _ _
  have hhl := hfk
  refine j_const hx hb dX12_handsCursor_18 ?_
  refine lv_istore_n (lv' := [(3, .int (jI 0)), (2, .int (jI v_1)), (0, .ref a0), (1, .int (jI x1))]) hx hb dX12_handsCursor_19 rfl hl (by decide) rfl (fun ls hl => ?_)
  have L_20 : ∀ (N : Nat) (v3_20 : Int) (σL_20 : Nat → Nat → Int) (H : Heap) (locs : List Loc) (ls : Array Slot), N = (2147483647 - v3_20 : Int).toNat → (0 ≤ v3_20) → rg v3_20 → PW D cA τ G L σL_20 H → va_S (fun q => q ∈ L) s.heap H locs → fr wr_X12_handsCursor τ σ σL_20 → FI G a0 σL_20 → σL_20 (G a0 0) = σ (G a0 0) → σL_20 a0 3 = σ_2 a0 3 → lv_has ls 4 [(0, .ref a0), (2, .int (jI v_1)), (3, .int (jI v3_20))] → W p l e ({ frames := 1, cells := 0, slots := 0, locals := 21 }) s m args below meth c H locs 0 0 Q (F0 m 20 ls []) := by
    intro N
    induction N using Nat.strongRecOn with
    | ind N ih_20 =>
      intro v3_20 σL_20 H locs ls hN i0_20 rv3_20 hW hF hR hI Efile Ehl hl
      have := congrFun Efile 0
      refine lv_iload_n hx hb dX12_handsCursor_20 rfl (lv_at hl 2 rfl) ?_
      refine lv_aload_n hx hb dX12_handsCursor_21 rfl (lv_at hl 0 rfl) ?_
      refine j_getI hx hb (C := RX12) (T := TX12) (N := 41) hts inX12_handsCursor_X12 hown hK hS hW h0 rfl 3 rfl rfl (by decide) (hts _ flX12_handsCursor_70) dX12_handsCursor_22 ?_
      rw [Ehl]
      have := fbd hW h0 (k := 3) (lo := 0) (hi := 24) rfl rfl
      try simp only [Ehl] at this
      refine j_icmp_ge (tgt := 50) hx hb (by omega) (by omega) dX12_handsCursor_25 (by decide) (fun c_4 => ?_) (fun c_4 => ?_)
      · exact hRet 50 _ _ _ _ dX12_handsCursor_50 hW hF ⟨trivial, hR⟩
      · refine lv_aload_n hx hb dX12_handsCursor_28 rfl (lv_at hl 0 rfl) ?_
        refine j_getR hx hb (C := RX12) (T := TX12) (N := 41) hts inX12_handsCursor_X12 hown hK hS hW h0 rfl 2 rfl rfl (by decide) (hts _ flX12_handsCursor_13) dX12_handsCursor_29 ?_
        have h_5 : τ (G a0 2) = 41 := gty hS h0 (k := 2) rfl rfl
        refine lv_iload_n hx hb dX12_handsCursor_32 rfl (lv_at hl 2 rfl) ?_
        have hcb := hc2 v3_20 (by omega) (by omega)
        refine lv_aload_n hx hb dX12_handsCursor_33 rfl (lv_at hl 0 rfl) ?_
        refine j_getR hx hb (C := RX12) (T := TX12) (N := 41) hts inX12_handsCursor_X12 hown hK hS hW h0 rfl 0 rfl rfl (by decide) (hts _ flX12_handsCursor_7) dX12_handsCursor_34 ?_
        refine lv_iload_n hx hb dX12_handsCursor_37 rfl (lv_at hl 1 rfl) ?_
        refine j_const hx hb dX12_handsCursor_38 ?_
        refine j_add hx hb dX12_handsCursor_39 ?_
        refine lv_iload_n hx hb dX12_handsCursor_40 rfl (lv_at hl 2 rfl) ?_
        refine j_add hx hb dX12_handsCursor_41 ?_
        refine j_ald hx hb hK hS hW hk_file (n := 17624) rfl (by omega) (by omega) (by decide) dX12_handsCursor_42 ?_
        have := abd hW hk_file (n := 17624) (lo := -2147483648) (hi := 2147483647) (i := (v_1 + 5) + v3_20) rfl (by omega) (by omega)
        rw [Efile]
        try simp only [Efile] at this
        refine j_ast hx hb hK hS hA hW hF h_5 (n := 24) (lo := 0) (hi := 255) rfl (by omega) (by omega) (by decide) (by omega) dX12_handsCursor_43 (fun σ_6 H locs e_7 hW hF => ?_)
        have st_hand := e_7
        have hR := fr_up hR e_7 h_5 41000 (cdA 41 (by decide) _) (by decide)
        have Efile : σ_6 (G a0 0) = σ (G a0 0) := (row_up e_7 h_5 hk_file (by decide)).trans Efile
        have := congrFun Efile 0
        have Ehl : σ_6 a0 3 = σ_2 a0 3 := (fld_up e_7 h_5 h0 (fun q => absurd q.1 (by decide))).trans Ehl
        have hI := FI_dep hS h0 hI (kp_up e_7 h_5 41000 (cdA 41 (by decide) _) (by decide))
        refine j_iinc (lv' := [(3, .int (jI (v3_20 + 1))), (0, .ref a0), (2, .int (jI v_1))]) hx hb dX12_handsCursor_44 hl (k := 2) rfl (by decide) rfl (fun ls hl => ?_)
        refine lv_goto (tgt := 20) hx hb dX12_handsCursor_47 (by decide) ?_
        exact ih_20 ((2147483647 - (v3_20 + 1) : Int).toNat) (by omega) (v3_20 + 1) σ_6 _ _ _ rfl (by omega) (by omega) hW hF hR hI Efile Ehl (lv_sub hl [1, 2, 0] rfl)
  exact L_20 ((2147483647 - 0 : Int).toNat) 0 σ_2 _ _ _ rfl (by omega) (by decide) hW hF hR hI Efile rfl (lv_sub hl [2, 1, 0] rfl)
abbrev wr_X12_cursor : List Nat := [13003, 13011, 40000, 41000]
theorem flX12_cursor_7 : Cond.fieldLink RX12 7 "PageTrieModel" "file" "[I" ∈ wsX12_cursor := List.mem_of_getElem? (i := 1) rfl
theorem inX12_cursor_X12 : ∀ w ∈ u_ws RX12 TX12 41, w ∈ wsX12_cursor := mem_r _ [32, 33, 34, 35, 36, 37, 38, 39, 40, 41, 42, 43, 44, 45, 46, 47, 48, 49, 50, 51, 52, 53, 54, 55, 56, 57, 58, 59, 60, 61, 62, 63, 64, 65, 66, 67, 68, 69, 70, 71, 72] rfl
theorem hvX12_cursor : yX12_cursor.cls = RX12 ∧ yX12_cursor.cls ≠ "java/lang/invoke/MethodHandle" ∧ yX12_cursor.cls ≠ "java/lang/invoke/VarHandle" ∧ (parseMethodDescriptor yX12_cursor.desc).map (fun d => d.parameters.length) = some 2 := by decide +kernel
set_option maxHeartbeats 4000000 in
set_option maxRecDepth 100000 in
theorem kX12_cursor (l : Launch) {D : va_G} {cA : Nat → ClassId} {τ : Nat → Nat} {G : Nat → Nat → Nat} {L : List Nat} (hS : SW τ G L) (σ : Nat → Nat → Int) {a0 : Nat} (h0 : τ a0 = 13) {x1 : Int} (r1 : rg x1) {x2 : Int} (r2 : rg x2) (hI : FI G a0 σ) (q0 : FM (σ (G a0 0))) : Met l yX12_cursor wsX12_cursor ({ frames := 3, cells := 0, slots := 0, locals := 65 }) (jP D cA τ G L σ [.ref a0, .int (jI x1), .int (jI x2)]) (jQI D cA τ G L (fun r σ' => ((FI G a0 σ') ∧ (FM (σ' (G a0 0)))) ∧ fr wr_X12_cursor τ σ σ')) 0 0 (fun q => q ∈ L) := by
  refine j_metI (by decide +kernel) rfl (Nat.le_of_ble_eq_true rfl) ?_
  intro p e s m args below meth c Q hx hb hml hown hts hK hW hRet ls hl
  have hl : lv_has ls 4 [(0, .ref a0), (1, .int (jI x1)), (2, .int (jI x2))] := hl
  have hA : ∀ q ∈ L, (fun q => q ∈ L) q := fun _ h => h
  have hF : va_S (fun q => q ∈ L) s.heap s.heap [] := va_S.rf
  have hR : fr wr_X12_cursor τ σ σ := fr_rf
  have hk_file : τ (G a0 0) = 40 := gty hS h0 (k := 0) rfl rfl
  have := FI_bd hI
  have := fbd hW h0 (k := 3) (lo := 0) (hi := 24) rfl rfl
  refine lv_iload_n hx hb dX12_cursor_0 rfl (lv_at hl 1 rfl) ?_
  refine j_cR (j_runS (As := [.int (jI x1)]) (rest := []) hx hb hml hown hts hK hW (kX12_isCursor l hS σ (x0 := x1) (r0 := (by omega))) 1 gX12_cursor_X12_isCursor rfl hsX12_isCursor ⟨Nat.le_of_ble_eq_true rfl, Nat.le_of_ble_eq_true rfl⟩ rfl rfl rfl hl.1 rfl (Nat.le_of_ble_eq_true rfl) dX12_cursor_1 ⟨Nat.le_of_ble_eq_true rfl, Nat.le_of_ble_eq_true rfl⟩) (fun v_1 rv_1 pv_1 => ?_)
  try dsimp only at pv_1
  have q_isCursor := pv_1
  refine j_if_eq (tgt := 15) hx hb (by omega) dX12_cursor_4 (by decide) (fun c_2 => ?_) (fun c_2 => ?_)
  · refine j_const hx hb dX12_cursor_15 ?_
    exact hRet 16 _ _ _ (-1) _ dX12_cursor_16 hW hF (by decide) ⟨⟨hI, q0⟩, hR⟩
  · refine lv_aload_n hx hb dX12_cursor_7 rfl (lv_at hl 0 rfl) ?_
    refine lv_iload_n hx hb dX12_cursor_8 rfl (lv_at hl 2 rfl) ?_
    refine j_cR (j_runV (As := [.int (jI x2)]) (rest := []) hx hb hml hown hts hK hS hW (kX12_isLong l hS σ (a0 := a0) (h0 := h0) (x1 := x2) (r1 := (by omega))) 1 gX12_cursor_X12_isLong rfl hvX12_isLong ⟨Nat.le_of_ble_eq_true rfl, Nat.le_of_ble_eq_true rfl⟩ rfl rfl h0 rfl rfl rfl rfl hl.1 rfl (Nat.le_of_ble_eq_true rfl) dX12_cursor_9 ⟨Nat.le_of_ble_eq_true rfl, Nat.le_of_ble_eq_true rfl⟩) (fun v_3 rv_3 pv_3 => ?_)
    try dsimp only at pv_3
    have q_isLong := pv_3
    refine j_if_ne (tgt := 17) hx hb (by omega) dX12_cursor_12 (by decide) (fun c_4 => ?_) (fun c_4 => ?_)
    · refine lv_aload_n hx hb dX12_cursor_17 rfl (lv_at hl 0 rfl) ?_
      refine lv_iload_n hx hb dX12_cursor_18 rfl (lv_at hl 2 rfl) ?_
      refine j_cI (j_runV (As := [.int (jI x2)]) (rest := []) hx hb hml hown hts hK hS hW (kX12_takesKey l hS σ (a0 := a0) (h0 := h0) (x1 := x2) (r1 := (by omega)) (q0 := (by omega)) (q1 := (by omega))) 1 gX12_cursor_X12_takesKey rfl hvX12_takesKey ⟨Nat.le_of_ble_eq_true rfl, Nat.le_of_ble_eq_true rfl⟩ rfl rfl h0 rfl rfl rfl rfl hl.1 rfl (Nat.le_of_ble_eq_true rfl) dX12_cursor_19 ⟨Nat.le_of_ble_eq_true rfl, Nat.le_of_ble_eq_true rfl⟩) hA hF (fun v_5 σ_6 H locs hW hF rv_5 pv_5 => ?_)
      try dsimp only at pv_5
      obtain ⟨bpv_5, pv_5, fpv_5⟩ := pv_5
      have q_takesKey := pv_5
      have hR := fr_call hR fpv_5 (by decide)
      have Efile : σ_6 (G a0 0) = σ (G a0 0) := row_fr fpv_5 hk_file 40 (by decide) (by decide)
      have := congrFun Efile 0
      have Ekept : σ_6 a0 1 = σ a0 1 := fr_at fpv_5 h0 1 13001 rfl (by decide)
      have hI := FI_dep hS h0 hI (kp_fr fpv_5 (by decide))
      refine j_if_ne (tgt := 28) hx hb (by omega) dX12_cursor_22 (by decide) (fun c_7 => ?_) (fun c_7 => ?_)
      · refine lv_aload_n hx hb dX12_cursor_28 rfl (lv_at hl 0 rfl) ?_
        refine lv_iload_n hx hb dX12_cursor_29 rfl (lv_at hl 1 rfl) ?_
        refine j_cV (j_runV (As := [.int (jI x1)]) (rest := []) hx hb hml hown hts hK hS hW (kX12_laysCursor l hS σ_6 (a0 := a0) (h0 := h0) (x1 := x1) (r1 := (by omega)) (hI := hI) (q0 := (by omega)) (q1 := (by omega)) (q2 := (by first | exact q0 | (rw [Efile]; exact q0)))) 1 gX12_cursor_X12_laysCursor rfl hvX12_laysCursor ⟨Nat.le_of_ble_eq_true rfl, Nat.le_of_ble_eq_true rfl⟩ rfl rfl h0 rfl rfl rfl rfl hl.1 rfl (Nat.le_of_ble_eq_true rfl) dX12_cursor_30 ⟨Nat.le_of_ble_eq_true rfl, Nat.le_of_ble_eq_true rfl⟩) hA hF (fun σ_8 H locs hW hF pσ_8 => ?_)
        try dsimp only at pσ_8
        obtain ⟨pσ_8, fpσ_8⟩ := pσ_8
        try simp only [Efile, Ekept] at pσ_8
        have q_laysCursor := pσ_8
        have hR := fr_call hR fpσ_8 (by decide)
        have Ehl : σ_8 a0 3 = σ_6 a0 3 := fr_at fpσ_8 h0 3 13003 rfl (by decide)
        have Ekept : σ_8 a0 1 = σ a0 1 := (fr_at fpσ_8 h0 1 13001 rfl (by decide)).trans Ekept
        have hI := q_laysCursor.1
        refine j_const hx hb dX12_cursor_33 ?_
        refine lv_istore_n (lv' := [(3, .int (jI 1)), (0, .ref a0), (1, .int (jI x1)), (2, .int (jI x2))]) hx hb dX12_cursor_34 rfl hl (by decide) rfl (fun ls hl => ?_)
        have L_35 : ∀ (N : Nat) (v3_35 : Int) (σL_35 : Nat → Nat → Int) (H : Heap) (locs : List Loc) (ls : Array Slot), N = (2147483647 - v3_35 : Int).toNat → (1 ≤ v3_35) → (v3_35 ≤ 4) → (FM (σL_35 (G a0 0))) → rg v3_35 → PW D cA τ G L σL_35 H → va_S (fun q => q ∈ L) s.heap H locs → fr wr_X12_cursor τ σ σL_35 → FI G a0 σL_35 → σL_35 a0 3 = σ_6 a0 3 → σL_35 a0 1 = σ a0 1 → lv_has ls 4 [(0, .ref a0), (1, .int (jI x1)), (3, .int (jI v3_35))] → W p l e ({ frames := 3, cells := 0, slots := 0, locals := 65 }) s m args below meth c H locs 0 0 Q (F0 m 35 ls []) := by
          intro N
          induction N using Nat.strongRecOn with
          | ind N ih_35 =>
            intro v3_35 σL_35 H locs ls hN i0_35 i1_35 i2_35 rv3_35 hW hF hR hI Ehl Ekept hl
            refine lv_iload_n hx hb dX12_cursor_35 rfl (lv_at hl 2 rfl) ?_
            refine j_const hx hb dX12_cursor_36 ?_
            refine j_icmp_ge (tgt := 59) hx hb (by omega) (by decide) dX12_cursor_37 (by decide) (fun c_9 => ?_) (fun c_9 => ?_)
            · refine j_const hx hb dX12_cursor_59 ?_
              exact hRet 60 _ _ _ 0 _ dX12_cursor_60 hW hF (by decide) ⟨(by first | exact ⟨hI, i2_35⟩ | (simp only [Ehl, Ekept]; exact ⟨hI, i2_35⟩)), hR⟩
            · have hke := Ekept
              refine lv_aload_n hx hb dX12_cursor_40 rfl (lv_at hl 0 rfl) ?_
              refine j_getR hx hb (C := RX12) (T := TX12) (N := 41) hts inX12_cursor_X12 hown hK hS hW h0 rfl 0 rfl rfl (by decide) (hts _ flX12_cursor_7) dX12_cursor_41 ?_
              refine lv_aload_n hx hb dX12_cursor_44 rfl (lv_at hl 0 rfl) ?_
              refine lv_iload_n hx hb dX12_cursor_45 rfl (lv_at hl 1 rfl) ?_
              refine j_cR (j_runV (As := [.int (jI x1)]) (rest := [.ref (G a0 0)]) hx hb hml hown hts hK hS hW (kX12_cursorAt l hS σL_35 (a0 := a0) (h0 := h0) (x1 := x1) (r1 := (by omega)) (q0 := (by omega)) (q1 := (by omega))) 1 gX12_cursor_X12_cursorAt rfl hvX12_cursorAt ⟨Nat.le_of_ble_eq_true rfl, Nat.le_of_ble_eq_true rfl⟩ rfl rfl h0 rfl rfl rfl rfl hl.1 rfl (Nat.le_of_ble_eq_true rfl) dX12_cursor_46 ⟨Nat.le_of_ble_eq_true rfl, Nat.le_of_ble_eq_true rfl⟩) (fun v_10 rv_10 pv_10 => ?_)
              try dsimp only at pv_10
              try simp only [Ehl, Ekept] at pv_10
              have q_cursorAt := pv_10
              refine lv_iload_n hx hb dX12_cursor_49 rfl (lv_at hl 2 rfl) ?_
              refine j_add hx hb dX12_cursor_50 ?_
              refine j_const hx hb dX12_cursor_51 ?_
              refine j_ast hx hb hK hS hA hW hF hk_file (n := 17624) (lo := -2147483648) (hi := 2147483647) rfl (by omega) (by omega) (by decide) (by omega) dX12_cursor_52 (fun σ_11 H locs e_12 hW hF => ?_)
              have st_file := e_12
              have hR := fr_up hR e_12 hk_file 40000 (cdA 40 (by decide) _) (by decide)
              have Ehl : σ_11 a0 3 = σ_6 a0 3 := (fld_up e_12 hk_file h0 (fun q => absurd q.1 (by decide))).trans Ehl
              have Ekept : σ_11 a0 1 = σ a0 1 := (fld_up e_12 hk_file h0 (fun q => absurd q.1 (by decide))).trans Ekept
              have hcm := FI_cm hI i2_35 st_file (c := x1) (by omega) (by omega) (by omega) (by omega) (Ekept.trans hke.symm)
              have hI := hcm.1
              refine j_iinc (lv' := [(3, .int (jI (v3_35 + 1))), (0, .ref a0), (1, .int (jI x1))]) hx hb dX12_cursor_53 hl (k := 2) rfl (by decide) rfl (fun ls hl => ?_)
              refine lv_goto (tgt := 35) hx hb dX12_cursor_56 (by decide) ?_
              exact ih_35 ((2147483647 - (v3_35 + 1) : Int).toNat) (by omega) (v3_35 + 1) σ_11 _ _ _ rfl (by omega) (by omega) (by first | exact (by first | exact hcm.2 | exact q_laysCursor.2.1) | (simp only [Ehl, Ekept]; exact (by first | exact hcm.2 | exact q_laysCursor.2.1))) (by omega) hW hF hR hI Ehl Ekept (lv_sub hl [1, 2, 0] rfl)
        exact L_35 ((2147483647 - 1 : Int).toNat) 1 σ_8 _ _ _ rfl (by omega) (by omega) (by first | exact (by first | exact hcm.2 | exact q_laysCursor.2.1) | (simp only [Ehl, Ekept]; exact (by first | exact hcm.2 | exact q_laysCursor.2.1))) (by decide) hW hF hR hI Ehl Ekept (lv_sub hl [1, 2, 0] rfl)
      · refine j_bi hx hb dX12_cursor_25 (by decide) ?_
        exact hRet 27 _ _ _ (-2) _ dX12_cursor_27 hW hF (by decide) ⟨(by first | exact ⟨hI, q0⟩ | (simp only [Efile, Ekept]; exact ⟨hI, q0⟩)), hR⟩
    · refine j_const hx hb dX12_cursor_15 ?_
      exact hRet 16 _ _ _ (-1) _ dX12_cursor_16 hW hF (by decide) ⟨⟨hI, q0⟩, hR⟩
