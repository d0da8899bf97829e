abbrev wr_X10_clear : List Nat := [4003, 11001, 11002, 11005, 11006, 11007, 11008]
theorem flX10_clear_12 : Cond.fieldLink RX10 12 "PageTrie$Trie" "keys" "LPageTrie$Keys;" ∈ wsX10_clear := List.mem_of_getElem? (i := 1) rfl
theorem flX10_clear_26 : Cond.fieldLink RX10 26 "PageTrie$Trie" "width" "I" ∈ wsX10_clear := List.mem_of_getElem? (i := 3) rfl
theorem flX10_clear_30 : Cond.fieldLink RX10 30 "PageTrie$Trie" "room" "I" ∈ wsX10_clear := List.mem_of_getElem? (i := 4) rfl
theorem flX10_clear_33 : Cond.fieldLink RX10 33 "PageTrie$Trie" "parted" "I" ∈ wsX10_clear := List.mem_of_getElem? (i := 5) rfl
theorem flX10_clear_36 : Cond.fieldLink RX10 36 "PageTrie$Trie" "joined" "I" ∈ wsX10_clear := List.mem_of_getElem? (i := 6) rfl
theorem flX10_clear_39 : Cond.fieldLink RX10 39 "PageTrie$Trie" "made" "I" ∈ wsX10_clear := List.mem_of_getElem? (i := 7) rfl
theorem flX10_clear_42 : Cond.fieldLink RX10 42 "PageTrie$Trie" "folded" "I" ∈ wsX10_clear := List.mem_of_getElem? (i := 8) rfl
theorem flX10_clear_45 : Cond.fieldLink RX10 45 "PageTrie$Keys" "size" "I" ∈ wsX10_clear := List.mem_of_getElem? (i := 2) rfl
theorem inX10_clear_X10 : ∀ w ∈ u_ws RX10 TX10 9, w ∈ wsX10_clear := mem_r _ [9, 10, 11, 12, 13, 14, 15, 16, 17] rfl
theorem inX10_clear_X3 : ∀ w ∈ u_ws RX3 TX3 4, w ∈ wsX10_clear := mem_r _ [18, 19, 20, 21] rfl
theorem hvX10_clear : yX10_clear.cls = RX10 ∧ yX10_clear.cls ≠ "java/lang/invoke/MethodHandle" ∧ yX10_clear.cls ≠ "java/lang/invoke/VarHandle" ∧ (parseMethodDescriptor yX10_clear.desc).map (fun d => d.parameters.length) = some 2 := by decide +kernel
set_option maxHeartbeats 4000000 in
set_option maxRecDepth 100000 in
theorem kX10_clear (l : Launch) {D : va_G} {cA : Nat → ClassId} {τ : Nat → Nat} {G : Nat → Nat → Nat} {L : List Nat} (hS : SW τ G L) (σ : Nat → Nat → Int) {a0 : Nat} (h0 : τ a0 = 11) {x1 : Int} (r1 : rg x1) {x2 : Int} (r2 : rg x2) : Met l yX10_clear wsX10_clear ({ frames := 0, cells := 0, slots := 0, locals := 0 }) (jP D cA τ G L σ [.ref a0, .int (jI x1), .int (jI x2)]) (jQV D cA τ G L (fun σ' => (True) ∧ fr wr_X10_clear τ σ σ')) 0 0 (fun q => q ∈ L) := by
  refine j_metV (by decide +kernel) rfl (Nat.le_of_ble_eq_true rfl) ?_
  intro p e s m args below meth c Q hx hb hml hown hts hK hW hRet ls hl
  have hl : lv_has ls 3 [(0, .ref a0), (1, .int (jI x1)), (2, .int (jI x2))] := hl
  have hA : ∀ q ∈ L, (fun q => q ∈ L) q := fun _ h => h
  have hF : va_S (fun q => q ∈ L) s.heap s.heap [] := va_S.rf
  have hR : fr wr_X10_clear τ σ σ := fr_rf
  refine lv_aload_n hx hb dX10_clear_0 rfl (lv_at hl 0 rfl) ?_
  refine j_getR hx hb (C := RX10) (T := TX10) (N := 9) hts inX10_clear_X10 hown hK hS hW h0 rfl 0 rfl rfl (by decide) (hts _ flX10_clear_12) dX10_clear_1 ?_
  have h_1 : τ (G a0 0) = 4 := gty hS h0 (k := 0) rfl rfl
  refine j_const hx hb dX10_clear_4 ?_
  refine j_putI hx hb (C := RX3) (T := TX3) (N := 4) hts inX10_clear_X3 tyX3 tyX3_ok nmX3 hown hK hS hA hW hF h_1 rfl 3 (lo := 0) (hi := 150) rfl rfl (by decide) (hts _ flX10_clear_45) rfl .int rfl (by omega) rfl rfl dX10_clear_5 (fun σ_2 H locs e_3 hW hF => ?_)
  have hR := fr_up hR e_3 h_1 4003 rfl (by decide)
  have : σ_2 (G a0 0) 3 = 0 := by rw [e_3]; exact up2_at _ _ _ _
  refine lv_aload_n hx hb dX10_clear_8 rfl (lv_at hl 0 rfl) ?_
  refine lv_iload_n hx hb dX10_clear_9 rfl (lv_at hl 1 rfl) ?_
  refine j_putI hx hb (C := RX10) (T := TX10) (N := 9) hts inX10_clear_X10 tyX10 tyX10_ok nmX10 hown hK hS hA hW hF h0 rfl 1 (lo := -2147483648) (hi := 2147483647) rfl rfl (by decide) (hts _ flX10_clear_26) rfl .int rfl (by omega) rfl rfl dX10_clear_10 (fun σ_4 H locs e_5 hW hF => ?_)
  have hR := fr_up hR e_5 h0 11001 rfl (by decide)
  have : σ_4 a0 1 = x1 := by rw [e_5]; exact up2_at _ _ _ _
  refine lv_aload_n hx hb dX10_clear_13 rfl (lv_at hl 0 rfl) ?_
  refine lv_iload_n hx hb dX10_clear_14 rfl (lv_at hl 2 rfl) ?_
  refine j_putI hx hb (C := RX10) (T := TX10) (N := 9) hts inX10_clear_X10 tyX10 tyX10_ok nmX10 hown hK hS hA hW hF h0 rfl 2 (lo := -2147483648) (hi := 2147483647) rfl rfl (by decide) (hts _ flX10_clear_30) rfl .int rfl (by omega) rfl rfl dX10_clear_15 (fun σ_6 H locs e_7 hW hF => ?_)
  have hR := fr_up hR e_7 h0 11002 rfl (by decide)
  have : σ_6 a0 2 = x2 := by rw [e_7]; exact up2_at _ _ _ _
  refine lv_aload_n hx hb dX10_clear_18 rfl (lv_at hl 0 rfl) ?_
  refine j_const hx hb dX10_clear_19 ?_
  refine j_putI hx hb (C := RX10) (T := TX10) (N := 9) hts inX10_clear_X10 tyX10 tyX10_ok nmX10 hown hK hS hA hW hF h0 rfl 5 (lo := -2147483648) (hi := 2147483647) rfl rfl (by decide) (hts _ flX10_clear_33) rfl .int rfl (by omega) rfl rfl dX10_clear_20 (fun σ_8 H locs e_9 hW hF => ?_)
  have hR := fr_up hR e_9 h0 11005 rfl (by decide)
  have : σ_8 a0 5 = 0 := by rw [e_9]; exact up2_at _ _ _ _
  refine lv_aload_n hx hb dX10_clear_23 rfl (lv_at hl 0 rfl) ?_
  refine j_const hx hb dX10_clear_24 ?_
  refine j_putI hx hb (C := RX10) (T := TX10) (N := 9) hts inX10_clear_X10 tyX10 tyX10_ok nmX10 hown hK hS hA hW hF h0 rfl 6 (lo := -2147483648) (hi := 2147483647) rfl rfl (by decide) (hts _ flX10_clear_36) rfl .int rfl (by omega) rfl rfl dX10_clear_25 (fun σ_10 H locs e_11 hW hF => ?_)
  have hR := fr_up hR e_11 h0 11006 rfl (by decide)
  have : σ_10 a0 6 = 0 := by rw [e_11]; exact up2_at _ _ _ _
  refine lv_aload_n hx hb dX10_clear_28 rfl (lv_at hl 0 rfl) ?_
  refine j_const hx hb dX10_clear_29 ?_
  refine j_putI hx hb (C := RX10) (T := TX10) (N := 9) hts inX10_clear_X10 tyX10 tyX10_ok nmX10 hown hK hS hA hW hF h0 rfl 7 (lo := -2147483648) (hi := 2147483647) rfl rfl (by decide) (hts _ flX10_clear_39) rfl .int rfl (by omega) rfl rfl dX10_clear_30 (fun σ_12 H locs e_13 hW hF => ?_)
  have hR := fr_up hR e_13 h0 11007 rfl (by decide)
  have : σ_12 a0 7 = 0 := by rw [e_13]; exact up2_at _ _ _ _
  refine lv_aload_n hx hb dX10_clear_33 rfl (lv_at hl 0 rfl) ?_
  refine j_const hx hb dX10_clear_34 ?_
  refine j_putI hx hb (C := RX10) (T := TX10) (N := 9) hts inX10_clear_X10 tyX10 tyX10_ok nmX10 hown hK hS hA hW hF h0 rfl 8 (lo := -2147483648) (hi := 2147483647) rfl rfl (by decide) (hts _ flX10_clear_42) rfl .int rfl (by omega) rfl rfl dX10_clear_35 (fun σ_14 H locs e_15 hW hF => ?_)
  have hR := fr_up hR e_15 h0 11008 rfl (by decide)
  have : σ_14 a0 8 = 0 := by rw [e_15]; exact up2_at _ _ _ _
  exact hRet 38 _ _ _ _ dX10_clear_38 hW hF ⟨trivial, hR⟩
abbrev wr_X10_copyFrom : List Nat := [4003, 11001, 11002, 11005, 11006, 11007, 11008, 22000, 23000, 24000, 25000, 26000]
theorem flX10_copyFrom_12 : Cond.fieldLink RX10 12 "PageTrie$Trie" "keys" "LPageTrie$Keys;" ∈ wsX10_copyFrom := List.mem_of_getElem? (i := 1) rfl
theorem flX10_copyFrom_18 : Cond.fieldLink RX10 18 "PageTrie$Trie" "shared" "[I" ∈ wsX10_copyFrom := List.mem_of_getElem? (i := 2) rfl
theorem flX10_copyFrom_22 : Cond.fieldLink RX10 22 "PageTrie$Trie" "opens" "[Z" ∈ wsX10_copyFrom := List.mem_of_getElem? (i := 7) rfl
theorem flX10_copyFrom_26 : Cond.fieldLink RX10 26 "PageTrie$Trie" "width" "I" ∈ wsX10_copyFrom := List.mem_of_getElem? (i := 8) rfl
theorem flX10_copyFrom_30 : Cond.fieldLink RX10 30 "PageTrie$Trie" "room" "I" ∈ wsX10_copyFrom := List.mem_of_getElem? (i := 9) rfl
theorem flX10_copyFrom_33 : Cond.fieldLink RX10 33 "PageTrie$Trie" "parted" "I" ∈ wsX10_copyFrom := List.mem_of_getElem? (i := 10) rfl
theorem flX10_copyFrom_36 : Cond.fieldLink RX10 36 "PageTrie$Trie" "joined" "I" ∈ wsX10_copyFrom := List.mem_of_getElem? (i := 11) rfl
theorem flX10_copyFrom_39 : Cond.fieldLink RX10 39 "PageTrie$Trie" "made" "I" ∈ wsX10_copyFrom := List.mem_of_getElem? (i := 12) rfl
theorem flX10_copyFrom_42 : Cond.fieldLink RX10 42 "PageTrie$Trie" "folded" "I" ∈ wsX10_copyFrom := List.mem_of_getElem? (i := 13) rfl
theorem inX10_copyFrom_X10 : ∀ w ∈ u_ws RX10 TX10 9, w ∈ wsX10_copyFrom := mem_r _ [24, 25, 26, 27, 28, 29, 30, 31, 32] rfl
theorem hvX10_copyFrom : yX10_copyFrom.cls = RX10 ∧ yX10_copyFrom.cls ≠ "java/lang/invoke/MethodHandle" ∧ yX10_copyFrom.cls ≠ "java/lang/invoke/VarHandle" ∧ (parseMethodDescriptor yX10_copyFrom.desc).map (fun d => d.parameters.length) = some 1 := by decide +kernel
set_option maxHeartbeats 4000000 in
set_option maxRecDepth 100000 in
theorem kX10_copyFrom (l : Launch) {D : va_G} {cA : Nat → ClassId} {τ : Nat → Nat} {G : Nat → Nat → Nat} {L : List Nat} (hS : SW τ G L) (σ : Nat → Nat → Int) {a0 : Nat} (h0 : τ a0 = 11) {a1 : Nat} (h1 : τ a1 = 11) : Met l yX10_copyFrom wsX10_copyFrom ({ frames := 2, cells := 0, slots := 0, locals := 61 }) (jP D cA τ G L σ [.ref a0, .ref a1]) (jQV D cA τ G L (fun σ' => (True) ∧ fr wr_X10_copyFrom τ σ σ')) 0 0 (fun q => q ∈ L) := by
  refine j_metV (by decide +kernel) rfl (Nat.le_of_ble_eq_true rfl) ?_
  intro p e s m args below meth c Q hx hb hml hown hts hK hW hRet ls hl
  have hl : lv_has ls 2 [(0, .ref a0), (1, .ref a1)] := hl
  have hA : ∀ q ∈ L, (fun q => q ∈ L) q := fun _ h => h
  have hF : va_S (fun q => q ∈ L) s.heap s.heap [] := va_S.rf
  have hR : fr wr_X10_copyFrom τ σ σ := fr_rf
  refine lv_aload_n hx hb dX10_copyFrom_0 rfl (lv_at hl 0 rfl) ?_
  refine j_getR hx hb (C := RX10) (T := TX10) (N := 9) hts inX10_copyFrom_X10 hown hK hS hW h0 rfl 0 rfl rfl (by decide) (hts _ flX10_copyFrom_12) dX10_copyFrom_1 ?_
  have h_1 : τ (G a0 0) = 4 := gty hS h0 (k := 0) rfl rfl
  refine lv_aload_n hx hb dX10_copyFrom_4 rfl (lv_at hl 1 rfl) ?_
  refine j_getR hx hb (C := RX10) (T := TX10) (N := 9) hts inX10_copyFrom_X10 hown hK hS hW h1 rfl 0 rfl rfl (by decide) (hts _ flX10_copyFrom_12) dX10_copyFrom_5 ?_
  have h_2 : τ (G a1 0) = 4 := gty hS h1 (k := 0) rfl rfl
  refine j_cV (j_runV (As := [.ref (G a1 0)]) (rest := []) hx hb hml hown hts hK hS hW (kX3_copyFrom l hS σ (a0 := G a0 0) (h0 := h_1) (a1 := G a1 0) (h1 := h_2)) 1 gX10_copyFrom_X3_copyFrom rfl hvX3_copyFrom ⟨Nat.le_of_ble_eq_true rfl, Nat.le_of_ble_eq_true rfl⟩ rfl rfl h_1 rfl rfl rfl rfl hl.1 rfl (Nat.le_of_ble_eq_true rfl) dX10_copyFrom_8 ⟨Nat.le_of_ble_eq_true rfl, Nat.le_of_ble_eq_true rfl⟩) hA hF (fun σ_3 H locs hW hF pσ_3 => ?_)
  try dsimp only at pσ_3
  obtain ⟨pσ_3, fpσ_3⟩ := pσ_3
  have hR := fr_call hR fpσ_3 (by decide)
  refine lv_aload_n hx hb dX10_copyFrom_11 rfl (lv_at hl 1 rfl) ?_
  refine j_getR hx hb (C := RX10) (T := TX10) (N := 9) hts inX10_copyFrom_X10 hown hK hS hW h1 rfl 3 rfl rfl (by decide) (hts _ flX10_copyFrom_18) dX10_copyFrom_12 ?_
  have h_4 : τ (G a1 3) = 25 := gty hS h1 (k := 3) rfl rfl
  refine j_const hx hb dX10_copyFrom_15 ?_
  refine lv_aload_n hx hb dX10_copyFrom_16 rfl (lv_at hl 0 rfl) ?_
  refine j_getR hx hb (C := RX10) (T := TX10) (N := 9) hts inX10_copyFrom_X10 hown hK hS hW h0 rfl 3 rfl rfl (by decide) (hts _ flX10_copyFrom_18) dX10_copyFrom_17 ?_
  have h_5 : τ (G a0 3) = 25 := gty hS h0 (k := 3) rfl rfl
  refine j_const hx hb dX10_copyFrom_20 ?_
  refine j_si hx hb dX10_copyFrom_21 (by decide) ?_
  refine j_copy hx hb (hml.trans hl.1.symm) hown (hts (.methodLink RX10 52 arraycopyName) (by decide +kernel)) (hts (.native arraycopyName) (by decide +kernel)) (hts (.static arraycopyName) (by decide +kernel)) (hts (.initialized "java/lang/System") (by decide +kernel)) hK hS hA hW hF (ty := .int) h_4 h_5 (n0 := 150) (n1 := 150) rfl rfl rfl (Or.inr (Or.inl rfl)) (by decide) (by decide) (sp := 0) (dp := 0) (n := 150) (by omega) (by omega) (by omega) (by omega) (by omega) (Nat.le_of_ble_eq_true rfl) (Nat.le_of_ble_eq_true rfl) dX10_copyFrom_24 (fun σ_6 H locs e_7 hW hF => ?_)
  have hR := fr_cp hR e_7 h_5 25000 (cdA 25 (by decide)) (by decide)
  refine lv_aload_n hx hb dX10_copyFrom_27 rfl (lv_at hl 1 rfl) ?_
  refine j_getR hx hb (C := RX10) (T := TX10) (N := 9) hts inX10_copyFrom_X10 hown hK hS hW h1 rfl 4 rfl rfl (by decide) (hts _ flX10_copyFrom_22) dX10_copyFrom_28 ?_
  have h_8 : τ (G a1 4) = 26 := gty hS h1 (k := 4) rfl rfl
  refine j_const hx hb dX10_copyFrom_31 ?_
  refine lv_aload_n hx hb dX10_copyFrom_32 rfl (lv_at hl 0 rfl) ?_
  refine j_getR hx hb (C := RX10) (T := TX10) (N := 9) hts inX10_copyFrom_X10 hown hK hS hW h0 rfl 4 rfl rfl (by decide) (hts _ flX10_copyFrom_22) dX10_copyFrom_33 ?_
  have h_9 : τ (G a0 4) = 26 := gty hS h0 (k := 4) rfl rfl
  refine j_const hx hb dX10_copyFrom_36 ?_
  refine j_si hx hb dX10_copyFrom_37 (by decide) ?_
  refine j_copy hx hb (hml.trans hl.1.symm) hown (hts (.methodLink RX10 52 arraycopyName) (by decide +kernel)) (hts (.native arraycopyName) (by decide +kernel)) (hts (.static arraycopyName) (by decide +kernel)) (hts (.initialized "java/lang/System") (by decide +kernel)) hK hS hA hW hF (ty := .boolean) h_8 h_9 (n0 := 150) (n1 := 150) rfl rfl rfl (Or.inr (Or.inr ⟨rfl, rfl⟩)) (by decide) (by decide) (sp := 0) (dp := 0) (n := 150) (by omega) (by omega) (by omega) (by omega) (by omega) (Nat.le_of_ble_eq_true rfl) (Nat.le_of_ble_eq_true rfl) dX10_copyFrom_40 (fun σ_10 H locs e_11 hW hF => ?_)
  have hR := fr_cp hR e_11 h_9 26000 (cdA 26 (by decide)) (by decide)
  refine lv_aload_n hx hb dX10_copyFrom_43 rfl (lv_at hl 0 rfl) ?_
  refine lv_aload_n hx hb dX10_copyFrom_44 rfl (lv_at hl 1 rfl) ?_
  refine j_getI hx hb (C := RX10) (T := TX10) (N := 9) hts inX10_copyFrom_X10 hown hK hS hW h1 rfl 1 rfl rfl (by decide) (hts _ flX10_copyFrom_26) dX10_copyFrom_45 ?_
  have := fbd hW h1 (k := 1) (lo := -2147483648) (hi := 2147483647) rfl rfl
  refine j_putI hx hb (C := RX10) (T := TX10) (N := 9) hts inX10_copyFrom_X10 tyX10 tyX10_ok nmX10 hown hK hS hA hW hF h0 rfl 1 (lo := -2147483648) (hi := 2147483647) rfl rfl (by decide) (hts _ flX10_copyFrom_26) rfl .int rfl (by omega) rfl rfl dX10_copyFrom_48 (fun σ_12 H locs e_13 hW hF => ?_)
  have hR := fr_up hR e_13 h0 11001 rfl (by decide)
  have : σ_12 a0 1 = σ_10 a1 1 := by rw [e_13]; exact up2_at _ _ _ _
  refine lv_aload_n hx hb dX10_copyFrom_51 rfl (lv_at hl 0 rfl) ?_
  refine lv_aload_n hx hb dX10_copyFrom_52 rfl (lv_at hl 1 rfl) ?_
  refine j_getI hx hb (C := RX10) (T := TX10) (N := 9) hts inX10_copyFrom_X10 hown hK hS hW h1 rfl 2 rfl rfl (by decide) (hts _ flX10_copyFrom_30) dX10_copyFrom_53 ?_
  have := fbd hW h1 (k := 2) (lo := -2147483648) (hi := 2147483647) rfl rfl
  refine j_putI hx hb (C := RX10) (T := TX10) (N := 9) hts inX10_copyFrom_X10 tyX10 tyX10_ok nmX10 hown hK hS hA hW hF h0 rfl 2 (lo := -2147483648) (hi := 2147483647) rfl rfl (by decide) (hts _ flX10_copyFrom_30) rfl .int rfl (by omega) rfl rfl dX10_copyFrom_56 (fun σ_14 H locs e_15 hW hF => ?_)
  have hR := fr_up hR e_15 h0 11002 rfl (by decide)
  have : σ_14 a0 2 = σ_12 a1 2 := by rw [e_15]; exact up2_at _ _ _ _
  refine lv_aload_n hx hb dX10_copyFrom_59 rfl (lv_at hl 0 rfl) ?_
  refine lv_aload_n hx hb dX10_copyFrom_60 rfl (lv_at hl 1 rfl) ?_
  refine j_getI hx hb (C := RX10) (T := TX10) (N := 9) hts inX10_copyFrom_X10 hown hK hS hW h1 rfl 5 rfl rfl (by decide) (hts _ flX10_copyFrom_33) dX10_copyFrom_61 ?_
  have := fbd hW h1 (k := 5) (lo := -2147483648) (hi := 2147483647) rfl rfl
  refine j_putI hx hb (C := RX10) (T := TX10) (N := 9) hts inX10_copyFrom_X10 tyX10 tyX10_ok nmX10 hown hK hS hA hW hF h0 rfl 5 (lo := -2147483648) (hi := 2147483647) rfl rfl (by decide) (hts _ flX10_copyFrom_33) rfl .int rfl (by omega) rfl rfl dX10_copyFrom_64 (fun σ_16 H locs e_17 hW hF => ?_)
  have hR := fr_up hR e_17 h0 11005 rfl (by decide)
  have : σ_16 a0 5 = σ_14 a1 5 := by rw [e_17]; exact up2_at _ _ _ _
  refine lv_aload_n hx hb dX10_copyFrom_67 rfl (lv_at hl 0 rfl) ?_
  refine lv_aload_n hx hb dX10_copyFrom_68 rfl (lv_at hl 1 rfl) ?_
  refine j_getI hx hb (C := RX10) (T := TX10) (N := 9) hts inX10_copyFrom_X10 hown hK hS hW h1 rfl 6 rfl rfl (by decide) (hts _ flX10_copyFrom_36) dX10_copyFrom_69 ?_
  have := fbd hW h1 (k := 6) (lo := -2147483648) (hi := 2147483647) rfl rfl
  refine j_putI hx hb (C := RX10) (T := TX10) (N := 9) hts inX10_copyFrom_X10 tyX10 tyX10_ok nmX10 hown hK hS hA hW hF h0 rfl 6 (lo := -2147483648) (hi := 2147483647) rfl rfl (by decide) (hts _ flX10_copyFrom_36) rfl .int rfl (by omega) rfl rfl dX10_copyFrom_72 (fun σ_18 H locs e_19 hW hF => ?_)
  have hR := fr_up hR e_19 h0 11006 rfl (by decide)
  have : σ_18 a0 6 = σ_16 a1 6 := by rw [e_19]; exact up2_at _ _ _ _
  refine lv_aload_n hx hb dX10_copyFrom_75 rfl (lv_at hl 0 rfl) ?_
  refine lv_aload_n hx hb dX10_copyFrom_76 rfl (lv_at hl 1 rfl) ?_
  refine j_getI hx hb (C := RX10) (T := TX10) (N := 9) hts inX10_copyFrom_X10 hown hK hS hW h1 rfl 7 rfl rfl (by decide) (hts _ flX10_copyFrom_39) dX10_copyFrom_77 ?_
  have := fbd hW h1 (k := 7) (lo := -2147483648) (hi := 2147483647) rfl rfl
  refine j_putI hx hb (C := RX10) (T := TX10) (N := 9) hts inX10_copyFrom_X10 tyX10 tyX10_ok nmX10 hown hK hS hA hW hF h0 rfl 7 (lo := -2147483648) (hi := 2147483647) rfl rfl (by decide) (hts _ flX10_copyFrom_39) rfl .int rfl (by omega) rfl rfl dX10_copyFrom_80 (fun σ_20 H locs e_21 hW hF => ?_)
  have hR := fr_up hR e_21 h0 11007 rfl (by decide)
  have : σ_20 a0 7 = σ_18 a1 7 := by rw [e_21]; exact up2_at _ _ _ _
  refine lv_aload_n hx hb dX10_copyFrom_83 rfl (lv_at hl 0 rfl) ?_
  refine lv_aload_n hx hb dX10_copyFrom_84 rfl (lv_at hl 1 rfl) ?_
  refine j_getI hx hb (C := RX10) (T := TX10) (N := 9) hts inX10_copyFrom_X10 hown hK hS hW h1 rfl 8 rfl rfl (by decide) (hts _ flX10_copyFrom_42) dX10_copyFrom_85 ?_
  have := fbd hW h1 (k := 8) (lo := -2147483648) (hi := 2147483647) rfl rfl
  refine j_putI hx hb (C := RX10) (T := TX10) (N := 9) hts inX10_copyFrom_X10 tyX10 tyX10_ok nmX10 hown hK hS hA hW hF h0 rfl 8 (lo := -2147483648) (hi := 2147483647) rfl rfl (by decide) (hts _ flX10_copyFrom_42) rfl .int rfl (by omega) rfl rfl dX10_copyFrom_88 (fun σ_22 H locs e_23 hW hF => ?_)
  have hR := fr_up hR e_23 h0 11008 rfl (by decide)
  have : σ_22 a0 8 = σ_20 a1 8 := by rw [e_23]; exact up2_at _ _ _ _
  exact hRet 91 _ _ _ _ dX10_copyFrom_91 hW hF ⟨trivial, hR⟩
theorem flX10_sharedAt_12 : Cond.fieldLink RX10 12 "PageTrie$Trie" "keys" "LPageTrie$Keys;" ∈ wsX10_sharedAt := List.mem_of_getElem? (i := 1) rfl
theorem flX10_sharedAt_18 : Cond.fieldLink RX10 18 "PageTrie$Trie" "shared" "[I" ∈ wsX10_sharedAt := List.mem_of_getElem? (i := 3) rfl
theorem flX10_sharedAt_45 : Cond.fieldLink RX10 45 "PageTrie$Keys" "size" "I" ∈ wsX10_sharedAt := List.mem_of_getElem? (i := 2) rfl
theorem inX10_sharedAt_X10 : ∀ w ∈ u_ws RX10 TX10 9, w ∈ wsX10_sharedAt := mem_r _ [4, 5, 6, 7, 8, 9, 10, 11, 12] rfl
theorem inX10_sharedAt_X3 : ∀ w ∈ u_ws RX3 TX3 4, w ∈ wsX10_sharedAt := mem_r _ [13, 14, 15, 16] rfl
theorem hvX10_sharedAt : yX10_sharedAt.cls = RX10 ∧ yX10_sharedAt.cls ≠ "java/lang/invoke/MethodHandle" ∧ yX10_sharedAt.cls ≠ "java/lang/invoke/VarHandle" ∧ (parseMethodDescriptor yX10_sharedAt.desc).map (fun d => d.parameters.length) = some 1 := by decide +kernel
set_option maxHeartbeats 4000000 in
set_option maxRecDepth 100000 in
theorem kX10_sharedAt (l : Launch) {D : va_G} {cA : Nat → ClassId} {τ : Nat → Nat} {G : Nat → Nat → Nat} {L : List Nat} (hS : SW τ G L) (σ : Nat → Nat → Int) {a0 : Nat} (h0 : τ a0 = 11) {x1 : Int} (r1 : rg x1) : Met l yX10_sharedAt wsX10_sharedAt ({ frames := 0, cells := 0, slots := 0, locals := 0 }) (jP D cA τ G L σ [.ref a0, .int (jI x1)]) (jQR (fun r => (-1 ≤ r) ∧ (r ≤ 24))) 0 0 (fun _ => False) := by
  refine j_metR (by decide +kernel) rfl (Nat.le_of_ble_eq_true rfl) ?_
  intro p e s m args below meth c Q hx hb hml hown hts hK hW hRet ls hl
  have hl : lv_has ls 2 [(0, .ref a0), (1, .int (jI x1))] := hl
  refine lv_iload_n hx hb dX10_sharedAt_0 rfl (lv_at hl 1 rfl) ?_
  refine j_if_lt (tgt := 31) hx hb (by omega) dX10_sharedAt_1 (by decide) (fun c_1 => ?_) (fun c_1 => ?_)
  · refine j_const hx hb dX10_sharedAt_31 ?_
    exact hRet 32 _ 0 dX10_sharedAt_32 (by decide) ⟨by omega, by omega⟩
  · refine lv_iload_n hx hb dX10_sharedAt_4 rfl (lv_at hl 1 rfl) ?_
    refine lv_aload_n hx hb dX10_sharedAt_5 rfl (lv_at hl 0 rfl) ?_
    refine j_getR hx hb (C := RX10) (T := TX10) (N := 9) hts inX10_sharedAt_X10 hown hK hS hW h0 rfl 0 rfl rfl (by decide) (hts _ flX10_sharedAt_12) dX10_sharedAt_6 ?_
    have h_2 : τ (G a0 0) = 4 := gty hS h0 (k := 0) rfl rfl
    refine j_getI hx hb (C := RX3) (T := TX3) (N := 4) hts inX10_sharedAt_X3 hown hK hS hW h_2 rfl 3 rfl rfl (by decide) (hts _ flX10_sharedAt_45) dX10_sharedAt_9 ?_
    have := fbd hW h_2 (k := 3) (lo := 0) (hi := 150) rfl rfl
    refine j_icmp_ge (tgt := 31) hx hb (by omega) (by omega) dX10_sharedAt_12 (by decide) (fun c_3 => ?_) (fun c_3 => ?_)
    · refine j_const hx hb dX10_sharedAt_31 ?_
      exact hRet 32 _ 0 dX10_sharedAt_32 (by decide) ⟨by omega, by omega⟩
    · refine lv_iload_n hx hb dX10_sharedAt_15 rfl (lv_at hl 1 rfl) ?_
      refine j_si hx hb dX10_sharedAt_16 (by decide) ?_
      refine j_icmp_ge (tgt := 31) hx hb (by omega) (by decide) dX10_sharedAt_19 (by decide) (fun c_4 => ?_) (fun c_4 => ?_)
      · refine j_const hx hb dX10_sharedAt_31 ?_
        exact hRet 32 _ 0 dX10_sharedAt_32 (by decide) ⟨by omega, by omega⟩
      · refine lv_aload_n hx hb dX10_sharedAt_22 rfl (lv_at hl 0 rfl) ?_
        refine j_getR hx hb (C := RX10) (T := TX10) (N := 9) hts inX10_sharedAt_X10 hown hK hS hW h0 rfl 3 rfl rfl (by decide) (hts _ flX10_sharedAt_18) dX10_sharedAt_23 ?_
        have h_5 : τ (G a0 3) = 25 := gty hS h0 (k := 3) rfl rfl
        refine lv_iload_n hx hb dX10_sharedAt_26 rfl (lv_at hl 1 rfl) ?_
        refine j_ald hx hb hK hS hW h_5 (n := 150) rfl (by omega) (by omega) (by decide) dX10_sharedAt_27 ?_
        have := abd hW h_5 (n := 150) (lo := -1) (hi := 24) (i := x1) rfl (by omega) (by omega)
        refine lv_goto (tgt := 32) hx hb dX10_sharedAt_28 (by decide) ?_
        exact hRet 32 _ (σ (G a0 3) (x1).toNat) dX10_sharedAt_32 (by omega) ⟨by omega, by omega⟩
theorem flX10_opensAt_12 : Cond.fieldLink RX10 12 "PageTrie$Trie" "keys" "LPageTrie$Keys;" ∈ wsX10_opensAt := List.mem_of_getElem? (i := 1) rfl
theorem flX10_opensAt_22 : Cond.fieldLink RX10 22 "PageTrie$Trie" "opens" "[Z" ∈ wsX10_opensAt := List.mem_of_getElem? (i := 3) rfl
theorem flX10_opensAt_45 : Cond.fieldLink RX10 45 "PageTrie$Keys" "size" "I" ∈ wsX10_opensAt := List.mem_of_getElem? (i := 2) rfl
theorem inX10_opensAt_X10 : ∀ w ∈ u_ws RX10 TX10 9, w ∈ wsX10_opensAt := mem_r _ [4, 5, 6, 7, 8, 9, 10, 11, 12] rfl
theorem inX10_opensAt_X3 : ∀ w ∈ u_ws RX3 TX3 4, w ∈ wsX10_opensAt := mem_r _ [13, 14, 15, 16] rfl
theorem hvX10_opensAt : yX10_opensAt.cls = RX10 ∧ yX10_opensAt.cls ≠ "java/lang/invoke/MethodHandle" ∧ yX10_opensAt.cls ≠ "java/lang/invoke/VarHandle" ∧ (parseMethodDescriptor yX10_opensAt.desc).map (fun d => d.parameters.length) = some 1 := by decide +kernel
set_option maxHeartbeats 4000000 in
set_option maxRecDepth 100000 in
theorem kX10_opensAt (l : Launch) {D : va_G} {cA : Nat → ClassId} {τ : Nat → Nat} {G : Nat → Nat → Nat} {L : List Nat} (hS : SW τ G L) (σ : Nat → Nat → Int) {a0 : Nat} (h0 : τ a0 = 11) {x1 : Int} (r1 : rg x1) : Met l yX10_opensAt wsX10_opensAt ({ frames := 0, cells := 0, slots := 0, locals := 0 }) (jP D cA τ G L σ [.ref a0, .int (jI x1)]) (jQR (fun r => (0 ≤ r ∧ r ≤ 1) ∧ (True))) 0 0 (fun _ => False) := by
  refine j_metRZ (by decide +kernel) rfl (Nat.le_of_ble_eq_true rfl) ?_
  intro p e s m args below meth c Q hx hb hml hown hts hK hW hRet ls hl
  have hl : lv_has ls 2 [(0, .ref a0), (1, .int (jI x1))] := hl
  refine lv_iload_n hx hb dX10_opensAt_0 rfl (lv_at hl 1 rfl) ?_
  refine j_if_lt (tgt := 35) hx hb (by omega) dX10_opensAt_1 (by decide) (fun c_1 => ?_) (fun c_1 => ?_)
  · refine j_const hx hb dX10_opensAt_35 ?_
    exact hRet 36 _ 0 dX10_opensAt_36 (by omega) trivial
  · refine lv_iload_n hx hb dX10_opensAt_4 rfl (lv_at hl 1 rfl) ?_
    refine lv_aload_n hx hb dX10_opensAt_5 rfl (lv_at hl 0 rfl) ?_
    refine j_getR hx hb (C := RX10) (T := TX10) (N := 9) hts inX10_opensAt_X10 hown hK hS hW h0 rfl 0 rfl rfl (by decide) (hts _ flX10_opensAt_12) dX10_opensAt_6 ?_
    have h_2 : τ (G a0 0) = 4 := gty hS h0 (k := 0) rfl rfl
    refine j_getI hx hb (C := RX3) (T := TX3) (N := 4) hts inX10_opensAt_X3 hown hK hS hW h_2 rfl 3 rfl rfl (by decide) (hts _ flX10_opensAt_45) dX10_opensAt_9 ?_
    have := fbd hW h_2 (k := 3) (lo := 0) (hi := 150) rfl rfl
    refine j_icmp_ge (tgt := 35) hx hb (by omega) (by omega) dX10_opensAt_12 (by decide) (fun c_3 => ?_) (fun c_3 => ?_)
    · refine j_const hx hb dX10_opensAt_35 ?_
      exact hRet 36 _ 0 dX10_opensAt_36 (by omega) trivial
    · refine lv_iload_n hx hb dX10_opensAt_15 rfl (lv_at hl 1 rfl) ?_
      refine j_si hx hb dX10_opensAt_16 (by decide) ?_
      refine j_icmp_ge (tgt := 35) hx hb (by omega) (by decide) dX10_opensAt_19 (by decide) (fun c_4 => ?_) (fun c_4 => ?_)
      · refine j_const hx hb dX10_opensAt_35 ?_
        exact hRet 36 _ 0 dX10_opensAt_36 (by omega) trivial
      · refine lv_aload_n hx hb dX10_opensAt_22 rfl (lv_at hl 0 rfl) ?_
        refine j_getR hx hb (C := RX10) (T := TX10) (N := 9) hts inX10_opensAt_X10 hown hK hS hW h0 rfl 4 rfl rfl (by decide) (hts _ flX10_opensAt_22) dX10_opensAt_23 ?_
        have h_5 : τ (G a0 4) = 26 := gty hS h0 (k := 4) rfl rfl
        refine lv_iload_n hx hb dX10_opensAt_26 rfl (lv_at hl 1 rfl) ?_
        refine j_zald hx hb hK hS hW h_5 (n := 150) rfl (by omega) (by omega) (by decide) dX10_opensAt_27 ?_
        have := abd hW h_5 (n := 150) (lo := 0) (hi := 1) (i := x1) rfl (by omega) (by omega)
        refine j_if_eq (tgt := 35) hx hb (by omega) dX10_opensAt_28 (by decide) (fun c_6 => ?_) (fun c_6 => ?_)
        · refine j_const hx hb dX10_opensAt_35 ?_
          exact hRet 36 _ 0 dX10_opensAt_36 (by omega) trivial
        · refine j_const hx hb dX10_opensAt_31 ?_
          refine lv_goto (tgt := 36) hx hb dX10_opensAt_32 (by decide) ?_
          exact hRet 36 _ 1 dX10_opensAt_36 (by omega) trivial
abbrev wr_X10_setOpens : List Nat := [26000]
theorem flX10_setOpens_12 : Cond.fieldLink RX10 12 "PageTrie$Trie" "keys" "LPageTrie$Keys;" ∈ wsX10_setOpens := List.mem_of_getElem? (i := 1) rfl
theorem flX10_setOpens_22 : Cond.fieldLink RX10 22 "PageTrie$Trie" "opens" "[Z" ∈ wsX10_setOpens := List.mem_of_getElem? (i := 2) rfl
theorem inX10_setOpens_X10 : ∀ w ∈ u_ws RX10 TX10 9, w ∈ wsX10_setOpens := mem_r _ [9, 10, 11, 12, 13, 14, 15, 16, 17] rfl
theorem hvX10_setOpens : yX10_setOpens.cls = RX10 ∧ yX10_setOpens.cls ≠ "java/lang/invoke/MethodHandle" ∧ yX10_setOpens.cls ≠ "java/lang/invoke/VarHandle" ∧ (parseMethodDescriptor yX10_setOpens.desc).map (fun d => d.parameters.length) = some 2 := by decide +kernel
set_option maxHeartbeats 4000000 in
set_option maxRecDepth 100000 in
theorem kX10_setOpens (l : Launch) {D : va_G} {cA : Nat → ClassId} {τ : Nat → Nat} {G : Nat → Nat → Nat} {L : List Nat} (hS : SW τ G L) (σ : Nat → Nat → Int) {a0 : Nat} (h0 : τ a0 = 11) {x1 : Int} (r1 : rg x1) {x2 : Int} (r2 : rg x2) (q0 : 0 ≤ x2) (q1 : x2 ≤ 1) : Met l yX10_setOpens wsX10_setOpens ({ frames := 1, cells := 0, slots := 0, locals := 21 }) (jP D cA τ G L σ [.ref a0, .int (jI x1), .int (jI x2)]) (jQV D cA τ G L (fun σ' => (True) ∧ fr wr_X10_setOpens τ σ σ')) 0 0 (fun q => q ∈ L) := by
  refine j_metV (by decide +kernel) rfl (Nat.le_of_ble_eq_true rfl) ?_
  intro p e s m args below meth c Q hx hb hml hown hts hK hW hRet ls hl
  have hl : lv_has ls 3 [(0, .ref a0), (1, .int (jI x1)), (2, .int (jI x2))] := hl
  have hA : ∀ q ∈ L, (fun q => q ∈ L) q := fun _ h => h
  have hF : va_S (fun q => q ∈ L) s.heap s.heap [] := va_S.rf
  have hR : fr wr_X10_setOpens τ σ σ := fr_rf
  refine lv_aload_n hx hb dX10_setOpens_0 rfl (lv_at hl 0 rfl) ?_
  refine j_getR hx hb (C := RX10) (T := TX10) (N := 9) hts inX10_setOpens_X10 hown hK hS hW h0 rfl 0 rfl rfl (by decide) (hts _ flX10_setOpens_12) dX10_setOpens_1 ?_
  have h_1 : τ (G a0 0) = 4 := gty hS h0 (k := 0) rfl rfl
  refine lv_iload_n hx hb dX10_setOpens_4 rfl (lv_at hl 1 rfl) ?_
  refine j_cR (j_runV (As := [.int (jI x1)]) (rest := []) hx hb hml hown hts hK hS hW (kX3_has l hS σ (a0 := G a0 0) (h0 := h_1) (x1 := x1) (r1 := (by omega))) 1 gX10_setOpens_X3_has rfl hvX3_has ⟨Nat.le_of_ble_eq_true rfl, Nat.le_of_ble_eq_true rfl⟩ rfl rfl h_1 rfl rfl rfl rfl hl.1 rfl (Nat.le_of_ble_eq_true rfl) dX10_setOpens_5 ⟨Nat.le_of_ble_eq_true rfl, Nat.le_of_ble_eq_true rfl⟩) (fun v_2 rv_2 pv_2 => ?_)
  try dsimp only at pv_2
  refine j_if_eq (tgt := 18) hx hb (by omega) dX10_setOpens_8 (by decide) (fun c_3 => ?_) (fun c_3 => ?_)
  · exact hRet 18 _ _ _ _ dX10_setOpens_18 hW hF ⟨trivial, hR⟩
  · refine lv_aload_n hx hb dX10_setOpens_11 rfl (lv_at hl 0 rfl) ?_
    refine j_getR hx hb (C := RX10) (T := TX10) (N := 9) hts inX10_setOpens_X10 hown hK hS hW h0 rfl 4 rfl rfl (by decide) (hts _ flX10_setOpens_22) dX10_setOpens_12 ?_
    have h_4 : τ (G a0 4) = 26 := gty hS h0 (k := 4) rfl rfl
    refine lv_iload_n hx hb dX10_setOpens_15 rfl (lv_at hl 1 rfl) ?_
    refine lv_iload_n hx hb dX10_setOpens_16 rfl (lv_at hl 2 rfl) ?_
    refine j_zast hx hb hK hS hA hW hF h_4 (n := 150) rfl (by omega) (by omega) (by decide) (by omega) dX10_setOpens_17 (fun σ_5 H locs e_6 hW hF => ?_)
    have hR := fr_up hR e_6 h_4 26000 (cdA 26 (by decide) _) (by decide)
    exact hRet 18 _ _ _ _ dX10_setOpens_18 hW hF ⟨trivial, hR⟩
theorem hvX10_depthOf : yX10_depthOf.cls = RX10 ∧ yX10_depthOf.cls ≠ "java/lang/invoke/MethodHandle" ∧ yX10_depthOf.cls ≠ "java/lang/invoke/VarHandle" ∧ (parseMethodDescriptor yX10_depthOf.desc).map (fun d => d.parameters.length) = some 1 := by decide +kernel
set_option maxHeartbeats 4000000 in
set_option maxRecDepth 100000 in
theorem kX10_depthOf (l : Launch) {D : va_G} {cA : Nat → ClassId} {τ : Nat → Nat} {G : Nat → Nat → Nat} {L : List Nat} (hS : SW τ G L) (σ : Nat → Nat → Int) {a0 : Nat} (h0 : τ a0 = 11) {x1 : Int} (r1 : rg x1) : Met l yX10_depthOf wsX10_depthOf ({ frames := 1, cells := 0, slots := 0, locals := 24 }) (jP D cA τ G L σ [.ref a0, .int (jI x1)]) (jQR (fun r => (-1 ≤ r) ∧ (r ≤ 24))) 0 0 (fun _ => False) := by
  refine j_metR (by decide +kernel) rfl (Nat.le_of_ble_eq_true rfl) ?_
  intro p e s m args below meth c Q hx hb hml hown hts hK hW hRet ls hl
  have hl : lv_has ls 2 [(0, .ref a0), (1, .int (jI x1))] := hl
  refine lv_aload_n hx hb dX10_depthOf_0 rfl (lv_at hl 0 rfl) ?_
  refine lv_iload_n hx hb dX10_depthOf_1 rfl (lv_at hl 1 rfl) ?_
  refine j_cR (j_runV (As := [.int (jI x1)]) (rest := []) hx hb hml hown hts hK hS hW (kX10_sharedAt l hS σ (a0 := a0) (h0 := h0) (x1 := x1) (r1 := (by omega))) 1 gX10_depthOf_X10_sharedAt rfl hvX10_sharedAt ⟨Nat.le_of_ble_eq_true rfl, Nat.le_of_ble_eq_true rfl⟩ rfl rfl h0 rfl rfl rfl rfl hl.1 rfl (Nat.le_of_ble_eq_true rfl) dX10_depthOf_2 ⟨Nat.le_of_ble_eq_true rfl, Nat.le_of_ble_eq_true rfl⟩) (fun v_1 rv_1 pv_1 => ?_)
  try dsimp only at pv_1
  refine lv_aload_n hx hb dX10_depthOf_5 rfl (lv_at hl 0 rfl) ?_
  refine lv_iload_n hx hb dX10_depthOf_6 rfl (lv_at hl 1 rfl) ?_
  refine j_const hx hb dX10_depthOf_7 ?_
  refine j_add hx hb dX10_depthOf_8 ?_
  refine j_wrap (fun z_2 rz_2 ez_2 => ?_)
  refine j_cR (j_runV (As := [.int (jI z_2)]) (rest := [.int (jI v_1)]) hx hb hml hown hts hK hS hW (kX10_sharedAt l hS σ (a0 := a0) (h0 := h0) (x1 := z_2) (r1 := (by omega))) 1 gX10_depthOf_X10_sharedAt rfl hvX10_sharedAt ⟨Nat.le_of_ble_eq_true rfl, Nat.le_of_ble_eq_true rfl⟩ rfl rfl h0 rfl rfl rfl rfl hl.1 rfl (Nat.le_of_ble_eq_true rfl) dX10_depthOf_9 ⟨Nat.le_of_ble_eq_true rfl, Nat.le_of_ble_eq_true rfl⟩) (fun v_3 rv_3 pv_3 => ?_)
  try dsimp only at pv_3
  refine j_mmax hx hb (hml.trans hl.1.symm) hown (hts (.methodLink RX10 95 Lib.Math.max.name) (by decide +kernel)) (hts (.static Lib.Math.max.name) (by decide +kernel)) (hts (.initialized "java/lang/Math") (by decide +kernel)) (hts (.code Lib.Math.max.name Lib.Math.max.code 2 (some .int)) (by decide +kernel)) (Nat.le_of_ble_eq_true rfl) (Nat.le_of_ble_eq_true rfl) (Nat.le_of_ble_eq_true rfl) (Nat.le_of_ble_eq_true rfl) (by omega) (by omega) dX10_depthOf_12 (fun z_4 rz_4 ez_4 => ?_)
  exact hRet 15 _ z_4 dX10_depthOf_15 (by omega) ⟨by omega, by omega⟩
theorem flX10_meetingOf_12 : Cond.fieldLink RX10 12 "PageTrie$Trie" "keys" "LPageTrie$Keys;" ∈ wsX10_meetingOf := List.mem_of_getElem? (i := 1) rfl
theorem flX10_meetingOf_26 : Cond.fieldLink RX10 26 "PageTrie$Trie" "width" "I" ∈ wsX10_meetingOf := List.mem_of_getElem? (i := 6) rfl
theorem inX10_meetingOf_X10 : ∀ w ∈ u_ws RX10 TX10 9, w ∈ wsX10_meetingOf := mem_r _ [25, 26, 27, 28, 29, 30, 31, 32, 33] rfl
theorem hvX10_meetingOf : yX10_meetingOf.cls = RX10 ∧ yX10_meetingOf.cls ≠ "java/lang/invoke/MethodHandle" ∧ yX10_meetingOf.cls ≠ "java/lang/invoke/VarHandle" ∧ (parseMethodDescriptor yX10_meetingOf.desc).map (fun d => d.parameters.length) = some 1 := by decide +kernel
set_option maxHeartbeats 4000000 in
set_option maxRecDepth 100000 in
theorem kX10_meetingOf (l : Launch) {D : va_G} {cA : Nat → ClassId} {τ : Nat → Nat} {G : Nat → Nat → Nat} {L : List Nat} (hS : SW τ G L) (σ : Nat → Nat → Int) {a0 : Nat} (h0 : τ a0 = 11) {x1 : Int} (r1 : rg x1) : Met l yX10_meetingOf wsX10_meetingOf ({ frames := 2, cells := 0, slots := 0, locals := 48 }) (jP D cA τ G L σ [.ref a0, .int (jI x1)]) (jQR (fun r => (-1 ≤ r) ∧ (r ≤ 24))) 0 0 (fun _ => False) := by
  refine j_metR (by decide +kernel) rfl (Nat.le_of_ble_eq_true rfl) ?_
  intro p e s m args below meth c Q hx hb hml hown hts hK hW hRet ls hl
  have hl : lv_has ls 3 [(0, .ref a0), (1, .int (jI x1))] := hl
  refine lv_aload_n hx hb dX10_meetingOf_0 rfl (lv_at hl 0 rfl) ?_
  refine j_getR hx hb (C := RX10) (T := TX10) (N := 9) hts inX10_meetingOf_X10 hown hK hS hW h0 rfl 0 rfl rfl (by decide) (hts _ flX10_meetingOf_12) dX10_meetingOf_1 ?_
  have h_1 : τ (G a0 0) = 4 := gty hS h0 (k := 0) rfl rfl
  refine lv_iload_n hx hb dX10_meetingOf_4 rfl (lv_at hl 1 rfl) ?_
  refine j_const hx hb dX10_meetingOf_5 ?_
  refine j_sub hx hb dX10_meetingOf_6 ?_
  refine j_wrap (fun z_2 rz_2 ez_2 => ?_)
  refine lv_iload_n hx hb dX10_meetingOf_7 rfl (lv_at hl 1 rfl) ?_
  refine j_cR (j_runV (As := [.int (jI z_2), .int (jI x1)]) (rest := []) hx hb hml hown hts hK hS hW (kX3_alikeBytes l hS σ (a0 := G a0 0) (h0 := h_1) (x1 := z_2) (r1 := (by omega)) (x2 := x1) (r2 := (by omega))) 2 gX10_meetingOf_X3_alikeBytes rfl hvX3_alikeBytes ⟨Nat.le_of_ble_eq_true rfl, Nat.le_of_ble_eq_true rfl⟩ rfl rfl h_1 rfl rfl rfl rfl hl.1 rfl (Nat.le_of_ble_eq_true rfl) dX10_meetingOf_8 ⟨Nat.le_of_ble_eq_true rfl, Nat.le_of_ble_eq_true rfl⟩) (fun v_3 rv_3 pv_3 => ?_)
  try dsimp only at pv_3
  refine lv_aload_n hx hb dX10_meetingOf_11 rfl (lv_at hl 0 rfl) ?_
  refine j_getR hx hb (C := RX10) (T := TX10) (N := 9) hts inX10_meetingOf_X10 hown hK hS hW h0 rfl 0 rfl rfl (by decide) (hts _ flX10_meetingOf_12) dX10_meetingOf_12 ?_
  refine lv_iload_n hx hb dX10_meetingOf_15 rfl (lv_at hl 1 rfl) ?_
  refine j_const hx hb dX10_meetingOf_16 ?_
  refine j_sub hx hb dX10_meetingOf_17 ?_
  refine j_wrap (fun z_4 rz_4 ez_4 => ?_)
  refine j_cR (j_runV (As := [.int (jI z_4)]) (rest := [.int (jI v_3)]) hx hb hml hown hts hK hS hW (kX3_lengthOf l hS σ (a0 := G a0 0) (h0 := h_1) (x1 := z_4) (r1 := (by omega))) 1 gX10_meetingOf_X3_lengthOf rfl hvX3_lengthOf ⟨Nat.le_of_ble_eq_true rfl, Nat.le_of_ble_eq_true rfl⟩ rfl rfl h_1 rfl rfl rfl rfl hl.1 rfl (Nat.le_of_ble_eq_true rfl) dX10_meetingOf_18 ⟨Nat.le_of_ble_eq_true rfl, Nat.le_of_ble_eq_true rfl⟩) (fun v_5 rv_5 pv_5 => ?_)
  try dsimp only at pv_5
  refine j_const hx hb dX10_meetingOf_21 ?_
  refine j_sub hx hb dX10_meetingOf_22 ?_
  refine j_mmin hx hb (hml.trans hl.1.symm) hown (hts (.methodLink RX10 114 Lib.Math.min.name) (by decide +kernel)) (hts (.static Lib.Math.min.name) (by decide +kernel)) (hts (.initialized "java/lang/Math") (by decide +kernel)) (hts (.code Lib.Math.min.name Lib.Math.min.code 2 (some .int)) (by decide +kernel)) (Nat.le_of_ble_eq_true rfl) (Nat.le_of_ble_eq_true rfl) (Nat.le_of_ble_eq_true rfl) (Nat.le_of_ble_eq_true rfl) (by omega) (by omega) dX10_meetingOf_23 (fun z_6 rz_6 ez_6 => ?_)
  refine lv_istore_n (lv' := [(2, .int (jI z_6)), (0, .ref a0), (1, .int (jI x1))]) hx hb dX10_meetingOf_26 rfl hl (by decide) rfl (fun ls hl => ?_)
  refine lv_aload_n hx hb dX10_meetingOf_27 rfl (lv_at hl 1 rfl) ?_
  refine j_getI hx hb (C := RX10) (T := TX10) (N := 9) hts inX10_meetingOf_X10 hown hK hS hW h0 rfl 1 rfl rfl (by decide) (hts _ flX10_meetingOf_26) dX10_meetingOf_28 ?_
  have := fbd hW h0 (k := 1) (lo := -2147483648) (hi := 2147483647) rfl rfl
  refine j_const hx hb dX10_meetingOf_31 ?_
  refine j_icmp_ge (tgt := 39) hx hb (by omega) (by decide) dX10_meetingOf_32 (by decide) (fun c_7 => ?_) (fun c_7 => ?_)
  · refine lv_iload_n hx hb dX10_meetingOf_39 rfl (lv_at hl 0 rfl) ?_
    refine lv_aload_n hx hb dX10_meetingOf_40 rfl (lv_at hl 1 rfl) ?_
    refine j_getI hx hb (C := RX10) (T := TX10) (N := 9) hts inX10_meetingOf_X10 hown hK hS hW h0 rfl 1 rfl rfl (by decide) (hts _ flX10_meetingOf_26) dX10_meetingOf_41 ?_
    refine j_divW hx hb (by omega) (by omega) dX10_meetingOf_44 (fun z_8 rz_8 ez_8 fz_8 => ?_)
    exact hRet 45 _ z_8 dX10_meetingOf_45 (by omega) ⟨by omega, by omega⟩
  · refine j_const hx hb dX10_meetingOf_35 ?_
    refine lv_goto (tgt := 45) hx hb dX10_meetingOf_36 (by decide) ?_
    exact hRet 45 _ 0 dX10_meetingOf_45 (by decide) ⟨by omega, by omega⟩
theorem flX10_isPageStart_12 : Cond.fieldLink RX10 12 "PageTrie$Trie" "keys" "LPageTrie$Keys;" ∈ wsX10_isPageStart := List.mem_of_getElem? (i := 1) rfl
theorem flX10_isPageStart_18 : Cond.fieldLink RX10 18 "PageTrie$Trie" "shared" "[I" ∈ wsX10_isPageStart := List.mem_of_getElem? (i := 3) rfl
theorem flX10_isPageStart_22 : Cond.fieldLink RX10 22 "PageTrie$Trie" "opens" "[Z" ∈ wsX10_isPageStart := List.mem_of_getElem? (i := 4) rfl
theorem flX10_isPageStart_45 : Cond.fieldLink RX10 45 "PageTrie$Keys" "size" "I" ∈ wsX10_isPageStart := List.mem_of_getElem? (i := 2) rfl
theorem inX10_isPageStart_X10 : ∀ w ∈ u_ws RX10 TX10 9, w ∈ wsX10_isPageStart := mem_r _ [5, 6, 7, 8, 9, 10, 11, 12, 13] rfl
theorem inX10_isPageStart_X3 : ∀ w ∈ u_ws RX3 TX3 4, w ∈ wsX10_isPageStart := mem_r _ [14, 15, 16, 17] rfl
theorem hvX10_isPageStart : yX10_isPageStart.cls = RX10 ∧ yX10_isPageStart.cls ≠ "java/lang/invoke/MethodHandle" ∧ yX10_isPageStart.cls ≠ "java/lang/invoke/VarHandle" ∧ (parseMethodDescriptor yX10_isPageStart.desc).map (fun d => d.parameters.length) = some 2 := by decide +kernel
set_option maxHeartbeats 4000000 in
set_option maxRecDepth 100000 in
theorem kX10_isPageStart (l : Launch) {D : va_G} {cA : Nat → ClassId} {τ : Nat → Nat} {G : Nat → Nat → Nat} {L : List Nat} (hS : SW τ G L) (σ : Nat → Nat → Int) {a0 : Nat} (h0 : τ a0 = 11) {x1 : Int} (r1 : rg x1) {x2 : Int} (r2 : rg x2) : Met l yX10_isPageStart wsX10_isPageStart ({ frames := 0, cells := 0, slots := 0, locals := 0 }) (jP D cA τ G L σ [.ref a0, .int (jI x1), .int (jI x2)]) (jQR (fun r => (0 ≤ r ∧ r ≤ 1) ∧ (True))) 0 0 (fun _ => False) := by
  refine j_metRZ (by decide +kernel) rfl (Nat.le_of_ble_eq_true rfl) ?_
  intro p e s m args below meth c Q hx hb hml hown hts hK hW hRet ls hl
  have hl : lv_has ls 3 [(0, .ref a0), (1, .int (jI x1)), (2, .int (jI x2))] := hl
  refine lv_iload_n hx hb dX10_isPageStart_0 rfl (lv_at hl 1 rfl) ?_
  refine j_if_le (tgt := 22) hx hb (by omega) dX10_isPageStart_1 (by decide) (fun c_1 => ?_) (fun c_1 => ?_)
  · refine j_const hx hb dX10_isPageStart_22 ?_
    exact hRet 23 _ 1 dX10_isPageStart_23 (by omega) trivial
  · refine lv_iload_n hx hb dX10_isPageStart_4 rfl (lv_at hl 1 rfl) ?_
    refine lv_aload_n hx hb dX10_isPageStart_5 rfl (lv_at hl 0 rfl) ?_
    refine j_getR hx hb (C := RX10) (T := TX10) (N := 9) hts inX10_isPageStart_X10 hown hK hS hW h0 rfl 0 rfl rfl (by decide) (hts _ flX10_isPageStart_12) dX10_isPageStart_6 ?_
    have h_2 : τ (G a0 0) = 4 := gty hS h0 (k := 0) rfl rfl
    refine j_getI hx hb (C := RX3) (T := TX3) (N := 4) hts inX10_isPageStart_X3 hown hK hS hW h_2 rfl 3 rfl rfl (by decide) (hts _ flX10_isPageStart_45) dX10_isPageStart_9 ?_
    have := fbd hW h_2 (k := 3) (lo := 0) (hi := 150) rfl rfl
    refine j_icmp_ge (tgt := 22) hx hb (by omega) (by omega) dX10_isPageStart_12 (by decide) (fun c_3 => ?_) (fun c_3 => ?_)
    · refine j_const hx hb dX10_isPageStart_22 ?_
      exact hRet 23 _ 1 dX10_isPageStart_23 (by omega) trivial
    · refine lv_iload_n hx hb dX10_isPageStart_15 rfl (lv_at hl 1 rfl) ?_
      refine j_si hx hb dX10_isPageStart_16 (by decide) ?_
      refine j_icmp_lt (tgt := 24) hx hb (by omega) (by decide) dX10_isPageStart_19 (by decide) (fun c_4 => ?_) (fun c_4 => ?_)
      · refine lv_aload_n hx hb dX10_isPageStart_24 rfl (lv_at hl 0 rfl) ?_
        refine j_getR hx hb (C := RX10) (T := TX10) (N := 9) hts inX10_isPageStart_X10 hown hK hS hW h0 rfl 3 rfl rfl (by decide) (hts _ flX10_isPageStart_18) dX10_isPageStart_25 ?_
        have h_5 : τ (G a0 3) = 25 := gty hS h0 (k := 3) rfl rfl
        refine lv_iload_n hx hb dX10_isPageStart_28 rfl (lv_at hl 1 rfl) ?_
        refine j_ald hx hb hK hS hW h_5 (n := 150) rfl (by omega) (by omega) (by decide) dX10_isPageStart_29 ?_
        have := abd hW h_5 (n := 150) (lo := -1) (hi := 24) (i := x1) rfl (by omega) (by omega)
        refine lv_iload_n hx hb dX10_isPageStart_30 rfl (lv_at hl 2 rfl) ?_
        refine j_icmp_lt (tgt := 53) hx hb (by omega) (by omega) dX10_isPageStart_31 (by decide) (fun c_6 => ?_) (fun c_6 => ?_)
        · refine j_const hx hb dX10_isPageStart_53 ?_
          refine lv_goto (tgt := 58) hx hb dX10_isPageStart_54 (by decide) ?_
          exact hRet 58 _ 1 dX10_isPageStart_58 (by omega) trivial
        · refine lv_aload_n hx hb dX10_isPageStart_34 rfl (lv_at hl 0 rfl) ?_
          refine j_getR hx hb (C := RX10) (T := TX10) (N := 9) hts inX10_isPageStart_X10 hown hK hS hW h0 rfl 3 rfl rfl (by decide) (hts _ flX10_isPageStart_18) dX10_isPageStart_35 ?_
          refine lv_iload_n hx hb dX10_isPageStart_38 rfl (lv_at hl 1 rfl) ?_
          refine j_ald hx hb hK hS hW h_5 (n := 150) rfl (by omega) (by omega) (by decide) dX10_isPageStart_39 ?_
          refine lv_iload_n hx hb dX10_isPageStart_40 rfl (lv_at hl 2 rfl) ?_
          refine j_icmp_ne (tgt := 57) hx hb (by omega) (by omega) dX10_isPageStart_41 (by decide) (fun c_7 => ?_) (fun c_7 => ?_)
          · refine j_const hx hb dX10_isPageStart_57 ?_
            exact hRet 58 _ 0 dX10_isPageStart_58 (by omega) trivial
          · refine lv_aload_n hx hb dX10_isPageStart_44 rfl (lv_at hl 0 rfl) ?_
            refine j_getR hx hb (C := RX10) (T := TX10) (N := 9) hts inX10_isPageStart_X10 hown hK hS hW h0 rfl 4 rfl rfl (by decide) (hts _ flX10_isPageStart_22) dX10_isPageStart_45 ?_
            have h_8 : τ (G a0 4) = 26 := gty hS h0 (k := 4) rfl rfl
            refine lv_iload_n hx hb dX10_isPageStart_48 rfl (lv_at hl 1 rfl) ?_
            refine j_zald hx hb hK hS hW h_8 (n := 150) rfl (by omega) (by omega) (by decide) dX10_isPageStart_49 ?_
            have := abd hW h_8 (n := 150) (lo := 0) (hi := 1) (i := x1) rfl (by omega) (by omega)
            refine j_if_eq (tgt := 57) hx hb (by omega) dX10_isPageStart_50 (by decide) (fun c_9 => ?_) (fun c_9 => ?_)
            · refine j_const hx hb dX10_isPageStart_57 ?_
              exact hRet 58 _ 0 dX10_isPageStart_58 (by omega) trivial
            · refine j_const hx hb dX10_isPageStart_53 ?_
              refine lv_goto (tgt := 58) hx hb dX10_isPageStart_54 (by decide) ?_
              exact hRet 58 _ 1 dX10_isPageStart_58 (by omega) trivial
      · refine j_const hx hb dX10_isPageStart_22 ?_
        exact hRet 23 _ 1 dX10_isPageStart_23 (by omega) trivial
theorem hvX10_isPageEnd : yX10_isPageEnd.cls = RX10 ∧ yX10_isPageEnd.cls ≠ "java/lang/invoke/MethodHandle" ∧ yX10_isPageEnd.cls ≠ "java/lang/invoke/VarHandle" ∧ (parseMethodDescriptor yX10_isPageEnd.desc).map (fun d => d.parameters.length) = some 2 := by decide +kernel
set_option maxHeartbeats 4000000 in
set_option maxRecDepth 100000 in
theorem kX10_isPageEnd (l : Launch) {D : va_G} {cA : Nat → ClassId} {τ : Nat → Nat} {G : Nat → Nat → Nat} {L : List Nat} (hS : SW τ G L) (σ : Nat → Nat → Int) {a0 : Nat} (h0 : τ a0 = 11) {x1 : Int} (r1 : rg x1) {x2 : Int} (r2 : rg x2) : Met l yX10_isPageEnd wsX10_isPageEnd ({ frames := 1, cells := 0, slots := 0, locals := 22 }) (jP D cA τ G L σ [.ref a0, .int (jI x1), .int (jI x2)]) (jQR (fun r => (0 ≤ r ∧ r ≤ 1) ∧ (True))) 0 0 (fun _ => False) := by
  refine j_metRZ (by decide +kernel) rfl (Nat.le_of_ble_eq_true rfl) ?_
  intro p e s m args below meth c Q hx hb hml hown hts hK hW hRet ls hl
  have hl : lv_has ls 3 [(0, .ref a0), (1, .int (jI x1)), (2, .int (jI x2))] := hl
  refine lv_aload_n hx hb dX10_isPageEnd_0 rfl (lv_at hl 0 rfl) ?_
  refine lv_iload_n hx hb dX10_isPageEnd_1 rfl (lv_at hl 1 rfl) ?_
  refine j_const hx hb dX10_isPageEnd_2 ?_
  refine j_add hx hb dX10_isPageEnd_3 ?_
  refine j_wrap (fun z_1 rz_1 ez_1 => ?_)
  refine lv_iload_n hx hb dX10_isPageEnd_4 rfl (lv_at hl 2 rfl) ?_
  refine j_cR (j_runV (As := [.int (jI z_1), .int (jI x2)]) (rest := []) hx hb hml hown hts hK hS hW (kX10_isPageStart l hS σ (a0 := a0) (h0 := h0) (x1 := z_1) (r1 := (by omega)) (x2 := x2) (r2 := (by omega))) 2 gX10_isPageEnd_X10_isPageStart rfl hvX10_isPageStart ⟨Nat.le_of_ble_eq_true rfl, Nat.le_of_ble_eq_true rfl⟩ rfl rfl h0 rfl rfl rfl rfl hl.1 rfl (Nat.le_of_ble_eq_true rfl) dX10_isPageEnd_5 ⟨Nat.le_of_ble_eq_true rfl, Nat.le_of_ble_eq_true rfl⟩) (fun v_2 rv_2 pv_2 => ?_)
  try dsimp only at pv_2
  exact hRet 8 _ v_2 dX10_isPageEnd_8 (by omega) trivial
theorem hvX10_pageStart : yX10_pageStart.cls = RX10 ∧ yX10_pageStart.cls ≠ "java/lang/invoke/MethodHandle" ∧ yX10_pageStart.cls ≠ "java/lang/invoke/VarHandle" ∧ (parseMethodDescriptor yX10_pageStart.desc).map (fun d => d.parameters.length) = some 2 := by decide +kernel
set_option maxHeartbeats 4000000 in
set_option maxRecDepth 100000 in
theorem kX10_pageStart (l : Launch) {D : va_G} {cA : Nat → ClassId} {τ : Nat → Nat} {G : Nat → Nat → Nat} {L : List Nat} (hS : SW τ G L) (σ : Nat → Nat → Int) {a0 : Nat} (h0 : τ a0 = 11) {x1 : Int} (r1 : rg x1) {x2 : Int} (r2 : rg x2) : Met l yX10_pageStart wsX10_pageStart ({ frames := 1, cells := 0, slots := 0, locals := 22 }) (jP D cA τ G L σ [.ref a0, .int (jI x1), .int (jI x2)]) (jQR (fun r => True)) 0 0 (fun _ => False) := by
  refine j_metR (by decide +kernel) rfl (Nat.le_of_ble_eq_true rfl) ?_
  intro p e s m args below meth c Q hx hb hml hown hts hK hW hRet ls hl
  have hl : lv_has ls 4 [(0, .ref a0), (1, .int (jI x1)), (2, .int (jI x2))] := hl
  refine lv_iload_n hx hb dX10_pageStart_0 rfl (lv_at hl 1 rfl) ?_
  refine lv_istore_n (lv' := [(3, .int (jI x1)), (0, .ref a0), (1, .int (jI x1)), (2, .int (jI x2))]) hx hb dX10_pageStart_1 rfl hl (by decide) rfl (fun ls hl => ?_)
  have L_2 : ∀ (N : Nat) (v3_2 : Int) (ls : Array Slot), N = (v3_2 : Int).toNat → rg v3_2 → lv_has ls 4 [(0, .ref a0), (2, .int (jI x2)), (3, .int (jI v3_2))] → W p l e ({ frames := 1, cells := 0, slots := 0, locals := 22 }) s m args below meth c s.heap [] 0 0 Q (F0 m 2 ls []) := by
    intro N
    induction N using Nat.strongRecOn with
    | ind N ih_2 =>
      intro v3_2 ls hN rv3_2 hl
      refine lv_iload_n hx hb dX10_pageStart_2 rfl (lv_at hl 2 rfl) ?_
      refine j_if_le (tgt := 21) hx hb (by omega) dX10_pageStart_3 (by decide) (fun c_1 => ?_) (fun c_1 => ?_)
      · refine lv_iload_n hx hb dX10_pageStart_21 rfl (lv_at hl 2 rfl) ?_
        exact hRet 22 _ v3_2 dX10_pageStart_22 (by omega) trivial
      · refine lv_aload_n hx hb dX10_pageStart_6 rfl (lv_at hl 0 rfl) ?_
        refine lv_iload_n hx hb dX10_pageStart_7 rfl (lv_at hl 2 rfl) ?_
        refine lv_iload_n hx hb dX10_pageStart_8 rfl (lv_at hl 1 rfl) ?_
        refine j_cR (j_runV (As := [.int (jI v3_2), .int (jI x2)]) (rest := []) hx hb hml hown hts hK hS hW (kX10_isPageStart l hS σ (a0 := a0) (h0 := h0) (x1 := v3_2) (r1 := (by omega)) (x2 := x2) (r2 := (by omega))) 2 gX10_pageStart_X10_isPageStart rfl hvX10_isPageStart ⟨Nat.le_of_ble_eq_true rfl, Nat.le_of_ble_eq_true rfl⟩ rfl rfl h0 rfl rfl rfl rfl hl.1 rfl (Nat.le_of_ble_eq_true rfl) dX10_pageStart_9 ⟨Nat.le_of_ble_eq_true rfl, Nat.le_of_ble_eq_true rfl⟩) (fun v_2 rv_2 pv_2 => ?_)
        try dsimp only at pv_2
        refine j_if_ne (tgt := 21) hx hb (by omega) dX10_pageStart_12 (by decide) (fun c_3 => ?_) (fun c_3 => ?_)
        · refine lv_iload_n hx hb dX10_pageStart_21 rfl (lv_at hl 2 rfl) ?_
          exact hRet 22 _ v3_2 dX10_pageStart_22 (by omega) trivial
        · refine j_iinc (lv' := [(3, .int (jI (v3_2 + (-1)))), (0, .ref a0), (2, .int (jI x2))]) hx hb dX10_pageStart_15 hl (k := 2) rfl (by decide) rfl (fun ls hl => ?_)
          refine lv_goto (tgt := 2) hx hb dX10_pageStart_18 (by decide) ?_
          exact ih_2 (((v3_2 + (-1)) : Int).toNat) (by omega) (v3_2 + (-1)) _ rfl (by omega) (lv_sub hl [1, 2, 0] rfl)
  exact L_2 ((x1 : Int).toNat) x1 _ rfl (by omega) (lv_sub hl [1, 3, 0] rfl)
theorem flX10_pageBehind_12 : Cond.fieldLink RX10 12 "PageTrie$Trie" "keys" "LPageTrie$Keys;" ∈ wsX10_pageBehind := List.mem_of_getElem? (i := 1) rfl
theorem flX10_pageBehind_45 : Cond.fieldLink RX10 45 "PageTrie$Keys" "size" "I" ∈ wsX10_pageBehind := List.mem_of_getElem? (i := 2) rfl
theorem inX10_pageBehind_X10 : ∀ w ∈ u_ws RX10 TX10 9, w ∈ wsX10_pageBehind := mem_r _ [14, 15, 16, 17, 18, 19, 20, 21, 22] rfl
theorem inX10_pageBehind_X3 : ∀ w ∈ u_ws RX3 TX3 4, w ∈ wsX10_pageBehind := mem_r _ [23, 24, 25, 26] rfl
theorem hvX10_pageBehind : yX10_pageBehind.cls = RX10 ∧ yX10_pageBehind.cls ≠ "java/lang/invoke/MethodHandle" ∧ yX10_pageBehind.cls ≠ "java/lang/invoke/VarHandle" ∧ (parseMethodDescriptor yX10_pageBehind.desc).map (fun d => d.parameters.length) = some 2 := by decide +kernel
set_option maxHeartbeats 4000000 in
set_option maxRecDepth 100000 in
theorem kX10_pageBehind (l : Launch) {D : va_G} {cA : Nat → ClassId} {τ : Nat → Nat} {G : Nat → Nat → Nat} {L : List Nat} (hS : SW τ G L) (σ : Nat → Nat → Int) {a0 : Nat} (h0 : τ a0 = 11) {x1 : Int} (r1 : rg x1) {x2 : Int} (r2 : rg x2) : Met l yX10_pageBehind wsX10_pageBehind ({ frames := 1, cells := 0, slots := 0, locals := 21 }) (jP D cA τ G L σ [.ref a0, .int (jI x1), .int (jI x2)]) (jQR (fun r => True)) 0 0 (fun _ => False) := by
  refine j_metR (by decide +kernel) rfl (Nat.le_of_ble_eq_true rfl) ?_
  intro p e s m args below meth c Q hx hb hml hown hts hK hW hRet ls hl
  have hl : lv_has ls 4 [(0, .ref a0), (1, .int (jI x1)), (2, .int (jI x2))] := hl
  refine lv_iload_n hx hb dX10_pageBehind_0 rfl (lv_at hl 1 rfl) ?_
  refine j_const hx hb dX10_pageBehind_1 ?_
  refine j_add hx hb dX10_pageBehind_2 ?_
  refine j_wrap (fun z_1 rz_1 ez_1 => ?_)
  refine lv_istore_n (lv' := [(3, .int (jI z_1)), (0, .ref a0), (1, .int (jI x1)), (2, .int (jI x2))]) hx hb dX10_pageBehind_3 rfl hl (by decide) rfl (fun ls hl => ?_)
  have L_4 : ∀ (N : Nat) (v3_4 : Int) (ls : Array Slot), N = (2147483647 - v3_4 : Int).toNat → rg v3_4 → lv_has ls 4 [(0, .ref a0), (2, .int (jI x2)), (3, .int (jI v3_4))] → W p l e ({ frames := 1, cells := 0, slots := 0, locals := 21 }) s m args below meth c s.heap [] 0 0 Q (F0 m 4 ls []) := by
    intro N
    induction N using Nat.strongRecOn with
    | ind N ih_4 =>
      intro v3_4 ls hN rv3_4 hl
      refine lv_iload_n hx hb dX10_pageBehind_4 rfl (lv_at hl 2 rfl) ?_
      refine lv_aload_n hx hb dX10_pageBehind_5 rfl (lv_at hl 0 rfl) ?_
      refine j_getR hx hb (C := RX10) (T := TX10) (N := 9) hts inX10_pageBehind_X10 hown hK hS hW h0 rfl 0 rfl rfl (by decide) (hts _ flX10_pageBehind_12) dX10_pageBehind_6 ?_
      have h_2 : τ (G a0 0) = 4 := gty hS h0 (k := 0) rfl rfl
      refine j_getI hx hb (C := RX3) (T := TX3) (N := 4) hts inX10_pageBehind_X3 hown hK hS hW h_2 rfl 3 rfl rfl (by decide) (hts _ flX10_pageBehind_45) dX10_pageBehind_9 ?_
      have := fbd hW h_2 (k := 3) (lo := 0) (hi := 150) rfl rfl
      refine j_icmp_ge (tgt := 49) hx hb (by omega) (by omega) dX10_pageBehind_12 (by decide) (fun c_3 => ?_) (fun c_3 => ?_)
      · refine j_const hx hb dX10_pageBehind_49 ?_
        exact hRet 50 _ (-1) dX10_pageBehind_50 (by decide) trivial
      · refine lv_aload_n hx hb dX10_pageBehind_15 rfl (lv_at hl 0 rfl) ?_
        refine lv_iload_n hx hb dX10_pageBehind_16 rfl (lv_at hl 2 rfl) ?_
        refine j_cR (j_runV (As := [.int (jI v3_4)]) (rest := []) hx hb hml hown hts hK hS hW (kX10_sharedAt l hS σ (a0 := a0) (h0 := h0) (x1 := v3_4) (r1 := (by omega))) 1 gX10_pageBehind_X10_sharedAt rfl hvX10_sharedAt ⟨Nat.le_of_ble_eq_true rfl, Nat.le_of_ble_eq_true rfl⟩ rfl rfl h0 rfl rfl rfl rfl hl.1 rfl (Nat.le_of_ble_eq_true rfl) dX10_pageBehind_17 ⟨Nat.le_of_ble_eq_true rfl, Nat.le_of_ble_eq_true rfl⟩) (fun v_4 rv_4 pv_4 => ?_)
        try dsimp only at pv_4
        refine lv_iload_n hx hb dX10_pageBehind_20 rfl (lv_at hl 1 rfl) ?_
        refine j_icmp_lt (tgt := 49) hx hb (by omega) (by omega) dX10_pageBehind_21 (by decide) (fun c_5 => ?_) (fun c_5 => ?_)
        · refine j_const hx hb dX10_pageBehind_49 ?_
          exact hRet 50 _ (-1) dX10_pageBehind_50 (by decide) trivial
        · refine lv_aload_n hx hb dX10_pageBehind_24 rfl (lv_at hl 0 rfl) ?_
          refine lv_iload_n hx hb dX10_pageBehind_25 rfl (lv_at hl 2 rfl) ?_
          refine j_cR (j_runV (As := [.int (jI v3_4)]) (rest := []) hx hb hml hown hts hK hS hW (kX10_sharedAt l hS σ (a0 := a0) (h0 := h0) (x1 := v3_4) (r1 := (by omega))) 1 gX10_pageBehind_X10_sharedAt rfl hvX10_sharedAt ⟨Nat.le_of_ble_eq_true rfl, Nat.le_of_ble_eq_true rfl⟩ rfl rfl h0 rfl rfl rfl rfl hl.1 rfl (Nat.le_of_ble_eq_true rfl) dX10_pageBehind_26 ⟨Nat.le_of_ble_eq_true rfl, Nat.le_of_ble_eq_true rfl⟩) (fun v_6 rv_6 pv_6 => ?_)
          try dsimp only at pv_6
          refine lv_iload_n hx hb dX10_pageBehind_29 rfl (lv_at hl 1 rfl) ?_
          refine j_icmp_ne (tgt := 43) hx hb (by omega) (by omega) dX10_pageBehind_30 (by decide) (fun c_7 => ?_) (fun c_7 => ?_)
          · refine j_iinc (lv' := [(3, .int (jI (v3_4 + 1))), (0, .ref a0), (2, .int (jI x2))]) hx hb dX10_pageBehind_43 hl (k := 2) rfl (by decide) rfl (fun ls hl => ?_)
            refine lv_goto (tgt := 4) hx hb dX10_pageBehind_46 (by decide) ?_
            exact ih_4 ((2147483647 - (v3_4 + 1) : Int).toNat) (by omega) (v3_4 + 1) _ rfl (by omega) (lv_sub hl [1, 2, 0] rfl)
          · refine lv_aload_n hx hb dX10_pageBehind_33 rfl (lv_at hl 0 rfl) ?_
            refine lv_iload_n hx hb dX10_pageBehind_34 rfl (lv_at hl 2 rfl) ?_
            refine j_cR (j_runV (As := [.int (jI v3_4)]) (rest := []) hx hb hml hown hts hK hS hW (kX10_opensAt l hS σ (a0 := a0) (h0 := h0) (x1 := v3_4) (r1 := (by omega))) 1 gX10_pageBehind_X10_opensAt rfl hvX10_opensAt ⟨Nat.le_of_ble_eq_true rfl, Nat.le_of_ble_eq_true rfl⟩ rfl rfl h0 rfl rfl rfl rfl hl.1 rfl (Nat.le_of_ble_eq_true rfl) dX10_pageBehind_35 ⟨Nat.le_of_ble_eq_true rfl, Nat.le_of_ble_eq_true rfl⟩) (fun v_8 rv_8 pv_8 => ?_)
            try dsimp only at pv_8
            refine j_if_eq (tgt := 43) hx hb (by omega) dX10_pageBehind_38 (by decide) (fun c_9 => ?_) (fun c_9 => ?_)
            · refine j_iinc (lv' := [(3, .int (jI (v3_4 + 1))), (0, .ref a0), (2, .int (jI x2))]) hx hb dX10_pageBehind_43 hl (k := 2) rfl (by decide) rfl (fun ls hl => ?_)
              refine lv_goto (tgt := 4) hx hb dX10_pageBehind_46 (by decide) ?_
              exact ih_4 ((2147483647 - (v3_4 + 1) : Int).toNat) (by omega) (v3_4 + 1) _ rfl (by omega) (lv_sub hl [1, 2, 0] rfl)
            · refine lv_iload_n hx hb dX10_pageBehind_41 rfl (lv_at hl 2 rfl) ?_
              exact hRet 42 _ v3_4 dX10_pageBehind_42 (by omega) trivial
  exact L_4 ((2147483647 - z_1 : Int).toNat) z_1 _ rfl (by omega) (lv_sub hl [1, 3, 0] rfl)
theorem flX10_entriesFrom_12 : Cond.fieldLink RX10 12 "PageTrie$Trie" "keys" "LPageTrie$Keys;" ∈ wsX10_entriesFrom := List.mem_of_getElem? (i := 1) rfl
theorem flX10_entriesFrom_45 : Cond.fieldLink RX10 45 "PageTrie$Keys" "size" "I" ∈ wsX10_entriesFrom := List.mem_of_getElem? (i := 2) rfl
theorem inX10_entriesFrom_X10 : ∀ w ∈ u_ws RX10 TX10 9, w ∈ wsX10_entriesFrom := mem_r _ [14, 15, 16, 17, 18, 19, 20, 21, 22] rfl
theorem inX10_entriesFrom_X3 : ∀ w ∈ u_ws RX3 TX3 4, w ∈ wsX10_entriesFrom := mem_r _ [23, 24, 25, 26] rfl
theorem hvX10_entriesFrom : yX10_entriesFrom.cls = RX10 ∧ yX10_entriesFrom.cls ≠ "java/lang/invoke/MethodHandle" ∧ yX10_entriesFrom.cls ≠ "java/lang/invoke/VarHandle" ∧ (parseMethodDescriptor yX10_entriesFrom.desc).map (fun d => d.parameters.length) = some 2 := by decide +kernel
set_option maxHeartbeats 4000000 in
set_option maxRecDepth 100000 in
theorem kX10_entriesFrom (l : Launch) {D : va_G} {cA : Nat → ClassId} {τ : Nat → Nat} {G : Nat → Nat → Nat} {L : List Nat} (hS : SW τ G L) (σ : Nat → Nat → Int) {a0 : Nat} (h0 : τ a0 = 11) {x1 : Int} (r1 : rg x1) {x2 : Int} (r2 : rg x2) : Met l yX10_entriesFrom wsX10_entriesFrom ({ frames := 1, cells := 0, slots := 0, locals := 22 }) (jP D cA τ G L σ [.ref a0, .int (jI x1), .int (jI x2)]) (jQR (fun r => True)) 0 0 (fun _ => False) := by
  refine j_metR (by decide +kernel) rfl (Nat.le_of_ble_eq_true rfl) ?_
  intro p e s m args below meth c Q hx hb hml hown hts hK hW hRet ls hl
  have hl : lv_has ls 5 [(0, .ref a0), (1, .int (jI x1)), (2, .int (jI x2))] := hl
  refine j_const hx hb dX10_entriesFrom_0 ?_
  refine lv_istore_n (lv' := [(3, .int (jI 1)), (0, .ref a0), (1, .int (jI x1)), (2, .int (jI x2))]) hx hb dX10_entriesFrom_1 rfl hl (by decide) rfl (fun ls hl => ?_)
  refine lv_iload_n hx hb dX10_entriesFrom_2 rfl (lv_at hl 2 rfl) ?_
  refine j_const hx hb dX10_entriesFrom_3 ?_
  refine j_add hx hb dX10_entriesFrom_4 ?_
  refine j_wrap (fun z_1 rz_1 ez_1 => ?_)
  refine lv_istore (lv' := [(4, .int (jI z_1)), (3, .int (jI 1)), (0, .ref a0), (1, .int (jI x1)), (2, .int (jI x2))]) hx hb dX10_entriesFrom_5 hl (by decide) rfl (fun ls hl => ?_)
  have L_7 : ∀ (N : Nat) (v3_7 v4_7 : Int) (ls : Array Slot), N = (2147483647 - v4_7 : Int).toNat → rg v3_7 → rg v4_7 → lv_has ls 5 [(0, .ref a0), (2, .int (jI x2)), (3, .int (jI v3_7)), (4, .int (jI v4_7))] → W p l e ({ frames := 1, cells := 0, slots := 0, locals := 22 }) s m args below meth c s.heap [] 0 0 Q (F0 m 7 ls []) := by
    intro N
    induction N using Nat.strongRecOn with
    | ind N ih_7 =>
      intro v3_7 v4_7 ls hN rv3_7 rv4_7 hl
      refine lv_iload hx hb dX10_entriesFrom_7 (lv_at hl 3 rfl) ?_
      refine lv_aload_n hx hb dX10_entriesFrom_9 rfl (lv_at hl 0 rfl) ?_
      refine j_getR hx hb (C := RX10) (T := TX10) (N := 9) hts inX10_entriesFrom_X10 hown hK hS hW h0 rfl 0 rfl rfl (by decide) (hts _ flX10_entriesFrom_12) dX10_entriesFrom_10 ?_
      have h_2 : τ (G a0 0) = 4 := gty hS h0 (k := 0) rfl rfl
      refine j_getI hx hb (C := RX3) (T := TX3) (N := 4) hts inX10_entriesFrom_X3 hown hK hS hW h_2 rfl 3 rfl rfl (by decide) (hts _ flX10_entriesFrom_45) dX10_entriesFrom_13 ?_
      have := fbd hW h_2 (k := 3) (lo := 0) (hi := 150) rfl rfl
      refine j_icmp_ge (tgt := 48) hx hb (by omega) (by omega) dX10_entriesFrom_16 (by decide) (fun c_3 => ?_) (fun c_3 => ?_)
      · refine lv_iload_n hx hb dX10_entriesFrom_48 rfl (lv_at hl 2 rfl) ?_
        exact hRet 49 _ v3_7 dX10_entriesFrom_49 (by omega) trivial
      · refine lv_aload_n hx hb dX10_entriesFrom_19 rfl (lv_at hl 0 rfl) ?_
        refine lv_iload hx hb dX10_entriesFrom_20 (lv_at hl 3 rfl) ?_
        refine lv_iload_n hx hb dX10_entriesFrom_22 rfl (lv_at hl 1 rfl) ?_
        refine j_cR (j_runV (As := [.int (jI v4_7), .int (jI x2)]) (rest := []) hx hb hml hown hts hK hS hW (kX10_isPageStart l hS σ (a0 := a0) (h0 := h0) (x1 := v4_7) (r1 := (by omega)) (x2 := x2) (r2 := (by omega))) 2 gX10_entriesFrom_X10_isPageStart rfl hvX10_isPageStart ⟨Nat.le_of_ble_eq_true rfl, Nat.le_of_ble_eq_true rfl⟩ rfl rfl h0 rfl rfl rfl rfl hl.1 rfl (Nat.le_of_ble_eq_true rfl) dX10_entriesFrom_23 ⟨Nat.le_of_ble_eq_true rfl, Nat.le_of_ble_eq_true rfl⟩) (fun v_4 rv_4 pv_4 => ?_)
        try dsimp only at pv_4
        refine j_if_ne (tgt := 48) hx hb (by omega) dX10_entriesFrom_26 (by decide) (fun c_5 => ?_) (fun c_5 => ?_)
        · refine lv_iload_n hx hb dX10_entriesFrom_48 rfl (lv_at hl 2 rfl) ?_
          exact hRet 49 _ v3_7 dX10_entriesFrom_49 (by omega) trivial
        · refine lv_aload_n hx hb dX10_entriesFrom_29 rfl (lv_at hl 0 rfl) ?_
          refine lv_iload hx hb dX10_entriesFrom_30 (lv_at hl 3 rfl) ?_
          refine j_cR (j_runV (As := [.int (jI v4_7)]) (rest := []) hx hb hml hown hts hK hS hW (kX10_sharedAt l hS σ (a0 := a0) (h0 := h0) (x1 := v4_7) (r1 := (by omega))) 1 gX10_entriesFrom_X10_sharedAt rfl hvX10_sharedAt ⟨Nat.le_of_ble_eq_true rfl, Nat.le_of_ble_eq_true rfl⟩ rfl rfl h0 rfl rfl rfl rfl hl.1 rfl (Nat.le_of_ble_eq_true rfl) dX10_entriesFrom_32 ⟨Nat.le_of_ble_eq_true rfl, Nat.le_of_ble_eq_true rfl⟩) (fun v_6 rv_6 pv_6 => ?_)
          try dsimp only at pv_6
          refine lv_iload_n hx hb dX10_entriesFrom_35 rfl (lv_at hl 1 rfl) ?_
          refine j_icmp_ne (tgt := 42) hx hb (by omega) (by omega) dX10_entriesFrom_36 (by decide) (fun c_7 => ?_) (fun c_7 => ?_)
          · refine j_iinc (lv' := [(4, .int (jI (v4_7 + 1))), (0, .ref a0), (2, .int (jI x2)), (3, .int (jI v3_7))]) hx hb dX10_entriesFrom_42 hl (k := 3) rfl (by decide) rfl (fun ls hl => ?_)
            refine lv_goto (tgt := 7) hx hb dX10_entriesFrom_45 (by decide) ?_
            exact ih_7 ((2147483647 - (v4_7 + 1) : Int).toNat) (by omega) v3_7 (v4_7 + 1) _ rfl (by omega) (by omega) (lv_sub hl [1, 2, 3, 0] rfl)
          · refine j_iincW hx hb dX10_entriesFrom_39 hl (k := 2) rfl (by decide) (fun z_8 ls rz_8 ez_8 hl => ?_)
            have hl : lv_has ls 5 [(3, .int (jI z_8)), (0, .ref a0), (2, .int (jI x2)), (4, .int (jI v4_7))] := hl
            refine j_iinc (lv' := [(4, .int (jI (v4_7 + 1))), (3, .int (jI z_8)), (0, .ref a0), (2, .int (jI x2))]) hx hb dX10_entriesFrom_42 hl (k := 3) rfl (by decide) rfl (fun ls hl => ?_)
            refine lv_goto (tgt := 7) hx hb dX10_entriesFrom_45 (by decide) ?_
            exact ih_7 ((2147483647 - (v4_7 + 1) : Int).toNat) (by omega) z_8 (v4_7 + 1) _ rfl (by omega) (by omega) (lv_sub hl [2, 3, 1, 0] rfl)
  exact L_7 ((2147483647 - z_1 : Int).toNat) 1 z_1 _ rfl (by decide) (by omega) (lv_sub hl [2, 4, 1, 0] rfl)
theorem flX10_entryFrom_12 : Cond.fieldLink RX10 12 "PageTrie$Trie" "keys" "LPageTrie$Keys;" ∈ wsX10_entryFrom := List.mem_of_getElem? (i := 1) rfl
theorem flX10_entryFrom_45 : Cond.fieldLink RX10 45 "PageTrie$Keys" "size" "I" ∈ wsX10_entryFrom := List.mem_of_getElem? (i := 2) rfl
theorem inX10_entryFrom_X10 : ∀ w ∈ u_ws RX10 TX10 9, w ∈ wsX10_entryFrom := mem_r _ [14, 15, 16, 17, 18, 19, 20, 21, 22] rfl
theorem inX10_entryFrom_X3 : ∀ w ∈ u_ws RX3 TX3 4, w ∈ wsX10_entryFrom := mem_r _ [23, 24, 25, 26] rfl
theorem hvX10_entryFrom : yX10_entryFrom.cls = RX10 ∧ yX10_entryFrom.cls ≠ "java/lang/invoke/MethodHandle" ∧ yX10_entryFrom.cls ≠ "java/lang/invoke/VarHandle" ∧ (parseMethodDescriptor yX10_entryFrom.desc).map (fun d => d.parameters.length) = some 3 := by decide +kernel
set_option maxHeartbeats 4000000 in
set_option maxRecDepth 100000 in
theorem kX10_entryFrom (l : Launch) {D : va_G} {cA : Nat → ClassId} {τ : Nat → Nat} {G : Nat → Nat → Nat} {L : List Nat} (hS : SW τ G L) (σ : Nat → Nat → Int) {a0 : Nat} (h0 : τ a0 = 11) {x1 : Int} (r1 : rg x1) {x2 : Int} (r2 : rg x2) {x3 : Int} (r3 : rg x3) : Met l yX10_entryFrom wsX10_entryFrom ({ frames := 1, cells := 0, slots := 0, locals := 22 }) (jP D cA τ G L σ [.ref a0, .int (jI x1), .int (jI x2), .int (jI x3)]) (jQR (fun r => True)) 0 0 (fun _ => False) := by
  refine j_metR (by decide +kernel) rfl (Nat.le_of_ble_eq_true rfl) ?_
  intro p e s m args below meth c Q hx hb hml hown hts hK hW hRet ls hl
  have hl : lv_has ls 6 [(0, .ref a0), (1, .int (jI x1)), (2, .int (jI x2)), (3, .int (jI x3))] := hl
  refine j_const hx hb dX10_entryFrom_0 ?_
  refine lv_istore (lv' := [(4, .int (jI 0)), (0, .ref a0), (1, .int (jI x1)), (2, .int (jI x2)), (3, .int (jI x3))]) hx hb dX10_entryFrom_1 hl (by decide) rfl (fun ls hl => ?_)
  refine lv_iload_n hx hb dX10_entryFrom_3 rfl (lv_at hl 2 rfl) ?_
  refine j_const hx hb dX10_entryFrom_4 ?_
  refine j_add hx hb dX10_entryFrom_5 ?_
  refine j_wrap (fun z_1 rz_1 ez_1 => ?_)
  refine lv_istore (lv' := [(5, .int (jI z_1)), (4, .int (jI 0)), (0, .ref a0), (1, .int (jI x1)), (2, .int (jI x2)), (3, .int (jI x3))]) hx hb dX10_entryFrom_6 hl (by decide) rfl (fun ls hl => ?_)
  have L_8 : ∀ (N : Nat) (v4_8 v5_8 : Int) (ls : Array Slot), N = (2147483647 - v5_8 : Int).toNat → rg v4_8 → rg v5_8 → lv_has ls 6 [(0, .ref a0), (2, .int (jI x2)), (3, .int (jI x3)), (4, .int (jI v4_8)), (5, .int (jI v5_8))] → W p l e ({ frames := 1, cells := 0, slots := 0, locals := 22 }) s m args below meth c s.heap [] 0 0 Q (F0 m 8 ls []) := by
    intro N
    induction N using Nat.strongRecOn with
    | ind N ih_8 =>
      intro v4_8 v5_8 ls hN rv4_8 rv5_8 hl
      refine lv_iload hx hb dX10_entryFrom_8 (lv_at hl 4 rfl) ?_
      refine lv_aload_n hx hb dX10_entryFrom_10 rfl (lv_at hl 0 rfl) ?_
      refine j_getR hx hb (C := RX10) (T := TX10) (N := 9) hts inX10_entryFrom_X10 hown hK hS hW h0 rfl 0 rfl rfl (by decide) (hts _ flX10_entryFrom_12) dX10_entryFrom_11 ?_
      have h_2 : τ (G a0 0) = 4 := gty hS h0 (k := 0) rfl rfl
      refine j_getI hx hb (C := RX3) (T := TX3) (N := 4) hts inX10_entryFrom_X3 hown hK hS hW h_2 rfl 3 rfl rfl (by decide) (hts _ flX10_entryFrom_45) dX10_entryFrom_14 ?_
      have := fbd hW h_2 (k := 3) (lo := 0) (hi := 150) rfl rfl
      refine j_icmp_ge (tgt := 58) hx hb (by omega) (by omega) dX10_entryFrom_17 (by decide) (fun c_3 => ?_) (fun c_3 => ?_)
      · refine j_const hx hb dX10_entryFrom_58 ?_
        exact hRet 59 _ (-1) dX10_entryFrom_59 (by decide) trivial
      · refine lv_aload_n hx hb dX10_entryFrom_20 rfl (lv_at hl 0 rfl) ?_
        refine lv_iload hx hb dX10_entryFrom_21 (lv_at hl 4 rfl) ?_
        refine lv_iload_n hx hb dX10_entryFrom_23 rfl (lv_at hl 1 rfl) ?_
        refine j_cR (j_runV (As := [.int (jI v5_8), .int (jI x2)]) (rest := []) hx hb hml hown hts hK hS hW (kX10_isPageStart l hS σ (a0 := a0) (h0 := h0) (x1 := v5_8) (r1 := (by omega)) (x2 := x2) (r2 := (by omega))) 2 gX10_entryFrom_X10_isPageStart rfl hvX10_isPageStart ⟨Nat.le_of_ble_eq_true rfl, Nat.le_of_ble_eq_true rfl⟩ rfl rfl h0 rfl rfl rfl rfl hl.1 rfl (Nat.le_of_ble_eq_true rfl) dX10_entryFrom_24 ⟨Nat.le_of_ble_eq_true rfl, Nat.le_of_ble_eq_true rfl⟩) (fun v_4 rv_4 pv_4 => ?_)
        try dsimp only at pv_4
        refine j_if_ne (tgt := 58) hx hb (by omega) dX10_entryFrom_27 (by decide) (fun c_5 => ?_) (fun c_5 => ?_)
        · refine j_const hx hb dX10_entryFrom_58 ?_
          exact hRet 59 _ (-1) dX10_entryFrom_59 (by decide) trivial
        · refine lv_aload_n hx hb dX10_entryFrom_30 rfl (lv_at hl 0 rfl) ?_
          refine lv_iload hx hb dX10_entryFrom_31 (lv_at hl 4 rfl) ?_
          refine j_cR (j_runV (As := [.int (jI v5_8)]) (rest := []) hx hb hml hown hts hK hS hW (kX10_sharedAt l hS σ (a0 := a0) (h0 := h0) (x1 := v5_8) (r1 := (by omega))) 1 gX10_entryFrom_X10_sharedAt rfl hvX10_sharedAt ⟨Nat.le_of_ble_eq_true rfl, Nat.le_of_ble_eq_true rfl⟩ rfl rfl h0 rfl rfl rfl rfl hl.1 rfl (Nat.le_of_ble_eq_true rfl) dX10_entryFrom_33 ⟨Nat.le_of_ble_eq_true rfl, Nat.le_of_ble_eq_true rfl⟩) (fun v_6 rv_6 pv_6 => ?_)
          try dsimp only at pv_6
          refine lv_iload_n hx hb dX10_entryFrom_36 rfl (lv_at hl 1 rfl) ?_
          refine j_icmp_ne (tgt := 52) hx hb (by omega) (by omega) dX10_entryFrom_37 (by decide) (fun c_7 => ?_) (fun c_7 => ?_)
          · refine j_iinc (lv' := [(5, .int (jI (v5_8 + 1))), (0, .ref a0), (2, .int (jI x2)), (3, .int (jI x3)), (4, .int (jI v4_8))]) hx hb dX10_entryFrom_52 hl (k := 4) rfl (by decide) rfl (fun ls hl => ?_)
            refine lv_goto (tgt := 8) hx hb dX10_entryFrom_55 (by decide) ?_
            exact ih_8 ((2147483647 - (v5_8 + 1) : Int).toNat) (by omega) v4_8 (v5_8 + 1) _ rfl (by omega) (by omega) (lv_sub hl [1, 2, 3, 4, 0] rfl)
          · refine j_iincW hx hb dX10_entryFrom_40 hl (k := 3) rfl (by decide) (fun z_8 ls rz_8 ez_8 hl => ?_)
            have hl : lv_has ls 6 [(4, .int (jI z_8)), (0, .ref a0), (2, .int (jI x2)), (3, .int (jI x3)), (5, .int (jI v5_8))] := hl
            refine lv_iload hx hb dX10_entryFrom_43 (lv_at hl 0 rfl) ?_
            refine lv_iload_n hx hb dX10_entryFrom_45 rfl (lv_at hl 3 rfl) ?_
            refine j_icmp_ne (tgt := 52) hx hb (by omega) (by omega) dX10_entryFrom_46 (by decide) (fun c_9 => ?_) (fun c_9 => ?_)
            · refine j_iinc (lv' := [(5, .int (jI (v5_8 + 1))), (4, .int (jI z_8)), (0, .ref a0), (2, .int (jI x2)), (3, .int (jI x3))]) hx hb dX10_entryFrom_52 hl (k := 4) rfl (by decide) rfl (fun ls hl => ?_)
              refine lv_goto (tgt := 8) hx hb dX10_entryFrom_55 (by decide) ?_
              exact ih_8 ((2147483647 - (v5_8 + 1) : Int).toNat) (by omega) z_8 (v5_8 + 1) _ rfl (by omega) (by omega) (lv_sub hl [2, 3, 4, 1, 0] rfl)
            · refine lv_iload hx hb dX10_entryFrom_49 (lv_at hl 4 rfl) ?_
              exact hRet 51 _ v5_8 dX10_entryFrom_51 (by omega) trivial
  exact L_8 ((2147483647 - z_1 : Int).toNat) 0 z_1 _ rfl (by decide) (by omega) (lv_sub hl [2, 4, 5, 1, 0] rfl)
theorem flX10_layerEnd_12 : Cond.fieldLink RX10 12 "PageTrie$Trie" "keys" "LPageTrie$Keys;" ∈ wsX10_layerEnd := List.mem_of_getElem? (i := 1) rfl
theorem flX10_layerEnd_45 : Cond.fieldLink RX10 45 "PageTrie$Keys" "size" "I" ∈ wsX10_layerEnd := List.mem_of_getElem? (i := 2) rfl
theorem inX10_layerEnd_X10 : ∀ w ∈ u_ws RX10 TX10 9, w ∈ wsX10_layerEnd := mem_r _ [13, 14, 15, 16, 17, 18, 19, 20, 21] rfl
theorem inX10_layerEnd_X3 : ∀ w ∈ u_ws RX3 TX3 4, w ∈ wsX10_layerEnd := mem_r _ [22, 23, 24, 25] rfl
theorem hvX10_layerEnd : yX10_layerEnd.cls = RX10 ∧ yX10_layerEnd.cls ≠ "java/lang/invoke/MethodHandle" ∧ yX10_layerEnd.cls ≠ "java/lang/invoke/VarHandle" ∧ (parseMethodDescriptor yX10_layerEnd.desc).map (fun d => d.parameters.length) = some 2 := by decide +kernel
set_option maxHeartbeats 4000000 in
set_option maxRecDepth 100000 in
theorem kX10_layerEnd (l : Launch) {D : va_G} {cA : Nat → ClassId} {τ : Nat → Nat} {G : Nat → Nat → Nat} {L : List Nat} (hS : SW τ G L) (σ : Nat → Nat → Int) {a0 : Nat} (h0 : τ a0 = 11) {x1 : Int} (r1 : rg x1) {x2 : Int} (r2 : rg x2) (q0 : 0 ≤ x1) (q1 : x1 ≤ 150) : Met l yX10_layerEnd wsX10_layerEnd ({ frames := 1, cells := 0, slots := 0, locals := 24 }) (jP D cA τ G L σ [.ref a0, .int (jI x1), .int (jI x2)]) (jQR (fun r => (0 ≤ r) ∧ (r ≤ 150))) 0 0 (fun _ => False) := by
  refine j_metR (by decide +kernel) rfl (Nat.le_of_ble_eq_true rfl) ?_
  intro p e s m args below meth c Q hx hb hml hown hts hK hW hRet ls hl
  have hl : lv_has ls 4 [(0, .ref a0), (1, .int (jI x1)), (2, .int (jI x2))] := hl
  refine lv_iload_n hx hb dX10_layerEnd_0 rfl (lv_at hl 1 rfl) ?_
  refine j_const hx hb dX10_layerEnd_1 ?_
  refine j_add hx hb dX10_layerEnd_2 ?_
  refine lv_istore_n (lv' := [(3, .int (jI (x1 + 1))), (0, .ref a0), (1, .int (jI x1)), (2, .int (jI x2))]) hx hb dX10_layerEnd_3 rfl hl (by decide) rfl (fun ls hl => ?_)
  have L_4 : ∀ (N : Nat) (v3_4 : Int) (ls : Array Slot), N = (2147483647 - v3_4 : Int).toNat → (0 ≤ v3_4) → rg v3_4 → lv_has ls 4 [(0, .ref a0), (2, .int (jI x2)), (3, .int (jI v3_4))] → W p l e ({ frames := 1, cells := 0, slots := 0, locals := 24 }) s m args below meth c s.heap [] 0 0 Q (F0 m 4 ls []) := by
    intro N
    induction N using Nat.strongRecOn with
    | ind N ih_4 =>
      intro v3_4 ls hN i0_4 rv3_4 hl
      refine lv_iload_n hx hb dX10_layerEnd_4 rfl (lv_at hl 2 rfl) ?_
      refine lv_aload_n hx hb dX10_layerEnd_5 rfl (lv_at hl 0 rfl) ?_
      refine j_getR hx hb (C := RX10) (T := TX10) (N := 9) hts inX10_layerEnd_X10 hown hK hS hW h0 rfl 0 rfl rfl (by decide) (hts _ flX10_layerEnd_12) dX10_layerEnd_6 ?_
      have h_1 : τ (G a0 0) = 4 := gty hS h0 (k := 0) rfl rfl
      refine j_getI hx hb (C := RX3) (T := TX3) (N := 4) hts inX10_layerEnd_X3 hown hK hS hW h_1 rfl 3 rfl rfl (by decide) (hts _ flX10_layerEnd_45) dX10_layerEnd_9 ?_
      have := fbd hW h_1 (k := 3) (lo := 0) (hi := 150) rfl rfl
      refine j_icmp_ge (tgt := 30) hx hb (by omega) (by omega) dX10_layerEnd_12 (by decide) (fun c_2 => ?_) (fun c_2 => ?_)
      · refine lv_iload_n hx hb dX10_layerEnd_30 rfl (lv_at hl 2 rfl) ?_
        refine lv_aload_n hx hb dX10_layerEnd_31 rfl (lv_at hl 0 rfl) ?_
        refine j_getR hx hb (C := RX10) (T := TX10) (N := 9) hts inX10_layerEnd_X10 hown hK hS hW h0 rfl 0 rfl rfl (by decide) (hts _ flX10_layerEnd_12) dX10_layerEnd_32 ?_
        refine j_getI hx hb (C := RX3) (T := TX3) (N := 4) hts inX10_layerEnd_X3 hown hK hS hW h_1 rfl 3 rfl rfl (by decide) (hts _ flX10_layerEnd_45) dX10_layerEnd_35 ?_
        refine j_mmin hx hb (hml.trans hl.1.symm) hown (hts (.methodLink RX10 114 Lib.Math.min.name) (by decide +kernel)) (hts (.static Lib.Math.min.name) (by decide +kernel)) (hts (.initialized "java/lang/Math") (by decide +kernel)) (hts (.code Lib.Math.min.name Lib.Math.min.code 2 (some .int)) (by decide +kernel)) (Nat.le_of_ble_eq_true rfl) (Nat.le_of_ble_eq_true rfl) (Nat.le_of_ble_eq_true rfl) (Nat.le_of_ble_eq_true rfl) (by omega) (by omega) dX10_layerEnd_38 (fun z_3 rz_3 ez_3 => ?_)
        exact hRet 41 _ z_3 dX10_layerEnd_41 (by omega) ⟨by omega, by omega⟩
      · refine lv_aload_n hx hb dX10_layerEnd_15 rfl (lv_at hl 0 rfl) ?_
        refine lv_iload_n hx hb dX10_layerEnd_16 rfl (lv_at hl 2 rfl) ?_
        refine j_cR (j_runV (As := [.int (jI v3_4)]) (rest := []) hx hb hml hown hts hK hS hW (kX10_sharedAt l hS σ (a0 := a0) (h0 := h0) (x1 := v3_4) (r1 := (by omega))) 1 gX10_layerEnd_X10_sharedAt rfl hvX10_sharedAt ⟨Nat.le_of_ble_eq_true rfl, Nat.le_of_ble_eq_true rfl⟩ rfl rfl h0 rfl rfl rfl rfl hl.1 rfl (Nat.le_of_ble_eq_true rfl) dX10_layerEnd_17 ⟨Nat.le_of_ble_eq_true rfl, Nat.le_of_ble_eq_true rfl⟩) (fun v_4 rv_4 pv_4 => ?_)
        try dsimp only at pv_4
        refine lv_iload_n hx hb dX10_layerEnd_20 rfl (lv_at hl 1 rfl) ?_
        refine j_icmp_lt (tgt := 30) hx hb (by omega) (by omega) dX10_layerEnd_21 (by decide) (fun c_5 => ?_) (fun c_5 => ?_)
        · refine lv_iload_n hx hb dX10_layerEnd_30 rfl (lv_at hl 2 rfl) ?_
          refine lv_aload_n hx hb dX10_layerEnd_31 rfl (lv_at hl 0 rfl) ?_
          refine j_getR hx hb (C := RX10) (T := TX10) (N := 9) hts inX10_layerEnd_X10 hown hK hS hW h0 rfl 0 rfl rfl (by decide) (hts _ flX10_layerEnd_12) dX10_layerEnd_32 ?_
          refine j_getI hx hb (C := RX3) (T := TX3) (N := 4) hts inX10_layerEnd_X3 hown hK hS hW h_1 rfl 3 rfl rfl (by decide) (hts _ flX10_layerEnd_45) dX10_layerEnd_35 ?_
          refine j_mmin hx hb (hml.trans hl.1.symm) hown (hts (.methodLink RX10 114 Lib.Math.min.name) (by decide +kernel)) (hts (.static Lib.Math.min.name) (by decide +kernel)) (hts (.initialized "java/lang/Math") (by decide +kernel)) (hts (.code Lib.Math.min.name Lib.Math.min.code 2 (some .int)) (by decide +kernel)) (Nat.le_of_ble_eq_true rfl) (Nat.le_of_ble_eq_true rfl) (Nat.le_of_ble_eq_true rfl) (Nat.le_of_ble_eq_true rfl) (by omega) (by omega) dX10_layerEnd_38 (fun z_6 rz_6 ez_6 => ?_)
          exact hRet 41 _ z_6 dX10_layerEnd_41 (by omega) ⟨by omega, by omega⟩
        · refine j_iinc (lv' := [(3, .int (jI (v3_4 + 1))), (0, .ref a0), (2, .int (jI x2))]) hx hb dX10_layerEnd_24 hl (k := 2) rfl (by decide) rfl (fun ls hl => ?_)
          refine lv_goto (tgt := 4) hx hb dX10_layerEnd_27 (by decide) ?_
          exact ih_4 ((2147483647 - (v3_4 + 1) : Int).toNat) (by omega) (v3_4 + 1) _ rfl (by omega) (by omega) (lv_sub hl [1, 2, 0] rfl)
  exact L_4 ((2147483647 - (x1 + 1) : Int).toNat) (x1 + 1) _ rfl (by omega) (by omega) (lv_sub hl [1, 3, 0] rfl)
theorem flX10_isEnd_12 : Cond.fieldLink RX10 12 "PageTrie$Trie" "keys" "LPageTrie$Keys;" ∈ wsX10_isEnd := List.mem_of_getElem? (i := 1) rfl
theorem flX10_isEnd_26 : Cond.fieldLink RX10 26 "PageTrie$Trie" "width" "I" ∈ wsX10_isEnd := List.mem_of_getElem? (i := 2) rfl
theorem inX10_isEnd_X10 : ∀ w ∈ u_ws RX10 TX10 9, w ∈ wsX10_isEnd := mem_r _ [25, 26, 27, 28, 29, 30, 31, 32, 33] rfl
theorem hvX10_isEnd : yX10_isEnd.cls = RX10 ∧ yX10_isEnd.cls ≠ "java/lang/invoke/MethodHandle" ∧ yX10_isEnd.cls ≠ "java/lang/invoke/VarHandle" ∧ (parseMethodDescriptor yX10_isEnd.desc).map (fun d => d.parameters.length) = some 1 := by decide +kernel
set_option maxHeartbeats 4000000 in
set_option maxRecDepth 100000 in
theorem kX10_isEnd (l : Launch) {D : va_G} {cA : Nat → ClassId} {τ : Nat → Nat} {G : Nat → Nat → Nat} {L : List Nat} (hS : SW τ G L) (σ : Nat → Nat → Int) {a0 : Nat} (h0 : τ a0 = 11) {x1 : Int} (r1 : rg x1) : Met l yX10_isEnd wsX10_isEnd ({ frames := 2, cells := 0, slots := 0, locals := 45 }) (jP D cA τ G L σ [.ref a0, .int (jI x1)]) (jQR (fun r => (0 ≤ r ∧ r ≤ 1) ∧ (True))) 0 0 (fun _ => False) := by
  refine j_metRZ (by decide +kernel) rfl (Nat.le_of_ble_eq_true rfl) ?_
  intro p e s m args below meth c Q hx hb hml hown hts hK hW hRet ls hl
  have hl : lv_has ls 2 [(0, .ref a0), (1, .int (jI x1))] := hl
  refine lv_aload_n hx hb dX10_isEnd_0 rfl (lv_at hl 0 rfl) ?_
  refine j_getR hx hb (C := RX10) (T := TX10) (N := 9) hts inX10_isEnd_X10 hown hK hS hW h0 rfl 0 rfl rfl (by decide) (hts _ flX10_isEnd_12) dX10_isEnd_1 ?_
  have h_1 : τ (G a0 0) = 4 := gty hS h0 (k := 0) rfl rfl
  refine lv_iload_n hx hb dX10_isEnd_4 rfl (lv_at hl 1 rfl) ?_
  refine j_cR (j_runV (As := [.int (jI x1)]) (rest := []) hx hb hml hown hts hK hS hW (kX3_lengthOf l hS σ (a0 := G a0 0) (h0 := h_1) (x1 := x1) (r1 := (by omega))) 1 gX10_isEnd_X3_lengthOf rfl hvX3_lengthOf ⟨Nat.le_of_ble_eq_true rfl, Nat.le_of_ble_eq_true rfl⟩ rfl rfl h_1 rfl rfl rfl rfl hl.1 rfl (Nat.le_of_ble_eq_true rfl) dX10_isEnd_5 ⟨Nat.le_of_ble_eq_true rfl, Nat.le_of_ble_eq_true rfl⟩) (fun v_2 rv_2 pv_2 => ?_)
  try dsimp only at pv_2
  refine lv_aload_n hx hb dX10_isEnd_8 rfl (lv_at hl 0 rfl) ?_
  refine lv_iload_n hx hb dX10_isEnd_9 rfl (lv_at hl 1 rfl) ?_
  refine j_cR (j_runV (As := [.int (jI x1)]) (rest := [.int (jI v_2)]) hx hb hml hown hts hK hS hW (kX10_depthOf l hS σ (a0 := a0) (h0 := h0) (x1 := x1) (r1 := (by omega))) 1 gX10_isEnd_X10_depthOf rfl hvX10_depthOf ⟨Nat.le_of_ble_eq_true rfl, Nat.le_of_ble_eq_true rfl⟩ rfl rfl h0 rfl rfl rfl rfl hl.1 rfl (Nat.le_of_ble_eq_true rfl) dX10_isEnd_10 ⟨Nat.le_of_ble_eq_true rfl, Nat.le_of_ble_eq_true rfl⟩) (fun v_3 rv_3 pv_3 => ?_)
  try dsimp only at pv_3
  refine j_const hx hb dX10_isEnd_13 ?_
  refine j_add hx hb dX10_isEnd_14 ?_
  refine lv_aload_n hx hb dX10_isEnd_15 rfl (lv_at hl 0 rfl) ?_
  refine j_getI hx hb (C := RX10) (T := TX10) (N := 9) hts inX10_isEnd_X10 hown hK hS hW h0 rfl 1 rfl rfl (by decide) (hts _ flX10_isEnd_26) dX10_isEnd_16 ?_
  have := fbd hW h0 (k := 1) (lo := -2147483648) (hi := 2147483647) rfl rfl
  refine j_mul hx hb dX10_isEnd_19 ?_
  refine j_wrap (fun z_4 rz_4 ez_4 => ?_)
  refine j_icmp_gt (tgt := 27) hx hb (by omega) (by omega) dX10_isEnd_20 (by decide) (fun c_5 => ?_) (fun c_5 => ?_)
  · refine j_const hx hb dX10_isEnd_27 ?_
    exact hRet 28 _ 0 dX10_isEnd_28 (by omega) trivial
  · refine j_const hx hb dX10_isEnd_23 ?_
    refine lv_goto (tgt := 28) hx hb dX10_isEnd_24 (by decide) ?_
    exact hRet 28 _ 1 dX10_isEnd_28 (by omega) trivial
theorem hvX10_isPageCommon : yX10_isPageCommon.cls = RX10 ∧ yX10_isPageCommon.cls ≠ "java/lang/invoke/MethodHandle" ∧ yX10_isPageCommon.cls ≠ "java/lang/invoke/VarHandle" ∧ (parseMethodDescriptor yX10_isPageCommon.desc).map (fun d => d.parameters.length) = some 1 := by decide +kernel
set_option maxHeartbeats 4000000 in
set_option maxRecDepth 100000 in
theorem kX10_isPageCommon (l : Launch) {D : va_G} {cA : Nat → ClassId} {τ : Nat → Nat} {G : Nat → Nat → Nat} {L : List Nat} (hS : SW τ G L) (σ : Nat → Nat → Int) {a0 : Nat} (h0 : τ a0 = 11) {x1 : Int} (r1 : rg x1) : Met l yX10_isPageCommon wsX10_isPageCommon ({ frames := 2, cells := 0, slots := 0, locals := 45 }) (jP D cA τ G L σ [.ref a0, .int (jI x1)]) (jQR (fun r => (0 ≤ r ∧ r ≤ 1) ∧ (True))) 0 0 (fun _ => False) := by
  refine j_metRZ (by decide +kernel) rfl (Nat.le_of_ble_eq_true rfl) ?_
  intro p e s m args below meth c Q hx hb hml hown hts hK hW hRet ls hl
  have hl : lv_has ls 3 [(0, .ref a0), (1, .int (jI x1))] := hl
  refine lv_aload_n hx hb dX10_isPageCommon_0 rfl (lv_at hl 0 rfl) ?_
  refine lv_iload_n hx hb dX10_isPageCommon_1 rfl (lv_at hl 1 rfl) ?_
  refine j_cR (j_runV (As := [.int (jI x1)]) (rest := []) hx hb hml hown hts hK hS hW (kX10_sharedAt l hS σ (a0 := a0) (h0 := h0) (x1 := x1) (r1 := (by omega))) 1 gX10_isPageCommon_X10_sharedAt rfl hvX10_sharedAt ⟨Nat.le_of_ble_eq_true rfl, Nat.le_of_ble_eq_true rfl⟩ rfl rfl h0 rfl rfl rfl rfl hl.1 rfl (Nat.le_of_ble_eq_true rfl) dX10_isPageCommon_2 ⟨Nat.le_of_ble_eq_true rfl, Nat.le_of_ble_eq_true rfl⟩) (fun v_1 rv_1 pv_1 => ?_)
  try dsimp only at pv_1
  refine lv_istore_n (lv' := [(2, .int (jI v_1)), (0, .ref a0), (1, .int (jI x1))]) hx hb dX10_isPageCommon_5 rfl hl (by decide) rfl (fun ls hl => ?_)
  refine lv_aload_n hx hb dX10_isPageCommon_6 rfl (lv_at hl 1 rfl) ?_
  refine lv_iload_n hx hb dX10_isPageCommon_7 rfl (lv_at hl 2 rfl) ?_
  refine j_const hx hb dX10_isPageCommon_8 ?_
  refine j_sub hx hb dX10_isPageCommon_9 ?_
  refine j_wrap (fun z_2 rz_2 ez_2 => ?_)
  refine j_cR (j_runV (As := [.int (jI z_2)]) (rest := []) hx hb hml hown hts hK hS hW (kX10_depthOf l hS σ (a0 := a0) (h0 := h0) (x1 := z_2) (r1 := (by omega))) 1 gX10_isPageCommon_X10_depthOf rfl hvX10_depthOf ⟨Nat.le_of_ble_eq_true rfl, Nat.le_of_ble_eq_true rfl⟩ rfl rfl h0 rfl rfl rfl rfl hl.1 rfl (Nat.le_of_ble_eq_true rfl) dX10_isPageCommon_10 ⟨Nat.le_of_ble_eq_true rfl, Nat.le_of_ble_eq_true rfl⟩) (fun v_3 rv_3 pv_3 => ?_)
  try dsimp only at pv_3
  refine lv_iload_n hx hb dX10_isPageCommon_13 rfl (lv_at hl 0 rfl) ?_
  refine j_icmp_ne (tgt := 38) hx hb (by omega) (by omega) dX10_isPageCommon_14 (by decide) (fun c_4 => ?_) (fun c_4 => ?_)
  · refine j_const hx hb dX10_isPageCommon_38 ?_
    exact hRet 39 _ 0 dX10_isPageCommon_39 (by omega) trivial
  · refine lv_aload_n hx hb dX10_isPageCommon_17 rfl (lv_at hl 1 rfl) ?_
    refine lv_iload_n hx hb dX10_isPageCommon_18 rfl (lv_at hl 2 rfl) ?_
    refine j_cR (j_runV (As := [.int (jI x1)]) (rest := []) hx hb hml hown hts hK hS hW (kX10_depthOf l hS σ (a0 := a0) (h0 := h0) (x1 := x1) (r1 := (by omega))) 1 gX10_isPageCommon_X10_depthOf rfl hvX10_depthOf ⟨Nat.le_of_ble_eq_true rfl, Nat.le_of_ble_eq_true rfl⟩ rfl rfl h0 rfl rfl rfl rfl hl.1 rfl (Nat.le_of_ble_eq_true rfl) dX10_isPageCommon_19 ⟨Nat.le_of_ble_eq_true rfl, Nat.le_of_ble_eq_true rfl⟩) (fun v_5 rv_5 pv_5 => ?_)
    try dsimp only at pv_5
    refine lv_iload_n hx hb dX10_isPageCommon_22 rfl (lv_at hl 0 rfl) ?_
    refine j_icmp_ne (tgt := 38) hx hb (by omega) (by omega) dX10_isPageCommon_23 (by decide) (fun c_6 => ?_) (fun c_6 => ?_)
    · refine j_const hx hb dX10_isPageCommon_38 ?_
      exact hRet 39 _ 0 dX10_isPageCommon_39 (by omega) trivial
    · refine lv_aload_n hx hb dX10_isPageCommon_26 rfl (lv_at hl 1 rfl) ?_
      refine lv_iload_n hx hb dX10_isPageCommon_27 rfl (lv_at hl 2 rfl) ?_
      refine j_cR (j_runV (As := [.int (jI x1)]) (rest := []) hx hb hml hown hts hK hS hW (kX10_opensAt l hS σ (a0 := a0) (h0 := h0) (x1 := x1) (r1 := (by omega))) 1 gX10_isPageCommon_X10_opensAt rfl hvX10_opensAt ⟨Nat.le_of_ble_eq_true rfl, Nat.le_of_ble_eq_true rfl⟩ rfl rfl h0 rfl rfl rfl rfl hl.1 rfl (Nat.le_of_ble_eq_true rfl) dX10_isPageCommon_28 ⟨Nat.le_of_ble_eq_true rfl, Nat.le_of_ble_eq_true rfl⟩) (fun v_7 rv_7 pv_7 => ?_)
      try dsimp only at pv_7
      refine j_if_ne (tgt := 38) hx hb (by omega) dX10_isPageCommon_31 (by decide) (fun c_8 => ?_) (fun c_8 => ?_)
      · refine j_const hx hb dX10_isPageCommon_38 ?_
        exact hRet 39 _ 0 dX10_isPageCommon_39 (by omega) trivial
      · refine j_const hx hb dX10_isPageCommon_34 ?_
        refine lv_goto (tgt := 39) hx hb dX10_isPageCommon_35 (by decide) ?_
        exact hRet 39 _ 1 dX10_isPageCommon_39 (by omega) trivial
abbrev wr_X10_partIfTooFull : List Nat := [11005, 26000]
theorem flX10_partIfTooFull_30 : Cond.fieldLink RX10 30 "PageTrie$Trie" "room" "I" ∈ wsX10_partIfTooFull := List.mem_of_getElem? (i := 1) rfl
theorem flX10_partIfTooFull_33 : Cond.fieldLink RX10 33 "PageTrie$Trie" "parted" "I" ∈ wsX10_partIfTooFull := List.mem_of_getElem? (i := 2) rfl
theorem inX10_partIfTooFull_X10 : ∀ w ∈ u_ws RX10 TX10 9, w ∈ wsX10_partIfTooFull := mem_r _ [34, 35, 36, 37, 38, 39, 40, 41, 42] rfl
theorem hvX10_partIfTooFull : yX10_partIfTooFull.cls = RX10 ∧ yX10_partIfTooFull.cls ≠ "java/lang/invoke/MethodHandle" ∧ yX10_partIfTooFull.cls ≠ "java/lang/invoke/VarHandle" ∧ (parseMethodDescriptor yX10_partIfTooFull.desc).map (fun d => d.parameters.length) = some 2 := by decide +kernel
set_option maxHeartbeats 4000000 in
set_option maxRecDepth 100000 in
theorem kX10_partIfTooFull (l : Launch) {D : va_G} {cA : Nat → ClassId} {τ : Nat → Nat} {G : Nat → Nat → Nat} {L : List Nat} (hS : SW τ G L) (σ : Nat → Nat → Int) {a0 : Nat} (h0 : τ a0 = 11) {x1 : Int} (r1 : rg x1) {x2 : Int} (r2 : rg x2) : Met l yX10_partIfTooFull wsX10_partIfTooFull ({ frames := 2, cells := 0, slots := 0, locals := 47 }) (jP D cA τ G L σ [.ref a0, .int (jI x1), .int (jI x2)]) (jQV D cA τ G L (fun σ' => (True) ∧ fr wr_X10_partIfTooFull τ σ σ')) 0 0 (fun q => q ∈ L) := by
  refine j_metV (by decide +kernel) rfl (Nat.le_of_ble_eq_true rfl) ?_
  intro p e s m args below meth c Q hx hb hml hown hts hK hW hRet ls hl
  have hl : lv_has ls 4 [(0, .ref a0), (1, .int (jI x1)), (2, .int (jI x2))] := hl
  have hA : ∀ q ∈ L, (fun q => q ∈ L) q := fun _ h => h
  have hF : va_S (fun q => q ∈ L) s.heap s.heap [] := va_S.rf
  have hR : fr wr_X10_partIfTooFull τ σ σ := fr_rf
  refine lv_aload_n hx hb dX10_partIfTooFull_0 rfl (lv_at hl 0 rfl) ?_
  refine lv_iload_n hx hb dX10_partIfTooFull_1 rfl (lv_at hl 1 rfl) ?_
  refine lv_iload_n hx hb dX10_partIfTooFull_2 rfl (lv_at hl 2 rfl) ?_
  refine j_cR (j_runV (As := [.int (jI x1), .int (jI x2)]) (rest := []) hx hb hml hown hts hK hS hW (kX10_entriesFrom l hS σ (a0 := a0) (h0 := h0) (x1 := x1) (r1 := (by omega)) (x2 := x2) (r2 := (by omega))) 2 gX10_partIfTooFull_X10_entriesFrom rfl hvX10_entriesFrom ⟨Nat.le_of_ble_eq_true rfl, Nat.le_of_ble_eq_true rfl⟩ rfl rfl h0 rfl rfl rfl rfl hl.1 rfl (Nat.le_of_ble_eq_true rfl) dX10_partIfTooFull_3 ⟨Nat.le_of_ble_eq_true rfl, Nat.le_of_ble_eq_true rfl⟩) (fun v_1 rv_1 pv_1 => ?_)
  try dsimp only at pv_1
  refine lv_istore_n (lv' := [(3, .int (jI v_1)), (0, .ref a0), (1, .int (jI x1)), (2, .int (jI x2))]) hx hb dX10_partIfTooFull_6 rfl hl (by decide) rfl (fun ls hl => ?_)
  refine lv_iload_n hx hb dX10_partIfTooFull_7 rfl (lv_at hl 0 rfl) ?_
  refine lv_aload_n hx hb dX10_partIfTooFull_8 rfl (lv_at hl 1 rfl) ?_
  refine j_getI hx hb (C := RX10) (T := TX10) (N := 9) hts inX10_partIfTooFull_X10 hown hK hS hW h0 rfl 2 rfl rfl (by decide) (hts _ flX10_partIfTooFull_30) dX10_partIfTooFull_9 ?_
  have := fbd hW h0 (k := 2) (lo := -2147483648) (hi := 2147483647) rfl rfl
  refine j_icmp_le (tgt := 39) hx hb (by omega) (by omega) dX10_partIfTooFull_12 (by decide) (fun c_2 => ?_) (fun c_2 => ?_)
  · exact hRet 39 _ _ _ _ dX10_partIfTooFull_39 hW hF ⟨trivial, hR⟩
  · refine lv_aload_n hx hb dX10_partIfTooFull_15 rfl (lv_at hl 1 rfl) ?_
    refine lv_aload_n hx hb dX10_partIfTooFull_16 rfl (lv_at hl 1 rfl) ?_
    refine lv_iload_n hx hb dX10_partIfTooFull_17 rfl (lv_at hl 2 rfl) ?_
    refine lv_iload_n hx hb dX10_partIfTooFull_18 rfl (lv_at hl 3 rfl) ?_
    refine lv_iload_n hx hb dX10_partIfTooFull_19 rfl (lv_at hl 0 rfl) ?_
    refine j_const hx hb dX10_partIfTooFull_20 ?_
    refine j_divW hx hb (by omega) (by omega) dX10_partIfTooFull_21 (fun z_3 rz_3 ez_3 fz_3 => ?_)
    refine j_cR (j_runV (As := [.int (jI x1), .int (jI x2), .int (jI z_3)]) (rest := [.ref a0]) hx hb hml hown hts hK hS hW (kX10_entryFrom l hS σ (a0 := a0) (h0 := h0) (x1 := x1) (r1 := (by omega)) (x2 := x2) (r2 := (by omega)) (x3 := z_3) (r3 := (by omega))) 3 gX10_partIfTooFull_X10_entryFrom rfl hvX10_entryFrom ⟨Nat.le_of_ble_eq_true rfl, Nat.le_of_ble_eq_true rfl⟩ rfl rfl h0 rfl rfl rfl rfl hl.1 rfl (Nat.le_of_ble_eq_true rfl) dX10_partIfTooFull_22 ⟨Nat.le_of_ble_eq_true rfl, Nat.le_of_ble_eq_true rfl⟩) (fun v_4 rv_4 pv_4 => ?_)
    try dsimp only at pv_4
    refine j_const hx hb dX10_partIfTooFull_25 ?_
    refine j_cV (j_runV (As := [.int (jI v_4), .int (jI 1)]) (rest := []) hx hb hml hown hts hK hS hW (kX10_setOpens l hS σ (a0 := a0) (h0 := h0) (x1 := v_4) (r1 := (by omega)) (x2 := 1) (r2 := (by decide)) (q0 := (by omega)) (q1 := (by omega))) 2 gX10_partIfTooFull_X10_setOpens rfl hvX10_setOpens ⟨Nat.le_of_ble_eq_true rfl, Nat.le_of_ble_eq_true rfl⟩ rfl rfl h0 rfl rfl rfl rfl hl.1 rfl (Nat.le_of_ble_eq_true rfl) dX10_partIfTooFull_26 ⟨Nat.le_of_ble_eq_true rfl, Nat.le_of_ble_eq_true rfl⟩) hA hF (fun σ_5 H locs hW hF pσ_5 => ?_)
    try dsimp only at pσ_5
    obtain ⟨pσ_5, fpσ_5⟩ := pσ_5
    have hR := fr_call hR fpσ_5 (by decide)
    refine lv_aload_n hx hb dX10_partIfTooFull_29 rfl (lv_at hl 1 rfl) ?_
    refine lv_dup hx hb dX10_partIfTooFull_30 rfl ?_
    refine j_getI hx hb (C := RX10) (T := TX10) (N := 9) hts inX10_partIfTooFull_X10 hown hK hS hW h0 rfl 5 rfl rfl (by decide) (hts _ flX10_partIfTooFull_33) dX10_partIfTooFull_31 ?_
    have := fbd hW h0 (k := 5) (lo := -2147483648) (hi := 2147483647) rfl rfl
    refine j_const hx hb dX10_partIfTooFull_34 ?_
    refine j_add hx hb dX10_partIfTooFull_35 ?_
    refine j_wrap (fun z_6 rz_6 ez_6 => ?_)
    refine j_putI hx hb (C := RX10) (T := TX10) (N := 9) hts inX10_partIfTooFull_X10 tyX10 tyX10_ok nmX10 hown hK hS hA hW hF h0 rfl 5 (lo := -2147483648) (hi := 2147483647) rfl rfl (by decide) (hts _ flX10_partIfTooFull_33) rfl .int rfl (by omega) rfl rfl dX10_partIfTooFull_36 (fun σ_7 H locs e_8 hW hF => ?_)
    have hR := fr_up hR e_8 h0 11005 rfl (by decide)
    have : σ_7 a0 5 = z_6 := by rw [e_8]; exact up2_at _ _ _ _
    exact hRet 39 _ _ _ _ dX10_partIfTooFull_39 hW hF ⟨trivial, hR⟩
abbrev wr_X10_settle : List Nat := [11005, 11007, 25000, 26000]
theorem flX10_settle_12 : Cond.fieldLink RX10 12 "PageTrie$Trie" "keys" "LPageTrie$Keys;" ∈ wsX10_settle := List.mem_of_getElem? (i := 1) rfl
theorem flX10_settle_18 : Cond.fieldLink RX10 18 "PageTrie$Trie" "shared" "[I" ∈ wsX10_settle := List.mem_of_getElem? (i := 3) rfl
theorem flX10_settle_22 : Cond.fieldLink RX10 22 "PageTrie$Trie" "opens" "[Z" ∈ wsX10_settle := List.mem_of_getElem? (i := 4) rfl
theorem flX10_settle_39 : Cond.fieldLink RX10 39 "PageTrie$Trie" "made" "I" ∈ wsX10_settle := List.mem_of_getElem? (i := 12) rfl
theorem flX10_settle_45 : Cond.fieldLink RX10 45 "PageTrie$Keys" "size" "I" ∈ wsX10_settle := List.mem_of_getElem? (i := 2) rfl
theorem inX10_settle_X10 : ∀ w ∈ u_ws RX10 TX10 9, w ∈ wsX10_settle := mem_r _ [79, 80, 81, 82, 83, 84, 85, 86, 87] rfl
theorem inX10_settle_X3 : ∀ w ∈ u_ws RX3 TX3 4, w ∈ wsX10_settle := mem_r _ [88, 89, 90, 91] rfl
theorem hvX10_settle : yX10_settle.cls = RX10 ∧ yX10_settle.cls ≠ "java/lang/invoke/MethodHandle" ∧ yX10_settle.cls ≠ "java/lang/invoke/VarHandle" ∧ (parseMethodDescriptor yX10_settle.desc).map (fun d => d.parameters.length) = some 1 := by decide +kernel
set_option maxHeartbeats 4000000 in
set_option maxRecDepth 100000 in
theorem kX10_settle (l : Launch) {D : va_G} {cA : Nat → ClassId} {τ : Nat → Nat} {G : Nat → Nat → Nat} {L : List Nat} (hS : SW τ G L) (σ : Nat → Nat → Int) {a0 : Nat} (h0 : τ a0 = 11) {x1 : Int} (r1 : rg x1) (q0 : 0 ≤ x1) (q1 : x1 ≤ 150) : Met l yX10_settle wsX10_settle ({ frames := 3, cells := 0, slots := 0, locals := 70 }) (jP D cA τ G L σ [.ref a0, .int (jI x1)]) (jQV D cA τ G L (fun σ' => (True) ∧ fr wr_X10_settle τ σ σ')) 0 0 (fun q => q ∈ L) := by
  refine j_metV (by decide +kernel) rfl (Nat.le_of_ble_eq_true rfl) ?_
  intro p e s m args below meth c Q hx hb hml hown hts hK hW hRet ls hl
  have hl : lv_has ls 11 [(0, .ref a0), (1, .int (jI x1))] := hl
  have hA : ∀ q ∈ L, (fun q => q ∈ L) q := fun _ h => h
  have hF : va_S (fun q => q ∈ L) s.heap s.heap [] := va_S.rf
  have hR : fr wr_X10_settle τ σ σ := fr_rf
  refine lv_iload_n hx hb dX10_settle_0 rfl (lv_at hl 1 rfl) ?_
  have L_9 : ∀ (t0_9 : Int) (ls : Array Slot), (0 ≤ t0_9) → (t0_9 ≤ 1) → rg t0_9 → lv_has ls 11 [(0, .ref a0), (1, .int (jI x1))] → W p l e ({ frames := 3, cells := 0, slots := 0, locals := 70 }) s m args below meth c s.heap [] 0 0 Q (F0 m 9 ls [.int (jI t0_9)]) := by
    intro t0_9 ls i0_9 i1_9 rt0_9 hl
    refine lv_istore_n (lv' := [(2, .int (jI t0_9)), (0, .ref a0), (1, .int (jI x1))]) hx hb dX10_settle_9 rfl hl (by decide) rfl (fun ls hl => ?_)
    refine lv_iload_n hx hb dX10_settle_10 rfl (lv_at hl 2 rfl) ?_
    refine j_const hx hb dX10_settle_11 ?_
    refine j_add hx hb dX10_settle_12 ?_
    refine lv_aload_n hx hb dX10_settle_13 rfl (lv_at hl 1 rfl) ?_
    refine j_getR hx hb (C := RX10) (T := TX10) (N := 9) hts inX10_settle_X10 hown hK hS hW h0 rfl 0 rfl rfl (by decide) (hts _ flX10_settle_12) dX10_settle_14 ?_
    have h_1 : τ (G a0 0) = 4 := gty hS h0 (k := 0) rfl rfl
    refine j_getI hx hb (C := RX3) (T := TX3) (N := 4) hts inX10_settle_X3 hown hK hS hW h_1 rfl 3 rfl rfl (by decide) (hts _ flX10_settle_45) dX10_settle_17 ?_
    have := fbd hW h_1 (k := 3) (lo := 0) (hi := 150) rfl rfl
    have L_28 : ∀ (t0_28 : Int) (ls : Array Slot), (0 ≤ t0_28) → (t0_28 ≤ 1) → rg t0_28 → lv_has ls 11 [(0, .ref a0), (1, .int (jI x1)), (2, .int (jI t0_9))] → W p l e ({ frames := 3, cells := 0, slots := 0, locals := 70 }) s m args below meth c s.heap [] 0 0 Q (F0 m 28 ls [.int (jI t0_28)]) := by
      intro t0_28 ls i0_28 i1_28 rt0_28 hl
      refine lv_istore_n (lv' := [(3, .int (jI t0_28)), (0, .ref a0), (1, .int (jI x1)), (2, .int (jI t0_9))]) hx hb dX10_settle_28 rfl hl (by decide) rfl (fun ls hl => ?_)
      refine lv_iload_n hx hb dX10_settle_29 rfl (lv_at hl 3 rfl) ?_
      have L_48 : ∀ (t0_48 : Int) (ls : Array Slot), (0 ≤ t0_48) → (t0_48 ≤ 1) → rg t0_48 → lv_has ls 11 [(0, .ref a0), (1, .int (jI x1)), (2, .int (jI t0_9)), (3, .int (jI t0_28))] → W p l e ({ frames := 3, cells := 0, slots := 0, locals := 70 }) s m args below meth c s.heap [] 0 0 Q (F0 m 48 ls [.int (jI t0_48)]) := by
        intro t0_48 ls i0_48 i1_48 rt0_48 hl
        refine lv_istore (lv' := [(4, .int (jI t0_48)), (0, .ref a0), (1, .int (jI x1)), (2, .int (jI t0_9)), (3, .int (jI t0_28))]) hx hb dX10_settle_48 hl (by decide) rfl (fun ls hl => ?_)
        refine lv_iload_n hx hb dX10_settle_50 rfl (lv_at hl 3 rfl) ?_
        have L_63 : ∀ (t0_63 : Int) (ls : Array Slot), (-1 ≤ t0_63) → (t0_63 ≤ 24) → rg t0_63 → lv_has ls 11 [(0, .ref a0), (1, .int (jI x1)), (2, .int (jI t0_9)), (3, .int (jI t0_28)), (4, .int (jI t0_48))] → W p l e ({ frames := 3, cells := 0, slots := 0, locals := 70 }) s m args below meth c s.heap [] 0 0 Q (F0 m 63 ls [.int (jI t0_63)]) := by
          intro t0_63 ls i0_63 i1_63 rt0_63 hl
          refine lv_istore (lv' := [(5, .int (jI t0_63)), (0, .ref a0), (1, .int (jI x1)), (2, .int (jI t0_9)), (3, .int (jI t0_28)), (4, .int (jI t0_48))]) hx hb dX10_settle_63 hl (by decide) rfl (fun ls hl => ?_)
          refine lv_iload_n hx hb dX10_settle_65 rfl (lv_at hl 4 rfl) ?_
          have L_80 : ∀ (t0_80 : Int) (ls : Array Slot), (-1 ≤ t0_80) → (t0_80 ≤ 24) → rg t0_80 → lv_has ls 11 [(0, .ref a0), (1, .int (jI x1)), (2, .int (jI t0_9)), (4, .int (jI t0_48)), (5, .int (jI t0_63))] → W p l e ({ frames := 3, cells := 0, slots := 0, locals := 70 }) s m args below meth c s.heap [] 0 0 Q (F0 m 80 ls [.int (jI t0_80)]) := by
            intro t0_80 ls i0_80 i1_80 rt0_80 hl
            refine lv_istore (lv' := [(6, .int (jI t0_80)), (0, .ref a0), (1, .int (jI x1)), (2, .int (jI t0_9)), (4, .int (jI t0_48)), (5, .int (jI t0_63))]) hx hb dX10_settle_80 hl (by decide) rfl (fun ls hl => ?_)
            refine lv_iload hx hb dX10_settle_82 (lv_at hl 0 rfl) ?_
            refine lv_iload hx hb dX10_settle_84 (lv_at hl 5 rfl) ?_
            have L_94 : ∀ (t0_94 : Int) (ls : Array Slot), (0 ≤ t0_94) → (t0_94 ≤ 1) → rg t0_94 → lv_has ls 11 [(0, .ref a0), (1, .int (jI x1)), (2, .int (jI t0_9)), (4, .int (jI t0_48)), (5, .int (jI t0_63)), (6, .int (jI t0_80))] → W p l e ({ frames := 3, cells := 0, slots := 0, locals := 70 }) s m args below meth c s.heap [] 0 0 Q (F0 m 94 ls [.int (jI t0_94)]) := by
              intro t0_94 ls i0_94 i1_94 rt0_94 hl
              refine lv_istore (lv' := [(7, .int (jI t0_94)), (0, .ref a0), (1, .int (jI x1)), (2, .int (jI t0_9)), (4, .int (jI t0_48)), (5, .int (jI t0_63)), (6, .int (jI t0_80))]) hx hb dX10_settle_94 hl (by decide) rfl (fun ls hl => ?_)
              refine lv_aload_n hx hb dX10_settle_96 rfl (lv_at hl 1 rfl) ?_
              refine j_getR hx hb (C := RX10) (T := TX10) (N := 9) hts inX10_settle_X10 hown hK hS hW h0 rfl 0 rfl rfl (by decide) (hts _ flX10_settle_12) dX10_settle_97 ?_
              refine lv_iload_n hx hb dX10_settle_100 rfl (lv_at hl 2 rfl) ?_
              refine j_cR (j_runV (As := [.int (jI x1)]) (rest := []) hx hb hml hown hts hK hS hW (kX3_has l hS σ (a0 := G a0 0) (h0 := h_1) (x1 := x1) (r1 := (by omega))) 1 gX10_settle_X3_has rfl hvX3_has ⟨Nat.le_of_ble_eq_true rfl, Nat.le_of_ble_eq_true rfl⟩ rfl rfl h_1 rfl rfl rfl rfl hl.1 rfl (Nat.le_of_ble_eq_true rfl) dX10_settle_101 ⟨Nat.le_of_ble_eq_true rfl, Nat.le_of_ble_eq_true rfl⟩) (fun v_2 rv_2 pv_2 => ?_)
              try dsimp only at pv_2
              have L_140 : ∀ (σ_140 : Nat → Nat → Int) (H : Heap) (locs : List Loc) (ls : Array Slot), PW D cA τ G L σ_140 H → va_S (fun q => q ∈ L) s.heap H locs → fr wr_X10_settle τ σ σ_140 → lv_has ls 11 [(0, .ref a0), (1, .int (jI x1)), (4, .int (jI t0_48)), (5, .int (jI t0_63)), (6, .int (jI t0_80)), (7, .int (jI t0_94))] → W p l e ({ frames := 3, cells := 0, slots := 0, locals := 70 }) s m args below meth c H locs 0 0 Q (F0 m 140 ls []) := by
                intro σ_140 H locs ls hW hF hR hl
                refine lv_aload_n hx hb dX10_settle_140 rfl (lv_at hl 0 rfl) ?_
                refine j_getR hx hb (C := RX10) (T := TX10) (N := 9) hts inX10_settle_X10 hown hK hS hW h0 rfl 0 rfl rfl (by decide) (hts _ flX10_settle_12) dX10_settle_141 ?_
                refine lv_iload_n hx hb dX10_settle_144 rfl (lv_at hl 1 rfl) ?_
                refine j_const hx hb dX10_settle_145 ?_
                refine j_add hx hb dX10_settle_146 ?_
                refine j_cR (j_runV (As := [.int (jI (x1 + 1))]) (rest := []) hx hb hml hown hts hK hS hW (kX3_has l hS σ_140 (a0 := G a0 0) (h0 := h_1) (x1 := x1 + 1) (r1 := (by omega))) 1 gX10_settle_X3_has rfl hvX3_has ⟨Nat.le_of_ble_eq_true rfl, Nat.le_of_ble_eq_true rfl⟩ rfl rfl h_1 rfl rfl rfl rfl hl.1 rfl (Nat.le_of_ble_eq_true rfl) dX10_settle_147 ⟨Nat.le_of_ble_eq_true rfl, Nat.le_of_ble_eq_true rfl⟩) (fun v_3 rv_3 pv_3 => ?_)
                try dsimp only at pv_3
                have L_186 : ∀ (σ_186 : Nat → Nat → Int) (H : Heap) (locs : List Loc) (ls : Array Slot), PW D cA τ G L σ_186 H → va_S (fun q => q ∈ L) s.heap H locs → fr wr_X10_settle τ σ σ_186 → lv_has ls 11 [(0, .ref a0), (1, .int (jI x1)), (5, .int (jI t0_63)), (6, .int (jI t0_80)), (7, .int (jI t0_94))] → W p l e ({ frames := 3, cells := 0, slots := 0, locals := 70 }) s m args below meth c H locs 0 0 Q (F0 m 186 ls []) := by
                  intro σ_186 H locs ls hW hF hR hl
                  refine lv_aload_n hx hb dX10_settle_186 rfl (lv_at hl 0 rfl) ?_
                  refine lv_iload_n hx hb dX10_settle_187 rfl (lv_at hl 1 rfl) ?_
                  refine j_cR (j_runV (As := [.int (jI x1)]) (rest := []) hx hb hml hown hts hK hS hW (kX10_depthOf l hS σ_186 (a0 := a0) (h0 := h0) (x1 := x1) (r1 := (by omega))) 1 gX10_settle_X10_depthOf rfl hvX10_depthOf ⟨Nat.le_of_ble_eq_true rfl, Nat.le_of_ble_eq_true rfl⟩ rfl rfl h0 rfl rfl rfl rfl hl.1 rfl (Nat.le_of_ble_eq_true rfl) dX10_settle_188 ⟨Nat.le_of_ble_eq_true rfl, Nat.le_of_ble_eq_true rfl⟩) (fun v_4 rv_4 pv_4 => ?_)
                  try dsimp only at pv_4
                  refine lv_istore (lv' := [(8, .int (jI v_4)), (0, .ref a0), (1, .int (jI x1)), (5, .int (jI t0_63)), (6, .int (jI t0_80)), (7, .int (jI t0_94))]) hx hb dX10_settle_191 hl (by decide) rfl (fun ls hl => ?_)
                  refine lv_iload hx hb dX10_settle_193 (lv_at hl 5 rfl) ?_
                  have L_215 : ∀ (t0_215 : Int) (ls : Array Slot), (-1 ≤ t0_215) → (t0_215 ≤ 24) → rg t0_215 → lv_has ls 11 [(0, .ref a0), (1, .int (jI x1)), (5, .int (jI t0_63)), (6, .int (jI t0_80)), (8, .int (jI v_4))] → W p l e ({ frames := 3, cells := 0, slots := 0, locals := 70 }) s m args below meth c H locs 0 0 Q (F0 m 215 ls [.int (jI t0_215)]) := by
                    intro t0_215 ls i0_215 i1_215 rt0_215 hl
                    refine lv_istore (lv' := [(9, .int (jI t0_215)), (0, .ref a0), (1, .int (jI x1)), (5, .int (jI t0_63)), (6, .int (jI t0_80)), (8, .int (jI v_4))]) hx hb dX10_settle_215 hl (by decide) rfl (fun ls hl => ?_)
                    refine lv_iload hx hb dX10_settle_217 (lv_at hl 0 rfl) ?_
                    refine lv_iload hx hb dX10_settle_219 (lv_at hl 3 rfl) ?_
                    refine lv_iload hx hb dX10_settle_221 (lv_at hl 4 rfl) ?_
                    refine j_mmin hx hb (hml.trans hl.1.symm) hown (hts (.methodLink RX10 114 Lib.Math.min.name) (by decide +kernel)) (hts (.static Lib.Math.min.name) (by decide +kernel)) (hts (.initialized "java/lang/Math") (by decide +kernel)) (hts (.code Lib.Math.min.name Lib.Math.min.code 2 (some .int)) (by decide +kernel)) (Nat.le_of_ble_eq_true rfl) (Nat.le_of_ble_eq_true rfl) (Nat.le_of_ble_eq_true rfl) (Nat.le_of_ble_eq_true rfl) (by omega) (by omega) dX10_settle_223 (fun z_5 rz_5 ez_5 => ?_)
                    refine j_mmax hx hb (hml.trans hl.1.symm) hown (hts (.methodLink RX10 95 Lib.Math.max.name) (by decide +kernel)) (hts (.static Lib.Math.max.name) (by decide +kernel)) (hts (.initialized "java/lang/Math") (by decide +kernel)) (hts (.code Lib.Math.max.name Lib.Math.max.code 2 (some .int)) (by decide +kernel)) (Nat.le_of_ble_eq_true rfl) (Nat.le_of_ble_eq_true rfl) (Nat.le_of_ble_eq_true rfl) (Nat.le_of_ble_eq_true rfl) (by omega) (by omega) dX10_settle_226 (fun z_6 rz_6 ez_6 => ?_)
                    refine lv_istore (lv' := [(10, .int (jI z_6)), (9, .int (jI t0_215)), (0, .ref a0), (1, .int (jI x1)), (5, .int (jI t0_63)), (6, .int (jI t0_80)), (8, .int (jI v_4))]) hx hb dX10_settle_229 hl (by decide) rfl (fun ls hl => ?_)
                    refine lv_iload hx hb dX10_settle_231 (lv_at hl 6 rfl) ?_
                    refine lv_iload hx hb dX10_settle_233 (lv_at hl 0 rfl) ?_
                    refine j_icmp_le (tgt := 255) hx hb (by omega) (by omega) dX10_settle_235 (by decide) (fun c_7 => ?_) (fun c_7 => ?_)
                    · refine lv_aload_n hx hb dX10_settle_255 rfl (lv_at hl 2 rfl) ?_
                      refine lv_aload_n hx hb dX10_settle_256 rfl (lv_at hl 2 rfl) ?_
                      refine lv_iload_n hx hb dX10_settle_257 rfl (lv_at hl 3 rfl) ?_
                      refine lv_iload hx hb dX10_settle_258 (lv_at hl 6 rfl) ?_
                      refine j_cR (j_runV (As := [.int (jI x1), .int (jI v_4)]) (rest := [.ref a0]) hx hb hml hown hts hK hS hW (kX10_pageStart l hS σ_186 (a0 := a0) (h0 := h0) (x1 := x1) (r1 := (by omega)) (x2 := v_4) (r2 := (by omega))) 2 gX10_settle_X10_pageStart rfl hvX10_pageStart ⟨Nat.le_of_ble_eq_true rfl, Nat.le_of_ble_eq_true rfl⟩ rfl rfl h0 rfl rfl rfl rfl hl.1 rfl (Nat.le_of_ble_eq_true rfl) dX10_settle_260 ⟨Nat.le_of_ble_eq_true rfl, Nat.le_of_ble_eq_true rfl⟩) (fun v_8 rv_8 pv_8 => ?_)
                      try dsimp only at pv_8
                      refine lv_iload hx hb dX10_settle_263 (lv_at hl 6 rfl) ?_
                      refine j_cV (j_runV (As := [.int (jI v_8), .int (jI v_4)]) (rest := []) hx hb hml hown hts hK hS hW (kX10_partIfTooFull l hS σ_186 (a0 := a0) (h0 := h0) (x1 := v_8) (r1 := (by omega)) (x2 := v_4) (r2 := (by omega))) 2 gX10_settle_X10_partIfTooFull rfl hvX10_partIfTooFull ⟨Nat.le_of_ble_eq_true rfl, Nat.le_of_ble_eq_true rfl⟩ rfl rfl h0 rfl rfl rfl rfl hl.1 rfl (Nat.le_of_ble_eq_true rfl) dX10_settle_265 ⟨Nat.le_of_ble_eq_true rfl, Nat.le_of_ble_eq_true rfl⟩) hA hF (fun σ_9 H locs hW hF pσ_9 => ?_)
                      try dsimp only at pσ_9
                      obtain ⟨pσ_9, fpσ_9⟩ := pσ_9
                      have hR := fr_call hR fpσ_9 (by decide)
                      exact hRet 268 _ _ _ _ dX10_settle_268 hW hF ⟨trivial, hR⟩
                    · refine lv_aload_n hx hb dX10_settle_238 rfl (lv_at hl 2 rfl) ?_
                      refine lv_dup hx hb dX10_settle_239 rfl ?_
                      refine j_getI hx hb (C := RX10) (T := TX10) (N := 9) hts inX10_settle_X10 hown hK hS hW h0 rfl 7 rfl rfl (by decide) (hts _ flX10_settle_39) dX10_settle_240 ?_
                      have := fbd hW h0 (k := 7) (lo := -2147483648) (hi := 2147483647) rfl rfl
                      refine lv_iload hx hb dX10_settle_243 (lv_at hl 6 rfl) ?_
                      refine lv_iload hx hb dX10_settle_245 (lv_at hl 0 rfl) ?_
                      refine j_sub hx hb dX10_settle_247 ?_
                      refine j_add hx hb dX10_settle_248 ?_
                      refine j_wrap (fun z_10 rz_10 ez_10 => ?_)
                      refine j_putI hx hb (C := RX10) (T := TX10) (N := 9) hts inX10_settle_X10 tyX10 tyX10_ok nmX10 hown hK hS hA hW hF h0 rfl 7 (lo := -2147483648) (hi := 2147483647) rfl rfl (by decide) (hts _ flX10_settle_39) rfl .int rfl (by omega) rfl rfl dX10_settle_249 (fun σ_11 H locs e_12 hW hF => ?_)
                      have hR := fr_up hR e_12 h0 11007 rfl (by decide)
                      have : σ_11 a0 7 = z_10 := by rw [e_12]; exact up2_at _ _ _ _
                      refine lv_goto (tgt := 268) hx hb dX10_settle_252 (by decide) ?_
                      exact hRet 268 _ _ _ _ dX10_settle_268 hW hF ⟨trivial, hR⟩
                  refine j_if_eq (tgt := 208) hx hb (by omega) dX10_settle_195 (by decide) (fun c_13 => ?_) (fun c_13 => ?_)
                  · refine lv_aload_n hx hb dX10_settle_208 rfl (lv_at hl 1 rfl) ?_
                    refine lv_iload_n hx hb dX10_settle_209 rfl (lv_at hl 2 rfl) ?_
                    refine j_const hx hb dX10_settle_210 ?_
                    refine j_sub hx hb dX10_settle_211 ?_
                    refine j_cR (j_runV (As := [.int (jI (x1 - 1))]) (rest := []) hx hb hml hown hts hK hS hW (kX10_sharedAt l hS σ_186 (a0 := a0) (h0 := h0) (x1 := x1 - 1) (r1 := (by omega))) 1 gX10_settle_X10_sharedAt rfl hvX10_sharedAt ⟨Nat.le_of_ble_eq_true rfl, Nat.le_of_ble_eq_true rfl⟩ rfl rfl h0 rfl rfl rfl rfl hl.1 rfl (Nat.le_of_ble_eq_true rfl) dX10_settle_212 ⟨Nat.le_of_ble_eq_true rfl, Nat.le_of_ble_eq_true rfl⟩) (fun v_14 rv_14 pv_14 => ?_)
                    try dsimp only at pv_14
                    exact L_215 v_14 _ (by omega) (by omega) (by omega) (lv_sub hl [1, 2, 3, 4, 0] rfl)
                  · refine lv_aload_n hx hb dX10_settle_198 rfl (lv_at hl 1 rfl) ?_
                    refine lv_iload_n hx hb dX10_settle_199 rfl (lv_at hl 2 rfl) ?_
                    refine j_const hx hb dX10_settle_200 ?_
                    refine j_add hx hb dX10_settle_201 ?_
                    refine j_cR (j_runV (As := [.int (jI (x1 + 2))]) (rest := []) hx hb hml hown hts hK hS hW (kX10_sharedAt l hS σ_186 (a0 := a0) (h0 := h0) (x1 := x1 + 2) (r1 := (by omega))) 1 gX10_settle_X10_sharedAt rfl hvX10_sharedAt ⟨Nat.le_of_ble_eq_true rfl, Nat.le_of_ble_eq_true rfl⟩ rfl rfl h0 rfl rfl rfl rfl hl.1 rfl (Nat.le_of_ble_eq_true rfl) dX10_settle_202 ⟨Nat.le_of_ble_eq_true rfl, Nat.le_of_ble_eq_true rfl⟩) (fun v_15 rv_15 pv_15 => ?_)
                    try dsimp only at pv_15
                    refine lv_goto (tgt := 215) hx hb dX10_settle_205 (by decide) ?_
                    exact L_215 v_15 _ (by omega) (by omega) (by omega) (lv_sub hl [1, 2, 3, 4, 0] rfl)
                refine j_if_eq (tgt := 186) hx hb (by omega) dX10_settle_150 (by decide) (fun c_16 => ?_) (fun c_16 => ?_)
                · exact L_186 σ_140 _ _ _ hW hF hR (lv_sub hl [0, 1, 3, 4, 5] rfl)
                · refine lv_aload_n hx hb dX10_settle_153 rfl (lv_at hl 0 rfl) ?_
                  refine j_getR hx hb (C := RX10) (T := TX10) (N := 9) hts inX10_settle_X10 hown hK hS hW h0 rfl 3 rfl rfl (by decide) (hts _ flX10_settle_18) dX10_settle_154 ?_
                  have h_17 : τ (G a0 3) = 25 := gty hS h0 (k := 3) rfl rfl
                  refine lv_iload_n hx hb dX10_settle_157 rfl (lv_at hl 1 rfl) ?_
                  refine j_const hx hb dX10_settle_158 ?_
                  refine j_add hx hb dX10_settle_159 ?_
                  refine lv_iload hx hb dX10_settle_160 (lv_at hl 4 rfl) ?_
                  refine j_ast hx hb hK hS hA hW hF h_17 (n := 150) (lo := -1) (hi := 24) rfl (by omega) (by omega) (by decide) (by omega) dX10_settle_162 (fun σ_18 H locs e_19 hW hF => ?_)
                  have hR := fr_up hR e_19 h_17 25000 (cdA 25 (by decide) _) (by decide)
                  refine lv_aload_n hx hb dX10_settle_163 rfl (lv_at hl 0 rfl) ?_
                  refine j_getR hx hb (C := RX10) (T := TX10) (N := 9) hts inX10_settle_X10 hown hK hS hW h0 rfl 4 rfl rfl (by decide) (hts _ flX10_settle_22) dX10_settle_164 ?_
                  have h_20 : τ (G a0 4) = 26 := gty hS h0 (k := 4) rfl rfl
                  refine lv_iload_n hx hb dX10_settle_167 rfl (lv_at hl 1 rfl) ?_
                  refine j_const hx hb dX10_settle_168 ?_
                  refine j_add hx hb dX10_settle_169 ?_
                  refine lv_iload hx hb dX10_settle_170 (lv_at hl 5 rfl) ?_
                  refine j_if_ne (tgt := 184) hx hb (by omega) dX10_settle_172 (by decide) (fun c_21 => ?_) (fun c_21 => ?_)
                  · refine j_const hx hb dX10_settle_184 ?_
                    refine j_zast hx hb hK hS hA hW hF h_20 (n := 150) rfl (by omega) (by omega) (by decide) (by omega) dX10_settle_185 (fun σ_22 H locs e_23 hW hF => ?_)
                    have hR := fr_up hR e_23 h_20 26000 (cdA 26 (by decide) _) (by decide)
                    exact L_186 σ_22 _ _ _ hW hF hR (lv_sub hl [0, 1, 3, 4, 5] rfl)
                  · refine lv_iload hx hb dX10_settle_175 (lv_at hl 2 rfl) ?_
                    refine j_if_eq (tgt := 184) hx hb (by omega) dX10_settle_177 (by decide) (fun c_24 => ?_) (fun c_24 => ?_)
                    · refine j_const hx hb dX10_settle_184 ?_
                      refine j_zast hx hb hK hS hA hW hF h_20 (n := 150) rfl (by omega) (by omega) (by decide) (by omega) dX10_settle_185 (fun σ_25 H locs e_26 hW hF => ?_)
                      have hR := fr_up hR e_26 h_20 26000 (cdA 26 (by decide) _) (by decide)
                      exact L_186 σ_25 _ _ _ hW hF hR (lv_sub hl [0, 1, 3, 4, 5] rfl)
                    · refine j_const hx hb dX10_settle_180 ?_
                      refine lv_goto (tgt := 185) hx hb dX10_settle_181 (by decide) ?_
                      refine j_zast hx hb hK hS hA hW hF h_20 (n := 150) rfl (by omega) (by omega) (by decide) (by omega) dX10_settle_185 (fun σ_27 H locs e_28 hW hF => ?_)
                      have hR := fr_up hR e_28 h_20 26000 (cdA 26 (by decide) _) (by decide)
                      exact L_186 σ_27 _ _ _ hW hF hR (lv_sub hl [0, 1, 3, 4, 5] rfl)
              refine j_if_eq (tgt := 140) hx hb (by omega) dX10_settle_104 (by decide) (fun c_29 => ?_) (fun c_29 => ?_)
              · exact L_140 σ _ _ _ hW hF hR (lv_sub hl [1, 2, 4, 5, 6, 0] rfl)
              · refine lv_aload_n hx hb dX10_settle_107 rfl (lv_at hl 1 rfl) ?_
                refine j_getR hx hb (C := RX10) (T := TX10) (N := 9) hts inX10_settle_X10 hown hK hS hW h0 rfl 3 rfl rfl (by decide) (hts _ flX10_settle_18) dX10_settle_108 ?_
                have h_30 : τ (G a0 3) = 25 := gty hS h0 (k := 3) rfl rfl
                refine lv_iload_n hx hb dX10_settle_111 rfl (lv_at hl 2 rfl) ?_
                refine lv_iload hx hb dX10_settle_112 (lv_at hl 5 rfl) ?_
                refine j_ast hx hb hK hS hA hW hF h_30 (n := 150) (lo := -1) (hi := 24) rfl (by omega) (by omega) (by decide) (by omega) dX10_settle_114 (fun σ_31 H locs e_32 hW hF => ?_)
                have hR := fr_up hR e_32 h_30 25000 (cdA 25 (by decide) _) (by decide)
                refine lv_aload_n hx hb dX10_settle_115 rfl (lv_at hl 1 rfl) ?_
                refine j_getR hx hb (C := RX10) (T := TX10) (N := 9) hts inX10_settle_X10 hown hK hS hW h0 rfl 4 rfl rfl (by decide) (hts _ flX10_settle_22) dX10_settle_116 ?_
                have h_33 : τ (G a0 4) = 26 := gty hS h0 (k := 4) rfl rfl
                refine lv_iload_n hx hb dX10_settle_119 rfl (lv_at hl 2 rfl) ?_
                refine lv_iload_n hx hb dX10_settle_120 rfl (lv_at hl 3 rfl) ?_
                refine j_if_ne (tgt := 134) hx hb (by omega) dX10_settle_121 (by decide) (fun c_34 => ?_) (fun c_34 => ?_)
                · refine j_const hx hb dX10_settle_134 ?_
                  refine lv_goto (tgt := 139) hx hb dX10_settle_135 (by decide) ?_
                  refine j_zast hx hb hK hS hA hW hF h_33 (n := 150) rfl (by omega) (by omega) (by decide) (by omega) dX10_settle_139 (fun σ_35 H locs e_36 hW hF => ?_)
                  have hR := fr_up hR e_36 h_33 26000 (cdA 26 (by decide) _) (by decide)
                  exact L_140 σ_35 _ _ _ hW hF hR (lv_sub hl [1, 2, 4, 5, 6, 0] rfl)
                · refine lv_iload hx hb dX10_settle_124 (lv_at hl 0 rfl) ?_
                  refine j_if_eq (tgt := 138) hx hb (by omega) dX10_settle_126 (by decide) (fun c_37 => ?_) (fun c_37 => ?_)
                  · refine j_const hx hb dX10_settle_138 ?_
                    refine j_zast hx hb hK hS hA hW hF h_33 (n := 150) rfl (by omega) (by omega) (by decide) (by omega) dX10_settle_139 (fun σ_38 H locs e_39 hW hF => ?_)
                    have hR := fr_up hR e_39 h_33 26000 (cdA 26 (by decide) _) (by decide)
                    exact L_140 σ_38 _ _ _ hW hF hR (lv_sub hl [1, 2, 4, 5, 6, 0] rfl)
                  · refine lv_iload hx hb dX10_settle_129 (lv_at hl 4 rfl) ?_
                    refine j_if_eq (tgt := 138) hx hb (by omega) dX10_settle_131 (by decide) (fun c_40 => ?_) (fun c_40 => ?_)
                    · refine j_const hx hb dX10_settle_138 ?_
                      refine j_zast hx hb hK hS hA hW hF h_33 (n := 150) rfl (by omega) (by omega) (by decide) (by omega) dX10_settle_139 (fun σ_41 H locs e_42 hW hF => ?_)
                      have hR := fr_up hR e_42 h_33 26000 (cdA 26 (by decide) _) (by decide)
                      exact L_140 σ_41 _ _ _ hW hF hR (lv_sub hl [1, 2, 4, 5, 6, 0] rfl)
                    · refine j_const hx hb dX10_settle_134 ?_
                      refine lv_goto (tgt := 139) hx hb dX10_settle_135 (by decide) ?_
                      refine j_zast hx hb hK hS hA hW hF h_33 (n := 150) rfl (by omega) (by omega) (by decide) (by omega) dX10_settle_139 (fun σ_43 H locs e_44 hW hF => ?_)
                      have hR := fr_up hR e_44 h_33 26000 (cdA 26 (by decide) _) (by decide)
                      exact L_140 σ_43 _ _ _ hW hF hR (lv_sub hl [1, 2, 4, 5, 6, 0] rfl)
            refine j_icmp_le (tgt := 93) hx hb (by omega) (by omega) dX10_settle_86 (by decide) (fun c_45 => ?_) (fun c_45 => ?_)
            · refine j_const hx hb dX10_settle_93 ?_
              exact L_94 0 _ (by omega) (by omega) (by decide) (lv_sub hl [1, 2, 3, 4, 5, 0] rfl)
            · refine j_const hx hb dX10_settle_89 ?_
              refine lv_goto (tgt := 94) hx hb dX10_settle_90 (by decide) ?_
              exact L_94 1 _ (by omega) (by omega) (by decide) (lv_sub hl [1, 2, 3, 4, 5, 0] rfl)
          refine j_if_eq (tgt := 73) hx hb (by omega) dX10_settle_66 (by decide) (fun c_46 => ?_) (fun c_46 => ?_)
          · refine lv_aload_n hx hb dX10_settle_73 rfl (lv_at hl 1 rfl) ?_
            refine lv_iload_n hx hb dX10_settle_74 rfl (lv_at hl 2 rfl) ?_
            refine j_const hx hb dX10_settle_75 ?_
            refine j_add hx hb dX10_settle_76 ?_
            refine j_cR (j_runV (As := [.int (jI (x1 + 1))]) (rest := []) hx hb hml hown hts hK hS hW (kX10_meetingOf l hS σ (a0 := a0) (h0 := h0) (x1 := x1 + 1) (r1 := (by omega))) 1 gX10_settle_X10_meetingOf rfl hvX10_meetingOf ⟨Nat.le_of_ble_eq_true rfl, Nat.le_of_ble_eq_true rfl⟩ rfl rfl h0 rfl rfl rfl rfl hl.1 rfl (Nat.le_of_ble_eq_true rfl) dX10_settle_77 ⟨Nat.le_of_ble_eq_true rfl, Nat.le_of_ble_eq_true rfl⟩) (fun v_47 rv_47 pv_47 => ?_)
            try dsimp only at pv_47
            exact L_80 v_47 _ (by omega) (by omega) (by omega) (lv_sub hl [1, 2, 3, 5, 0] rfl)
          · refine j_const hx hb dX10_settle_69 ?_
            refine lv_goto (tgt := 80) hx hb dX10_settle_70 (by decide) ?_
            exact L_80 0 _ (by omega) (by omega) (by decide) (lv_sub hl [1, 2, 3, 5, 0] rfl)
        refine j_if_eq (tgt := 58) hx hb (by omega) dX10_settle_51 (by decide) (fun c_48 => ?_) (fun c_48 => ?_)
        · refine lv_aload_n hx hb dX10_settle_58 rfl (lv_at hl 1 rfl) ?_
          refine lv_iload_n hx hb dX10_settle_59 rfl (lv_at hl 2 rfl) ?_
          refine j_cR (j_runV (As := [.int (jI x1)]) (rest := []) hx hb hml hown hts hK hS hW (kX10_meetingOf l hS σ (a0 := a0) (h0 := h0) (x1 := x1) (r1 := (by omega))) 1 gX10_settle_X10_meetingOf rfl hvX10_meetingOf ⟨Nat.le_of_ble_eq_true rfl, Nat.le_of_ble_eq_true rfl⟩ rfl rfl h0 rfl rfl rfl rfl hl.1 rfl (Nat.le_of_ble_eq_true rfl) dX10_settle_60 ⟨Nat.le_of_ble_eq_true rfl, Nat.le_of_ble_eq_true rfl⟩) (fun v_49 rv_49 pv_49 => ?_)
          try dsimp only at pv_49
          exact L_63 v_49 _ (by omega) (by omega) (by omega) (lv_sub hl [1, 2, 3, 4, 0] rfl)
        · refine j_const hx hb dX10_settle_54 ?_
          refine lv_goto (tgt := 63) hx hb dX10_settle_55 (by decide) ?_
          exact L_63 0 _ (by omega) (by omega) (by decide) (lv_sub hl [1, 2, 3, 4, 0] rfl)
      refine j_if_ne (tgt := 47) hx hb (by omega) dX10_settle_30 (by decide) (fun c_50 => ?_) (fun c_50 => ?_)
      · refine j_const hx hb dX10_settle_47 ?_
        exact L_48 0 _ (by omega) (by omega) (by decide) (lv_sub hl [1, 2, 3, 0] rfl)
      · refine lv_aload_n hx hb dX10_settle_33 rfl (lv_at hl 1 rfl) ?_
        refine lv_iload_n hx hb dX10_settle_34 rfl (lv_at hl 2 rfl) ?_
        refine j_const hx hb dX10_settle_35 ?_
        refine j_add hx hb dX10_settle_36 ?_
        refine j_cR (j_runV (As := [.int (jI (x1 + 1))]) (rest := []) hx hb hml hown hts hK hS hW (kX10_opensAt l hS σ (a0 := a0) (h0 := h0) (x1 := x1 + 1) (r1 := (by omega))) 1 gX10_settle_X10_opensAt rfl hvX10_opensAt ⟨Nat.le_of_ble_eq_true rfl, Nat.le_of_ble_eq_true rfl⟩ rfl rfl h0 rfl rfl rfl rfl hl.1 rfl (Nat.le_of_ble_eq_true rfl) dX10_settle_37 ⟨Nat.le_of_ble_eq_true rfl, Nat.le_of_ble_eq_true rfl⟩) (fun v_51 rv_51 pv_51 => ?_)
        try dsimp only at pv_51
        refine j_if_eq (tgt := 47) hx hb (by omega) dX10_settle_40 (by decide) (fun c_52 => ?_) (fun c_52 => ?_)
        · refine j_const hx hb dX10_settle_47 ?_
          exact L_48 0 _ (by omega) (by omega) (by decide) (lv_sub hl [1, 2, 3, 0] rfl)
        · refine j_const hx hb dX10_settle_43 ?_
          refine lv_goto (tgt := 48) hx hb dX10_settle_44 (by decide) ?_
          exact L_48 1 _ (by omega) (by omega) (by decide) (lv_sub hl [1, 2, 3, 0] rfl)
    refine j_icmp_lt (tgt := 27) hx hb (by omega) (by omega) dX10_settle_20 (by decide) (fun c_53 => ?_) (fun c_53 => ?_)
    · refine j_const hx hb dX10_settle_27 ?_
      exact L_28 0 _ (by omega) (by omega) (by decide) (lv_sub hl [1, 2, 0] rfl)
    · refine j_const hx hb dX10_settle_23 ?_
      refine lv_goto (tgt := 28) hx hb dX10_settle_24 (by decide) ?_
      exact L_28 1 _ (by omega) (by omega) (by decide) (lv_sub hl [1, 2, 0] rfl)
  refine j_if_gt (tgt := 8) hx hb (by omega) dX10_settle_1 (by decide) (fun c_54 => ?_) (fun c_54 => ?_)
  · refine j_const hx hb dX10_settle_8 ?_
    exact L_9 0 _ (by omega) (by omega) (by decide) (lv_sub hl [0, 1] rfl)
  · refine j_const hx hb dX10_settle_4 ?_
    refine lv_goto (tgt := 9) hx hb dX10_settle_5 (by decide) ?_
    exact L_9 1 _ (by omega) (by omega) (by decide) (lv_sub hl [0, 1] rfl)
abbrev wr_X10_closeBreaks : List Nat := [25000, 26000]
theorem flX10_closeBreaks_12 : Cond.fieldLink RX10 12 "PageTrie$Trie" "keys" "LPageTrie$Keys;" ∈ wsX10_closeBreaks := List.mem_of_getElem? (i := 1) rfl
theorem flX10_closeBreaks_18 : Cond.fieldLink RX10 18 "PageTrie$Trie" "shared" "[I" ∈ wsX10_closeBreaks := List.mem_of_getElem? (i := 2) rfl
theorem flX10_closeBreaks_22 : Cond.fieldLink RX10 22 "PageTrie$Trie" "opens" "[Z" ∈ wsX10_closeBreaks := List.mem_of_getElem? (i := 3) rfl
theorem inX10_closeBreaks_X10 : ∀ w ∈ u_ws RX10 TX10 9, w ∈ wsX10_closeBreaks := mem_r _ [10, 11, 12, 13, 14, 15, 16, 17, 18] rfl
theorem hvX10_closeBreaks : yX10_closeBreaks.cls = RX10 ∧ yX10_closeBreaks.cls ≠ "java/lang/invoke/MethodHandle" ∧ yX10_closeBreaks.cls ≠ "java/lang/invoke/VarHandle" ∧ (parseMethodDescriptor yX10_closeBreaks.desc).map (fun d => d.parameters.length) = some 1 := by decide +kernel
set_option maxHeartbeats 4000000 in
set_option maxRecDepth 100000 in
theorem kX10_closeBreaks (l : Launch) {D : va_G} {cA : Nat → ClassId} {τ : Nat → Nat} {G : Nat → Nat → Nat} {L : List Nat} (hS : SW τ G L) (σ : Nat → Nat → Int) {a0 : Nat} (h0 : τ a0 = 11) {x1 : Int} (r1 : rg x1) : Met l yX10_closeBreaks wsX10_closeBreaks ({ frames := 1, cells := 0, slots := 0, locals := 21 }) (jP D cA τ G L σ [.ref a0, .int (jI x1)]) (jQV D cA τ G L (fun σ' => (True) ∧ fr wr_X10_closeBreaks τ σ σ')) 0 0 (fun q => q ∈ L) := by
  refine j_metV (by decide +kernel) rfl (Nat.le_of_ble_eq_true rfl) ?_
  intro p e s m args below meth c Q hx hb hml hown hts hK hW hRet ls hl
  have hl : lv_has ls 2 [(0, .ref a0), (1, .int (jI x1))] := hl
  have hA : ∀ q ∈ L, (fun q => q ∈ L) q := fun _ h => h
  have hF : va_S (fun q => q ∈ L) s.heap s.heap [] := va_S.rf
  have hR : fr wr_X10_closeBreaks τ σ σ := fr_rf
  refine lv_aload_n hx hb dX10_closeBreaks_0 rfl (lv_at hl 0 rfl) ?_
  refine j_getR hx hb (C := RX10) (T := TX10) (N := 9) hts inX10_closeBreaks_X10 hown hK hS hW h0 rfl 0 rfl rfl (by decide) (hts _ flX10_closeBreaks_12) dX10_closeBreaks_1 ?_
  have h_1 : τ (G a0 0) = 4 := gty hS h0 (k := 0) rfl rfl
  refine lv_iload_n hx hb dX10_closeBreaks_4 rfl (lv_at hl 1 rfl) ?_
  refine j_cR (j_runV (As := [.int (jI x1)]) (rest := []) hx hb hml hown hts hK hS hW (kX3_has l hS σ (a0 := G a0 0) (h0 := h_1) (x1 := x1) (r1 := (by omega))) 1 gX10_closeBreaks_X3_has rfl hvX3_has ⟨Nat.le_of_ble_eq_true rfl, Nat.le_of_ble_eq_true rfl⟩ rfl rfl h_1 rfl rfl rfl rfl hl.1 rfl (Nat.le_of_ble_eq_true rfl) dX10_closeBreaks_5 ⟨Nat.le_of_ble_eq_true rfl, Nat.le_of_ble_eq_true rfl⟩) (fun v_2 rv_2 pv_2 => ?_)
  try dsimp only at pv_2
  refine j_if_eq (tgt := 24) hx hb (by omega) dX10_closeBreaks_8 (by decide) (fun c_3 => ?_) (fun c_3 => ?_)
  · exact hRet 24 _ _ _ _ dX10_closeBreaks_24 hW hF ⟨trivial, hR⟩
  · refine lv_aload_n hx hb dX10_closeBreaks_11 rfl (lv_at hl 0 rfl) ?_
    refine j_getR hx hb (C := RX10) (T := TX10) (N := 9) hts inX10_closeBreaks_X10 hown hK hS hW h0 rfl 0 rfl rfl (by decide) (hts _ flX10_closeBreaks_12) dX10_closeBreaks_12 ?_
    refine lv_iload_n hx hb dX10_closeBreaks_15 rfl (lv_at hl 1 rfl) ?_
    refine j_const hx hb dX10_closeBreaks_16 ?_
    refine j_add hx hb dX10_closeBreaks_17 ?_
    refine j_cR (j_runV (As := [.int (jI (x1 + 1))]) (rest := []) hx hb hml hown hts hK hS hW (kX3_has l hS σ (a0 := G a0 0) (h0 := h_1) (x1 := x1 + 1) (r1 := (by omega))) 1 gX10_closeBreaks_X3_has rfl hvX3_has ⟨Nat.le_of_ble_eq_true rfl, Nat.le_of_ble_eq_true rfl⟩ rfl rfl h_1 rfl rfl rfl rfl hl.1 rfl (Nat.le_of_ble_eq_true rfl) dX10_closeBreaks_18 ⟨Nat.le_of_ble_eq_true rfl, Nat.le_of_ble_eq_true rfl⟩) (fun v_4 rv_4 pv_4 => ?_)
    try dsimp only at pv_4
    refine j_if_ne (tgt := 25) hx hb (by omega) dX10_closeBreaks_21 (by decide) (fun c_5 => ?_) (fun c_5 => ?_)
    · refine lv_aload_n hx hb dX10_closeBreaks_25 rfl (lv_at hl 0 rfl) ?_
      refine j_getR hx hb (C := RX10) (T := TX10) (N := 9) hts inX10_closeBreaks_X10 hown hK hS hW h0 rfl 3 rfl rfl (by decide) (hts _ flX10_closeBreaks_18) dX10_closeBreaks_26 ?_
      have h_6 : τ (G a0 3) = 25 := gty hS h0 (k := 3) rfl rfl
      refine lv_iload_n hx hb dX10_closeBreaks_29 rfl (lv_at hl 1 rfl) ?_
      refine j_ald hx hb hK hS hW h_6 (n := 150) rfl (by omega) (by omega) (by decide) dX10_closeBreaks_30 ?_
      have := abd hW h_6 (n := 150) (lo := -1) (hi := 24) (i := x1) rfl (by omega) (by omega)
      refine lv_aload_n hx hb dX10_closeBreaks_31 rfl (lv_at hl 0 rfl) ?_
      refine j_getR hx hb (C := RX10) (T := TX10) (N := 9) hts inX10_closeBreaks_X10 hown hK hS hW h0 rfl 3 rfl rfl (by decide) (hts _ flX10_closeBreaks_18) dX10_closeBreaks_32 ?_
      refine lv_iload_n hx hb dX10_closeBreaks_35 rfl (lv_at hl 1 rfl) ?_
      refine j_const hx hb dX10_closeBreaks_36 ?_
      refine j_add hx hb dX10_closeBreaks_37 ?_
      refine j_ald hx hb hK hS hW h_6 (n := 150) rfl (by omega) (by omega) (by decide) dX10_closeBreaks_38 ?_
      have := abd hW h_6 (n := 150) (lo := -1) (hi := 24) (i := x1 + 1) rfl (by omega) (by omega)
      refine j_icmp_ne (tgt := 78) hx hb (by omega) (by omega) dX10_closeBreaks_39 (by decide) (fun c_7 => ?_) (fun c_7 => ?_)
      · refine lv_aload_n hx hb dX10_closeBreaks_78 rfl (lv_at hl 0 rfl) ?_
        refine j_getR hx hb (C := RX10) (T := TX10) (N := 9) hts inX10_closeBreaks_X10 hown hK hS hW h0 rfl 3 rfl rfl (by decide) (hts _ flX10_closeBreaks_18) dX10_closeBreaks_79 ?_
        refine lv_iload_n hx hb dX10_closeBreaks_82 rfl (lv_at hl 1 rfl) ?_
        refine j_ald hx hb hK hS hW h_6 (n := 150) rfl (by omega) (by omega) (by decide) dX10_closeBreaks_83 ?_
        refine lv_aload_n hx hb dX10_closeBreaks_84 rfl (lv_at hl 0 rfl) ?_
        refine j_getR hx hb (C := RX10) (T := TX10) (N := 9) hts inX10_closeBreaks_X10 hown hK hS hW h0 rfl 3 rfl rfl (by decide) (hts _ flX10_closeBreaks_18) dX10_closeBreaks_85 ?_
        refine lv_iload_n hx hb dX10_closeBreaks_88 rfl (lv_at hl 1 rfl) ?_
        refine j_const hx hb dX10_closeBreaks_89 ?_
        refine j_add hx hb dX10_closeBreaks_90 ?_
        refine j_ald hx hb hK hS hW h_6 (n := 150) rfl (by omega) (by omega) (by decide) dX10_closeBreaks_91 ?_
        refine j_icmp_ge (tgt := 123) hx hb (by omega) (by omega) dX10_closeBreaks_92 (by decide) (fun c_8 => ?_) (fun c_8 => ?_)
        · exact hRet 123 _ _ _ _ dX10_closeBreaks_123 hW hF ⟨trivial, hR⟩
        · refine lv_aload_n hx hb dX10_closeBreaks_95 rfl (lv_at hl 0 rfl) ?_
          refine j_getR hx hb (C := RX10) (T := TX10) (N := 9) hts inX10_closeBreaks_X10 hown hK hS hW h0 rfl 3 rfl rfl (by decide) (hts _ flX10_closeBreaks_18) dX10_closeBreaks_96 ?_
          refine lv_iload_n hx hb dX10_closeBreaks_99 rfl (lv_at hl 1 rfl) ?_
          refine j_const hx hb dX10_closeBreaks_100 ?_
          refine j_add hx hb dX10_closeBreaks_101 ?_
          refine lv_aload_n hx hb dX10_closeBreaks_102 rfl (lv_at hl 0 rfl) ?_
          refine j_getR hx hb (C := RX10) (T := TX10) (N := 9) hts inX10_closeBreaks_X10 hown hK hS hW h0 rfl 3 rfl rfl (by decide) (hts _ flX10_closeBreaks_18) dX10_closeBreaks_103 ?_
          refine lv_iload_n hx hb dX10_closeBreaks_106 rfl (lv_at hl 1 rfl) ?_
          refine j_ald hx hb hK hS hW h_6 (n := 150) rfl (by omega) (by omega) (by decide) dX10_closeBreaks_107 ?_
          refine j_ast hx hb hK hS hA hW hF h_6 (n := 150) (lo := -1) (hi := 24) rfl (by omega) (by omega) (by decide) (by omega) dX10_closeBreaks_108 (fun σ_9 H locs e_10 hW hF => ?_)
          have hR := fr_up hR e_10 h_6 25000 (cdA 25 (by decide) _) (by decide)
          refine lv_aload_n hx hb dX10_closeBreaks_109 rfl (lv_at hl 0 rfl) ?_
          refine j_getR hx hb (C := RX10) (T := TX10) (N := 9) hts inX10_closeBreaks_X10 hown hK hS hW h0 rfl 4 rfl rfl (by decide) (hts _ flX10_closeBreaks_22) dX10_closeBreaks_110 ?_
          have h_11 : τ (G a0 4) = 26 := gty hS h0 (k := 4) rfl rfl
          refine lv_iload_n hx hb dX10_closeBreaks_113 rfl (lv_at hl 1 rfl) ?_
          refine j_const hx hb dX10_closeBreaks_114 ?_
          refine j_add hx hb dX10_closeBreaks_115 ?_
          refine lv_aload_n hx hb dX10_closeBreaks_116 rfl (lv_at hl 0 rfl) ?_
          refine j_getR hx hb (C := RX10) (T := TX10) (N := 9) hts inX10_closeBreaks_X10 hown hK hS hW h0 rfl 4 rfl rfl (by decide) (hts _ flX10_closeBreaks_22) dX10_closeBreaks_117 ?_
          refine lv_iload_n hx hb dX10_closeBreaks_120 rfl (lv_at hl 1 rfl) ?_
          refine j_zald hx hb hK hS hW h_11 (n := 150) rfl (by omega) (by omega) (by decide) dX10_closeBreaks_121 ?_
          have := abd hW h_11 (n := 150) (lo := 0) (hi := 1) (i := x1) rfl (by omega) (by omega)
          refine j_zast hx hb hK hS hA hW hF h_11 (n := 150) rfl (by omega) (by omega) (by decide) (by omega) dX10_closeBreaks_122 (fun σ_12 H locs e_13 hW hF => ?_)
          have hR := fr_up hR e_13 h_11 26000 (cdA 26 (by decide) _) (by decide)
          exact hRet 123 _ _ _ _ dX10_closeBreaks_123 hW hF ⟨trivial, hR⟩
      · refine lv_aload_n hx hb dX10_closeBreaks_42 rfl (lv_at hl 0 rfl) ?_
        refine j_getR hx hb (C := RX10) (T := TX10) (N := 9) hts inX10_closeBreaks_X10 hown hK hS hW h0 rfl 4 rfl rfl (by decide) (hts _ flX10_closeBreaks_22) dX10_closeBreaks_43 ?_
        have h_14 : τ (G a0 4) = 26 := gty hS h0 (k := 4) rfl rfl
        refine lv_iload_n hx hb dX10_closeBreaks_46 rfl (lv_at hl 1 rfl) ?_
        refine j_const hx hb dX10_closeBreaks_47 ?_
        refine j_add hx hb dX10_closeBreaks_48 ?_
        refine lv_aload_n hx hb dX10_closeBreaks_49 rfl (lv_at hl 0 rfl) ?_
        refine j_getR hx hb (C := RX10) (T := TX10) (N := 9) hts inX10_closeBreaks_X10 hown hK hS hW h0 rfl 4 rfl rfl (by decide) (hts _ flX10_closeBreaks_22) dX10_closeBreaks_50 ?_
        refine lv_iload_n hx hb dX10_closeBreaks_53 rfl (lv_at hl 1 rfl) ?_
        refine j_zald hx hb hK hS hW h_14 (n := 150) rfl (by omega) (by omega) (by decide) dX10_closeBreaks_54 ?_
        have := abd hW h_14 (n := 150) (lo := 0) (hi := 1) (i := x1) rfl (by omega) (by omega)
        refine j_if_ne (tgt := 69) hx hb (by omega) dX10_closeBreaks_55 (by decide) (fun c_15 => ?_) (fun c_15 => ?_)
        · refine j_const hx hb dX10_closeBreaks_69 ?_
          refine lv_goto (tgt := 74) hx hb dX10_closeBreaks_70 (by decide) ?_
          refine j_zast hx hb hK hS hA hW hF h_14 (n := 150) rfl (by omega) (by omega) (by decide) (by omega) dX10_closeBreaks_74 (fun σ_16 H locs e_17 hW hF => ?_)
          have hR := fr_up hR e_17 h_14 26000 (cdA 26 (by decide) _) (by decide)
          refine lv_goto (tgt := 123) hx hb dX10_closeBreaks_75 (by decide) ?_
          exact hRet 123 _ _ _ _ dX10_closeBreaks_123 hW hF ⟨trivial, hR⟩
        · refine lv_aload_n hx hb dX10_closeBreaks_58 rfl (lv_at hl 0 rfl) ?_
          refine j_getR hx hb (C := RX10) (T := TX10) (N := 9) hts inX10_closeBreaks_X10 hown hK hS hW h0 rfl 4 rfl rfl (by decide) (hts _ flX10_closeBreaks_22) dX10_closeBreaks_59 ?_
          refine lv_iload_n hx hb dX10_closeBreaks_62 rfl (lv_at hl 1 rfl) ?_
          refine j_const hx hb dX10_closeBreaks_63 ?_
          refine j_add hx hb dX10_closeBreaks_64 ?_
          refine j_zald hx hb hK hS hW h_14 (n := 150) rfl (by omega) (by omega) (by decide) dX10_closeBreaks_65 ?_
          have := abd hW h_14 (n := 150) (lo := 0) (hi := 1) (i := x1 + 1) rfl (by omega) (by omega)
          refine j_if_eq (tgt := 73) hx hb (by omega) dX10_closeBreaks_66 (by decide) (fun c_18 => ?_) (fun c_18 => ?_)
          · refine j_const hx hb dX10_closeBreaks_73 ?_
            refine j_zast hx hb hK hS hA hW hF h_14 (n := 150) rfl (by omega) (by omega) (by decide) (by omega) dX10_closeBreaks_74 (fun σ_19 H locs e_20 hW hF => ?_)
            have hR := fr_up hR e_20 h_14 26000 (cdA 26 (by decide) _) (by decide)
            refine lv_goto (tgt := 123) hx hb dX10_closeBreaks_75 (by decide) ?_
            exact hRet 123 _ _ _ _ dX10_closeBreaks_123 hW hF ⟨trivial, hR⟩
          · refine j_const hx hb dX10_closeBreaks_69 ?_
            refine lv_goto (tgt := 74) hx hb dX10_closeBreaks_70 (by decide) ?_
            refine j_zast hx hb hK hS hA hW hF h_14 (n := 150) rfl (by omega) (by omega) (by decide) (by omega) dX10_closeBreaks_74 (fun σ_21 H locs e_22 hW hF => ?_)
            have hR := fr_up hR e_22 h_14 26000 (cdA 26 (by decide) _) (by decide)
            refine lv_goto (tgt := 123) hx hb dX10_closeBreaks_75 (by decide) ?_
            exact hRet 123 _ _ _ _ dX10_closeBreaks_123 hW hF ⟨trivial, hR⟩
    · exact hRet 24 _ _ _ _ dX10_closeBreaks_24 hW hF ⟨trivial, hR⟩
abbrev wr_X10_joinIfEmptied : List Nat := [11006, 26000]
theorem flX10_joinIfEmptied_30 : Cond.fieldLink RX10 30 "PageTrie$Trie" "room" "I" ∈ wsX10_joinIfEmptied := List.mem_of_getElem? (i := 1) rfl
theorem flX10_joinIfEmptied_36 : Cond.fieldLink RX10 36 "PageTrie$Trie" "joined" "I" ∈ wsX10_joinIfEmptied := List.mem_of_getElem? (i := 2) rfl
theorem inX10_joinIfEmptied_X10 : ∀ w ∈ u_ws RX10 TX10 9, w ∈ wsX10_joinIfEmptied := mem_r _ [42, 43, 44, 45, 46, 47, 48, 49, 50] rfl
theorem hvX10_joinIfEmptied : yX10_joinIfEmptied.cls = RX10 ∧ yX10_joinIfEmptied.cls ≠ "java/lang/invoke/MethodHandle" ∧ yX10_joinIfEmptied.cls ≠ "java/lang/invoke/VarHandle" ∧ (parseMethodDescriptor yX10_joinIfEmptied.desc).map (fun d => d.parameters.length) = some 2 := by decide +kernel
set_option maxHeartbeats 4000000 in
set_option maxRecDepth 100000 in
theorem kX10_joinIfEmptied (l : Launch) {D : va_G} {cA : Nat → ClassId} {τ : Nat → Nat} {G : Nat → Nat → Nat} {L : List Nat} (hS : SW τ G L) (σ : Nat → Nat → Int) {a0 : Nat} (h0 : τ a0 = 11) {x1 : Int} (r1 : rg x1) {x2 : Int} (r2 : rg x2) : Met l yX10_joinIfEmptied wsX10_joinIfEmptied ({ frames := 2, cells := 0, slots := 0, locals := 46 }) (jP D cA τ G L σ [.ref a0, .int (jI x1), .int (jI x2)]) (jQV D cA τ G L (fun σ' => (True) ∧ fr wr_X10_joinIfEmptied τ σ σ')) 0 0 (fun q => q ∈ L) := by
  refine j_metV (by decide +kernel) rfl (Nat.le_of_ble_eq_true rfl) ?_
  intro p e s m args below meth c Q hx hb hml hown hts hK hW hRet ls hl
  have hl : lv_has ls 7 [(0, .ref a0), (1, .int (jI x1)), (2, .int (jI x2))] := hl
  have hA : ∀ q ∈ L, (fun q => q ∈ L) q := fun _ h => h
  have hF : va_S (fun q => q ∈ L) s.heap s.heap [] := va_S.rf
  have hR : fr wr_X10_joinIfEmptied τ σ σ := fr_rf
  refine lv_aload_n hx hb dX10_joinIfEmptied_0 rfl (lv_at hl 0 rfl) ?_
  refine j_getI hx hb (C := RX10) (T := TX10) (N := 9) hts inX10_joinIfEmptied_X10 hown hK hS hW h0 rfl 2 rfl rfl (by decide) (hts _ flX10_joinIfEmptied_30) dX10_joinIfEmptied_1 ?_
  have := fbd hW h0 (k := 2) (lo := -2147483648) (hi := 2147483647) rfl rfl
  refine j_const hx hb dX10_joinIfEmptied_4 ?_
  refine j_divW hx hb (by omega) (by omega) dX10_joinIfEmptied_5 (fun z_1 rz_1 ez_1 fz_1 => ?_)
  refine lv_istore_n (lv' := [(3, .int (jI z_1)), (0, .ref a0), (1, .int (jI x1)), (2, .int (jI x2))]) hx hb dX10_joinIfEmptied_6 rfl hl (by decide) rfl (fun ls hl => ?_)
  refine lv_aload_n hx hb dX10_joinIfEmptied_7 rfl (lv_at hl 1 rfl) ?_
  refine lv_iload_n hx hb dX10_joinIfEmptied_8 rfl (lv_at hl 2 rfl) ?_
  refine lv_iload_n hx hb dX10_joinIfEmptied_9 rfl (lv_at hl 3 rfl) ?_
  refine j_cR (j_runV (As := [.int (jI x1), .int (jI x2)]) (rest := []) hx hb hml hown hts hK hS hW (kX10_entriesFrom l hS σ (a0 := a0) (h0 := h0) (x1 := x1) (r1 := (by omega)) (x2 := x2) (r2 := (by omega))) 2 gX10_joinIfEmptied_X10_entriesFrom rfl hvX10_entriesFrom ⟨Nat.le_of_ble_eq_true rfl, Nat.le_of_ble_eq_true rfl⟩ rfl rfl h0 rfl rfl rfl rfl hl.1 rfl (Nat.le_of_ble_eq_true rfl) dX10_joinIfEmptied_10 ⟨Nat.le_of_ble_eq_true rfl, Nat.le_of_ble_eq_true rfl⟩) (fun v_2 rv_2 pv_2 => ?_)
  try dsimp only at pv_2
  refine lv_istore (lv' := [(4, .int (jI v_2)), (3, .int (jI z_1)), (0, .ref a0), (1, .int (jI x1)), (2, .int (jI x2))]) hx hb dX10_joinIfEmptied_13 hl (by decide) rfl (fun ls hl => ?_)
  refine lv_aload_n hx hb dX10_joinIfEmptied_15 rfl (lv_at hl 2 rfl) ?_
  refine lv_iload_n hx hb dX10_joinIfEmptied_16 rfl (lv_at hl 3 rfl) ?_
  refine lv_iload_n hx hb dX10_joinIfEmptied_17 rfl (lv_at hl 4 rfl) ?_
  refine j_cR (j_runV (As := [.int (jI x1), .int (jI x2)]) (rest := []) hx hb hml hown hts hK hS hW (kX10_pageBehind l hS σ (a0 := a0) (h0 := h0) (x1 := x1) (r1 := (by omega)) (x2 := x2) (r2 := (by omega))) 2 gX10_joinIfEmptied_X10_pageBehind rfl hvX10_pageBehind ⟨Nat.le_of_ble_eq_true rfl, Nat.le_of_ble_eq_true rfl⟩ rfl rfl h0 rfl rfl rfl rfl hl.1 rfl (Nat.le_of_ble_eq_true rfl) dX10_joinIfEmptied_18 ⟨Nat.le_of_ble_eq_true rfl, Nat.le_of_ble_eq_true rfl⟩) (fun v_3 rv_3 pv_3 => ?_)
  try dsimp only at pv_3
  refine lv_istore (lv' := [(5, .int (jI v_3)), (4, .int (jI v_2)), (3, .int (jI z_1)), (0, .ref a0), (1, .int (jI x1)), (2, .int (jI x2))]) hx hb dX10_joinIfEmptied_21 hl (by decide) rfl (fun ls hl => ?_)
  refine lv_iload hx hb dX10_joinIfEmptied_23 (lv_at hl 0 rfl) ?_
  refine j_if_lt (tgt := 62) hx hb (by omega) dX10_joinIfEmptied_25 (by decide) (fun c_4 => ?_) (fun c_4 => ?_)
  · refine lv_iload_n hx hb dX10_joinIfEmptied_62 rfl (lv_at hl 4 rfl) ?_
    refine j_if_le (tgt := 115) hx hb (by omega) dX10_joinIfEmptied_63 (by decide) (fun c_5 => ?_) (fun c_5 => ?_)
    · exact hRet 115 _ _ _ _ dX10_joinIfEmptied_115 hW hF ⟨trivial, hR⟩
    · refine lv_aload_n hx hb dX10_joinIfEmptied_66 rfl (lv_at hl 3 rfl) ?_
      refine lv_iload_n hx hb dX10_joinIfEmptied_67 rfl (lv_at hl 4 rfl) ?_
      refine j_cR (j_runV (As := [.int (jI x1)]) (rest := []) hx hb hml hown hts hK hS hW (kX10_sharedAt l hS σ (a0 := a0) (h0 := h0) (x1 := x1) (r1 := (by omega))) 1 gX10_joinIfEmptied_X10_sharedAt rfl hvX10_sharedAt ⟨Nat.le_of_ble_eq_true rfl, Nat.le_of_ble_eq_true rfl⟩ rfl rfl h0 rfl rfl rfl rfl hl.1 rfl (Nat.le_of_ble_eq_true rfl) dX10_joinIfEmptied_68 ⟨Nat.le_of_ble_eq_true rfl, Nat.le_of_ble_eq_true rfl⟩) (fun v_6 rv_6 pv_6 => ?_)
      try dsimp only at pv_6
      refine lv_iload_n hx hb dX10_joinIfEmptied_71 rfl (lv_at hl 5 rfl) ?_
      refine j_icmp_ne (tgt := 115) hx hb (by omega) (by omega) dX10_joinIfEmptied_72 (by decide) (fun c_7 => ?_) (fun c_7 => ?_)
      · exact hRet 115 _ _ _ _ dX10_joinIfEmptied_115 hW hF ⟨trivial, hR⟩
      · refine lv_aload_n hx hb dX10_joinIfEmptied_75 rfl (lv_at hl 3 rfl) ?_
        refine lv_iload_n hx hb dX10_joinIfEmptied_76 rfl (lv_at hl 4 rfl) ?_
        refine j_const hx hb dX10_joinIfEmptied_77 ?_
        refine j_sub hx hb dX10_joinIfEmptied_78 ?_
        refine lv_iload_n hx hb dX10_joinIfEmptied_79 rfl (lv_at hl 5 rfl) ?_
        refine j_cR (j_runV (As := [.int (jI (x1 - 1)), .int (jI x2)]) (rest := []) hx hb hml hown hts hK hS hW (kX10_pageStart l hS σ (a0 := a0) (h0 := h0) (x1 := x1 - 1) (r1 := (by omega)) (x2 := x2) (r2 := (by omega))) 2 gX10_joinIfEmptied_X10_pageStart rfl hvX10_pageStart ⟨Nat.le_of_ble_eq_true rfl, Nat.le_of_ble_eq_true rfl⟩ rfl rfl h0 rfl rfl rfl rfl hl.1 rfl (Nat.le_of_ble_eq_true rfl) dX10_joinIfEmptied_80 ⟨Nat.le_of_ble_eq_true rfl, Nat.le_of_ble_eq_true rfl⟩) (fun v_8 rv_8 pv_8 => ?_)
        try dsimp only at pv_8
        refine lv_istore (lv' := [(6, .int (jI v_8)), (5, .int (jI v_3)), (4, .int (jI v_2)), (3, .int (jI z_1)), (0, .ref a0), (1, .int (jI x1)), (2, .int (jI x2))]) hx hb dX10_joinIfEmptied_83 hl (by decide) rfl (fun ls hl => ?_)
        refine lv_aload_n hx hb dX10_joinIfEmptied_85 rfl (lv_at hl 4 rfl) ?_
        refine lv_iload hx hb dX10_joinIfEmptied_86 (lv_at hl 0 rfl) ?_
        refine lv_iload_n hx hb dX10_joinIfEmptied_88 rfl (lv_at hl 6 rfl) ?_
        refine j_cR (j_runV (As := [.int (jI v_8), .int (jI x2)]) (rest := []) hx hb hml hown hts hK hS hW (kX10_entriesFrom l hS σ (a0 := a0) (h0 := h0) (x1 := v_8) (r1 := (by omega)) (x2 := x2) (r2 := (by omega))) 2 gX10_joinIfEmptied_X10_entriesFrom rfl hvX10_entriesFrom ⟨Nat.le_of_ble_eq_true rfl, Nat.le_of_ble_eq_true rfl⟩ rfl rfl h0 rfl rfl rfl rfl hl.1 rfl (Nat.le_of_ble_eq_true rfl) dX10_joinIfEmptied_89 ⟨Nat.le_of_ble_eq_true rfl, Nat.le_of_ble_eq_true rfl⟩) (fun v_9 rv_9 pv_9 => ?_)
        try dsimp only at pv_9
        refine lv_iload hx hb dX10_joinIfEmptied_92 (lv_at hl 2 rfl) ?_
        refine j_add hx hb dX10_joinIfEmptied_94 ?_
        refine j_wrap (fun z_10 rz_10 ez_10 => ?_)
        refine lv_iload_n hx hb dX10_joinIfEmptied_95 rfl (lv_at hl 3 rfl) ?_
        refine j_icmp_gt (tgt := 115) hx hb (by omega) (by omega) dX10_joinIfEmptied_96 (by decide) (fun c_11 => ?_) (fun c_11 => ?_)
        · exact hRet 115 _ _ _ _ dX10_joinIfEmptied_115 hW hF ⟨trivial, hR⟩
        · refine lv_aload_n hx hb dX10_joinIfEmptied_99 rfl (lv_at hl 4 rfl) ?_
          refine lv_iload_n hx hb dX10_joinIfEmptied_100 rfl (lv_at hl 5 rfl) ?_
          refine j_const hx hb dX10_joinIfEmptied_101 ?_
          refine j_cV (j_runV (As := [.int (jI x1), .int (jI 0)]) (rest := []) hx hb hml hown hts hK hS hW (kX10_setOpens l hS σ (a0 := a0) (h0 := h0) (x1 := x1) (r1 := (by omega)) (x2 := 0) (r2 := (by decide)) (q0 := (by omega)) (q1 := (by omega))) 2 gX10_joinIfEmptied_X10_setOpens rfl hvX10_setOpens ⟨Nat.le_of_ble_eq_true rfl, Nat.le_of_ble_eq_true rfl⟩ rfl rfl h0 rfl rfl rfl rfl hl.1 rfl (Nat.le_of_ble_eq_true rfl) dX10_joinIfEmptied_102 ⟨Nat.le_of_ble_eq_true rfl, Nat.le_of_ble_eq_true rfl⟩) hA hF (fun σ_12 H locs hW hF pσ_12 => ?_)
          try dsimp only at pσ_12
          obtain ⟨pσ_12, fpσ_12⟩ := pσ_12
          have hR := fr_call hR fpσ_12 (by decide)
          refine lv_aload_n hx hb dX10_joinIfEmptied_105 rfl (lv_at hl 4 rfl) ?_
          refine lv_dup hx hb dX10_joinIfEmptied_106 rfl ?_
          refine j_getI hx hb (C := RX10) (T := TX10) (N := 9) hts inX10_joinIfEmptied_X10 hown hK hS hW h0 rfl 6 rfl rfl (by decide) (hts _ flX10_joinIfEmptied_36) dX10_joinIfEmptied_107 ?_
          have := fbd hW h0 (k := 6) (lo := -2147483648) (hi := 2147483647) rfl rfl
          refine j_const hx hb dX10_joinIfEmptied_110 ?_
          refine j_add hx hb dX10_joinIfEmptied_111 ?_
          refine j_wrap (fun z_13 rz_13 ez_13 => ?_)
          refine j_putI hx hb (C := RX10) (T := TX10) (N := 9) hts inX10_joinIfEmptied_X10 tyX10 tyX10_ok nmX10 hown hK hS hA hW hF h0 rfl 6 (lo := -2147483648) (hi := 2147483647) rfl rfl (by decide) (hts _ flX10_joinIfEmptied_36) rfl .int rfl (by omega) rfl rfl dX10_joinIfEmptied_112 (fun σ_14 H locs e_15 hW hF => ?_)
          have hR := fr_up hR e_15 h0 11006 rfl (by decide)
          have : σ_14 a0 6 = z_13 := by rw [e_15]; exact up2_at _ _ _ _
          exact hRet 115 _ _ _ _ dX10_joinIfEmptied_115 hW hF ⟨trivial, hR⟩
  · refine lv_iload hx hb dX10_joinIfEmptied_28 (lv_at hl 1 rfl) ?_
    refine lv_aload_n hx hb dX10_joinIfEmptied_30 rfl (lv_at hl 3 rfl) ?_
    refine lv_iload hx hb dX10_joinIfEmptied_31 (lv_at hl 0 rfl) ?_
    refine lv_iload_n hx hb dX10_joinIfEmptied_33 rfl (lv_at hl 5 rfl) ?_
    refine j_cR (j_runV (As := [.int (jI v_3), .int (jI x2)]) (rest := [.int (jI v_2)]) hx hb hml hown hts hK hS hW (kX10_entriesFrom l hS σ (a0 := a0) (h0 := h0) (x1 := v_3) (r1 := (by omega)) (x2 := x2) (r2 := (by omega))) 2 gX10_joinIfEmptied_X10_entriesFrom rfl hvX10_entriesFrom ⟨Nat.le_of_ble_eq_true rfl, Nat.le_of_ble_eq_true rfl⟩ rfl rfl h0 rfl rfl rfl rfl hl.1 rfl (Nat.le_of_ble_eq_true rfl) dX10_joinIfEmptied_34 ⟨Nat.le_of_ble_eq_true rfl, Nat.le_of_ble_eq_true rfl⟩) (fun v_16 rv_16 pv_16 => ?_)
    try dsimp only at pv_16
    refine j_add hx hb dX10_joinIfEmptied_37 ?_
    refine j_wrap (fun z_17 rz_17 ez_17 => ?_)
    refine lv_iload_n hx hb dX10_joinIfEmptied_38 rfl (lv_at hl 2 rfl) ?_
    refine j_icmp_gt (tgt := 62) hx hb (by omega) (by omega) dX10_joinIfEmptied_39 (by decide) (fun c_18 => ?_) (fun c_18 => ?_)
    · refine lv_iload_n hx hb dX10_joinIfEmptied_62 rfl (lv_at hl 4 rfl) ?_
      refine j_if_le (tgt := 115) hx hb (by omega) dX10_joinIfEmptied_63 (by decide) (fun c_19 => ?_) (fun c_19 => ?_)
      · exact hRet 115 _ _ _ _ dX10_joinIfEmptied_115 hW hF ⟨trivial, hR⟩
      · refine lv_aload_n hx hb dX10_joinIfEmptied_66 rfl (lv_at hl 3 rfl) ?_
        refine lv_iload_n hx hb dX10_joinIfEmptied_67 rfl (lv_at hl 4 rfl) ?_
        refine j_cR (j_runV (As := [.int (jI x1)]) (rest := []) hx hb hml hown hts hK hS hW (kX10_sharedAt l hS σ (a0 := a0) (h0 := h0) (x1 := x1) (r1 := (by omega))) 1 gX10_joinIfEmptied_X10_sharedAt rfl hvX10_sharedAt ⟨Nat.le_of_ble_eq_true rfl, Nat.le_of_ble_eq_true rfl⟩ rfl rfl h0 rfl rfl rfl rfl hl.1 rfl (Nat.le_of_ble_eq_true rfl) dX10_joinIfEmptied_68 ⟨Nat.le_of_ble_eq_true rfl, Nat.le_of_ble_eq_true rfl⟩) (fun v_20 rv_20 pv_20 => ?_)
        try dsimp only at pv_20
        refine lv_iload_n hx hb dX10_joinIfEmptied_71 rfl (lv_at hl 5 rfl) ?_
        refine j_icmp_ne (tgt := 115) hx hb (by omega) (by omega) dX10_joinIfEmptied_72 (by decide) (fun c_21 => ?_) (fun c_21 => ?_)
        · exact hRet 115 _ _ _ _ dX10_joinIfEmptied_115 hW hF ⟨trivial, hR⟩
        · refine lv_aload_n hx hb dX10_joinIfEmptied_75 rfl (lv_at hl 3 rfl) ?_
          refine lv_iload_n hx hb dX10_joinIfEmptied_76 rfl (lv_at hl 4 rfl) ?_
          refine j_const hx hb dX10_joinIfEmptied_77 ?_
          refine j_sub hx hb dX10_joinIfEmptied_78 ?_
          refine lv_iload_n hx hb dX10_joinIfEmptied_79 rfl (lv_at hl 5 rfl) ?_
          refine j_cR (j_runV (As := [.int (jI (x1 - 1)), .int (jI x2)]) (rest := []) hx hb hml hown hts hK hS hW (kX10_pageStart l hS σ (a0 := a0) (h0 := h0) (x1 := x1 - 1) (r1 := (by omega)) (x2 := x2) (r2 := (by omega))) 2 gX10_joinIfEmptied_X10_pageStart rfl hvX10_pageStart ⟨Nat.le_of_ble_eq_true rfl, Nat.le_of_ble_eq_true rfl⟩ rfl rfl h0 rfl rfl rfl rfl hl.1 rfl (Nat.le_of_ble_eq_true rfl) dX10_joinIfEmptied_80 ⟨Nat.le_of_ble_eq_true rfl, Nat.le_of_ble_eq_true rfl⟩) (fun v_22 rv_22 pv_22 => ?_)
          try dsimp only at pv_22
          refine lv_istore (lv' := [(6, .int (jI v_22)), (5, .int (jI v_3)), (4, .int (jI v_2)), (3, .int (jI z_1)), (0, .ref a0), (1, .int (jI x1)), (2, .int (jI x2))]) hx hb dX10_joinIfEmptied_83 hl (by decide) rfl (fun ls hl => ?_)
          refine lv_aload_n hx hb dX10_joinIfEmptied_85 rfl (lv_at hl 4 rfl) ?_
          refine lv_iload hx hb dX10_joinIfEmptied_86 (lv_at hl 0 rfl) ?_
          refine lv_iload_n hx hb dX10_joinIfEmptied_88 rfl (lv_at hl 6 rfl) ?_
          refine j_cR (j_runV (As := [.int (jI v_22), .int (jI x2)]) (rest := []) hx hb hml hown hts hK hS hW (kX10_entriesFrom l hS σ (a0 := a0) (h0 := h0) (x1 := v_22) (r1 := (by omega)) (x2 := x2) (r2 := (by omega))) 2 gX10_joinIfEmptied_X10_entriesFrom rfl hvX10_entriesFrom ⟨Nat.le_of_ble_eq_true rfl, Nat.le_of_ble_eq_true rfl⟩ rfl rfl h0 rfl rfl rfl rfl hl.1 rfl (Nat.le_of_ble_eq_true rfl) dX10_joinIfEmptied_89 ⟨Nat.le_of_ble_eq_true rfl, Nat.le_of_ble_eq_true rfl⟩) (fun v_23 rv_23 pv_23 => ?_)
          try dsimp only at pv_23
          refine lv_iload hx hb dX10_joinIfEmptied_92 (lv_at hl 2 rfl) ?_
          refine j_add hx hb dX10_joinIfEmptied_94 ?_
          refine j_wrap (fun z_24 rz_24 ez_24 => ?_)
          refine lv_iload_n hx hb dX10_joinIfEmptied_95 rfl (lv_at hl 3 rfl) ?_
          refine j_icmp_gt (tgt := 115) hx hb (by omega) (by omega) dX10_joinIfEmptied_96 (by decide) (fun c_25 => ?_) (fun c_25 => ?_)
          · exact hRet 115 _ _ _ _ dX10_joinIfEmptied_115 hW hF ⟨trivial, hR⟩
          · refine lv_aload_n hx hb dX10_joinIfEmptied_99 rfl (lv_at hl 4 rfl) ?_
            refine lv_iload_n hx hb dX10_joinIfEmptied_100 rfl (lv_at hl 5 rfl) ?_
            refine j_const hx hb dX10_joinIfEmptied_101 ?_
            refine j_cV (j_runV (As := [.int (jI x1), .int (jI 0)]) (rest := []) hx hb hml hown hts hK hS hW (kX10_setOpens l hS σ (a0 := a0) (h0 := h0) (x1 := x1) (r1 := (by omega)) (x2 := 0) (r2 := (by decide)) (q0 := (by omega)) (q1 := (by omega))) 2 gX10_joinIfEmptied_X10_setOpens rfl hvX10_setOpens ⟨Nat.le_of_ble_eq_true rfl, Nat.le_of_ble_eq_true rfl⟩ rfl rfl h0 rfl rfl rfl rfl hl.1 rfl (Nat.le_of_ble_eq_true rfl) dX10_joinIfEmptied_102 ⟨Nat.le_of_ble_eq_true rfl, Nat.le_of_ble_eq_true rfl⟩) hA hF (fun σ_26 H locs hW hF pσ_26 => ?_)
            try dsimp only at pσ_26
            obtain ⟨pσ_26, fpσ_26⟩ := pσ_26
            have hR := fr_call hR fpσ_26 (by decide)
            refine lv_aload_n hx hb dX10_joinIfEmptied_105 rfl (lv_at hl 4 rfl) ?_
            refine lv_dup hx hb dX10_joinIfEmptied_106 rfl ?_
            refine j_getI hx hb (C := RX10) (T := TX10) (N := 9) hts inX10_joinIfEmptied_X10 hown hK hS hW h0 rfl 6 rfl rfl (by decide) (hts _ flX10_joinIfEmptied_36) dX10_joinIfEmptied_107 ?_
            have := fbd hW h0 (k := 6) (lo := -2147483648) (hi := 2147483647) rfl rfl
            refine j_const hx hb dX10_joinIfEmptied_110 ?_
            refine j_add hx hb dX10_joinIfEmptied_111 ?_
            refine j_wrap (fun z_27 rz_27 ez_27 => ?_)
            refine j_putI hx hb (C := RX10) (T := TX10) (N := 9) hts inX10_joinIfEmptied_X10 tyX10 tyX10_ok nmX10 hown hK hS hA hW hF h0 rfl 6 (lo := -2147483648) (hi := 2147483647) rfl rfl (by decide) (hts _ flX10_joinIfEmptied_36) rfl .int rfl (by omega) rfl rfl dX10_joinIfEmptied_112 (fun σ_28 H locs e_29 hW hF => ?_)
            have hR := fr_up hR e_29 h0 11006 rfl (by decide)
            have : σ_28 a0 6 = z_27 := by rw [e_29]; exact up2_at _ _ _ _
            exact hRet 115 _ _ _ _ dX10_joinIfEmptied_115 hW hF ⟨trivial, hR⟩
    · refine lv_aload_n hx hb dX10_joinIfEmptied_42 rfl (lv_at hl 3 rfl) ?_
      refine lv_iload hx hb dX10_joinIfEmptied_43 (lv_at hl 0 rfl) ?_
      refine j_const hx hb dX10_joinIfEmptied_45 ?_
      refine j_cV (j_runV (As := [.int (jI v_3), .int (jI 0)]) (rest := []) hx hb hml hown hts hK hS hW (kX10_setOpens l hS σ (a0 := a0) (h0 := h0) (x1 := v_3) (r1 := (by omega)) (x2 := 0) (r2 := (by decide)) (q0 := (by omega)) (q1 := (by omega))) 2 gX10_joinIfEmptied_X10_setOpens rfl hvX10_setOpens ⟨Nat.le_of_ble_eq_true rfl, Nat.le_of_ble_eq_true rfl⟩ rfl rfl h0 rfl rfl rfl rfl hl.1 rfl (Nat.le_of_ble_eq_true rfl) dX10_joinIfEmptied_46 ⟨Nat.le_of_ble_eq_true rfl, Nat.le_of_ble_eq_true rfl⟩) hA hF (fun σ_30 H locs hW hF pσ_30 => ?_)
      try dsimp only at pσ_30
      obtain ⟨pσ_30, fpσ_30⟩ := pσ_30
      have hR := fr_call hR fpσ_30 (by decide)
      refine lv_aload_n hx hb dX10_joinIfEmptied_49 rfl (lv_at hl 3 rfl) ?_
      refine lv_dup hx hb dX10_joinIfEmptied_50 rfl ?_
      refine j_getI hx hb (C := RX10) (T := TX10) (N := 9) hts inX10_joinIfEmptied_X10 hown hK hS hW h0 rfl 6 rfl rfl (by decide) (hts _ flX10_joinIfEmptied_36) dX10_joinIfEmptied_51 ?_
      have := fbd hW h0 (k := 6) (lo := -2147483648) (hi := 2147483647) rfl rfl
      refine j_const hx hb dX10_joinIfEmptied_54 ?_
      refine j_add hx hb dX10_joinIfEmptied_55 ?_
      refine j_wrap (fun z_31 rz_31 ez_31 => ?_)
      refine j_putI hx hb (C := RX10) (T := TX10) (N := 9) hts inX10_joinIfEmptied_X10 tyX10 tyX10_ok nmX10 hown hK hS hA hW hF h0 rfl 6 (lo := -2147483648) (hi := 2147483647) rfl rfl (by decide) (hts _ flX10_joinIfEmptied_36) rfl .int rfl (by omega) rfl rfl dX10_joinIfEmptied_56 (fun σ_32 H locs e_33 hW hF => ?_)
      have hR := fr_up hR e_33 h0 11006 rfl (by decide)
      have : σ_32 a0 6 = z_31 := by rw [e_33]; exact up2_at _ _ _ _
      refine lv_goto (tgt := 115) hx hb dX10_joinIfEmptied_59 (by decide) ?_
      exact hRet 115 _ _ _ _ dX10_joinIfEmptied_115 hW hF ⟨trivial, hR⟩
abbrev wr_X10_foldOver : List Nat := [11008]
theorem flX10_foldOver_12 : Cond.fieldLink RX10 12 "PageTrie$Trie" "keys" "LPageTrie$Keys;" ∈ wsX10_foldOver := List.mem_of_getElem? (i := 1) rfl
theorem flX10_foldOver_42 : Cond.fieldLink RX10 42 "PageTrie$Trie" "folded" "I" ∈ wsX10_foldOver := List.mem_of_getElem? (i := 2) rfl
theorem inX10_foldOver_X10 : ∀ w ∈ u_ws RX10 TX10 9, w ∈ wsX10_foldOver := mem_r _ [24, 25, 26, 27, 28, 29, 30, 31, 32] rfl
theorem hvX10_foldOver : yX10_foldOver.cls = RX10 ∧ yX10_foldOver.cls ≠ "java/lang/invoke/MethodHandle" ∧ yX10_foldOver.cls ≠ "java/lang/invoke/VarHandle" ∧ (parseMethodDescriptor yX10_foldOver.desc).map (fun d => d.parameters.length) = some 2 := by decide +kernel
set_option maxHeartbeats 4000000 in
set_option maxRecDepth 100000 in
theorem kX10_foldOver (l : Launch) {D : va_G} {cA : Nat → ClassId} {τ : Nat → Nat} {G : Nat → Nat → Nat} {L : List Nat} (hS : SW τ G L) (σ : Nat → Nat → Int) {a0 : Nat} (h0 : τ a0 = 11) {x1 : Int} (r1 : rg x1) {x2 : Int} (r2 : rg x2) : Met l yX10_foldOver wsX10_foldOver ({ frames := 2, cells := 0, slots := 0, locals := 45 }) (jP D cA τ G L σ [.ref a0, .int (jI x1), .int (jI x2)]) (jQV D cA τ G L (fun σ' => (True) ∧ fr wr_X10_foldOver τ σ σ')) 0 0 (fun q => q ∈ L) := by
  refine j_metV (by decide +kernel) rfl (Nat.le_of_ble_eq_true rfl) ?_
  intro p e s m args below meth c Q hx hb hml hown hts hK hW hRet ls hl
  have hl : lv_has ls 3 [(0, .ref a0), (1, .int (jI x1)), (2, .int (jI x2))] := hl
  have hA : ∀ q ∈ L, (fun q => q ∈ L) q := fun _ h => h
  have hF : va_S (fun q => q ∈ L) s.heap s.heap [] := va_S.rf
  have hR : fr wr_X10_foldOver τ σ σ := fr_rf
  refine lv_aload_n hx hb dX10_foldOver_0 rfl (lv_at hl 0 rfl) ?_
  refine j_getR hx hb (C := RX10) (T := TX10) (N := 9) hts inX10_foldOver_X10 hown hK hS hW h0 rfl 0 rfl rfl (by decide) (hts _ flX10_foldOver_12) dX10_foldOver_1 ?_
  have h_1 : τ (G a0 0) = 4 := gty hS h0 (k := 0) rfl rfl
  refine lv_iload_n hx hb dX10_foldOver_4 rfl (lv_at hl 1 rfl) ?_
  refine j_cR (j_runV (As := [.int (jI x1)]) (rest := []) hx hb hml hown hts hK hS hW (kX3_has l hS σ (a0 := G a0 0) (h0 := h_1) (x1 := x1) (r1 := (by omega))) 1 gX10_foldOver_X3_has rfl hvX3_has ⟨Nat.le_of_ble_eq_true rfl, Nat.le_of_ble_eq_true rfl⟩ rfl rfl h_1 rfl rfl rfl rfl hl.1 rfl (Nat.le_of_ble_eq_true rfl) dX10_foldOver_5 ⟨Nat.le_of_ble_eq_true rfl, Nat.le_of_ble_eq_true rfl⟩) (fun v_2 rv_2 pv_2 => ?_)
  try dsimp only at pv_2
  refine j_if_eq (tgt := 31) hx hb (by omega) dX10_foldOver_8 (by decide) (fun c_3 => ?_) (fun c_3 => ?_)
  · exact hRet 31 _ _ _ _ dX10_foldOver_31 hW hF ⟨trivial, hR⟩
  · refine lv_aload_n hx hb dX10_foldOver_11 rfl (lv_at hl 0 rfl) ?_
    refine lv_dup hx hb dX10_foldOver_12 rfl ?_
    refine j_getI hx hb (C := RX10) (T := TX10) (N := 9) hts inX10_foldOver_X10 hown hK hS hW h0 rfl 8 rfl rfl (by decide) (hts _ flX10_foldOver_42) dX10_foldOver_13 ?_
    have := fbd hW h0 (k := 8) (lo := -2147483648) (hi := 2147483647) rfl rfl
    refine j_const hx hb dX10_foldOver_16 ?_
    refine lv_iload_n hx hb dX10_foldOver_17 rfl (lv_at hl 2 rfl) ?_
    refine lv_aload_n hx hb dX10_foldOver_18 rfl (lv_at hl 0 rfl) ?_
    refine lv_iload_n hx hb dX10_foldOver_19 rfl (lv_at hl 1 rfl) ?_
    refine j_cR (j_runV (As := [.int (jI x1)]) (rest := [.int (jI x2), .int (jI 0), .int (jI (σ a0 8)), .ref a0]) hx hb hml hown hts hK hS hW (kX10_depthOf l hS σ (a0 := a0) (h0 := h0) (x1 := x1) (r1 := (by omega))) 1 gX10_foldOver_X10_depthOf rfl hvX10_depthOf ⟨Nat.le_of_ble_eq_true rfl, Nat.le_of_ble_eq_true rfl⟩ rfl rfl h0 rfl rfl rfl rfl hl.1 rfl (Nat.le_of_ble_eq_true rfl) dX10_foldOver_20 ⟨Nat.le_of_ble_eq_true rfl, Nat.le_of_ble_eq_true rfl⟩) (fun v_4 rv_4 pv_4 => ?_)
    try dsimp only at pv_4
    refine j_sub hx hb dX10_foldOver_23 ?_
    refine j_wrap (fun z_5 rz_5 ez_5 => ?_)
    refine j_mmax hx hb (hml.trans hl.1.symm) hown (hts (.methodLink RX10 95 Lib.Math.max.name) (by decide +kernel)) (hts (.static Lib.Math.max.name) (by decide +kernel)) (hts (.initialized "java/lang/Math") (by decide +kernel)) (hts (.code Lib.Math.max.name Lib.Math.max.code 2 (some .int)) (by decide +kernel)) (Nat.le_of_ble_eq_true rfl) (Nat.le_of_ble_eq_true rfl) (Nat.le_of_ble_eq_true rfl) (Nat.le_of_ble_eq_true rfl) (by decide) (by omega) dX10_foldOver_24 (fun z_6 rz_6 ez_6 => ?_)
    refine j_add hx hb dX10_foldOver_27 ?_
    refine j_wrap (fun z_7 rz_7 ez_7 => ?_)
    refine j_putI hx hb (C := RX10) (T := TX10) (N := 9) hts inX10_foldOver_X10 tyX10 tyX10_ok nmX10 hown hK hS hA hW hF h0 rfl 8 (lo := -2147483648) (hi := 2147483647) rfl rfl (by decide) (hts _ flX10_foldOver_42) rfl .int rfl (by omega) rfl rfl dX10_foldOver_28 (fun σ_8 H locs e_9 hW hF => ?_)
    have hR := fr_up hR e_9 h0 11008 rfl (by decide)
    have : σ_8 a0 8 = z_7 := by rw [e_9]; exact up2_at _ _ _ _
    exact hRet 31 _ _ _ _ dX10_foldOver_31 hW hF ⟨trivial, hR⟩
abbrev wr_X10_removeAt : List Nat := [4003, 11006, 11008, 22000, 23000, 24000, 25000, 26000]
theorem flX10_removeAt_12 : Cond.fieldLink RX10 12 "PageTrie$Trie" "keys" "LPageTrie$Keys;" ∈ wsX10_removeAt := List.mem_of_getElem? (i := 1) rfl
theorem flX10_removeAt_18 : Cond.fieldLink RX10 18 "PageTrie$Trie" "shared" "[I" ∈ wsX10_removeAt := List.mem_of_getElem? (i := 3) rfl
theorem flX10_removeAt_22 : Cond.fieldLink RX10 22 "PageTrie$Trie" "opens" "[Z" ∈ wsX10_removeAt := List.mem_of_getElem? (i := 8) rfl
theorem flX10_removeAt_45 : Cond.fieldLink RX10 45 "PageTrie$Keys" "size" "I" ∈ wsX10_removeAt := List.mem_of_getElem? (i := 2) rfl
theorem inX10_removeAt_X10 : ∀ w ∈ u_ws RX10 TX10 9, w ∈ wsX10_removeAt := mem_r _ [80, 81, 82, 83, 84, 85, 86, 87, 88] rfl
theorem inX10_removeAt_X3 : ∀ w ∈ u_ws RX3 TX3 4, w ∈ wsX10_removeAt := mem_r _ [89, 90, 91, 92] rfl
theorem hvX10_removeAt : yX10_removeAt.cls = RX10 ∧ yX10_removeAt.cls ≠ "java/lang/invoke/MethodHandle" ∧ yX10_removeAt.cls ≠ "java/lang/invoke/VarHandle" ∧ (parseMethodDescriptor yX10_removeAt.desc).map (fun d => d.parameters.length) = some 1 := by decide +kernel
set_option maxHeartbeats 4000000 in
set_option maxRecDepth 100000 in
theorem kX10_removeAt (l : Launch) {D : va_G} {cA : Nat → ClassId} {τ : Nat → Nat} {G : Nat → Nat → Nat} {L : List Nat} (hS : SW τ G L) (σ : Nat → Nat → Int) {a0 : Nat} (h0 : τ a0 = 11) {x1 : Int} (r1 : rg x1) : Met l yX10_removeAt wsX10_removeAt ({ frames := 3, cells := 0, slots := 0, locals := 72 }) (jP D cA τ G L σ [.ref a0, .int (jI x1)]) (jQV D cA τ G L (fun σ' => (True) ∧ fr wr_X10_removeAt τ σ σ')) 0 0 (fun q => q ∈ L) := by
  refine j_metV (by decide +kernel) rfl (Nat.le_of_ble_eq_true rfl) ?_
  intro p e s m args below meth c Q hx hb hml hown hts hK hW hRet ls hl
  have hl : lv_has ls 8 [(0, .ref a0), (1, .int (jI x1))] := hl
  have hA : ∀ q ∈ L, (fun q => q ∈ L) q := fun _ h => h
  have hF : va_S (fun q => q ∈ L) s.heap s.heap [] := va_S.rf
  have hR : fr wr_X10_removeAt τ σ σ := fr_rf
  refine lv_aload_n hx hb dX10_removeAt_0 rfl (lv_at hl 0 rfl) ?_
  refine j_getR hx hb (C := RX10) (T := TX10) (N := 9) hts inX10_removeAt_X10 hown hK hS hW h0 rfl 0 rfl rfl (by decide) (hts _ flX10_removeAt_12) dX10_removeAt_1 ?_
  have h_1 : τ (G a0 0) = 4 := gty hS h0 (k := 0) rfl rfl
  refine lv_iload_n hx hb dX10_removeAt_4 rfl (lv_at hl 1 rfl) ?_
  refine j_cR (j_runV (As := [.int (jI x1)]) (rest := []) hx hb hml hown hts hK hS hW (kX3_has l hS σ (a0 := G a0 0) (h0 := h_1) (x1 := x1) (r1 := (by omega))) 1 gX10_removeAt_X3_has rfl hvX3_has ⟨Nat.le_of_ble_eq_true rfl, Nat.le_of_ble_eq_true rfl⟩ rfl rfl h_1 rfl rfl rfl rfl hl.1 rfl (Nat.le_of_ble_eq_true rfl) dX10_removeAt_5 ⟨Nat.le_of_ble_eq_true rfl, Nat.le_of_ble_eq_true rfl⟩) (fun v_2 rv_2 pv_2 => ?_)
  try dsimp only at pv_2
  refine j_if_ne (tgt := 12) hx hb (by omega) dX10_removeAt_8 (by decide) (fun c_3 => ?_) (fun c_3 => ?_)
  · refine lv_aload_n hx hb dX10_removeAt_12 rfl (lv_at hl 0 rfl) ?_
    refine lv_iload_n hx hb dX10_removeAt_13 rfl (lv_at hl 1 rfl) ?_
    refine j_cR (j_runV (As := [.int (jI x1)]) (rest := []) hx hb hml hown hts hK hS hW (kX10_depthOf l hS σ (a0 := a0) (h0 := h0) (x1 := x1) (r1 := (by omega))) 1 gX10_removeAt_X10_depthOf rfl hvX10_depthOf ⟨Nat.le_of_ble_eq_true rfl, Nat.le_of_ble_eq_true rfl⟩ rfl rfl h0 rfl rfl rfl rfl hl.1 rfl (Nat.le_of_ble_eq_true rfl) dX10_removeAt_14 ⟨Nat.le_of_ble_eq_true rfl, Nat.le_of_ble_eq_true rfl⟩) (fun v_4 rv_4 pv_4 => ?_)
    try dsimp only at pv_4
    refine lv_istore_n (lv' := [(2, .int (jI v_4)), (0, .ref a0), (1, .int (jI x1))]) hx hb dX10_removeAt_17 rfl hl (by decide) rfl (fun ls hl => ?_)
    refine lv_aload_n hx hb dX10_removeAt_18 rfl (lv_at hl 1 rfl) ?_
    refine lv_iload_n hx hb dX10_removeAt_19 rfl (lv_at hl 2 rfl) ?_
    refine j_cR (j_runV (As := [.int (jI x1)]) (rest := []) hx hb hml hown hts hK hS hW (kX10_sharedAt l hS σ (a0 := a0) (h0 := h0) (x1 := x1) (r1 := (by omega))) 1 gX10_removeAt_X10_sharedAt rfl hvX10_sharedAt ⟨Nat.le_of_ble_eq_true rfl, Nat.le_of_ble_eq_true rfl⟩ rfl rfl h0 rfl rfl rfl rfl hl.1 rfl (Nat.le_of_ble_eq_true rfl) dX10_removeAt_20 ⟨Nat.le_of_ble_eq_true rfl, Nat.le_of_ble_eq_true rfl⟩) (fun v_5 rv_5 pv_5 => ?_)
    try dsimp only at pv_5
    refine lv_istore_n (lv' := [(3, .int (jI v_5)), (2, .int (jI v_4)), (0, .ref a0), (1, .int (jI x1))]) hx hb dX10_removeAt_23 rfl hl (by decide) rfl (fun ls hl => ?_)
    refine lv_aload_n hx hb dX10_removeAt_24 rfl (lv_at hl 2 rfl) ?_
    refine lv_iload_n hx hb dX10_removeAt_25 rfl (lv_at hl 3 rfl) ?_
    refine j_const hx hb dX10_removeAt_26 ?_
    refine j_add hx hb dX10_removeAt_27 ?_
    refine j_cR (j_runV (As := [.int (jI (x1 + 1))]) (rest := []) hx hb hml hown hts hK hS hW (kX10_sharedAt l hS σ (a0 := a0) (h0 := h0) (x1 := x1 + 1) (r1 := (by omega))) 1 gX10_removeAt_X10_sharedAt rfl hvX10_sharedAt ⟨Nat.le_of_ble_eq_true rfl, Nat.le_of_ble_eq_true rfl⟩ rfl rfl h0 rfl rfl rfl rfl hl.1 rfl (Nat.le_of_ble_eq_true rfl) dX10_removeAt_28 ⟨Nat.le_of_ble_eq_true rfl, Nat.le_of_ble_eq_true rfl⟩) (fun v_6 rv_6 pv_6 => ?_)
    try dsimp only at pv_6
    refine lv_istore (lv' := [(4, .int (jI v_6)), (3, .int (jI v_5)), (2, .int (jI v_4)), (0, .ref a0), (1, .int (jI x1))]) hx hb dX10_removeAt_31 hl (by decide) rfl (fun ls hl => ?_)
    refine lv_aload_n hx hb dX10_removeAt_33 rfl (lv_at hl 3 rfl) ?_
    refine lv_iload_n hx hb dX10_removeAt_34 rfl (lv_at hl 4 rfl) ?_
    refine lv_iload_n hx hb dX10_removeAt_35 rfl (lv_at hl 2 rfl) ?_
    refine j_cR (j_runV (As := [.int (jI x1), .int (jI v_4)]) (rest := []) hx hb hml hown hts hK hS hW (kX10_isPageStart l hS σ (a0 := a0) (h0 := h0) (x1 := x1) (r1 := (by omega)) (x2 := v_4) (r2 := (by omega))) 2 gX10_removeAt_X10_isPageStart rfl hvX10_isPageStart ⟨Nat.le_of_ble_eq_true rfl, Nat.le_of_ble_eq_true rfl⟩ rfl rfl h0 rfl rfl rfl rfl hl.1 rfl (Nat.le_of_ble_eq_true rfl) dX10_removeAt_36 ⟨Nat.le_of_ble_eq_true rfl, Nat.le_of_ble_eq_true rfl⟩) (fun v_7 rv_7 pv_7 => ?_)
    try dsimp only at pv_7
    refine lv_istore (lv' := [(5, .int (jI v_7)), (4, .int (jI v_6)), (3, .int (jI v_5)), (2, .int (jI v_4)), (0, .ref a0), (1, .int (jI x1))]) hx hb dX10_removeAt_39 hl (by decide) rfl (fun ls hl => ?_)
    refine lv_iload hx hb dX10_removeAt_41 (lv_at hl 0 rfl) ?_
    have L_60 : ∀ (t0_60 : Int) (ls : Array Slot), (0 ≤ t0_60) → (t0_60 ≤ 1) → rg t0_60 → lv_has ls 8 [(0, .ref a0), (1, .int (jI x1)), (2, .int (jI v_4)), (3, .int (jI v_5)), (4, .int (jI v_6)), (5, .int (jI v_7))] → W p l e ({ frames := 3, cells := 0, slots := 0, locals := 72 }) s m args below meth c s.heap [] 0 0 Q (F0 m 60 ls [.int (jI t0_60)]) := by
      intro t0_60 ls i0_60 i1_60 rt0_60 hl
      refine lv_istore (lv' := [(6, .int (jI t0_60)), (0, .ref a0), (1, .int (jI x1)), (2, .int (jI v_4)), (3, .int (jI v_5)), (4, .int (jI v_6)), (5, .int (jI v_7))]) hx hb dX10_removeAt_60 hl (by decide) rfl (fun ls hl => ?_)
      refine lv_aload_n hx hb dX10_removeAt_62 rfl (lv_at hl 1 rfl) ?_
      refine lv_iload_n hx hb dX10_removeAt_63 rfl (lv_at hl 2 rfl) ?_
      refine j_cV (j_runV (As := [.int (jI x1)]) (rest := []) hx hb hml hown hts hK hS hW (kX10_closeBreaks l hS σ (a0 := a0) (h0 := h0) (x1 := x1) (r1 := (by omega))) 1 gX10_removeAt_X10_closeBreaks rfl hvX10_closeBreaks ⟨Nat.le_of_ble_eq_true rfl, Nat.le_of_ble_eq_true rfl⟩ rfl rfl h0 rfl rfl rfl rfl hl.1 rfl (Nat.le_of_ble_eq_true rfl) dX10_removeAt_64 ⟨Nat.le_of_ble_eq_true rfl, Nat.le_of_ble_eq_true rfl⟩) hA hF (fun σ_8 H locs hW hF pσ_8 => ?_)
      try dsimp only at pσ_8
      obtain ⟨pσ_8, fpσ_8⟩ := pσ_8
      have hR := fr_call hR fpσ_8 (by decide)
      have : σ_8 (G a0 0) 3 = σ (G a0 0) 3 := fr_at fpσ_8 h_1 3 4003 rfl (by decide)
      refine lv_aload_n hx hb dX10_removeAt_67 rfl (lv_at hl 1 rfl) ?_
      refine j_getR hx hb (C := RX10) (T := TX10) (N := 9) hts inX10_removeAt_X10 hown hK hS hW h0 rfl 0 rfl rfl (by decide) (hts _ flX10_removeAt_12) dX10_removeAt_68 ?_
      refine j_getI hx hb (C := RX3) (T := TX3) (N := 4) hts inX10_removeAt_X3 hown hK hS hW h_1 rfl 3 rfl rfl (by decide) (hts _ flX10_removeAt_45) dX10_removeAt_71 ?_
      have := fbd hW h_1 (k := 3) (lo := 0) (hi := 150) rfl rfl
      refine lv_iload_n hx hb dX10_removeAt_74 rfl (lv_at hl 2 rfl) ?_
      refine j_sub hx hb dX10_removeAt_75 ?_
      refine j_const hx hb dX10_removeAt_76 ?_
      refine j_sub hx hb dX10_removeAt_77 ?_
      refine lv_istore (lv' := [(7, .int (jI (((σ_8 (G a0 0) 3) - x1) - 1))), (6, .int (jI t0_60)), (0, .ref a0), (1, .int (jI x1)), (2, .int (jI v_4)), (3, .int (jI v_5)), (4, .int (jI v_6)), (5, .int (jI v_7))]) hx hb dX10_removeAt_78 hl (by decide) rfl (fun ls hl => ?_)
      refine lv_aload_n hx hb dX10_removeAt_80 rfl (lv_at hl 2 rfl) ?_
      refine j_getR hx hb (C := RX10) (T := TX10) (N := 9) hts inX10_removeAt_X10 hown hK hS hW h0 rfl 3 rfl rfl (by decide) (hts _ flX10_removeAt_18) dX10_removeAt_81 ?_
      have h_9 : τ (G a0 3) = 25 := gty hS h0 (k := 3) rfl rfl
      refine lv_iload_n hx hb dX10_removeAt_84 rfl (lv_at hl 3 rfl) ?_
      refine j_const hx hb dX10_removeAt_85 ?_
      refine j_add hx hb dX10_removeAt_86 ?_
      refine lv_aload_n hx hb dX10_removeAt_87 rfl (lv_at hl 2 rfl) ?_
      refine j_getR hx hb (C := RX10) (T := TX10) (N := 9) hts inX10_removeAt_X10 hown hK hS hW h0 rfl 3 rfl rfl (by decide) (hts _ flX10_removeAt_18) dX10_removeAt_88 ?_
      refine lv_iload_n hx hb dX10_removeAt_91 rfl (lv_at hl 3 rfl) ?_
      refine lv_iload hx hb dX10_removeAt_92 (lv_at hl 0 rfl) ?_
      refine j_copy hx hb (hml.trans hl.1.symm) hown (hts (.methodLink RX10 52 arraycopyName) (by decide +kernel)) (hts (.native arraycopyName) (by decide +kernel)) (hts (.static arraycopyName) (by decide +kernel)) (hts (.initialized "java/lang/System") (by decide +kernel)) hK hS hA hW hF (ty := .int) h_9 h_9 (n0 := 150) (n1 := 150) rfl rfl rfl (Or.inr (Or.inl rfl)) (by decide) (by decide) (sp := x1 + 1) (dp := x1) (n := ((σ_8 (G a0 0) 3) - x1) - 1) (by omega) (by omega) (by omega) (by omega) (by omega) (Nat.le_of_ble_eq_true rfl) (Nat.le_of_ble_eq_true rfl) dX10_removeAt_94 (fun σ_10 H locs e_11 hW hF => ?_)
      have hR := fr_cp hR e_11 h_9 25000 (cdA 25 (by decide)) (by decide)
      have : σ_10 (G a0 0) 3 = σ_8 (G a0 0) 3 := e_11 _ _ (fun h => absurd ((h_1).symm.trans ((congrArg τ h).trans h_9)) (by decide))
      refine lv_aload_n hx hb dX10_removeAt_97 rfl (lv_at hl 2 rfl) ?_
      refine j_getR hx hb (C := RX10) (T := TX10) (N := 9) hts inX10_removeAt_X10 hown hK hS hW h0 rfl 4 rfl rfl (by decide) (hts _ flX10_removeAt_22) dX10_removeAt_98 ?_
      have h_12 : τ (G a0 4) = 26 := gty hS h0 (k := 4) rfl rfl
      refine lv_iload_n hx hb dX10_removeAt_101 rfl (lv_at hl 3 rfl) ?_
      refine j_const hx hb dX10_removeAt_102 ?_
      refine j_add hx hb dX10_removeAt_103 ?_
      refine lv_aload_n hx hb dX10_removeAt_104 rfl (lv_at hl 2 rfl) ?_
      refine j_getR hx hb (C := RX10) (T := TX10) (N := 9) hts inX10_removeAt_X10 hown hK hS hW h0 rfl 4 rfl rfl (by decide) (hts _ flX10_removeAt_22) dX10_removeAt_105 ?_
      refine lv_iload_n hx hb dX10_removeAt_108 rfl (lv_at hl 3 rfl) ?_
      refine lv_iload hx hb dX10_removeAt_109 (lv_at hl 0 rfl) ?_
      refine j_copy hx hb (hml.trans hl.1.symm) hown (hts (.methodLink RX10 52 arraycopyName) (by decide +kernel)) (hts (.native arraycopyName) (by decide +kernel)) (hts (.static arraycopyName) (by decide +kernel)) (hts (.initialized "java/lang/System") (by decide +kernel)) hK hS hA hW hF (ty := .boolean) h_12 h_12 (n0 := 150) (n1 := 150) rfl rfl rfl (Or.inr (Or.inr ⟨rfl, rfl⟩)) (by decide) (by decide) (sp := x1 + 1) (dp := x1) (n := ((σ_8 (G a0 0) 3) - x1) - 1) (by omega) (by omega) (by omega) (by omega) (by omega) (Nat.le_of_ble_eq_true rfl) (Nat.le_of_ble_eq_true rfl) dX10_removeAt_111 (fun σ_13 H locs e_14 hW hF => ?_)
      have hR := fr_cp hR e_14 h_12 26000 (cdA 26 (by decide)) (by decide)
      have : σ_13 (G a0 0) 3 = σ_10 (G a0 0) 3 := e_14 _ _ (fun h => absurd ((h_1).symm.trans ((congrArg τ h).trans h_12)) (by decide))
      refine lv_aload_n hx hb dX10_removeAt_114 rfl (lv_at hl 2 rfl) ?_
      refine j_getR hx hb (C := RX10) (T := TX10) (N := 9) hts inX10_removeAt_X10 hown hK hS hW h0 rfl 0 rfl rfl (by decide) (hts _ flX10_removeAt_12) dX10_removeAt_115 ?_
      refine lv_iload_n hx hb dX10_removeAt_118 rfl (lv_at hl 3 rfl) ?_
      refine j_cV (j_runV (As := [.int (jI x1)]) (rest := []) hx hb hml hown hts hK hS hW (kX3_removeAt l hS σ_13 (a0 := G a0 0) (h0 := h_1) (x1 := x1) (r1 := (by omega))) 1 gX10_removeAt_X3_removeAt rfl hvX3_removeAt ⟨Nat.le_of_ble_eq_true rfl, Nat.le_of_ble_eq_true rfl⟩ rfl rfl h_1 rfl rfl rfl rfl hl.1 rfl (Nat.le_of_ble_eq_true rfl) dX10_removeAt_119 ⟨Nat.le_of_ble_eq_true rfl, Nat.le_of_ble_eq_true rfl⟩) hA hF (fun σ_15 H locs hW hF pσ_15 => ?_)
      try dsimp only at pσ_15
      obtain ⟨pσ_15, fpσ_15⟩ := pσ_15
      have hR := fr_call hR fpσ_15 (by decide)
      refine lv_iload hx hb dX10_removeAt_122 (lv_at hl 1 rfl) ?_
      have L_149 : ∀ (σ_149 : Nat → Nat → Int) (H : Heap) (locs : List Loc) (ls : Array Slot), PW D cA τ G L σ_149 H → va_S (fun q => q ∈ L) s.heap H locs → fr wr_X10_removeAt τ σ σ_149 → lv_has ls 8 [(0, .ref a0), (1, .int (jI x1)), (2, .int (jI v_4)), (3, .int (jI v_5)), (4, .int (jI v_6))] → W p l e ({ frames := 3, cells := 0, slots := 0, locals := 72 }) s m args below meth c H locs 0 0 Q (F0 m 149 ls []) := by
        intro σ_149 H locs ls hW hF hR hl
        refine lv_aload_n hx hb dX10_removeAt_149 rfl (lv_at hl 0 rfl) ?_
        refine lv_iload_n hx hb dX10_removeAt_150 rfl (lv_at hl 1 rfl) ?_
        refine j_if_le (tgt := 166) hx hb (by omega) dX10_removeAt_151 (by decide) (fun c_16 => ?_) (fun c_16 => ?_)
        · refine lv_iload_n hx hb dX10_removeAt_166 rfl (lv_at hl 1 rfl) ?_
          refine lv_iload_n hx hb dX10_removeAt_167 rfl (lv_at hl 2 rfl) ?_
          refine j_cV (j_runV (As := [.int (jI x1), .int (jI v_4)]) (rest := []) hx hb hml hown hts hK hS hW (kX10_foldOver l hS σ_149 (a0 := a0) (h0 := h0) (x1 := x1) (r1 := (by omega)) (x2 := v_4) (r2 := (by omega))) 2 gX10_removeAt_X10_foldOver rfl hvX10_foldOver ⟨Nat.le_of_ble_eq_true rfl, Nat.le_of_ble_eq_true rfl⟩ rfl rfl h0 rfl rfl rfl rfl hl.1 rfl (Nat.le_of_ble_eq_true rfl) dX10_removeAt_168 ⟨Nat.le_of_ble_eq_true rfl, Nat.le_of_ble_eq_true rfl⟩) hA hF (fun σ_17 H locs hW hF pσ_17 => ?_)
          try dsimp only at pσ_17
          obtain ⟨pσ_17, fpσ_17⟩ := pσ_17
          have hR := fr_call hR fpσ_17 (by decide)
          have : σ_17 (G a0 0) 3 = σ_149 (G a0 0) 3 := fr_at fpσ_17 h_1 3 4003 rfl (by decide)
          exact hRet 171 _ _ _ _ dX10_removeAt_171 hW hF ⟨trivial, hR⟩
        · refine lv_iload_n hx hb dX10_removeAt_154 rfl (lv_at hl 3 rfl) ?_
          refine lv_iload hx hb dX10_removeAt_155 (lv_at hl 4 rfl) ?_
          refine j_icmp_lt (tgt := 166) hx hb (by omega) (by omega) dX10_removeAt_157 (by decide) (fun c_18 => ?_) (fun c_18 => ?_)
          · refine lv_iload_n hx hb dX10_removeAt_166 rfl (lv_at hl 1 rfl) ?_
            refine lv_iload_n hx hb dX10_removeAt_167 rfl (lv_at hl 2 rfl) ?_
            refine j_cV (j_runV (As := [.int (jI x1), .int (jI v_4)]) (rest := []) hx hb hml hown hts hK hS hW (kX10_foldOver l hS σ_149 (a0 := a0) (h0 := h0) (x1 := x1) (r1 := (by omega)) (x2 := v_4) (r2 := (by omega))) 2 gX10_removeAt_X10_foldOver rfl hvX10_foldOver ⟨Nat.le_of_ble_eq_true rfl, Nat.le_of_ble_eq_true rfl⟩ rfl rfl h0 rfl rfl rfl rfl hl.1 rfl (Nat.le_of_ble_eq_true rfl) dX10_removeAt_168 ⟨Nat.le_of_ble_eq_true rfl, Nat.le_of_ble_eq_true rfl⟩) hA hF (fun σ_19 H locs hW hF pσ_19 => ?_)
            try dsimp only at pσ_19
            obtain ⟨pσ_19, fpσ_19⟩ := pσ_19
            have hR := fr_call hR fpσ_19 (by decide)
            have : σ_19 (G a0 0) 3 = σ_149 (G a0 0) 3 := fr_at fpσ_19 h_1 3 4003 rfl (by decide)
            exact hRet 171 _ _ _ _ dX10_removeAt_171 hW hF ⟨trivial, hR⟩
          · refine lv_iload_n hx hb dX10_removeAt_160 rfl (lv_at hl 1 rfl) ?_
            refine j_const hx hb dX10_removeAt_161 ?_
            refine j_sub hx hb dX10_removeAt_162 ?_
            refine lv_goto (tgt := 167) hx hb dX10_removeAt_163 (by decide) ?_
            refine lv_iload_n hx hb dX10_removeAt_167 rfl (lv_at hl 2 rfl) ?_
            refine j_cV (j_runV (As := [.int (jI (x1 - 1)), .int (jI v_4)]) (rest := []) hx hb hml hown hts hK hS hW (kX10_foldOver l hS σ_149 (a0 := a0) (h0 := h0) (x1 := x1 - 1) (r1 := (by omega)) (x2 := v_4) (r2 := (by omega))) 2 gX10_removeAt_X10_foldOver rfl hvX10_foldOver ⟨Nat.le_of_ble_eq_true rfl, Nat.le_of_ble_eq_true rfl⟩ rfl rfl h0 rfl rfl rfl rfl hl.1 rfl (Nat.le_of_ble_eq_true rfl) dX10_removeAt_168 ⟨Nat.le_of_ble_eq_true rfl, Nat.le_of_ble_eq_true rfl⟩) hA hF (fun σ_20 H locs hW hF pσ_20 => ?_)
            try dsimp only at pσ_20
            obtain ⟨pσ_20, fpσ_20⟩ := pσ_20
            have hR := fr_call hR fpσ_20 (by decide)
            have : σ_20 (G a0 0) 3 = σ_149 (G a0 0) 3 := fr_at fpσ_20 h_1 3 4003 rfl (by decide)
            exact hRet 171 _ _ _ _ dX10_removeAt_171 hW hF ⟨trivial, hR⟩
      refine j_if_ne (tgt := 149) hx hb (by omega) dX10_removeAt_124 (by decide) (fun c_21 => ?_) (fun c_21 => ?_)
      · exact L_149 σ_15 _ _ _ hW hF hR (lv_sub hl [2, 3, 4, 5, 6] rfl)
      · refine lv_aload_n hx hb dX10_removeAt_127 rfl (lv_at hl 2 rfl) ?_
        refine lv_aload_n hx hb dX10_removeAt_128 rfl (lv_at hl 2 rfl) ?_
        refine lv_iload hx hb dX10_removeAt_129 (lv_at hl 7 rfl) ?_
        refine j_if_eq (tgt := 138) hx hb (by omega) dX10_removeAt_131 (by decide) (fun c_22 => ?_) (fun c_22 => ?_)
        · refine lv_iload_n hx hb dX10_removeAt_138 rfl (lv_at hl 3 rfl) ?_
          refine j_const hx hb dX10_removeAt_139 ?_
          refine j_sub hx hb dX10_removeAt_140 ?_
          refine lv_iload_n hx hb dX10_removeAt_141 rfl (lv_at hl 4 rfl) ?_
          refine j_cR (j_runV (As := [.int (jI (x1 - 1)), .int (jI v_4)]) (rest := [.ref a0]) hx hb hml hown hts hK hS hW (kX10_pageStart l hS σ_15 (a0 := a0) (h0 := h0) (x1 := x1 - 1) (r1 := (by omega)) (x2 := v_4) (r2 := (by omega))) 2 gX10_removeAt_X10_pageStart rfl hvX10_pageStart ⟨Nat.le_of_ble_eq_true rfl, Nat.le_of_ble_eq_true rfl⟩ rfl rfl h0 rfl rfl rfl rfl hl.1 rfl (Nat.le_of_ble_eq_true rfl) dX10_removeAt_142 ⟨Nat.le_of_ble_eq_true rfl, Nat.le_of_ble_eq_true rfl⟩) (fun v_23 rv_23 pv_23 => ?_)
          try dsimp only at pv_23
          refine lv_iload_n hx hb dX10_removeAt_145 rfl (lv_at hl 4 rfl) ?_
          refine j_cV (j_runV (As := [.int (jI v_23), .int (jI v_4)]) (rest := []) hx hb hml hown hts hK hS hW (kX10_joinIfEmptied l hS σ_15 (a0 := a0) (h0 := h0) (x1 := v_23) (r1 := (by omega)) (x2 := v_4) (r2 := (by omega))) 2 gX10_removeAt_X10_joinIfEmptied rfl hvX10_joinIfEmptied ⟨Nat.le_of_ble_eq_true rfl, Nat.le_of_ble_eq_true rfl⟩ rfl rfl h0 rfl rfl rfl rfl hl.1 rfl (Nat.le_of_ble_eq_true rfl) dX10_removeAt_146 ⟨Nat.le_of_ble_eq_true rfl, Nat.le_of_ble_eq_true rfl⟩) hA hF (fun σ_24 H locs hW hF pσ_24 => ?_)
          try dsimp only at pσ_24
          obtain ⟨pσ_24, fpσ_24⟩ := pσ_24
          have hR := fr_call hR fpσ_24 (by decide)
          have : σ_24 (G a0 0) 3 = σ_15 (G a0 0) 3 := fr_at fpσ_24 h_1 3 4003 rfl (by decide)
          exact L_149 σ_24 _ _ _ hW hF hR (lv_sub hl [2, 3, 4, 5, 6] rfl)
        · refine lv_iload_n hx hb dX10_removeAt_134 rfl (lv_at hl 3 rfl) ?_
          refine lv_goto (tgt := 141) hx hb dX10_removeAt_135 (by decide) ?_
          refine lv_iload_n hx hb dX10_removeAt_141 rfl (lv_at hl 4 rfl) ?_
          refine j_cR (j_runV (As := [.int (jI x1), .int (jI v_4)]) (rest := [.ref a0]) hx hb hml hown hts hK hS hW (kX10_pageStart l hS σ_15 (a0 := a0) (h0 := h0) (x1 := x1) (r1 := (by omega)) (x2 := v_4) (r2 := (by omega))) 2 gX10_removeAt_X10_pageStart rfl hvX10_pageStart ⟨Nat.le_of_ble_eq_true rfl, Nat.le_of_ble_eq_true rfl⟩ rfl rfl h0 rfl rfl rfl rfl hl.1 rfl (Nat.le_of_ble_eq_true rfl) dX10_removeAt_142 ⟨Nat.le_of_ble_eq_true rfl, Nat.le_of_ble_eq_true rfl⟩) (fun v_25 rv_25 pv_25 => ?_)
          try dsimp only at pv_25
          refine lv_iload_n hx hb dX10_removeAt_145 rfl (lv_at hl 4 rfl) ?_
          refine j_cV (j_runV (As := [.int (jI v_25), .int (jI v_4)]) (rest := []) hx hb hml hown hts hK hS hW (kX10_joinIfEmptied l hS σ_15 (a0 := a0) (h0 := h0) (x1 := v_25) (r1 := (by omega)) (x2 := v_4) (r2 := (by omega))) 2 gX10_removeAt_X10_joinIfEmptied rfl hvX10_joinIfEmptied ⟨Nat.le_of_ble_eq_true rfl, Nat.le_of_ble_eq_true rfl⟩ rfl rfl h0 rfl rfl rfl rfl hl.1 rfl (Nat.le_of_ble_eq_true rfl) dX10_removeAt_146 ⟨Nat.le_of_ble_eq_true rfl, Nat.le_of_ble_eq_true rfl⟩) hA hF (fun σ_26 H locs hW hF pσ_26 => ?_)
          try dsimp only at pσ_26
          obtain ⟨pσ_26, fpσ_26⟩ := pσ_26
          have hR := fr_call hR fpσ_26 (by decide)
          have : σ_26 (G a0 0) 3 = σ_15 (G a0 0) 3 := fr_at fpσ_26 h_1 3 4003 rfl (by decide)
          exact L_149 σ_26 _ _ _ hW hF hR (lv_sub hl [2, 3, 4, 5, 6] rfl)
    refine j_if_eq (tgt := 59) hx hb (by omega) dX10_removeAt_43 (by decide) (fun c_27 => ?_) (fun c_27 => ?_)
    · refine j_const hx hb dX10_removeAt_59 ?_
      exact L_60 0 _ (by omega) (by omega) (by decide) (lv_sub hl [4, 5, 3, 2, 1, 0] rfl)
    · refine lv_aload_n hx hb dX10_removeAt_46 rfl (lv_at hl 4 rfl) ?_
      refine lv_iload_n hx hb dX10_removeAt_47 rfl (lv_at hl 5 rfl) ?_
      refine lv_iload_n hx hb dX10_removeAt_48 rfl (lv_at hl 3 rfl) ?_
      refine j_cR (j_runV (As := [.int (jI x1), .int (jI v_4)]) (rest := []) hx hb hml hown hts hK hS hW (kX10_isPageEnd l hS σ (a0 := a0) (h0 := h0) (x1 := x1) (r1 := (by omega)) (x2 := v_4) (r2 := (by omega))) 2 gX10_removeAt_X10_isPageEnd rfl hvX10_isPageEnd ⟨Nat.le_of_ble_eq_true rfl, Nat.le_of_ble_eq_true rfl⟩ rfl rfl h0 rfl rfl rfl rfl hl.1 rfl (Nat.le_of_ble_eq_true rfl) dX10_removeAt_49 ⟨Nat.le_of_ble_eq_true rfl, Nat.le_of_ble_eq_true rfl⟩) (fun v_28 rv_28 pv_28 => ?_)
      try dsimp only at pv_28
      refine j_if_eq (tgt := 59) hx hb (by omega) dX10_removeAt_52 (by decide) (fun c_29 => ?_) (fun c_29 => ?_)
      · refine j_const hx hb dX10_removeAt_59 ?_
        exact L_60 0 _ (by omega) (by omega) (by decide) (lv_sub hl [4, 5, 3, 2, 1, 0] rfl)
      · refine j_const hx hb dX10_removeAt_55 ?_
        refine lv_goto (tgt := 60) hx hb dX10_removeAt_56 (by decide) ?_
        exact L_60 1 _ (by omega) (by omega) (by decide) (lv_sub hl [4, 5, 3, 2, 1, 0] rfl)
  · exact hRet 11 _ _ _ _ dX10_removeAt_11 hW hF ⟨trivial, hR⟩
abbrev wr_X10_putAllOf : List Nat := [4003, 11001, 11002, 11005, 11006, 11007, 11008, 22000, 23000, 24000, 25000, 26000]
theorem flX10_putAllOf_12 : Cond.fieldLink RX10 12 "PageTrie$Trie" "keys" "LPageTrie$Keys;" ∈ wsX10_putAllOf := List.mem_of_getElem? (i := 2) rfl
theorem flX10_putAllOf_45 : Cond.fieldLink RX10 45 "PageTrie$Keys" "size" "I" ∈ wsX10_putAllOf := List.mem_of_getElem? (i := 1) rfl
theorem inX10_putAllOf_X10 : ∀ w ∈ u_ws RX10 TX10 9, w ∈ wsX10_putAllOf := mem_r _ [103, 104, 105, 106, 107, 108, 109, 110, 111] rfl
theorem inX10_putAllOf_X3 : ∀ w ∈ u_ws RX3 TX3 4, w ∈ wsX10_putAllOf := mem_r _ [99, 100, 101, 102] rfl
theorem hvX10_putAllOf : yX10_putAllOf.cls = RX10 ∧ yX10_putAllOf.cls ≠ "java/lang/invoke/MethodHandle" ∧ yX10_putAllOf.cls ≠ "java/lang/invoke/VarHandle" ∧ (parseMethodDescriptor yX10_putAllOf.desc).map (fun d => d.parameters.length) = some 3 := by decide +kernel
set_option maxHeartbeats 4000000 in
set_option maxRecDepth 100000 in
theorem kX10_putAllOf (l : Launch) {D : va_G} {cA : Nat → ClassId} {τ : Nat → Nat} {G : Nat → Nat → Nat} {L : List Nat} (hS : SW τ G L) (σ : Nat → Nat → Int) {a0 : Nat} (h0 : τ a0 = 11) {a1 : Nat} (h1 : τ a1 = 4) {x2 : Int} (r2 : rg x2) {x3 : Int} (r3 : rg x3) : Met l yX10_putAllOf wsX10_putAllOf ({ frames := 4, cells := 0, slots := 0, locals := 100 }) (jP D cA τ G L σ [.ref a0, .ref a1, .int (jI x2), .int (jI x3)]) (jQV D cA τ G L (fun σ' => (True) ∧ fr wr_X10_putAllOf τ σ σ')) 0 0 (fun q => q ∈ L) := by
  refine j_metV (by decide +kernel) rfl (Nat.le_of_ble_eq_true rfl) ?_
  intro p e s m args below meth c Q hx hb hml hown hts hK hW hRet ls hl
  have hl : lv_has ls 5 [(0, .ref a0), (1, .ref a1), (2, .int (jI x2)), (3, .int (jI x3))] := hl
  have hA : ∀ q ∈ L, (fun q => q ∈ L) q := fun _ h => h
  have hF : va_S (fun q => q ∈ L) s.heap s.heap [] := va_S.rf
  have hR : fr wr_X10_putAllOf τ σ σ := fr_rf
  refine lv_aload_n hx hb dX10_putAllOf_0 rfl (lv_at hl 0 rfl) ?_
  refine lv_iload_n hx hb dX10_putAllOf_1 rfl (lv_at hl 2 rfl) ?_
  refine lv_iload_n hx hb dX10_putAllOf_2 rfl (lv_at hl 3 rfl) ?_
  refine j_cV (j_runV (As := [.int (jI x2), .int (jI x3)]) (rest := []) hx hb hml hown hts hK hS hW (kX10_clear l hS σ (a0 := a0) (h0 := h0) (x1 := x2) (r1 := (by omega)) (x2 := x3) (r2 := (by omega))) 2 gX10_putAllOf_X10_clear rfl hvX10_clear ⟨Nat.le_of_ble_eq_true rfl, Nat.le_of_ble_eq_true rfl⟩ rfl rfl h0 rfl rfl rfl rfl hl.1 rfl (Nat.le_of_ble_eq_true rfl) dX10_putAllOf_3 ⟨Nat.le_of_ble_eq_true rfl, Nat.le_of_ble_eq_true rfl⟩) hA hF (fun σ_1 H locs hW hF pσ_1 => ?_)
  try dsimp only at pσ_1
  obtain ⟨pσ_1, fpσ_1⟩ := pσ_1
  have hR := fr_call hR fpσ_1 (by decide)
  refine j_const hx hb dX10_putAllOf_6 ?_
  refine lv_istore (lv' := [(4, .int (jI 0)), (0, .ref a0), (1, .ref a1), (2, .int (jI x2)), (3, .int (jI x3))]) hx hb dX10_putAllOf_7 hl (by decide) rfl (fun ls hl => ?_)
  have L_9 : ∀ (N : Nat) (v4_9 : Int) (σ_9 : Nat → Nat → Int) (H : Heap) (locs : List Loc) (ls : Array Slot), N = (2147483647 - v4_9 : Int).toNat → (0 ≤ v4_9) → rg v4_9 → PW D cA τ G L σ_9 H → va_S (fun q => q ∈ L) s.heap H locs → fr wr_X10_putAllOf τ σ σ_9 → lv_has ls 5 [(0, .ref a0), (1, .ref a1), (4, .int (jI v4_9))] → W p l e ({ frames := 4, cells := 0, slots := 0, locals := 100 }) s m args below meth c H locs 0 0 Q (F0 m 9 ls []) := by
    intro N
    induction N using Nat.strongRecOn with
    | ind N ih_9 =>
      intro v4_9 σ_9 H locs ls hN i0_9 rv4_9 hW hF hR hl
      refine lv_iload hx hb dX10_putAllOf_9 (lv_at hl 2 rfl) ?_
      refine lv_aload_n hx hb dX10_putAllOf_11 rfl (lv_at hl 1 rfl) ?_
      refine j_getI hx hb (C := RX3) (T := TX3) (N := 4) hts inX10_putAllOf_X3 hown hK hS hW h1 rfl 3 rfl rfl (by decide) (hts _ flX10_putAllOf_45) dX10_putAllOf_12 ?_
      have := fbd hW h1 (k := 3) (lo := 0) (hi := 150) rfl rfl
      refine j_icmp_ge (tgt := 48) hx hb (by omega) (by omega) dX10_putAllOf_15 (by decide) (fun c_2 => ?_) (fun c_2 => ?_)
      · exact hRet 48 _ _ _ _ dX10_putAllOf_48 hW hF ⟨trivial, hR⟩
      · refine lv_iload hx hb dX10_putAllOf_18 (lv_at hl 2 rfl) ?_
        refine j_si hx hb dX10_putAllOf_20 (by decide) ?_
        refine j_icmp_ge (tgt := 48) hx hb (by omega) (by decide) dX10_putAllOf_23 (by decide) (fun c_3 => ?_) (fun c_3 => ?_)
        · exact hRet 48 _ _ _ _ dX10_putAllOf_48 hW hF ⟨trivial, hR⟩
        · refine lv_aload_n hx hb dX10_putAllOf_26 rfl (lv_at hl 0 rfl) ?_
          refine j_getR hx hb (C := RX10) (T := TX10) (N := 9) hts inX10_putAllOf_X10 hown hK hS hW h0 rfl 0 rfl rfl (by decide) (hts _ flX10_putAllOf_12) dX10_putAllOf_27 ?_
          have h_4 : τ (G a0 0) = 4 := gty hS h0 (k := 0) rfl rfl
          refine lv_aload_n hx hb dX10_putAllOf_30 rfl (lv_at hl 1 rfl) ?_
          refine lv_iload hx hb dX10_putAllOf_31 (lv_at hl 2 rfl) ?_
          refine j_cV (j_runV (As := [.ref a1, .int (jI v4_9)]) (rest := []) hx hb hml hown hts hK hS hW (kX3_append l hS σ_9 (a0 := G a0 0) (h0 := h_4) (a1 := a1) (h1 := h1) (x2 := v4_9) (r2 := (by omega))) 2 gX10_putAllOf_X3_append rfl hvX3_append ⟨Nat.le_of_ble_eq_true rfl, Nat.le_of_ble_eq_true rfl⟩ rfl rfl h_4 rfl rfl rfl rfl hl.1 rfl (Nat.le_of_ble_eq_true rfl) dX10_putAllOf_33 ⟨Nat.le_of_ble_eq_true rfl, Nat.le_of_ble_eq_true rfl⟩) hA hF (fun σ_5 H locs hW hF pσ_5 => ?_)
          try dsimp only at pσ_5
          obtain ⟨pσ_5, fpσ_5⟩ := pσ_5
          have hR := fr_call hR fpσ_5 (by decide)
          refine lv_aload_n hx hb dX10_putAllOf_36 rfl (lv_at hl 0 rfl) ?_
          refine lv_iload hx hb dX10_putAllOf_37 (lv_at hl 2 rfl) ?_
          refine j_cV (j_runV (As := [.int (jI v4_9)]) (rest := []) hx hb hml hown hts hK hS hW (kX10_settle l hS σ_5 (a0 := a0) (h0 := h0) (x1 := v4_9) (r1 := (by omega)) (q0 := (by omega)) (q1 := (by omega))) 1 gX10_putAllOf_X10_settle rfl hvX10_settle ⟨Nat.le_of_ble_eq_true rfl, Nat.le_of_ble_eq_true rfl⟩ rfl rfl h0 rfl rfl rfl rfl hl.1 rfl (Nat.le_of_ble_eq_true rfl) dX10_putAllOf_39 ⟨Nat.le_of_ble_eq_true rfl, Nat.le_of_ble_eq_true rfl⟩) hA hF (fun σ_6 H locs hW hF pσ_6 => ?_)
          try dsimp only at pσ_6
          obtain ⟨pσ_6, fpσ_6⟩ := pσ_6
          have hR := fr_call hR fpσ_6 (by decide)
          refine j_iinc (lv' := [(4, .int (jI (v4_9 + 1))), (0, .ref a0), (1, .ref a1)]) hx hb dX10_putAllOf_42 hl (k := 2) rfl (by decide) rfl (fun ls hl => ?_)
          refine lv_goto (tgt := 9) hx hb dX10_putAllOf_45 (by decide) ?_
          exact ih_9 ((2147483647 - (v4_9 + 1) : Int).toNat) (by omega) (v4_9 + 1) σ_6 _ _ _ rfl (by omega) (by omega) hW hF hR (lv_sub hl [1, 2, 0] rfl)
  exact L_9 ((2147483647 - 0 : Int).toNat) 0 σ_1 _ _ _ rfl (by omega) (by decide) hW hF hR (lv_sub hl [1, 2, 0] rfl)
abbrev wr_X10_insertKey : List Nat := [4003, 11005, 11007, 22000, 23000, 24000, 25000, 26000]
theorem flX10_insertKey_12 : Cond.fieldLink RX10 12 "PageTrie$Trie" "keys" "LPageTrie$Keys;" ∈ wsX10_insertKey := List.mem_of_getElem? (i := 1) rfl
theorem flX10_insertKey_18 : Cond.fieldLink RX10 18 "PageTrie$Trie" "shared" "[I" ∈ wsX10_insertKey := List.mem_of_getElem? (i := 3) rfl
theorem flX10_insertKey_22 : Cond.fieldLink RX10 22 "PageTrie$Trie" "opens" "[Z" ∈ wsX10_insertKey := List.mem_of_getElem? (i := 8) rfl
theorem flX10_insertKey_45 : Cond.fieldLink RX10 45 "PageTrie$Keys" "size" "I" ∈ wsX10_insertKey := List.mem_of_getElem? (i := 2) rfl
theorem inX10_insertKey_X10 : ∀ w ∈ u_ws RX10 TX10 9, w ∈ wsX10_insertKey := mem_r _ [123, 124, 125, 126, 127, 128, 129, 130, 131] rfl
theorem inX10_insertKey_X3 : ∀ w ∈ u_ws RX3 TX3 4, w ∈ wsX10_insertKey := mem_r _ [132, 133, 134, 135] rfl
theorem hvX10_insertKey : yX10_insertKey.cls = RX10 ∧ yX10_insertKey.cls ≠ "java/lang/invoke/MethodHandle" ∧ yX10_insertKey.cls ≠ "java/lang/invoke/VarHandle" ∧ (parseMethodDescriptor yX10_insertKey.desc).map (fun d => d.parameters.length) = some 2 := by decide +kernel
set_option maxHeartbeats 4000000 in
set_option maxRecDepth 100000 in
theorem kX10_insertKey (l : Launch) {D : va_G} {cA : Nat → ClassId} {τ : Nat → Nat} {G : Nat → Nat → Nat} {L : List Nat} (hS : SW τ G L) (σ : Nat → Nat → Int) {a0 : Nat} (h0 : τ a0 = 11) {a1 : Nat} (h1 : τ a1 = 3) {x2 : Int} (r2 : rg x2) : Met l yX10_insertKey wsX10_insertKey ({ frames := 4, cells := 0, slots := 0, locals := 100 }) (jP D cA τ G L σ [.ref a0, .ref a1, .int (jI x2)]) (jQI D cA τ G L (fun r σ' => (True) ∧ fr wr_X10_insertKey τ σ σ')) 0 0 (fun q => q ∈ L) := by
  refine j_metI (by decide +kernel) rfl (Nat.le_of_ble_eq_true rfl) ?_
  intro p e s m args below meth c Q hx hb hml hown hts hK hW hRet ls hl
  have hl : lv_has ls 5 [(0, .ref a0), (1, .ref a1), (2, .int (jI x2))] := hl
  have hA : ∀ q ∈ L, (fun q => q ∈ L) q := fun _ h => h
  have hF : va_S (fun q => q ∈ L) s.heap s.heap [] := va_S.rf
  have hR : fr wr_X10_insertKey τ σ σ := fr_rf
  refine lv_aload_n hx hb dX10_insertKey_0 rfl (lv_at hl 0 rfl) ?_
  refine j_getR hx hb (C := RX10) (T := TX10) (N := 9) hts inX10_insertKey_X10 hown hK hS hW h0 rfl 0 rfl rfl (by decide) (hts _ flX10_insertKey_12) dX10_insertKey_1 ?_
  have h_1 : τ (G a0 0) = 4 := gty hS h0 (k := 0) rfl rfl
  refine lv_aload_n hx hb dX10_insertKey_4 rfl (lv_at hl 1 rfl) ?_
  refine j_cR (j_runV (As := [.ref a1]) (rest := []) hx hb hml hown hts hK hS hW (kX3_placeOf l hS σ (a0 := G a0 0) (h0 := h_1) (a1 := a1) (h1 := h1)) 1 gX10_insertKey_X3_placeOf rfl hvX3_placeOf ⟨Nat.le_of_ble_eq_true rfl, Nat.le_of_ble_eq_true rfl⟩ rfl rfl h_1 rfl rfl rfl rfl hl.1 rfl (Nat.le_of_ble_eq_true rfl) dX10_insertKey_5 ⟨Nat.le_of_ble_eq_true rfl, Nat.le_of_ble_eq_true rfl⟩) (fun v_2 rv_2 pv_2 => ?_)
  try dsimp only at pv_2
  refine lv_istore_n (lv' := [(3, .int (jI v_2)), (0, .ref a0), (1, .ref a1), (2, .int (jI x2))]) hx hb dX10_insertKey_8 rfl hl (by decide) rfl (fun ls hl => ?_)
  refine lv_aload_n hx hb dX10_insertKey_9 rfl (lv_at hl 1 rfl) ?_
  refine j_getR hx hb (C := RX10) (T := TX10) (N := 9) hts inX10_insertKey_X10 hown hK hS hW h0 rfl 0 rfl rfl (by decide) (hts _ flX10_insertKey_12) dX10_insertKey_10 ?_
  refine lv_iload_n hx hb dX10_insertKey_13 rfl (lv_at hl 0 rfl) ?_
  refine lv_aload_n hx hb dX10_insertKey_14 rfl (lv_at hl 2 rfl) ?_
  refine j_cR (j_runV (As := [.int (jI v_2), .ref a1]) (rest := []) hx hb hml hown hts hK hS hW (kX3_isAt l hS σ (a0 := G a0 0) (h0 := h_1) (x1 := v_2) (r1 := (by omega)) (a2 := a1) (h2 := h1)) 2 gX10_insertKey_X3_isAt rfl hvX3_isAt ⟨Nat.le_of_ble_eq_true rfl, Nat.le_of_ble_eq_true rfl⟩ rfl rfl h_1 rfl rfl rfl rfl hl.1 rfl (Nat.le_of_ble_eq_true rfl) dX10_insertKey_15 ⟨Nat.le_of_ble_eq_true rfl, Nat.le_of_ble_eq_true rfl⟩) (fun v_3 rv_3 pv_3 => ?_)
  try dsimp only at pv_3
  refine j_if_eq (tgt := 43) hx hb (by omega) dX10_insertKey_18 (by decide) (fun c_4 => ?_) (fun c_4 => ?_)
  · refine lv_aload_n hx hb dX10_insertKey_43 rfl (lv_at hl 1 rfl) ?_
    refine j_getR hx hb (C := RX10) (T := TX10) (N := 9) hts inX10_insertKey_X10 hown hK hS hW h0 rfl 0 rfl rfl (by decide) (hts _ flX10_insertKey_12) dX10_insertKey_44 ?_
    refine j_getI hx hb (C := RX3) (T := TX3) (N := 4) hts inX10_insertKey_X3 hown hK hS hW h_1 rfl 3 rfl rfl (by decide) (hts _ flX10_insertKey_45) dX10_insertKey_47 ?_
    have := fbd hW h_1 (k := 3) (lo := 0) (hi := 150) rfl rfl
    refine j_si hx hb dX10_insertKey_50 (by decide) ?_
    refine j_icmp_lt (tgt := 59) hx hb (by omega) (by decide) dX10_insertKey_53 (by decide) (fun c_5 => ?_) (fun c_5 => ?_)
    · refine lv_aload_n hx hb dX10_insertKey_59 rfl (lv_at hl 1 rfl) ?_
      refine j_getR hx hb (C := RX10) (T := TX10) (N := 9) hts inX10_insertKey_X10 hown hK hS hW h0 rfl 0 rfl rfl (by decide) (hts _ flX10_insertKey_12) dX10_insertKey_60 ?_
      refine j_getI hx hb (C := RX3) (T := TX3) (N := 4) hts inX10_insertKey_X3 hown hK hS hW h_1 rfl 3 rfl rfl (by decide) (hts _ flX10_insertKey_45) dX10_insertKey_63 ?_
      refine lv_iload_n hx hb dX10_insertKey_66 rfl (lv_at hl 0 rfl) ?_
      refine j_sub hx hb dX10_insertKey_67 ?_
      refine lv_istore (lv' := [(4, .int (jI ((σ (G a0 0) 3) - v_2))), (3, .int (jI v_2)), (0, .ref a0), (1, .ref a1), (2, .int (jI x2))]) hx hb dX10_insertKey_68 hl (by decide) rfl (fun ls hl => ?_)
      refine lv_aload_n hx hb dX10_insertKey_70 rfl (lv_at hl 2 rfl) ?_
      refine j_getR hx hb (C := RX10) (T := TX10) (N := 9) hts inX10_insertKey_X10 hown hK hS hW h0 rfl 3 rfl rfl (by decide) (hts _ flX10_insertKey_18) dX10_insertKey_71 ?_
      have h_6 : τ (G a0 3) = 25 := gty hS h0 (k := 3) rfl rfl
      refine lv_iload_n hx hb dX10_insertKey_74 rfl (lv_at hl 1 rfl) ?_
      refine lv_aload_n hx hb dX10_insertKey_75 rfl (lv_at hl 2 rfl) ?_
      refine j_getR hx hb (C := RX10) (T := TX10) (N := 9) hts inX10_insertKey_X10 hown hK hS hW h0 rfl 3 rfl rfl (by decide) (hts _ flX10_insertKey_18) dX10_insertKey_76 ?_
      refine lv_iload_n hx hb dX10_insertKey_79 rfl (lv_at hl 1 rfl) ?_
      refine j_const hx hb dX10_insertKey_80 ?_
      refine j_add hx hb dX10_insertKey_81 ?_
      refine lv_iload hx hb dX10_insertKey_82 (lv_at hl 0 rfl) ?_
      refine j_copy hx hb (hml.trans hl.1.symm) hown (hts (.methodLink RX10 52 arraycopyName) (by decide +kernel)) (hts (.native arraycopyName) (by decide +kernel)) (hts (.static arraycopyName) (by decide +kernel)) (hts (.initialized "java/lang/System") (by decide +kernel)) hK hS hA hW hF (ty := .int) h_6 h_6 (n0 := 150) (n1 := 150) rfl rfl rfl (Or.inr (Or.inl rfl)) (by decide) (by decide) (sp := v_2) (dp := v_2 + 1) (n := (σ (G a0 0) 3) - v_2) (by omega) (by omega) (by omega) (by omega) (by omega) (Nat.le_of_ble_eq_true rfl) (Nat.le_of_ble_eq_true rfl) dX10_insertKey_84 (fun σ_7 H locs e_8 hW hF => ?_)
      have hR := fr_cp hR e_8 h_6 25000 (cdA 25 (by decide)) (by decide)
      refine lv_aload_n hx hb dX10_insertKey_87 rfl (lv_at hl 2 rfl) ?_
      refine j_getR hx hb (C := RX10) (T := TX10) (N := 9) hts inX10_insertKey_X10 hown hK hS hW h0 rfl 4 rfl rfl (by decide) (hts _ flX10_insertKey_22) dX10_insertKey_88 ?_
      have h_9 : τ (G a0 4) = 26 := gty hS h0 (k := 4) rfl rfl
      refine lv_iload_n hx hb dX10_insertKey_91 rfl (lv_at hl 1 rfl) ?_
      refine lv_aload_n hx hb dX10_insertKey_92 rfl (lv_at hl 2 rfl) ?_
      refine j_getR hx hb (C := RX10) (T := TX10) (N := 9) hts inX10_insertKey_X10 hown hK hS hW h0 rfl 4 rfl rfl (by decide) (hts _ flX10_insertKey_22) dX10_insertKey_93 ?_
      refine lv_iload_n hx hb dX10_insertKey_96 rfl (lv_at hl 1 rfl) ?_
      refine j_const hx hb dX10_insertKey_97 ?_
      refine j_add hx hb dX10_insertKey_98 ?_
      refine lv_iload hx hb dX10_insertKey_99 (lv_at hl 0 rfl) ?_
      refine j_copy hx hb (hml.trans hl.1.symm) hown (hts (.methodLink RX10 52 arraycopyName) (by decide +kernel)) (hts (.native arraycopyName) (by decide +kernel)) (hts (.static arraycopyName) (by decide +kernel)) (hts (.initialized "java/lang/System") (by decide +kernel)) hK hS hA hW hF (ty := .boolean) h_9 h_9 (n0 := 150) (n1 := 150) rfl rfl rfl (Or.inr (Or.inr ⟨rfl, rfl⟩)) (by decide) (by decide) (sp := v_2) (dp := v_2 + 1) (n := (σ (G a0 0) 3) - v_2) (by omega) (by omega) (by omega) (by omega) (by omega) (Nat.le_of_ble_eq_true rfl) (Nat.le_of_ble_eq_true rfl) dX10_insertKey_101 (fun σ_10 H locs e_11 hW hF => ?_)
      have hR := fr_cp hR e_11 h_9 26000 (cdA 26 (by decide)) (by decide)
      refine lv_aload_n hx hb dX10_insertKey_104 rfl (lv_at hl 2 rfl) ?_
      refine j_getR hx hb (C := RX10) (T := TX10) (N := 9) hts inX10_insertKey_X10 hown hK hS hW h0 rfl 0 rfl rfl (by decide) (hts _ flX10_insertKey_12) dX10_insertKey_105 ?_
      refine lv_iload_n hx hb dX10_insertKey_108 rfl (lv_at hl 1 rfl) ?_
      refine lv_aload_n hx hb dX10_insertKey_109 rfl (lv_at hl 3 rfl) ?_
      refine lv_iload_n hx hb dX10_insertKey_110 rfl (lv_at hl 4 rfl) ?_
      refine j_cV (j_runV (As := [.int (jI v_2), .ref a1, .int (jI x2)]) (rest := []) hx hb hml hown hts hK hS hW (kX3_insertAt l hS σ_10 (a0 := G a0 0) (h0 := h_1) (x1 := v_2) (r1 := (by omega)) (a2 := a1) (h2 := h1) (x3 := x2) (r3 := (by omega))) 3 gX10_insertKey_X3_insertAt rfl hvX3_insertAt ⟨Nat.le_of_ble_eq_true rfl, Nat.le_of_ble_eq_true rfl⟩ rfl rfl h_1 rfl rfl rfl rfl hl.1 rfl (Nat.le_of_ble_eq_true rfl) dX10_insertKey_111 ⟨Nat.le_of_ble_eq_true rfl, Nat.le_of_ble_eq_true rfl⟩) hA hF (fun σ_12 H locs hW hF pσ_12 => ?_)
      try dsimp only at pσ_12
      obtain ⟨pσ_12, fpσ_12⟩ := pσ_12
      have hR := fr_call hR fpσ_12 (by decide)
      refine lv_aload_n hx hb dX10_insertKey_114 rfl (lv_at hl 2 rfl) ?_
      refine lv_iload_n hx hb dX10_insertKey_115 rfl (lv_at hl 1 rfl) ?_
      refine j_cV (j_runV (As := [.int (jI v_2)]) (rest := []) hx hb hml hown hts hK hS hW (kX10_settle l hS σ_12 (a0 := a0) (h0 := h0) (x1 := v_2) (r1 := (by omega)) (q0 := (by omega)) (q1 := (by omega))) 1 gX10_insertKey_X10_settle rfl hvX10_settle ⟨Nat.le_of_ble_eq_true rfl, Nat.le_of_ble_eq_true rfl⟩ rfl rfl h0 rfl rfl rfl rfl hl.1 rfl (Nat.le_of_ble_eq_true rfl) dX10_insertKey_116 ⟨Nat.le_of_ble_eq_true rfl, Nat.le_of_ble_eq_true rfl⟩) hA hF (fun σ_13 H locs hW hF pσ_13 => ?_)
      try dsimp only at pσ_13
      obtain ⟨pσ_13, fpσ_13⟩ := pσ_13
      have hR := fr_call hR fpσ_13 (by decide)
      refine j_bi hx hb dX10_insertKey_119 (by decide) ?_
      exact hRet 121 _ _ _ (-3) _ dX10_insertKey_121 hW hF (by decide) ⟨trivial, hR⟩
    · refine j_bi hx hb dX10_insertKey_56 (by decide) ?_
      exact hRet 58 _ _ _ (-4) _ dX10_insertKey_58 hW hF (by decide) ⟨trivial, hR⟩
  · refine lv_aload_n hx hb dX10_insertKey_21 rfl (lv_at hl 1 rfl) ?_
    refine j_getR hx hb (C := RX10) (T := TX10) (N := 9) hts inX10_insertKey_X10 hown hK hS hW h0 rfl 0 rfl rfl (by decide) (hts _ flX10_insertKey_12) dX10_insertKey_22 ?_
    refine lv_iload_n hx hb dX10_insertKey_25 rfl (lv_at hl 0 rfl) ?_
    refine j_cR (j_runV (As := [.int (jI v_2)]) (rest := []) hx hb hml hown hts hK hS hW (kX3_valueOf l hS σ (a0 := G a0 0) (h0 := h_1) (x1 := v_2) (r1 := (by omega))) 1 gX10_insertKey_X3_valueOf rfl hvX3_valueOf ⟨Nat.le_of_ble_eq_true rfl, Nat.le_of_ble_eq_true rfl⟩ rfl rfl h_1 rfl rfl rfl rfl hl.1 rfl (Nat.le_of_ble_eq_true rfl) dX10_insertKey_26 ⟨Nat.le_of_ble_eq_true rfl, Nat.le_of_ble_eq_true rfl⟩) (fun v_14 rv_14 pv_14 => ?_)
    try dsimp only at pv_14
    refine lv_istore (lv' := [(4, .int (jI v_14)), (3, .int (jI v_2)), (0, .ref a0), (1, .ref a1), (2, .int (jI x2))]) hx hb dX10_insertKey_29 hl (by decide) rfl (fun ls hl => ?_)
    refine lv_aload_n hx hb dX10_insertKey_31 rfl (lv_at hl 2 rfl) ?_
    refine j_getR hx hb (C := RX10) (T := TX10) (N := 9) hts inX10_insertKey_X10 hown hK hS hW h0 rfl 0 rfl rfl (by decide) (hts _ flX10_insertKey_12) dX10_insertKey_32 ?_
    refine lv_iload_n hx hb dX10_insertKey_35 rfl (lv_at hl 1 rfl) ?_
    refine lv_iload_n hx hb dX10_insertKey_36 rfl (lv_at hl 4 rfl) ?_
    refine j_cV (j_runV (As := [.int (jI v_2), .int (jI x2)]) (rest := []) hx hb hml hown hts hK hS hW (kX3_setValue l hS σ (a0 := G a0 0) (h0 := h_1) (x1 := v_2) (r1 := (by omega)) (x2 := x2) (r2 := (by omega))) 2 gX10_insertKey_X3_setValue rfl hvX3_setValue ⟨Nat.le_of_ble_eq_true rfl, Nat.le_of_ble_eq_true rfl⟩ rfl rfl h_1 rfl rfl rfl rfl hl.1 rfl (Nat.le_of_ble_eq_true rfl) dX10_insertKey_37 ⟨Nat.le_of_ble_eq_true rfl, Nat.le_of_ble_eq_true rfl⟩) hA hF (fun σ_15 H locs hW hF pσ_15 => ?_)
    try dsimp only at pσ_15
    obtain ⟨pσ_15, fpσ_15⟩ := pσ_15
    have hR := fr_call hR fpσ_15 (by decide)
    refine lv_iload hx hb dX10_insertKey_40 (lv_at hl 0 rfl) ?_
    exact hRet 42 _ _ _ v_14 _ dX10_insertKey_42 hW hF (by omega) ⟨trivial, hR⟩
abbrev wr_X10_removeKey : List Nat := [4003, 11006, 11008, 22000, 23000, 24000, 25000, 26000]
theorem flX10_removeKey_12 : Cond.fieldLink RX10 12 "PageTrie$Trie" "keys" "LPageTrie$Keys;" ∈ wsX10_removeKey := List.mem_of_getElem? (i := 1) rfl
theorem inX10_removeKey_X10 : ∀ w ∈ u_ws RX10 TX10 9, w ∈ wsX10_removeKey := mem_r _ [123, 124, 125, 126, 127, 128, 129, 130, 131] rfl
theorem hvX10_removeKey : yX10_removeKey.cls = RX10 ∧ yX10_removeKey.cls ≠ "java/lang/invoke/MethodHandle" ∧ yX10_removeKey.cls ≠ "java/lang/invoke/VarHandle" ∧ (parseMethodDescriptor yX10_removeKey.desc).map (fun d => d.parameters.length) = some 1 := by decide +kernel
set_option maxHeartbeats 4000000 in
set_option maxRecDepth 100000 in
theorem kX10_removeKey (l : Launch) {D : va_G} {cA : Nat → ClassId} {τ : Nat → Nat} {G : Nat → Nat → Nat} {L : List Nat} (hS : SW τ G L) (σ : Nat → Nat → Int) {a0 : Nat} (h0 : τ a0 = 11) {a1 : Nat} (h1 : τ a1 = 3) : Met l yX10_removeKey wsX10_removeKey ({ frames := 4, cells := 0, slots := 0, locals := 99 }) (jP D cA τ G L σ [.ref a0, .ref a1]) (jQI D cA τ G L (fun r σ' => (True) ∧ fr wr_X10_removeKey τ σ σ')) 0 0 (fun q => q ∈ L) := by
  refine j_metI (by decide +kernel) rfl (Nat.le_of_ble_eq_true rfl) ?_
  intro p e s m args below meth c Q hx hb hml hown hts hK hW hRet ls hl
  have hl : lv_has ls 4 [(0, .ref a0), (1, .ref a1)] := hl
  have hA : ∀ q ∈ L, (fun q => q ∈ L) q := fun _ h => h
  have hF : va_S (fun q => q ∈ L) s.heap s.heap [] := va_S.rf
  have hR : fr wr_X10_removeKey τ σ σ := fr_rf
  refine lv_aload_n hx hb dX10_removeKey_0 rfl (lv_at hl 0 rfl) ?_
  refine j_getR hx hb (C := RX10) (T := TX10) (N := 9) hts inX10_removeKey_X10 hown hK hS hW h0 rfl 0 rfl rfl (by decide) (hts _ flX10_removeKey_12) dX10_removeKey_1 ?_
  have h_1 : τ (G a0 0) = 4 := gty hS h0 (k := 0) rfl rfl
  refine lv_aload_n hx hb dX10_removeKey_4 rfl (lv_at hl 1 rfl) ?_
  refine j_cR (j_runV (As := [.ref a1]) (rest := []) hx hb hml hown hts hK hS hW (kX3_find l hS σ (a0 := G a0 0) (h0 := h_1) (a1 := a1) (h1 := h1)) 1 gX10_removeKey_X3_find rfl hvX3_find ⟨Nat.le_of_ble_eq_true rfl, Nat.le_of_ble_eq_true rfl⟩ rfl rfl h_1 rfl rfl rfl rfl hl.1 rfl (Nat.le_of_ble_eq_true rfl) dX10_removeKey_5 ⟨Nat.le_of_ble_eq_true rfl, Nat.le_of_ble_eq_true rfl⟩) (fun v_2 rv_2 pv_2 => ?_)
  try dsimp only at pv_2
  refine lv_istore_n (lv' := [(2, .int (jI v_2)), (0, .ref a0), (1, .ref a1)]) hx hb dX10_removeKey_8 rfl hl (by decide) rfl (fun ls hl => ?_)
  refine lv_iload_n hx hb dX10_removeKey_9 rfl (lv_at hl 0 rfl) ?_
  refine j_if_ge (tgt := 16) hx hb (by omega) dX10_removeKey_10 (by decide) (fun c_3 => ?_) (fun c_3 => ?_)
  · refine lv_aload_n hx hb dX10_removeKey_16 rfl (lv_at hl 1 rfl) ?_
    refine j_getR hx hb (C := RX10) (T := TX10) (N := 9) hts inX10_removeKey_X10 hown hK hS hW h0 rfl 0 rfl rfl (by decide) (hts _ flX10_removeKey_12) dX10_removeKey_17 ?_
    refine lv_iload_n hx hb dX10_removeKey_20 rfl (lv_at hl 0 rfl) ?_
    refine j_cR (j_runV (As := [.int (jI v_2)]) (rest := []) hx hb hml hown hts hK hS hW (kX3_valueOf l hS σ (a0 := G a0 0) (h0 := h_1) (x1 := v_2) (r1 := (by omega))) 1 gX10_removeKey_X3_valueOf rfl hvX3_valueOf ⟨Nat.le_of_ble_eq_true rfl, Nat.le_of_ble_eq_true rfl⟩ rfl rfl h_1 rfl rfl rfl rfl hl.1 rfl (Nat.le_of_ble_eq_true rfl) dX10_removeKey_21 ⟨Nat.le_of_ble_eq_true rfl, Nat.le_of_ble_eq_true rfl⟩) (fun v_4 rv_4 pv_4 => ?_)
    try dsimp only at pv_4
    refine lv_istore_n (lv' := [(3, .int (jI v_4)), (2, .int (jI v_2)), (0, .ref a0), (1, .ref a1)]) hx hb dX10_removeKey_24 rfl hl (by decide) rfl (fun ls hl => ?_)
    refine lv_aload_n hx hb dX10_removeKey_25 rfl (lv_at hl 2 rfl) ?_
    refine lv_iload_n hx hb dX10_removeKey_26 rfl (lv_at hl 1 rfl) ?_
    refine j_cV (j_runV (As := [.int (jI v_2)]) (rest := []) hx hb hml hown hts hK hS hW (kX10_removeAt l hS σ (a0 := a0) (h0 := h0) (x1 := v_2) (r1 := (by omega))) 1 gX10_removeKey_X10_removeAt rfl hvX10_removeAt ⟨Nat.le_of_ble_eq_true rfl, Nat.le_of_ble_eq_true rfl⟩ rfl rfl h0 rfl rfl rfl rfl hl.1 rfl (Nat.le_of_ble_eq_true rfl) dX10_removeKey_27 ⟨Nat.le_of_ble_eq_true rfl, Nat.le_of_ble_eq_true rfl⟩) hA hF (fun σ_5 H locs hW hF pσ_5 => ?_)
    try dsimp only at pσ_5
    obtain ⟨pσ_5, fpσ_5⟩ := pσ_5
    have hR := fr_call hR fpσ_5 (by decide)
    refine lv_iload_n hx hb dX10_removeKey_30 rfl (lv_at hl 0 rfl) ?_
    exact hRet 31 _ _ _ v_4 _ dX10_removeKey_31 hW hF (by omega) ⟨trivial, hR⟩
  · refine j_bi hx hb dX10_removeKey_13 (by decide) ?_
    exact hRet 15 _ _ _ (-3) _ dX10_removeKey_15 hW hF (by decide) ⟨trivial, hR⟩
abbrev wr_X10_removeFromTo : List Nat := [4003, 11006, 11008, 22000, 23000, 24000, 25000, 26000]
theorem flX10_removeFromTo_12 : Cond.fieldLink RX10 12 "PageTrie$Trie" "keys" "LPageTrie$Keys;" ∈ wsX10_removeFromTo := List.mem_of_getElem? (i := 1) rfl
theorem inX10_removeFromTo_X10 : ∀ w ∈ u_ws RX10 TX10 9, w ∈ wsX10_removeFromTo := mem_r _ [115, 116, 117, 118, 119, 120, 121, 122, 123] rfl
theorem hvX10_removeFromTo : yX10_removeFromTo.cls = RX10 ∧ yX10_removeFromTo.cls ≠ "java/lang/invoke/MethodHandle" ∧ yX10_removeFromTo.cls ≠ "java/lang/invoke/VarHandle" ∧ (parseMethodDescriptor yX10_removeFromTo.desc).map (fun d => d.parameters.length) = some 2 := by decide +kernel
set_option maxHeartbeats 4000000 in
set_option maxRecDepth 100000 in
theorem kX10_removeFromTo (l : Launch) {D : va_G} {cA : Nat → ClassId} {τ : Nat → Nat} {G : Nat → Nat → Nat} {L : List Nat} (hS : SW τ G L) (σ : Nat → Nat → Int) {a0 : Nat} (h0 : τ a0 = 11) {a1 : Nat} (h1 : τ a1 = 3) {a2 : Nat} (h2 : τ a2 = 3) : Met l yX10_removeFromTo wsX10_removeFromTo ({ frames := 4, cells := 0, slots := 0, locals := 99 }) (jP D cA τ G L σ [.ref a0, .ref a1, .ref a2]) (jQI D cA τ G L (fun r σ' => (True) ∧ fr wr_X10_removeFromTo τ σ σ')) 0 0 (fun q => q ∈ L) := by
  refine j_metI (by decide +kernel) rfl (Nat.le_of_ble_eq_true rfl) ?_
  intro p e s m args below meth c Q hx hb hml hown hts hK hW hRet ls hl
  have hl : lv_has ls 6 [(0, .ref a0), (1, .ref a1), (2, .ref a2)] := hl
  have hA : ∀ q ∈ L, (fun q => q ∈ L) q := fun _ h => h
  have hF : va_S (fun q => q ∈ L) s.heap s.heap [] := va_S.rf
  have hR : fr wr_X10_removeFromTo τ σ σ := fr_rf
  refine lv_aload_n hx hb dX10_removeFromTo_0 rfl (lv_at hl 0 rfl) ?_
  refine j_getR hx hb (C := RX10) (T := TX10) (N := 9) hts inX10_removeFromTo_X10 hown hK hS hW h0 rfl 0 rfl rfl (by decide) (hts _ flX10_removeFromTo_12) dX10_removeFromTo_1 ?_
  have h_1 : τ (G a0 0) = 4 := gty hS h0 (k := 0) rfl rfl
  refine lv_aload_n hx hb dX10_removeFromTo_4 rfl (lv_at hl 1 rfl) ?_
  refine j_cR (j_runV (As := [.ref a1]) (rest := []) hx hb hml hown hts hK hS hW (kX3_placeOf l hS σ (a0 := G a0 0) (h0 := h_1) (a1 := a1) (h1 := h1)) 1 gX10_removeFromTo_X3_placeOf rfl hvX3_placeOf ⟨Nat.le_of_ble_eq_true rfl, Nat.le_of_ble_eq_true rfl⟩ rfl rfl h_1 rfl rfl rfl rfl hl.1 rfl (Nat.le_of_ble_eq_true rfl) dX10_removeFromTo_5 ⟨Nat.le_of_ble_eq_true rfl, Nat.le_of_ble_eq_true rfl⟩) (fun v_2 rv_2 pv_2 => ?_)
  try dsimp only at pv_2
  refine lv_istore_n (lv' := [(3, .int (jI v_2)), (0, .ref a0), (1, .ref a1), (2, .ref a2)]) hx hb dX10_removeFromTo_8 rfl hl (by decide) rfl (fun ls hl => ?_)
  refine lv_aload_n hx hb dX10_removeFromTo_9 rfl (lv_at hl 1 rfl) ?_
  refine j_getR hx hb (C := RX10) (T := TX10) (N := 9) hts inX10_removeFromTo_X10 hown hK hS hW h0 rfl 0 rfl rfl (by decide) (hts _ flX10_removeFromTo_12) dX10_removeFromTo_10 ?_
  refine lv_aload_n hx hb dX10_removeFromTo_13 rfl (lv_at hl 3 rfl) ?_
  refine j_cR (j_runV (As := [.ref a2]) (rest := []) hx hb hml hown hts hK hS hW (kX3_placeOf l hS σ (a0 := G a0 0) (h0 := h_1) (a1 := a2) (h1 := h2)) 1 gX10_removeFromTo_X3_placeOf rfl hvX3_placeOf ⟨Nat.le_of_ble_eq_true rfl, Nat.le_of_ble_eq_true rfl⟩ rfl rfl h_1 rfl rfl rfl rfl hl.1 rfl (Nat.le_of_ble_eq_true rfl) dX10_removeFromTo_14 ⟨Nat.le_of_ble_eq_true rfl, Nat.le_of_ble_eq_true rfl⟩) (fun v_3 rv_3 pv_3 => ?_)
  try dsimp only at pv_3
  refine lv_istore (lv' := [(4, .int (jI v_3)), (3, .int (jI v_2)), (0, .ref a0), (1, .ref a1), (2, .ref a2)]) hx hb dX10_removeFromTo_17 hl (by decide) rfl (fun ls hl => ?_)
  refine lv_aload_n hx hb dX10_removeFromTo_19 rfl (lv_at hl 2 rfl) ?_
  refine j_getR hx hb (C := RX10) (T := TX10) (N := 9) hts inX10_removeFromTo_X10 hown hK hS hW h0 rfl 0 rfl rfl (by decide) (hts _ flX10_removeFromTo_12) dX10_removeFromTo_20 ?_
  refine lv_iload hx hb dX10_removeFromTo_23 (lv_at hl 0 rfl) ?_
  refine lv_aload_n hx hb dX10_removeFromTo_25 rfl (lv_at hl 4 rfl) ?_
  refine j_cR (j_runV (As := [.int (jI v_3), .ref a2]) (rest := []) hx hb hml hown hts hK hS hW (kX3_isAt l hS σ (a0 := G a0 0) (h0 := h_1) (x1 := v_3) (r1 := (by omega)) (a2 := a2) (h2 := h2)) 2 gX10_removeFromTo_X3_isAt rfl hvX3_isAt ⟨Nat.le_of_ble_eq_true rfl, Nat.le_of_ble_eq_true rfl⟩ rfl rfl h_1 rfl rfl rfl rfl hl.1 rfl (Nat.le_of_ble_eq_true rfl) dX10_removeFromTo_26 ⟨Nat.le_of_ble_eq_true rfl, Nat.le_of_ble_eq_true rfl⟩) (fun v_4 rv_4 pv_4 => ?_)
  try dsimp only at pv_4
  have L_35 : ∀ (v4_35 : Int) (ls : Array Slot), rg v4_35 → lv_has ls 6 [(0, .ref a0), (3, .int (jI v_2)), (4, .int (jI v4_35))] → W p l e ({ frames := 4, cells := 0, slots := 0, locals := 99 }) s m args below meth c s.heap [] 0 0 Q (F0 m 35 ls []) := by
    intro v4_35 ls rv4_35 hl
    refine lv_iload_n hx hb dX10_removeFromTo_35 rfl (lv_at hl 1 rfl) ?_
    refine lv_istore (lv' := [(5, .int (jI v_2)), (0, .ref a0), (3, .int (jI v_2)), (4, .int (jI v4_35))]) hx hb dX10_removeFromTo_36 hl (by decide) rfl (fun ls hl => ?_)
    have L_38 : ∀ (N : Nat) (v5_38 : Int) (σ_38 : Nat → Nat → Int) (H : Heap) (locs : List Loc) (ls : Array Slot), N = (2147483647 - v5_38 : Int).toNat → rg v5_38 → PW D cA τ G L σ_38 H → va_S (fun q => q ∈ L) s.heap H locs → fr wr_X10_removeFromTo τ σ σ_38 → lv_has ls 6 [(0, .ref a0), (3, .int (jI v_2)), (4, .int (jI v4_35)), (5, .int (jI v5_38))] → W p l e ({ frames := 4, cells := 0, slots := 0, locals := 99 }) s m args below meth c H locs 0 0 Q (F0 m 38 ls []) := by
      intro N
      induction N using Nat.strongRecOn with
      | ind N ih_38 =>
        intro v5_38 σ_38 H locs ls hN rv5_38 hW hF hR hl
        refine lv_iload hx hb dX10_removeFromTo_38 (lv_at hl 3 rfl) ?_
        refine lv_iload hx hb dX10_removeFromTo_40 (lv_at hl 2 rfl) ?_
        refine j_icmp_ge (tgt := 56) hx hb (by omega) (by omega) dX10_removeFromTo_42 (by decide) (fun c_5 => ?_) (fun c_5 => ?_)
        · refine j_const hx hb dX10_removeFromTo_56 ?_
          refine lv_iload hx hb dX10_removeFromTo_57 (lv_at hl 2 rfl) ?_
          refine lv_iload_n hx hb dX10_removeFromTo_59 rfl (lv_at hl 1 rfl) ?_
          refine j_sub hx hb dX10_removeFromTo_60 ?_
          refine j_wrap (fun z_6 rz_6 ez_6 => ?_)
          refine j_mmax hx hb (hml.trans hl.1.symm) hown (hts (.methodLink RX10 95 Lib.Math.max.name) (by decide +kernel)) (hts (.static Lib.Math.max.name) (by decide +kernel)) (hts (.initialized "java/lang/Math") (by decide +kernel)) (hts (.code Lib.Math.max.name Lib.Math.max.code 2 (some .int)) (by decide +kernel)) (Nat.le_of_ble_eq_true rfl) (Nat.le_of_ble_eq_true rfl) (Nat.le_of_ble_eq_true rfl) (Nat.le_of_ble_eq_true rfl) (by decide) (by omega) dX10_removeFromTo_61 (fun z_7 rz_7 ez_7 => ?_)
          exact hRet 64 _ _ _ z_7 _ dX10_removeFromTo_64 hW hF (by omega) ⟨trivial, hR⟩
        · refine lv_aload_n hx hb dX10_removeFromTo_45 rfl (lv_at hl 0 rfl) ?_
          refine lv_iload_n hx hb dX10_removeFromTo_46 rfl (lv_at hl 1 rfl) ?_
          refine j_cV (j_runV (As := [.int (jI v_2)]) (rest := []) hx hb hml hown hts hK hS hW (kX10_removeAt l hS σ_38 (a0 := a0) (h0 := h0) (x1 := v_2) (r1 := (by omega))) 1 gX10_removeFromTo_X10_removeAt rfl hvX10_removeAt ⟨Nat.le_of_ble_eq_true rfl, Nat.le_of_ble_eq_true rfl⟩ rfl rfl h0 rfl rfl rfl rfl hl.1 rfl (Nat.le_of_ble_eq_true rfl) dX10_removeFromTo_47 ⟨Nat.le_of_ble_eq_true rfl, Nat.le_of_ble_eq_true rfl⟩) hA hF (fun σ_8 H locs hW hF pσ_8 => ?_)
          try dsimp only at pσ_8
          obtain ⟨pσ_8, fpσ_8⟩ := pσ_8
          have hR := fr_call hR fpσ_8 (by decide)
          refine j_iinc (lv' := [(5, .int (jI (v5_38 + 1))), (0, .ref a0), (3, .int (jI v_2)), (4, .int (jI v4_35))]) hx hb dX10_removeFromTo_50 hl (k := 3) rfl (by decide) rfl (fun ls hl => ?_)
          refine lv_goto (tgt := 38) hx hb dX10_removeFromTo_53 (by decide) ?_
          exact ih_38 ((2147483647 - (v5_38 + 1) : Int).toNat) (by omega) (v5_38 + 1) σ_8 _ _ _ rfl (by omega) hW hF hR (lv_sub hl [1, 2, 3, 0] rfl)
    exact L_38 ((2147483647 - v_2 : Int).toNat) v_2 σ _ _ _ rfl (by omega) hW hF hR (lv_sub hl [1, 2, 3, 0] rfl)
  refine j_if_eq (tgt := 35) hx hb (by omega) dX10_removeFromTo_29 (by decide) (fun c_9 => ?_) (fun c_9 => ?_)
  · exact L_35 v_3 _ (by omega) (lv_sub hl [2, 1, 0] rfl)
  · refine j_iincW hx hb dX10_removeFromTo_32 hl (k := 0) rfl (by decide) (fun z_10 ls rz_10 ez_10 hl => ?_)
    have hl : lv_has ls 6 [(4, .int (jI z_10)), (3, .int (jI v_2)), (0, .ref a0), (1, .ref a1), (2, .ref a2)] := hl
    exact L_35 z_10 _ (by omega) (lv_sub hl [2, 1, 0] rfl)
theorem hvX10_away : yX10_away.cls = RX10 ∧ yX10_away.cls ≠ "java/lang/invoke/MethodHandle" ∧ yX10_away.cls ≠ "java/lang/invoke/VarHandle" ∧ (parseMethodDescriptor yX10_away.desc).map (fun d => d.parameters.length) = some 1 := by decide +kernel
set_option maxHeartbeats 4000000 in
set_option maxRecDepth 100000 in
theorem kX10_away (l : Launch) {D : va_G} {cA : Nat → ClassId} {τ : Nat → Nat} {G : Nat → Nat → Nat} {L : List Nat} (hS : SW τ G L) (σ : Nat → Nat → Int) {a0 : Nat} (h0 : τ a0 = 11) {x1 : Int} (r1 : rg x1) : Met l yX10_away wsX10_away ({ frames := 2, cells := 0, slots := 0, locals := 45 }) (jP D cA τ G L σ [.ref a0, .int (jI x1)]) (jQR (fun r => True)) 0 0 (fun _ => False) := by
  refine j_metR (by decide +kernel) rfl (Nat.le_of_ble_eq_true rfl) ?_
  intro p e s m args below meth c Q hx hb hml hown hts hK hW hRet ls hl
  have hl : lv_has ls 5 [(0, .ref a0), (1, .int (jI x1))] := hl
  refine lv_aload_n hx hb dX10_away_0 rfl (lv_at hl 0 rfl) ?_
  refine lv_iload_n hx hb dX10_away_1 rfl (lv_at hl 1 rfl) ?_
  refine j_cR (j_runV (As := [.int (jI x1)]) (rest := []) hx hb hml hown hts hK hS hW (kX10_depthOf l hS σ (a0 := a0) (h0 := h0) (x1 := x1) (r1 := (by omega))) 1 gX10_away_X10_depthOf rfl hvX10_depthOf ⟨Nat.le_of_ble_eq_true rfl, Nat.le_of_ble_eq_true rfl⟩ rfl rfl h0 rfl rfl rfl rfl hl.1 rfl (Nat.le_of_ble_eq_true rfl) dX10_away_2 ⟨Nat.le_of_ble_eq_true rfl, Nat.le_of_ble_eq_true rfl⟩) (fun v_1 rv_1 pv_1 => ?_)
  try dsimp only at pv_1
  refine lv_istore_n (lv' := [(2, .int (jI v_1)), (0, .ref a0), (1, .int (jI x1))]) hx hb dX10_away_5 rfl hl (by decide) rfl (fun ls hl => ?_)
  refine lv_iload_n hx hb dX10_away_6 rfl (lv_at hl 0 rfl) ?_
  refine j_const hx hb dX10_away_7 ?_
  refine j_add hx hb dX10_away_8 ?_
  refine lv_istore_n (lv' := [(3, .int (jI (v_1 + 1))), (2, .int (jI v_1)), (0, .ref a0), (1, .int (jI x1))]) hx hb dX10_away_9 rfl hl (by decide) rfl (fun ls hl => ?_)
  refine lv_iload_n hx hb dX10_away_10 rfl (lv_at hl 3 rfl) ?_
  refine lv_istore (lv' := [(4, .int (jI x1)), (3, .int (jI (v_1 + 1))), (2, .int (jI v_1)), (0, .ref a0), (1, .int (jI x1))]) hx hb dX10_away_11 hl (by decide) rfl (fun ls hl => ?_)
  have L_13 : ∀ (N : Nat) (v2_13 v3_13 v4_13 : Int) (ls : Array Slot), N = (v4_13 : Int).toNat → (-1 ≤ v2_13) → (v2_13 ≤ 24) → rg v2_13 → rg v3_13 → rg v4_13 → lv_has ls 5 [(0, .ref a0), (2, .int (jI v2_13)), (3, .int (jI v3_13)), (4, .int (jI v4_13))] → W p l e ({ frames := 2, cells := 0, slots := 0, locals := 45 }) s m args below meth c s.heap [] 0 0 Q (F0 m 13 ls []) := by
    intro N
    induction N using Nat.strongRecOn with
    | ind N ih_13 =>
      intro v2_13 v3_13 v4_13 ls hN i0_13 i1_13 rv2_13 rv3_13 rv4_13 hl
      refine lv_iload hx hb dX10_away_13 (lv_at hl 3 rfl) ?_
      refine j_if_le (tgt := 58) hx hb (by omega) dX10_away_15 (by decide) (fun c_2 => ?_) (fun c_2 => ?_)
      · refine lv_iload_n hx hb dX10_away_58 rfl (lv_at hl 2 rfl) ?_
        exact hRet 59 _ v3_13 dX10_away_59 (by omega) trivial
      · refine lv_aload_n hx hb dX10_away_18 rfl (lv_at hl 0 rfl) ?_
        refine lv_iload hx hb dX10_away_19 (lv_at hl 3 rfl) ?_
        refine j_cR (j_runV (As := [.int (jI v4_13)]) (rest := []) hx hb hml hown hts hK hS hW (kX10_sharedAt l hS σ (a0 := a0) (h0 := h0) (x1 := v4_13) (r1 := (by omega))) 1 gX10_away_X10_sharedAt rfl hvX10_sharedAt ⟨Nat.le_of_ble_eq_true rfl, Nat.le_of_ble_eq_true rfl⟩ rfl rfl h0 rfl rfl rfl rfl hl.1 rfl (Nat.le_of_ble_eq_true rfl) dX10_away_21 ⟨Nat.le_of_ble_eq_true rfl, Nat.le_of_ble_eq_true rfl⟩) (fun v_3 rv_3 pv_3 => ?_)
        try dsimp only at pv_3
        refine lv_iload_n hx hb dX10_away_24 rfl (lv_at hl 1 rfl) ?_
        refine j_icmp_gt (tgt := 52) hx hb (by omega) (by omega) dX10_away_25 (by decide) (fun c_4 => ?_) (fun c_4 => ?_)
        · refine j_iinc (lv' := [(4, .int (jI (v4_13 + (-1)))), (0, .ref a0), (2, .int (jI v2_13)), (3, .int (jI v3_13))]) hx hb dX10_away_52 hl (k := 3) rfl (by decide) rfl (fun ls hl => ?_)
          refine lv_goto (tgt := 13) hx hb dX10_away_55 (by decide) ?_
          exact ih_13 (((v4_13 + (-1)) : Int).toNat) (by omega) v2_13 v3_13 (v4_13 + (-1)) _ rfl (by omega) (by omega) (by omega) (by omega) (by omega) (lv_sub hl [1, 2, 3, 0] rfl)
        · refine lv_aload_n hx hb dX10_away_28 rfl (lv_at hl 0 rfl) ?_
          refine lv_iload hx hb dX10_away_29 (lv_at hl 3 rfl) ?_
          refine j_cR (j_runV (As := [.int (jI v4_13)]) (rest := []) hx hb hml hown hts hK hS hW (kX10_sharedAt l hS σ (a0 := a0) (h0 := h0) (x1 := v4_13) (r1 := (by omega))) 1 gX10_away_X10_sharedAt rfl hvX10_sharedAt ⟨Nat.le_of_ble_eq_true rfl, Nat.le_of_ble_eq_true rfl⟩ rfl rfl h0 rfl rfl rfl rfl hl.1 rfl (Nat.le_of_ble_eq_true rfl) dX10_away_31 ⟨Nat.le_of_ble_eq_true rfl, Nat.le_of_ble_eq_true rfl⟩) (fun v_5 rv_5 pv_5 => ?_)
          try dsimp only at pv_5
          refine lv_istore_n (lv' := [(2, .int (jI v_5)), (0, .ref a0), (3, .int (jI v3_13)), (4, .int (jI v4_13))]) hx hb dX10_away_34 rfl hl (by decide) rfl (fun ls hl => ?_)
          refine lv_iload_n hx hb dX10_away_35 rfl (lv_at hl 2 rfl) ?_
          refine lv_aload_n hx hb dX10_away_36 rfl (lv_at hl 1 rfl) ?_
          refine lv_iload hx hb dX10_away_37 (lv_at hl 3 rfl) ?_
          refine j_cR (j_runV (As := [.int (jI v4_13)]) (rest := [.int (jI v3_13)]) hx hb hml hown hts hK hS hW (kX10_opensAt l hS σ (a0 := a0) (h0 := h0) (x1 := v4_13) (r1 := (by omega))) 1 gX10_away_X10_opensAt rfl hvX10_opensAt ⟨Nat.le_of_ble_eq_true rfl, Nat.le_of_ble_eq_true rfl⟩ rfl rfl h0 rfl rfl rfl rfl hl.1 rfl (Nat.le_of_ble_eq_true rfl) dX10_away_39 ⟨Nat.le_of_ble_eq_true rfl, Nat.le_of_ble_eq_true rfl⟩) (fun v_6 rv_6 pv_6 => ?_)
          try dsimp only at pv_6
          refine j_if_eq (tgt := 49) hx hb (by omega) dX10_away_42 (by decide) (fun c_7 => ?_) (fun c_7 => ?_)
          · refine j_const hx hb dX10_away_49 ?_
            refine j_add hx hb dX10_away_50 ?_
            refine j_wrap (fun z_8 rz_8 ez_8 => ?_)
            refine lv_istore_n (lv' := [(3, .int (jI z_8)), (2, .int (jI v_5)), (0, .ref a0), (4, .int (jI v4_13))]) hx hb dX10_away_51 rfl hl (by decide) rfl (fun ls hl => ?_)
            refine j_iinc (lv' := [(4, .int (jI (v4_13 + (-1)))), (3, .int (jI z_8)), (2, .int (jI v_5)), (0, .ref a0)]) hx hb dX10_away_52 hl (k := 3) rfl (by decide) rfl (fun ls hl => ?_)
            refine lv_goto (tgt := 13) hx hb dX10_away_55 (by decide) ?_
            exact ih_13 (((v4_13 + (-1)) : Int).toNat) (by omega) v_5 z_8 (v4_13 + (-1)) _ rfl (by omega) (by omega) (by omega) (by omega) (by omega) (lv_sub hl [3, 2, 1, 0] rfl)
          · refine j_const hx hb dX10_away_45 ?_
            refine lv_goto (tgt := 50) hx hb dX10_away_46 (by decide) ?_
            refine j_add hx hb dX10_away_50 ?_
            refine j_wrap (fun z_9 rz_9 ez_9 => ?_)
            refine lv_istore_n (lv' := [(3, .int (jI z_9)), (2, .int (jI v_5)), (0, .ref a0), (4, .int (jI v4_13))]) hx hb dX10_away_51 rfl hl (by decide) rfl (fun ls hl => ?_)
            refine j_iinc (lv' := [(4, .int (jI (v4_13 + (-1)))), (3, .int (jI z_9)), (2, .int (jI v_5)), (0, .ref a0)]) hx hb dX10_away_52 hl (k := 3) rfl (by decide) rfl (fun ls hl => ?_)
            refine lv_goto (tgt := 13) hx hb dX10_away_55 (by decide) ?_
            exact ih_13 (((v4_13 + (-1)) : Int).toNat) (by omega) v_5 z_9 (v4_13 + (-1)) _ rfl (by omega) (by omega) (by omega) (by omega) (by omega) (lv_sub hl [3, 2, 1, 0] rfl)
  exact L_13 ((x1 : Int).toNat) v_1 (v_1 + 1) x1 _ rfl (by omega) (by omega) (by omega) (by omega) (by omega) (lv_sub hl [3, 2, 1, 0] rfl)
theorem flX10_pagesWith_12 : Cond.fieldLink RX10 12 "PageTrie$Trie" "keys" "LPageTrie$Keys;" ∈ wsX10_pagesWith := List.mem_of_getElem? (i := 1) rfl
theorem flX10_pagesWith_45 : Cond.fieldLink RX10 45 "PageTrie$Keys" "size" "I" ∈ wsX10_pagesWith := List.mem_of_getElem? (i := 2) rfl
theorem inX10_pagesWith_X10 : ∀ w ∈ u_ws RX10 TX10 9, w ∈ wsX10_pagesWith := mem_r _ [30, 31, 32, 33, 34, 35, 36, 37, 38] rfl
theorem inX10_pagesWith_X3 : ∀ w ∈ u_ws RX3 TX3 4, w ∈ wsX10_pagesWith := mem_r _ [39, 40, 41, 42] rfl
theorem hvX10_pagesWith : yX10_pagesWith.cls = RX10 ∧ yX10_pagesWith.cls ≠ "java/lang/invoke/MethodHandle" ∧ yX10_pagesWith.cls ≠ "java/lang/invoke/VarHandle" ∧ (parseMethodDescriptor yX10_pagesWith.desc).map (fun d => d.parameters.length) = some 1 := by decide +kernel
set_option maxHeartbeats 4000000 in
set_option maxRecDepth 100000 in
theorem kX10_pagesWith (l : Launch) {D : va_G} {cA : Nat → ClassId} {τ : Nat → Nat} {G : Nat → Nat → Nat} {L : List Nat} (hS : SW τ G L) (σ : Nat → Nat → Int) {a0 : Nat} (h0 : τ a0 = 11) {x1 : Int} (r1 : rg x1) : Met l yX10_pagesWith wsX10_pagesWith ({ frames := 2, cells := 0, slots := 0, locals := 46 }) (jP D cA τ G L σ [.ref a0, .int (jI x1)]) (jQR (fun r => True)) 0 0 (fun _ => False) := by
  refine j_metR (by decide +kernel) rfl (Nat.le_of_ble_eq_true rfl) ?_
  intro p e s m args below meth c Q hx hb hml hown hts hK hW hRet ls hl
  have hl : lv_has ls 6 [(0, .ref a0), (1, .int (jI x1))] := hl
  refine j_const hx hb dX10_pagesWith_0 ?_
  refine lv_istore_n (lv' := [(2, .int (jI 0)), (0, .ref a0), (1, .int (jI x1))]) hx hb dX10_pagesWith_1 rfl hl (by decide) rfl (fun ls hl => ?_)
  refine j_const hx hb dX10_pagesWith_2 ?_
  refine lv_istore_n (lv' := [(3, .int (jI 0)), (2, .int (jI 0)), (0, .ref a0), (1, .int (jI x1))]) hx hb dX10_pagesWith_3 rfl hl (by decide) rfl (fun ls hl => ?_)
  have L_4 : ∀ (N : Nat) (v2_4 v3_4 : Int) (ls : Array Slot), N = (2147483647 - v3_4 : Int).toNat → (0 ≤ v3_4) → rg v2_4 → rg v3_4 → lv_has ls 6 [(0, .ref a0), (1, .int (jI x1)), (2, .int (jI v2_4)), (3, .int (jI v3_4))] → W p l e ({ frames := 2, cells := 0, slots := 0, locals := 46 }) s m args below meth c s.heap [] 0 0 Q (F0 m 4 ls []) := by
    intro N
    induction N using Nat.strongRecOn with
    | ind N ih_4 =>
      intro v2_4 v3_4 ls hN i0_4 rv2_4 rv3_4 hl
      refine lv_iload_n hx hb dX10_pagesWith_4 rfl (lv_at hl 3 rfl) ?_
      refine lv_aload_n hx hb dX10_pagesWith_5 rfl (lv_at hl 0 rfl) ?_
      refine j_getR hx hb (C := RX10) (T := TX10) (N := 9) hts inX10_pagesWith_X10 hown hK hS hW h0 rfl 0 rfl rfl (by decide) (hts _ flX10_pagesWith_12) dX10_pagesWith_6 ?_
      have h_1 : τ (G a0 0) = 4 := gty hS h0 (k := 0) rfl rfl
      refine j_getI hx hb (C := RX3) (T := TX3) (N := 4) hts inX10_pagesWith_X3 hown hK hS hW h_1 rfl 3 rfl rfl (by decide) (hts _ flX10_pagesWith_45) dX10_pagesWith_9 ?_
      have := fbd hW h_1 (k := 3) (lo := 0) (hi := 150) rfl rfl
      refine j_icmp_ge (tgt := 80) hx hb (by omega) (by omega) dX10_pagesWith_12 (by decide) (fun c_2 => ?_) (fun c_2 => ?_)
      · refine lv_iload_n hx hb dX10_pagesWith_80 rfl (lv_at hl 2 rfl) ?_
        exact hRet 81 _ v2_4 dX10_pagesWith_81 (by omega) trivial
      · refine lv_aload_n hx hb dX10_pagesWith_15 rfl (lv_at hl 0 rfl) ?_
        refine lv_iload_n hx hb dX10_pagesWith_16 rfl (lv_at hl 3 rfl) ?_
        refine j_cR (j_runV (As := [.int (jI v3_4)]) (rest := []) hx hb hml hown hts hK hS hW (kX10_opensAt l hS σ (a0 := a0) (h0 := h0) (x1 := v3_4) (r1 := (by omega))) 1 gX10_pagesWith_X10_opensAt rfl hvX10_opensAt ⟨Nat.le_of_ble_eq_true rfl, Nat.le_of_ble_eq_true rfl⟩ rfl rfl h0 rfl rfl rfl rfl hl.1 rfl (Nat.le_of_ble_eq_true rfl) dX10_pagesWith_17 ⟨Nat.le_of_ble_eq_true rfl, Nat.le_of_ble_eq_true rfl⟩) (fun v_3 rv_3 pv_3 => ?_)
        try dsimp only at pv_3
        refine j_if_eq (tgt := 31) hx hb (by omega) dX10_pagesWith_20 (by decide) (fun c_4 => ?_) (fun c_4 => ?_)
        · refine lv_aload_n hx hb dX10_pagesWith_31 rfl (lv_at hl 0 rfl) ?_
          refine lv_iload_n hx hb dX10_pagesWith_32 rfl (lv_at hl 3 rfl) ?_
          refine j_cR (j_runV (As := [.int (jI v3_4)]) (rest := []) hx hb hml hown hts hK hS hW (kX10_sharedAt l hS σ (a0 := a0) (h0 := h0) (x1 := v3_4) (r1 := (by omega))) 1 gX10_pagesWith_X10_sharedAt rfl hvX10_sharedAt ⟨Nat.le_of_ble_eq_true rfl, Nat.le_of_ble_eq_true rfl⟩ rfl rfl h0 rfl rfl rfl rfl hl.1 rfl (Nat.le_of_ble_eq_true rfl) dX10_pagesWith_33 ⟨Nat.le_of_ble_eq_true rfl, Nat.le_of_ble_eq_true rfl⟩) (fun v_5 rv_5 pv_5 => ?_)
          try dsimp only at pv_5
          refine j_const hx hb dX10_pagesWith_36 ?_
          refine j_add hx hb dX10_pagesWith_37 ?_
          refine lv_istore (lv' := [(4, .int (jI (v_5 + 1))), (0, .ref a0), (1, .int (jI x1)), (2, .int (jI v2_4)), (3, .int (jI v3_4))]) hx hb dX10_pagesWith_38 hl (by decide) rfl (fun ls hl => ?_)
          refine lv_iload hx hb dX10_pagesWith_40 (lv_at hl 0 rfl) ?_
          refine lv_istore (lv' := [(5, .int (jI (v_5 + 1))), (4, .int (jI (v_5 + 1))), (0, .ref a0), (1, .int (jI x1)), (2, .int (jI v2_4)), (3, .int (jI v3_4))]) hx hb dX10_pagesWith_42 hl (by decide) rfl (fun ls hl => ?_)
          have L_44 : ∀ (N : Nat) (v2_44 v5_44 : Int) (ls : Array Slot), N = (25 - v5_44 : Int).toNat → (-1 ≤ v5_44) → rg v2_44 → rg v5_44 → lv_has ls 6 [(0, .ref a0), (1, .int (jI x1)), (2, .int (jI v2_44)), (3, .int (jI v3_4)), (5, .int (jI v5_44))] → W p l e ({ frames := 2, cells := 0, slots := 0, locals := 46 }) s m args below meth c s.heap [] 0 0 Q (F0 m 44 ls []) := by
            intro N
            induction N using Nat.strongRecOn with
            | ind N ih_44 =>
              intro v2_44 v5_44 ls hN i0_44 rv2_44 rv5_44 hl
              refine lv_iload hx hb dX10_pagesWith_44 (lv_at hl 4 rfl) ?_
              refine lv_aload_n hx hb dX10_pagesWith_46 rfl (lv_at hl 0 rfl) ?_
              refine lv_iload_n hx hb dX10_pagesWith_47 rfl (lv_at hl 3 rfl) ?_
              refine j_cR (j_runV (As := [.int (jI v3_4)]) (rest := [.int (jI v5_44)]) hx hb hml hown hts hK hS hW (kX10_depthOf l hS σ (a0 := a0) (h0 := h0) (x1 := v3_4) (r1 := (by omega))) 1 gX10_pagesWith_X10_depthOf rfl hvX10_depthOf ⟨Nat.le_of_ble_eq_true rfl, Nat.le_of_ble_eq_true rfl⟩ rfl rfl h0 rfl rfl rfl rfl hl.1 rfl (Nat.le_of_ble_eq_true rfl) dX10_pagesWith_48 ⟨Nat.le_of_ble_eq_true rfl, Nat.le_of_ble_eq_true rfl⟩) (fun v_6 rv_6 pv_6 => ?_)
              try dsimp only at pv_6
              refine j_icmp_gt (tgt := 74) hx hb (by omega) (by omega) dX10_pagesWith_51 (by decide) (fun c_7 => ?_) (fun c_7 => ?_)
              · refine j_iinc (lv' := [(3, .int (jI (v3_4 + 1))), (0, .ref a0), (1, .int (jI x1)), (2, .int (jI v2_44)), (5, .int (jI v5_44))]) hx hb dX10_pagesWith_74 hl (k := 3) rfl (by decide) rfl (fun ls hl => ?_)
                refine lv_goto (tgt := 4) hx hb dX10_pagesWith_77 (by decide) ?_
                exact ih_4 ((2147483647 - (v3_4 + 1) : Int).toNat) (by omega) v2_44 (v3_4 + 1) _ rfl (by omega) (by omega) (by omega) (lv_sub hl [1, 2, 3, 0] rfl)
              · refine lv_aload_n hx hb dX10_pagesWith_54 rfl (lv_at hl 0 rfl) ?_
                refine lv_iload_n hx hb dX10_pagesWith_55 rfl (lv_at hl 3 rfl) ?_
                refine lv_iload hx hb dX10_pagesWith_56 (lv_at hl 4 rfl) ?_
                refine j_cR (j_runV (As := [.int (jI v3_4), .int (jI v5_44)]) (rest := []) hx hb hml hown hts hK hS hW (kX10_entriesFrom l hS σ (a0 := a0) (h0 := h0) (x1 := v3_4) (r1 := (by omega)) (x2 := v5_44) (r2 := (by omega))) 2 gX10_pagesWith_X10_entriesFrom rfl hvX10_entriesFrom ⟨Nat.le_of_ble_eq_true rfl, Nat.le_of_ble_eq_true rfl⟩ rfl rfl h0 rfl rfl rfl rfl hl.1 rfl (Nat.le_of_ble_eq_true rfl) dX10_pagesWith_58 ⟨Nat.le_of_ble_eq_true rfl, Nat.le_of_ble_eq_true rfl⟩) (fun v_8 rv_8 pv_8 => ?_)
                try dsimp only at pv_8
                refine lv_iload_n hx hb dX10_pagesWith_61 rfl (lv_at hl 1 rfl) ?_
                refine j_icmp_ne (tgt := 68) hx hb (by omega) (by omega) dX10_pagesWith_62 (by decide) (fun c_9 => ?_) (fun c_9 => ?_)
                · refine j_iinc (lv' := [(5, .int (jI (v5_44 + 1))), (0, .ref a0), (1, .int (jI x1)), (2, .int (jI v2_44)), (3, .int (jI v3_4))]) hx hb dX10_pagesWith_68 hl (k := 4) rfl (by decide) rfl (fun ls hl => ?_)
                  refine lv_goto (tgt := 44) hx hb dX10_pagesWith_71 (by decide) ?_
                  exact ih_44 ((25 - (v5_44 + 1) : Int).toNat) (by omega) v2_44 (v5_44 + 1) _ rfl (by omega) (by omega) (by omega) (lv_sub hl [1, 2, 3, 4, 0] rfl)
                · refine j_iincW hx hb dX10_pagesWith_65 hl (k := 2) rfl (by decide) (fun z_10 ls rz_10 ez_10 hl => ?_)
                  have hl : lv_has ls 6 [(2, .int (jI z_10)), (0, .ref a0), (1, .int (jI x1)), (3, .int (jI v3_4)), (5, .int (jI v5_44))] := hl
                  refine j_iinc (lv' := [(5, .int (jI (v5_44 + 1))), (2, .int (jI z_10)), (0, .ref a0), (1, .int (jI x1)), (3, .int (jI v3_4))]) hx hb dX10_pagesWith_68 hl (k := 4) rfl (by decide) rfl (fun ls hl => ?_)
                  refine lv_goto (tgt := 44) hx hb dX10_pagesWith_71 (by decide) ?_
                  exact ih_44 ((25 - (v5_44 + 1) : Int).toNat) (by omega) z_10 (v5_44 + 1) _ rfl (by omega) (by omega) (by omega) (lv_sub hl [2, 3, 1, 4, 0] rfl)
          exact L_44 ((25 - (v_5 + 1) : Int).toNat) v2_4 (v_5 + 1) _ rfl (by omega) (by omega) (by omega) (lv_sub hl [2, 3, 4, 5, 0] rfl)
        · refine lv_aload_n hx hb dX10_pagesWith_23 rfl (lv_at hl 0 rfl) ?_
          refine lv_iload_n hx hb dX10_pagesWith_24 rfl (lv_at hl 3 rfl) ?_
          refine j_cR (j_runV (As := [.int (jI v3_4)]) (rest := []) hx hb hml hown hts hK hS hW (kX10_sharedAt l hS σ (a0 := a0) (h0 := h0) (x1 := v3_4) (r1 := (by omega))) 1 gX10_pagesWith_X10_sharedAt rfl hvX10_sharedAt ⟨Nat.le_of_ble_eq_true rfl, Nat.le_of_ble_eq_true rfl⟩ rfl rfl h0 rfl rfl rfl rfl hl.1 rfl (Nat.le_of_ble_eq_true rfl) dX10_pagesWith_25 ⟨Nat.le_of_ble_eq_true rfl, Nat.le_of_ble_eq_true rfl⟩) (fun v_11 rv_11 pv_11 => ?_)
          try dsimp only at pv_11
          refine lv_goto (tgt := 38) hx hb dX10_pagesWith_28 (by decide) ?_
          refine lv_istore (lv' := [(4, .int (jI v_11)), (0, .ref a0), (1, .int (jI x1)), (2, .int (jI v2_4)), (3, .int (jI v3_4))]) hx hb dX10_pagesWith_38 hl (by decide) rfl (fun ls hl => ?_)
          refine lv_iload hx hb dX10_pagesWith_40 (lv_at hl 0 rfl) ?_
          refine lv_istore (lv' := [(5, .int (jI v_11)), (4, .int (jI v_11)), (0, .ref a0), (1, .int (jI x1)), (2, .int (jI v2_4)), (3, .int (jI v3_4))]) hx hb dX10_pagesWith_42 hl (by decide) rfl (fun ls hl => ?_)
          have L_44 : ∀ (N : Nat) (v2_44 v5_44 : Int) (ls : Array Slot), N = (25 - v5_44 : Int).toNat → (-1 ≤ v5_44) → rg v2_44 → rg v5_44 → lv_has ls 6 [(0, .ref a0), (1, .int (jI x1)), (2, .int (jI v2_44)), (3, .int (jI v3_4)), (5, .int (jI v5_44))] → W p l e ({ frames := 2, cells := 0, slots := 0, locals := 46 }) s m args below meth c s.heap [] 0 0 Q (F0 m 44 ls []) := by
            intro N
            induction N using Nat.strongRecOn with
            | ind N ih_44 =>
              intro v2_44 v5_44 ls hN i0_44 rv2_44 rv5_44 hl
              refine lv_iload hx hb dX10_pagesWith_44 (lv_at hl 4 rfl) ?_
              refine lv_aload_n hx hb dX10_pagesWith_46 rfl (lv_at hl 0 rfl) ?_
              refine lv_iload_n hx hb dX10_pagesWith_47 rfl (lv_at hl 3 rfl) ?_
              refine j_cR (j_runV (As := [.int (jI v3_4)]) (rest := [.int (jI v5_44)]) hx hb hml hown hts hK hS hW (kX10_depthOf l hS σ (a0 := a0) (h0 := h0) (x1 := v3_4) (r1 := (by omega))) 1 gX10_pagesWith_X10_depthOf rfl hvX10_depthOf ⟨Nat.le_of_ble_eq_true rfl, Nat.le_of_ble_eq_true rfl⟩ rfl rfl h0 rfl rfl rfl rfl hl.1 rfl (Nat.le_of_ble_eq_true rfl) dX10_pagesWith_48 ⟨Nat.le_of_ble_eq_true rfl, Nat.le_of_ble_eq_true rfl⟩) (fun v_12 rv_12 pv_12 => ?_)
              try dsimp only at pv_12
              refine j_icmp_gt (tgt := 74) hx hb (by omega) (by omega) dX10_pagesWith_51 (by decide) (fun c_13 => ?_) (fun c_13 => ?_)
              · refine j_iinc (lv' := [(3, .int (jI (v3_4 + 1))), (0, .ref a0), (1, .int (jI x1)), (2, .int (jI v2_44)), (5, .int (jI v5_44))]) hx hb dX10_pagesWith_74 hl (k := 3) rfl (by decide) rfl (fun ls hl => ?_)
                refine lv_goto (tgt := 4) hx hb dX10_pagesWith_77 (by decide) ?_
                exact ih_4 ((2147483647 - (v3_4 + 1) : Int).toNat) (by omega) v2_44 (v3_4 + 1) _ rfl (by omega) (by omega) (by omega) (lv_sub hl [1, 2, 3, 0] rfl)
              · refine lv_aload_n hx hb dX10_pagesWith_54 rfl (lv_at hl 0 rfl) ?_
                refine lv_iload_n hx hb dX10_pagesWith_55 rfl (lv_at hl 3 rfl) ?_
                refine lv_iload hx hb dX10_pagesWith_56 (lv_at hl 4 rfl) ?_
                refine j_cR (j_runV (As := [.int (jI v3_4), .int (jI v5_44)]) (rest := []) hx hb hml hown hts hK hS hW (kX10_entriesFrom l hS σ (a0 := a0) (h0 := h0) (x1 := v3_4) (r1 := (by omega)) (x2 := v5_44) (r2 := (by omega))) 2 gX10_pagesWith_X10_entriesFrom rfl hvX10_entriesFrom ⟨Nat.le_of_ble_eq_true rfl, Nat.le_of_ble_eq_true rfl⟩ rfl rfl h0 rfl rfl rfl rfl hl.1 rfl (Nat.le_of_ble_eq_true rfl) dX10_pagesWith_58 ⟨Nat.le_of_ble_eq_true rfl, Nat.le_of_ble_eq_true rfl⟩) (fun v_14 rv_14 pv_14 => ?_)
                try dsimp only at pv_14
                refine lv_iload_n hx hb dX10_pagesWith_61 rfl (lv_at hl 1 rfl) ?_
                refine j_icmp_ne (tgt := 68) hx hb (by omega) (by omega) dX10_pagesWith_62 (by decide) (fun c_15 => ?_) (fun c_15 => ?_)
                · refine j_iinc (lv' := [(5, .int (jI (v5_44 + 1))), (0, .ref a0), (1, .int (jI x1)), (2, .int (jI v2_44)), (3, .int (jI v3_4))]) hx hb dX10_pagesWith_68 hl (k := 4) rfl (by decide) rfl (fun ls hl => ?_)
                  refine lv_goto (tgt := 44) hx hb dX10_pagesWith_71 (by decide) ?_
                  exact ih_44 ((25 - (v5_44 + 1) : Int).toNat) (by omega) v2_44 (v5_44 + 1) _ rfl (by omega) (by omega) (by omega) (lv_sub hl [1, 2, 3, 4, 0] rfl)
                · refine j_iincW hx hb dX10_pagesWith_65 hl (k := 2) rfl (by decide) (fun z_16 ls rz_16 ez_16 hl => ?_)
                  have hl : lv_has ls 6 [(2, .int (jI z_16)), (0, .ref a0), (1, .int (jI x1)), (3, .int (jI v3_4)), (5, .int (jI v5_44))] := hl
                  refine j_iinc (lv' := [(5, .int (jI (v5_44 + 1))), (2, .int (jI z_16)), (0, .ref a0), (1, .int (jI x1)), (3, .int (jI v3_4))]) hx hb dX10_pagesWith_68 hl (k := 4) rfl (by decide) rfl (fun ls hl => ?_)
                  refine lv_goto (tgt := 44) hx hb dX10_pagesWith_71 (by decide) ?_
                  exact ih_44 ((25 - (v5_44 + 1) : Int).toNat) (by omega) z_16 (v5_44 + 1) _ rfl (by omega) (by omega) (by omega) (lv_sub hl [2, 3, 1, 4, 0] rfl)
          exact L_44 ((25 - v_11 : Int).toNat) v2_4 v_11 _ rfl (by omega) (by omega) (by omega) (lv_sub hl [2, 3, 4, 5, 0] rfl)
  exact L_4 ((2147483647 - 0 : Int).toNat) 0 0 _ rfl (by omega) (by decide) (by decide) (lv_sub hl [2, 3, 1, 0] rfl)
theorem flX10_layers_12 : Cond.fieldLink RX10 12 "PageTrie$Trie" "keys" "LPageTrie$Keys;" ∈ wsX10_layers := List.mem_of_getElem? (i := 1) rfl
theorem flX10_layers_45 : Cond.fieldLink RX10 45 "PageTrie$Keys" "size" "I" ∈ wsX10_layers := List.mem_of_getElem? (i := 2) rfl
theorem inX10_layers_X10 : ∀ w ∈ u_ws RX10 TX10 9, w ∈ wsX10_layers := mem_r _ [17, 18, 19, 20, 21, 22, 23, 24, 25] rfl
theorem inX10_layers_X3 : ∀ w ∈ u_ws RX3 TX3 4, w ∈ wsX10_layers := mem_r _ [26, 27, 28, 29] rfl
theorem hvX10_layers : yX10_layers.cls = RX10 ∧ yX10_layers.cls ≠ "java/lang/invoke/MethodHandle" ∧ yX10_layers.cls ≠ "java/lang/invoke/VarHandle" ∧ (parseMethodDescriptor yX10_layers.desc).map (fun d => d.parameters.length) = some 0 := by decide +kernel
set_option maxHeartbeats 4000000 in
set_option maxRecDepth 100000 in
theorem kX10_layers (l : Launch) {D : va_G} {cA : Nat → ClassId} {τ : Nat → Nat} {G : Nat → Nat → Nat} {L : List Nat} (hS : SW τ G L) (σ : Nat → Nat → Int) {a0 : Nat} (h0 : τ a0 = 11) : Met l yX10_layers wsX10_layers ({ frames := 2, cells := 0, slots := 0, locals := 45 }) (jP D cA τ G L σ [.ref a0]) (jQR (fun r => True)) 0 0 (fun _ => False) := by
  refine j_metR (by decide +kernel) rfl (Nat.le_of_ble_eq_true rfl) ?_
  intro p e s m args below meth c Q hx hb hml hown hts hK hW hRet ls hl
  have hl : lv_has ls 3 [(0, .ref a0)] := hl
  refine j_const hx hb dX10_layers_0 ?_
  refine lv_istore_n (lv' := [(1, .int (jI 1)), (0, .ref a0)]) hx hb dX10_layers_1 rfl hl (by decide) rfl (fun ls hl => ?_)
  refine j_const hx hb dX10_layers_2 ?_
  refine lv_istore_n (lv' := [(2, .int (jI 0)), (1, .int (jI 1)), (0, .ref a0)]) hx hb dX10_layers_3 rfl hl (by decide) rfl (fun ls hl => ?_)
  have L_4 : ∀ (N : Nat) (v1_4 v2_4 : Int) (ls : Array Slot), N = (2147483647 - v2_4 : Int).toNat → (0 ≤ v2_4) → rg v1_4 → rg v2_4 → lv_has ls 3 [(0, .ref a0), (1, .int (jI v1_4)), (2, .int (jI v2_4))] → W p l e ({ frames := 2, cells := 0, slots := 0, locals := 45 }) s m args below meth c s.heap [] 0 0 Q (F0 m 4 ls []) := by
    intro N
    induction N using Nat.strongRecOn with
    | ind N ih_4 =>
      intro v1_4 v2_4 ls hN i0_4 rv1_4 rv2_4 hl
      refine lv_iload_n hx hb dX10_layers_4 rfl (lv_at hl 2 rfl) ?_
      refine lv_aload_n hx hb dX10_layers_5 rfl (lv_at hl 0 rfl) ?_
      refine j_getR hx hb (C := RX10) (T := TX10) (N := 9) hts inX10_layers_X10 hown hK hS hW h0 rfl 0 rfl rfl (by decide) (hts _ flX10_layers_12) dX10_layers_6 ?_
      have h_1 : τ (G a0 0) = 4 := gty hS h0 (k := 0) rfl rfl
      refine j_getI hx hb (C := RX3) (T := TX3) (N := 4) hts inX10_layers_X3 hown hK hS hW h_1 rfl 3 rfl rfl (by decide) (hts _ flX10_layers_45) dX10_layers_9 ?_
      have := fbd hW h_1 (k := 3) (lo := 0) (hi := 150) rfl rfl
      refine j_icmp_ge (tgt := 35) hx hb (by omega) (by omega) dX10_layers_12 (by decide) (fun c_2 => ?_) (fun c_2 => ?_)
      · refine lv_iload_n hx hb dX10_layers_35 rfl (lv_at hl 1 rfl) ?_
        exact hRet 36 _ v1_4 dX10_layers_36 (by omega) trivial
      · refine lv_iload_n hx hb dX10_layers_15 rfl (lv_at hl 1 rfl) ?_
        refine lv_aload_n hx hb dX10_layers_16 rfl (lv_at hl 0 rfl) ?_
        refine lv_iload_n hx hb dX10_layers_17 rfl (lv_at hl 2 rfl) ?_
        refine j_cR (j_runV (As := [.int (jI v2_4)]) (rest := [.int (jI v1_4)]) hx hb hml hown hts hK hS hW (kX10_depthOf l hS σ (a0 := a0) (h0 := h0) (x1 := v2_4) (r1 := (by omega))) 1 gX10_layers_X10_depthOf rfl hvX10_depthOf ⟨Nat.le_of_ble_eq_true rfl, Nat.le_of_ble_eq_true rfl⟩ rfl rfl h0 rfl rfl rfl rfl hl.1 rfl (Nat.le_of_ble_eq_true rfl) dX10_layers_18 ⟨Nat.le_of_ble_eq_true rfl, Nat.le_of_ble_eq_true rfl⟩) (fun v_3 rv_3 pv_3 => ?_)
        try dsimp only at pv_3
        refine lv_aload_n hx hb dX10_layers_21 rfl (lv_at hl 0 rfl) ?_
        refine lv_iload_n hx hb dX10_layers_22 rfl (lv_at hl 2 rfl) ?_
        refine j_cR (j_runV (As := [.int (jI v2_4)]) (rest := [.int (jI v_3), .int (jI v1_4)]) hx hb hml hown hts hK hS hW (kX10_sharedAt l hS σ (a0 := a0) (h0 := h0) (x1 := v2_4) (r1 := (by omega))) 1 gX10_layers_X10_sharedAt rfl hvX10_sharedAt ⟨Nat.le_of_ble_eq_true rfl, Nat.le_of_ble_eq_true rfl⟩ rfl rfl h0 rfl rfl rfl rfl hl.1 rfl (Nat.le_of_ble_eq_true rfl) dX10_layers_23 ⟨Nat.le_of_ble_eq_true rfl, Nat.le_of_ble_eq_true rfl⟩) (fun v_4 rv_4 pv_4 => ?_)
        try dsimp only at pv_4
        refine j_sub hx hb dX10_layers_26 ?_
        refine j_add hx hb dX10_layers_27 ?_
        refine j_wrap (fun z_5 rz_5 ez_5 => ?_)
        refine lv_istore_n (lv' := [(1, .int (jI z_5)), (0, .ref a0), (2, .int (jI v2_4))]) hx hb dX10_layers_28 rfl hl (by decide) rfl (fun ls hl => ?_)
        refine j_iinc (lv' := [(2, .int (jI (v2_4 + 1))), (1, .int (jI z_5)), (0, .ref a0)]) hx hb dX10_layers_29 hl (k := 2) rfl (by decide) rfl (fun ls hl => ?_)
        refine lv_goto (tgt := 4) hx hb dX10_layers_32 (by decide) ?_
        exact ih_4 ((2147483647 - (v2_4 + 1) : Int).toNat) (by omega) z_5 (v2_4 + 1) _ rfl (by omega) (by omega) (by omega) (lv_sub hl [2, 1, 0] rfl)
  exact L_4 ((2147483647 - 0 : Int).toNat) 1 0 _ rfl (by omega) (by decide) (by decide) (lv_sub hl [2, 1, 0] rfl)
theorem flX10_pages_12 : Cond.fieldLink RX10 12 "PageTrie$Trie" "keys" "LPageTrie$Keys;" ∈ wsX10_pages := List.mem_of_getElem? (i := 1) rfl
theorem flX10_pages_45 : Cond.fieldLink RX10 45 "PageTrie$Keys" "size" "I" ∈ wsX10_pages := List.mem_of_getElem? (i := 2) rfl
theorem inX10_pages_X10 : ∀ w ∈ u_ws RX10 TX10 9, w ∈ wsX10_pages := mem_r _ [22, 23, 24, 25, 26, 27, 28, 29, 30] rfl
theorem inX10_pages_X3 : ∀ w ∈ u_ws RX3 TX3 4, w ∈ wsX10_pages := mem_r _ [31, 32, 33, 34] rfl
theorem hvX10_pages : yX10_pages.cls = RX10 ∧ yX10_pages.cls ≠ "java/lang/invoke/MethodHandle" ∧ yX10_pages.cls ≠ "java/lang/invoke/VarHandle" ∧ (parseMethodDescriptor yX10_pages.desc).map (fun d => d.parameters.length) = some 0 := by decide +kernel
set_option maxHeartbeats 4000000 in
set_option maxRecDepth 100000 in
theorem kX10_pages (l : Launch) {D : va_G} {cA : Nat → ClassId} {τ : Nat → Nat} {G : Nat → Nat → Nat} {L : List Nat} (hS : SW τ G L) (σ : Nat → Nat → Int) {a0 : Nat} (h0 : τ a0 = 11) : Met l yX10_pages wsX10_pages ({ frames := 2, cells := 0, slots := 0, locals := 45 }) (jP D cA τ G L σ [.ref a0]) (jQR (fun r => True)) 0 0 (fun _ => False) := by
  refine j_metR (by decide +kernel) rfl (Nat.le_of_ble_eq_true rfl) ?_
  intro p e s m args below meth c Q hx hb hml hown hts hK hW hRet ls hl
  have hl : lv_has ls 3 [(0, .ref a0)] := hl
  refine j_const hx hb dX10_pages_0 ?_
  refine lv_istore_n (lv' := [(1, .int (jI 0)), (0, .ref a0)]) hx hb dX10_pages_1 rfl hl (by decide) rfl (fun ls hl => ?_)
  refine j_const hx hb dX10_pages_2 ?_
  refine lv_istore_n (lv' := [(2, .int (jI 0)), (1, .int (jI 0)), (0, .ref a0)]) hx hb dX10_pages_3 rfl hl (by decide) rfl (fun ls hl => ?_)
  have L_4 : ∀ (N : Nat) (v1_4 v2_4 : Int) (ls : Array Slot), N = (2147483647 - v2_4 : Int).toNat → (0 ≤ v2_4) → rg v1_4 → rg v2_4 → lv_has ls 3 [(0, .ref a0), (1, .int (jI v1_4)), (2, .int (jI v2_4))] → W p l e ({ frames := 2, cells := 0, slots := 0, locals := 45 }) s m args below meth c s.heap [] 0 0 Q (F0 m 4 ls []) := by
    intro N
    induction N using Nat.strongRecOn with
    | ind N ih_4 =>
      intro v1_4 v2_4 ls hN i0_4 rv1_4 rv2_4 hl
      refine lv_iload_n hx hb dX10_pages_4 rfl (lv_at hl 2 rfl) ?_
      refine lv_aload_n hx hb dX10_pages_5 rfl (lv_at hl 0 rfl) ?_
      refine j_getR hx hb (C := RX10) (T := TX10) (N := 9) hts inX10_pages_X10 hown hK hS hW h0 rfl 0 rfl rfl (by decide) (hts _ flX10_pages_12) dX10_pages_6 ?_
      have h_1 : τ (G a0 0) = 4 := gty hS h0 (k := 0) rfl rfl
      refine j_getI hx hb (C := RX3) (T := TX3) (N := 4) hts inX10_pages_X3 hown hK hS hW h_1 rfl 3 rfl rfl (by decide) (hts _ flX10_pages_45) dX10_pages_9 ?_
      have := fbd hW h_1 (k := 3) (lo := 0) (hi := 150) rfl rfl
      refine j_icmp_ge (tgt := 49) hx hb (by omega) (by omega) dX10_pages_12 (by decide) (fun c_2 => ?_) (fun c_2 => ?_)
      · refine lv_iload_n hx hb dX10_pages_49 rfl (lv_at hl 1 rfl) ?_
        exact hRet 50 _ v1_4 dX10_pages_50 (by omega) trivial
      · refine lv_iload_n hx hb dX10_pages_15 rfl (lv_at hl 1 rfl) ?_
        refine lv_aload_n hx hb dX10_pages_16 rfl (lv_at hl 0 rfl) ?_
        refine lv_iload_n hx hb dX10_pages_17 rfl (lv_at hl 2 rfl) ?_
        refine j_cR (j_runV (As := [.int (jI v2_4)]) (rest := [.int (jI v1_4)]) hx hb hml hown hts hK hS hW (kX10_depthOf l hS σ (a0 := a0) (h0 := h0) (x1 := v2_4) (r1 := (by omega))) 1 gX10_pages_X10_depthOf rfl hvX10_depthOf ⟨Nat.le_of_ble_eq_true rfl, Nat.le_of_ble_eq_true rfl⟩ rfl rfl h0 rfl rfl rfl rfl hl.1 rfl (Nat.le_of_ble_eq_true rfl) dX10_pages_18 ⟨Nat.le_of_ble_eq_true rfl, Nat.le_of_ble_eq_true rfl⟩) (fun v_3 rv_3 pv_3 => ?_)
        try dsimp only at pv_3
        refine lv_aload_n hx hb dX10_pages_21 rfl (lv_at hl 0 rfl) ?_
        refine lv_iload_n hx hb dX10_pages_22 rfl (lv_at hl 2 rfl) ?_
        refine j_cR (j_runV (As := [.int (jI v2_4)]) (rest := [.int (jI v_3), .int (jI v1_4)]) hx hb hml hown hts hK hS hW (kX10_sharedAt l hS σ (a0 := a0) (h0 := h0) (x1 := v2_4) (r1 := (by omega))) 1 gX10_pages_X10_sharedAt rfl hvX10_sharedAt ⟨Nat.le_of_ble_eq_true rfl, Nat.le_of_ble_eq_true rfl⟩ rfl rfl h0 rfl rfl rfl rfl hl.1 rfl (Nat.le_of_ble_eq_true rfl) dX10_pages_23 ⟨Nat.le_of_ble_eq_true rfl, Nat.le_of_ble_eq_true rfl⟩) (fun v_4 rv_4 pv_4 => ?_)
        try dsimp only at pv_4
        refine j_sub hx hb dX10_pages_26 ?_
        refine lv_aload_n hx hb dX10_pages_27 rfl (lv_at hl 0 rfl) ?_
        refine lv_iload_n hx hb dX10_pages_28 rfl (lv_at hl 2 rfl) ?_
        refine j_cR (j_runV (As := [.int (jI v2_4)]) (rest := [.int (jI (v_3 - v_4)), .int (jI v1_4)]) hx hb hml hown hts hK hS hW (kX10_opensAt l hS σ (a0 := a0) (h0 := h0) (x1 := v2_4) (r1 := (by omega))) 1 gX10_pages_X10_opensAt rfl hvX10_opensAt ⟨Nat.le_of_ble_eq_true rfl, Nat.le_of_ble_eq_true rfl⟩ rfl rfl h0 rfl rfl rfl rfl hl.1 rfl (Nat.le_of_ble_eq_true rfl) dX10_pages_29 ⟨Nat.le_of_ble_eq_true rfl, Nat.le_of_ble_eq_true rfl⟩) (fun v_5 rv_5 pv_5 => ?_)
        try dsimp only at pv_5
        refine j_if_eq (tgt := 39) hx hb (by omega) dX10_pages_32 (by decide) (fun c_6 => ?_) (fun c_6 => ?_)
        · refine j_const hx hb dX10_pages_39 ?_
          refine j_add hx hb dX10_pages_40 ?_
          refine j_add hx hb dX10_pages_41 ?_
          refine j_wrap (fun z_7 rz_7 ez_7 => ?_)
          refine lv_istore_n (lv' := [(1, .int (jI z_7)), (0, .ref a0), (2, .int (jI v2_4))]) hx hb dX10_pages_42 rfl hl (by decide) rfl (fun ls hl => ?_)
          refine j_iinc (lv' := [(2, .int (jI (v2_4 + 1))), (1, .int (jI z_7)), (0, .ref a0)]) hx hb dX10_pages_43 hl (k := 2) rfl (by decide) rfl (fun ls hl => ?_)
          refine lv_goto (tgt := 4) hx hb dX10_pages_46 (by decide) ?_
          exact ih_4 ((2147483647 - (v2_4 + 1) : Int).toNat) (by omega) z_7 (v2_4 + 1) _ rfl (by omega) (by omega) (by omega) (lv_sub hl [2, 1, 0] rfl)
        · refine j_const hx hb dX10_pages_35 ?_
          refine lv_goto (tgt := 40) hx hb dX10_pages_36 (by decide) ?_
          refine j_add hx hb dX10_pages_40 ?_
          refine j_add hx hb dX10_pages_41 ?_
          refine j_wrap (fun z_8 rz_8 ez_8 => ?_)
          refine lv_istore_n (lv' := [(1, .int (jI z_8)), (0, .ref a0), (2, .int (jI v2_4))]) hx hb dX10_pages_42 rfl hl (by decide) rfl (fun ls hl => ?_)
          refine j_iinc (lv' := [(2, .int (jI (v2_4 + 1))), (1, .int (jI z_8)), (0, .ref a0)]) hx hb dX10_pages_43 hl (k := 2) rfl (by decide) rfl (fun ls hl => ?_)
          refine lv_goto (tgt := 4) hx hb dX10_pages_46 (by decide) ?_
          exact ih_4 ((2147483647 - (v2_4 + 1) : Int).toNat) (by omega) z_8 (v2_4 + 1) _ rfl (by omega) (by omega) (by omega) (lv_sub hl [2, 1, 0] rfl)
  exact L_4 ((2147483647 - 0 : Int).toNat) 0 0 _ rfl (by omega) (by decide) (by decide) (lv_sub hl [2, 1, 0] rfl)
theorem flX10_ends_12 : Cond.fieldLink RX10 12 "PageTrie$Trie" "keys" "LPageTrie$Keys;" ∈ wsX10_ends := List.mem_of_getElem? (i := 1) rfl
theorem flX10_ends_45 : Cond.fieldLink RX10 45 "PageTrie$Keys" "size" "I" ∈ wsX10_ends := List.mem_of_getElem? (i := 2) rfl
theorem inX10_ends_X10 : ∀ w ∈ u_ws RX10 TX10 9, w ∈ wsX10_ends := mem_r _ [29, 30, 31, 32, 33, 34, 35, 36, 37] rfl
theorem inX10_ends_X3 : ∀ w ∈ u_ws RX3 TX3 4, w ∈ wsX10_ends := mem_r _ [38, 39, 40, 41] rfl
theorem hvX10_ends : yX10_ends.cls = RX10 ∧ yX10_ends.cls ≠ "java/lang/invoke/MethodHandle" ∧ yX10_ends.cls ≠ "java/lang/invoke/VarHandle" ∧ (parseMethodDescriptor yX10_ends.desc).map (fun d => d.parameters.length) = some 0 := by decide +kernel
set_option maxHeartbeats 4000000 in
set_option maxRecDepth 100000 in
theorem kX10_ends (l : Launch) {D : va_G} {cA : Nat → ClassId} {τ : Nat → Nat} {G : Nat → Nat → Nat} {L : List Nat} (hS : SW τ G L) (σ : Nat → Nat → Int) {a0 : Nat} (h0 : τ a0 = 11) : Met l yX10_ends wsX10_ends ({ frames := 3, cells := 0, slots := 0, locals := 66 }) (jP D cA τ G L σ [.ref a0]) (jQR (fun r => True)) 0 0 (fun _ => False) := by
  refine j_metR (by decide +kernel) rfl (Nat.le_of_ble_eq_true rfl) ?_
  intro p e s m args below meth c Q hx hb hml hown hts hK hW hRet ls hl
  have hl : lv_has ls 3 [(0, .ref a0)] := hl
  refine j_const hx hb dX10_ends_0 ?_
  refine lv_istore_n (lv' := [(1, .int (jI 0)), (0, .ref a0)]) hx hb dX10_ends_1 rfl hl (by decide) rfl (fun ls hl => ?_)
  refine j_const hx hb dX10_ends_2 ?_
  refine lv_istore_n (lv' := [(2, .int (jI 0)), (1, .int (jI 0)), (0, .ref a0)]) hx hb dX10_ends_3 rfl hl (by decide) rfl (fun ls hl => ?_)
  have L_4 : ∀ (N : Nat) (v1_4 v2_4 : Int) (ls : Array Slot), N = (2147483647 - v2_4 : Int).toNat → (0 ≤ v2_4) → rg v1_4 → rg v2_4 → lv_has ls 3 [(0, .ref a0), (1, .int (jI v1_4)), (2, .int (jI v2_4))] → W p l e ({ frames := 3, cells := 0, slots := 0, locals := 66 }) s m args below meth c s.heap [] 0 0 Q (F0 m 4 ls []) := by
    intro N
    induction N using Nat.strongRecOn with
    | ind N ih_4 =>
      intro v1_4 v2_4 ls hN i0_4 rv1_4 rv2_4 hl
      refine lv_iload_n hx hb dX10_ends_4 rfl (lv_at hl 2 rfl) ?_
      refine lv_aload_n hx hb dX10_ends_5 rfl (lv_at hl 0 rfl) ?_
      refine j_getR hx hb (C := RX10) (T := TX10) (N := 9) hts inX10_ends_X10 hown hK hS hW h0 rfl 0 rfl rfl (by decide) (hts _ flX10_ends_12) dX10_ends_6 ?_
      have h_1 : τ (G a0 0) = 4 := gty hS h0 (k := 0) rfl rfl
      refine j_getI hx hb (C := RX3) (T := TX3) (N := 4) hts inX10_ends_X3 hown hK hS hW h_1 rfl 3 rfl rfl (by decide) (hts _ flX10_ends_45) dX10_ends_9 ?_
      have := fbd hW h_1 (k := 3) (lo := 0) (hi := 150) rfl rfl
      refine j_icmp_ge (tgt := 37) hx hb (by omega) (by omega) dX10_ends_12 (by decide) (fun c_2 => ?_) (fun c_2 => ?_)
      · refine lv_iload_n hx hb dX10_ends_37 rfl (lv_at hl 1 rfl) ?_
        exact hRet 38 _ v1_4 dX10_ends_38 (by omega) trivial
      · refine lv_iload_n hx hb dX10_ends_15 rfl (lv_at hl 1 rfl) ?_
        refine lv_aload_n hx hb dX10_ends_16 rfl (lv_at hl 0 rfl) ?_
        refine lv_iload_n hx hb dX10_ends_17 rfl (lv_at hl 2 rfl) ?_
        refine j_cR (j_runV (As := [.int (jI v2_4)]) (rest := [.int (jI v1_4)]) hx hb hml hown hts hK hS hW (kX10_isEnd l hS σ (a0 := a0) (h0 := h0) (x1 := v2_4) (r1 := (by omega))) 1 gX10_ends_X10_isEnd rfl hvX10_isEnd ⟨Nat.le_of_ble_eq_true rfl, Nat.le_of_ble_eq_true rfl⟩ rfl rfl h0 rfl rfl rfl rfl hl.1 rfl (Nat.le_of_ble_eq_true rfl) dX10_ends_18 ⟨Nat.le_of_ble_eq_true rfl, Nat.le_of_ble_eq_true rfl⟩) (fun v_3 rv_3 pv_3 => ?_)
        try dsimp only at pv_3
        refine j_if_eq (tgt := 28) hx hb (by omega) dX10_ends_21 (by decide) (fun c_4 => ?_) (fun c_4 => ?_)
        · refine j_const hx hb dX10_ends_28 ?_
          refine j_add hx hb dX10_ends_29 ?_
          refine j_wrap (fun z_5 rz_5 ez_5 => ?_)
          refine lv_istore_n (lv' := [(1, .int (jI z_5)), (0, .ref a0), (2, .int (jI v2_4))]) hx hb dX10_ends_30 rfl hl (by decide) rfl (fun ls hl => ?_)
          refine j_iinc (lv' := [(2, .int (jI (v2_4 + 1))), (1, .int (jI z_5)), (0, .ref a0)]) hx hb dX10_ends_31 hl (k := 2) rfl (by decide) rfl (fun ls hl => ?_)
          refine lv_goto (tgt := 4) hx hb dX10_ends_34 (by decide) ?_
          exact ih_4 ((2147483647 - (v2_4 + 1) : Int).toNat) (by omega) z_5 (v2_4 + 1) _ rfl (by omega) (by omega) (by omega) (lv_sub hl [2, 1, 0] rfl)
        · refine j_const hx hb dX10_ends_24 ?_
          refine lv_goto (tgt := 29) hx hb dX10_ends_25 (by decide) ?_
          refine j_add hx hb dX10_ends_29 ?_
          refine j_wrap (fun z_6 rz_6 ez_6 => ?_)
          refine lv_istore_n (lv' := [(1, .int (jI z_6)), (0, .ref a0), (2, .int (jI v2_4))]) hx hb dX10_ends_30 rfl hl (by decide) rfl (fun ls hl => ?_)
          refine j_iinc (lv' := [(2, .int (jI (v2_4 + 1))), (1, .int (jI z_6)), (0, .ref a0)]) hx hb dX10_ends_31 hl (k := 2) rfl (by decide) rfl (fun ls hl => ?_)
          refine lv_goto (tgt := 4) hx hb dX10_ends_34 (by decide) ?_
          exact ih_4 ((2147483647 - (v2_4 + 1) : Int).toNat) (by omega) z_6 (v2_4 + 1) _ rfl (by omega) (by omega) (by omega) (lv_sub hl [2, 1, 0] rfl)
  exact L_4 ((2147483647 - 0 : Int).toNat) 0 0 _ rfl (by omega) (by decide) (by decide) (lv_sub hl [2, 1, 0] rfl)
theorem flX10_deepest_12 : Cond.fieldLink RX10 12 "PageTrie$Trie" "keys" "LPageTrie$Keys;" ∈ wsX10_deepest := List.mem_of_getElem? (i := 1) rfl
theorem flX10_deepest_45 : Cond.fieldLink RX10 45 "PageTrie$Keys" "size" "I" ∈ wsX10_deepest := List.mem_of_getElem? (i := 2) rfl
theorem inX10_deepest_X10 : ∀ w ∈ u_ws RX10 TX10 9, w ∈ wsX10_deepest := mem_r _ [13, 14, 15, 16, 17, 18, 19, 20, 21] rfl
theorem inX10_deepest_X3 : ∀ w ∈ u_ws RX3 TX3 4, w ∈ wsX10_deepest := mem_r _ [22, 23, 24, 25] rfl
theorem hvX10_deepest : yX10_deepest.cls = RX10 ∧ yX10_deepest.cls ≠ "java/lang/invoke/MethodHandle" ∧ yX10_deepest.cls ≠ "java/lang/invoke/VarHandle" ∧ (parseMethodDescriptor yX10_deepest.desc).map (fun d => d.parameters.length) = some 0 := by decide +kernel
set_option maxHeartbeats 4000000 in
set_option maxRecDepth 100000 in
theorem kX10_deepest (l : Launch) {D : va_G} {cA : Nat → ClassId} {τ : Nat → Nat} {G : Nat → Nat → Nat} {L : List Nat} (hS : SW τ G L) (σ : Nat → Nat → Int) {a0 : Nat} (h0 : τ a0 = 11) : Met l yX10_deepest wsX10_deepest ({ frames := 1, cells := 0, slots := 0, locals := 24 }) (jP D cA τ G L σ [.ref a0]) (jQR (fun r => True)) 0 0 (fun _ => False) := by
  refine j_metR (by decide +kernel) rfl (Nat.le_of_ble_eq_true rfl) ?_
  intro p e s m args below meth c Q hx hb hml hown hts hK hW hRet ls hl
  have hl : lv_has ls 3 [(0, .ref a0)] := hl
  refine j_const hx hb dX10_deepest_0 ?_
  refine lv_istore_n (lv' := [(1, .int (jI 0)), (0, .ref a0)]) hx hb dX10_deepest_1 rfl hl (by decide) rfl (fun ls hl => ?_)
  refine j_const hx hb dX10_deepest_2 ?_
  refine lv_istore_n (lv' := [(2, .int (jI 0)), (1, .int (jI 0)), (0, .ref a0)]) hx hb dX10_deepest_3 rfl hl (by decide) rfl (fun ls hl => ?_)
  have L_4 : ∀ (N : Nat) (v1_4 v2_4 : Int) (ls : Array Slot), N = (2147483647 - v2_4 : Int).toNat → (0 ≤ v2_4) → (-1 ≤ v1_4) → (v1_4 ≤ 24) → rg v1_4 → rg v2_4 → lv_has ls 3 [(0, .ref a0), (1, .int (jI v1_4)), (2, .int (jI v2_4))] → W p l e ({ frames := 1, cells := 0, slots := 0, locals := 24 }) s m args below meth c s.heap [] 0 0 Q (F0 m 4 ls []) := by
    intro N
    induction N using Nat.strongRecOn with
    | ind N ih_4 =>
      intro v1_4 v2_4 ls hN i0_4 i1_4 i2_4 rv1_4 rv2_4 hl
      refine lv_iload_n hx hb dX10_deepest_4 rfl (lv_at hl 2 rfl) ?_
      refine lv_aload_n hx hb dX10_deepest_5 rfl (lv_at hl 0 rfl) ?_
      refine j_getR hx hb (C := RX10) (T := TX10) (N := 9) hts inX10_deepest_X10 hown hK hS hW h0 rfl 0 rfl rfl (by decide) (hts _ flX10_deepest_12) dX10_deepest_6 ?_
      have h_1 : τ (G a0 0) = 4 := gty hS h0 (k := 0) rfl rfl
      refine j_getI hx hb (C := RX3) (T := TX3) (N := 4) hts inX10_deepest_X3 hown hK hS hW h_1 rfl 3 rfl rfl (by decide) (hts _ flX10_deepest_45) dX10_deepest_9 ?_
      have := fbd hW h_1 (k := 3) (lo := 0) (hi := 150) rfl rfl
      refine j_icmp_ge (tgt := 31) hx hb (by omega) (by omega) dX10_deepest_12 (by decide) (fun c_2 => ?_) (fun c_2 => ?_)
      · refine lv_iload_n hx hb dX10_deepest_31 rfl (lv_at hl 1 rfl) ?_
        exact hRet 32 _ v1_4 dX10_deepest_32 (by omega) trivial
      · refine lv_iload_n hx hb dX10_deepest_15 rfl (lv_at hl 1 rfl) ?_
        refine lv_aload_n hx hb dX10_deepest_16 rfl (lv_at hl 0 rfl) ?_
        refine lv_iload_n hx hb dX10_deepest_17 rfl (lv_at hl 2 rfl) ?_
        refine j_cR (j_runV (As := [.int (jI v2_4)]) (rest := [.int (jI v1_4)]) hx hb hml hown hts hK hS hW (kX10_sharedAt l hS σ (a0 := a0) (h0 := h0) (x1 := v2_4) (r1 := (by omega))) 1 gX10_deepest_X10_sharedAt rfl hvX10_sharedAt ⟨Nat.le_of_ble_eq_true rfl, Nat.le_of_ble_eq_true rfl⟩ rfl rfl h0 rfl rfl rfl rfl hl.1 rfl (Nat.le_of_ble_eq_true rfl) dX10_deepest_18 ⟨Nat.le_of_ble_eq_true rfl, Nat.le_of_ble_eq_true rfl⟩) (fun v_3 rv_3 pv_3 => ?_)
        try dsimp only at pv_3
        refine j_mmax hx hb (hml.trans hl.1.symm) hown (hts (.methodLink RX10 95 Lib.Math.max.name) (by decide +kernel)) (hts (.static Lib.Math.max.name) (by decide +kernel)) (hts (.initialized "java/lang/Math") (by decide +kernel)) (hts (.code Lib.Math.max.name Lib.Math.max.code 2 (some .int)) (by decide +kernel)) (Nat.le_of_ble_eq_true rfl) (Nat.le_of_ble_eq_true rfl) (Nat.le_of_ble_eq_true rfl) (Nat.le_of_ble_eq_true rfl) (by omega) (by omega) dX10_deepest_21 (fun z_4 rz_4 ez_4 => ?_)
        refine lv_istore_n (lv' := [(1, .int (jI z_4)), (0, .ref a0), (2, .int (jI v2_4))]) hx hb dX10_deepest_24 rfl hl (by decide) rfl (fun ls hl => ?_)
        refine j_iinc (lv' := [(2, .int (jI (v2_4 + 1))), (1, .int (jI z_4)), (0, .ref a0)]) hx hb dX10_deepest_25 hl (k := 2) rfl (by decide) rfl (fun ls hl => ?_)
        refine lv_goto (tgt := 4) hx hb dX10_deepest_28 (by decide) ?_
        exact ih_4 ((2147483647 - (v2_4 + 1) : Int).toNat) (by omega) z_4 (v2_4 + 1) _ rfl (by omega) (by omega) (by omega) (by omega) (by omega) (lv_sub hl [2, 1, 0] rfl)
  exact L_4 ((2147483647 - 0 : Int).toNat) 0 0 _ rfl (by omega) (by omega) (by omega) (by decide) (by decide) (lv_sub hl [2, 1, 0] rfl)
theorem flX10_weight_12 : Cond.fieldLink RX10 12 "PageTrie$Trie" "keys" "LPageTrie$Keys;" ∈ wsX10_weight := List.mem_of_getElem? (i := 2) rfl
theorem flX10_weight_26 : Cond.fieldLink RX10 26 "PageTrie$Trie" "width" "I" ∈ wsX10_weight := List.mem_of_getElem? (i := 1) rfl
theorem flX10_weight_45 : Cond.fieldLink RX10 45 "PageTrie$Keys" "size" "I" ∈ wsX10_weight := List.mem_of_getElem? (i := 3) rfl
theorem inX10_weight_X10 : ∀ w ∈ u_ws RX10 TX10 9, w ∈ wsX10_weight := mem_r _ [38, 39, 40, 41, 42, 43, 44, 45, 46] rfl
theorem inX10_weight_X3 : ∀ w ∈ u_ws RX3 TX3 4, w ∈ wsX10_weight := mem_r _ [47, 48, 49, 50] rfl
theorem hvX10_weight : yX10_weight.cls = RX10 ∧ yX10_weight.cls ≠ "java/lang/invoke/MethodHandle" ∧ yX10_weight.cls ≠ "java/lang/invoke/VarHandle" ∧ (parseMethodDescriptor yX10_weight.desc).map (fun d => d.parameters.length) = some 0 := by decide +kernel
set_option maxHeartbeats 4000000 in
set_option maxRecDepth 100000 in
theorem kX10_weight (l : Launch) {D : va_G} {cA : Nat → ClassId} {τ : Nat → Nat} {G : Nat → Nat → Nat} {L : List Nat} (hS : SW τ G L) (σ : Nat → Nat → Int) {a0 : Nat} (h0 : τ a0 = 11) : Met l yX10_weight wsX10_weight ({ frames := 3, cells := 0, slots := 0, locals := 67 }) (jP D cA τ G L σ [.ref a0]) (jQR (fun r => True)) 0 0 (fun _ => False) := by
  refine j_metR (by decide +kernel) rfl (Nat.le_of_ble_eq_true rfl) ?_
  intro p e s m args below meth c Q hx hb hml hown hts hK hW hRet ls hl
  have hl : lv_has ls 4 [(0, .ref a0)] := hl
  refine lv_aload_n hx hb dX10_weight_0 rfl (lv_at hl 0 rfl) ?_
  refine j_cR (j_runV (As := []) (rest := []) hx hb hml hown hts hK hS hW (kX10_layers l hS σ (a0 := a0) (h0 := h0)) 0 gX10_weight_X10_layers rfl hvX10_layers ⟨Nat.le_of_ble_eq_true rfl, Nat.le_of_ble_eq_true rfl⟩ rfl rfl h0 rfl rfl rfl rfl hl.1 rfl (Nat.le_of_ble_eq_true rfl) dX10_weight_1 ⟨Nat.le_of_ble_eq_true rfl, Nat.le_of_ble_eq_true rfl⟩) (fun v_1 rv_1 pv_1 => ?_)
  try dsimp only at pv_1
  refine j_const hx hb dX10_weight_4 ?_
  refine j_sub hx hb dX10_weight_5 ?_
  refine j_wrap (fun z_2 rz_2 ez_2 => ?_)
  refine lv_istore_n (lv' := [(1, .int (jI z_2)), (0, .ref a0)]) hx hb dX10_weight_6 rfl hl (by decide) rfl (fun ls hl => ?_)
  refine lv_iload_n hx hb dX10_weight_7 rfl (lv_at hl 0 rfl) ?_
  refine lv_aload_n hx hb dX10_weight_8 rfl (lv_at hl 1 rfl) ?_
  refine j_getI hx hb (C := RX10) (T := TX10) (N := 9) hts inX10_weight_X10 hown hK hS hW h0 rfl 1 rfl rfl (by decide) (hts _ flX10_weight_26) dX10_weight_9 ?_
  have := fbd hW h0 (k := 1) (lo := -2147483648) (hi := 2147483647) rfl rfl
  refine j_mul hx hb dX10_weight_12 ?_
  refine j_wrap (fun z_3 rz_3 ez_3 => ?_)
  refine lv_istore_n (lv' := [(2, .int (jI z_3)), (1, .int (jI z_2)), (0, .ref a0)]) hx hb dX10_weight_13 rfl hl (by decide) rfl (fun ls hl => ?_)
  refine j_const hx hb dX10_weight_14 ?_
  refine lv_istore_n (lv' := [(3, .int (jI 0)), (2, .int (jI z_3)), (1, .int (jI z_2)), (0, .ref a0)]) hx hb dX10_weight_15 rfl hl (by decide) rfl (fun ls hl => ?_)
  have L_16 : ∀ (N : Nat) (v2_16 v3_16 : Int) (ls : Array Slot), N = (2147483647 - v3_16 : Int).toNat → (0 ≤ v3_16) → rg v2_16 → rg v3_16 → lv_has ls 4 [(0, .ref a0), (1, .int (jI z_2)), (2, .int (jI v2_16)), (3, .int (jI v3_16))] → W p l e ({ frames := 3, cells := 0, slots := 0, locals := 67 }) s m args below meth c s.heap [] 0 0 Q (F0 m 16 ls []) := by
    intro N
    induction N using Nat.strongRecOn with
    | ind N ih_16 =>
      intro v2_16 v3_16 ls hN i0_16 rv2_16 rv3_16 hl
      refine lv_iload_n hx hb dX10_weight_16 rfl (lv_at hl 3 rfl) ?_
      refine lv_aload_n hx hb dX10_weight_17 rfl (lv_at hl 0 rfl) ?_
      refine j_getR hx hb (C := RX10) (T := TX10) (N := 9) hts inX10_weight_X10 hown hK hS hW h0 rfl 0 rfl rfl (by decide) (hts _ flX10_weight_12) dX10_weight_18 ?_
      have h_4 : τ (G a0 0) = 4 := gty hS h0 (k := 0) rfl rfl
      refine j_getI hx hb (C := RX3) (T := TX3) (N := 4) hts inX10_weight_X3 hown hK hS hW h_4 rfl 3 rfl rfl (by decide) (hts _ flX10_weight_45) dX10_weight_21 ?_
      have := fbd hW h_4 (k := 3) (lo := 0) (hi := 150) rfl rfl
      refine j_icmp_ge (tgt := 55) hx hb (by omega) (by omega) dX10_weight_24 (by decide) (fun c_5 => ?_) (fun c_5 => ?_)
      · refine lv_iload_n hx hb dX10_weight_55 rfl (lv_at hl 2 rfl) ?_
        refine j_const hx hb dX10_weight_56 ?_
        refine lv_aload_n hx hb dX10_weight_57 rfl (lv_at hl 0 rfl) ?_
        refine j_getR hx hb (C := RX10) (T := TX10) (N := 9) hts inX10_weight_X10 hown hK hS hW h0 rfl 0 rfl rfl (by decide) (hts _ flX10_weight_12) dX10_weight_58 ?_
        refine j_getI hx hb (C := RX3) (T := TX3) (N := 4) hts inX10_weight_X3 hown hK hS hW h_4 rfl 3 rfl rfl (by decide) (hts _ flX10_weight_45) dX10_weight_61 ?_
        refine lv_iload_n hx hb dX10_weight_64 rfl (lv_at hl 1 rfl) ?_
        refine j_add hx hb dX10_weight_65 ?_
        refine j_wrap (fun z_6 rz_6 ez_6 => ?_)
        refine j_mul hx hb dX10_weight_66 ?_
        refine j_wrap (fun z_7 rz_7 ez_7 => ?_)
        refine j_add hx hb dX10_weight_67 ?_
        refine j_wrap (fun z_8 rz_8 ez_8 => ?_)
        refine j_const hx hb dX10_weight_68 ?_
        refine lv_aload_n hx hb dX10_weight_69 rfl (lv_at hl 0 rfl) ?_
        refine j_cR (j_runV (As := []) (rest := [.int (jI 4), .int (jI z_8)]) hx hb hml hown hts hK hS hW (kX10_pages l hS σ (a0 := a0) (h0 := h0)) 0 gX10_weight_X10_pages rfl hvX10_pages ⟨Nat.le_of_ble_eq_true rfl, Nat.le_of_ble_eq_true rfl⟩ rfl rfl h0 rfl rfl rfl rfl hl.1 rfl (Nat.le_of_ble_eq_true rfl) dX10_weight_70 ⟨Nat.le_of_ble_eq_true rfl, Nat.le_of_ble_eq_true rfl⟩) (fun v_9 rv_9 pv_9 => ?_)
        try dsimp only at pv_9
        refine j_mul hx hb dX10_weight_73 ?_
        refine j_wrap (fun z_10 rz_10 ez_10 => ?_)
        refine j_add hx hb dX10_weight_74 ?_
        refine j_wrap (fun z_11 rz_11 ez_11 => ?_)
        refine j_bi hx hb dX10_weight_75 (by decide) ?_
        refine lv_iload_n hx hb dX10_weight_77 rfl (lv_at hl 1 rfl) ?_
        refine j_const hx hb dX10_weight_78 ?_
        refine j_add hx hb dX10_weight_79 ?_
        refine j_wrap (fun z_12 rz_12 ez_12 => ?_)
        refine j_mul hx hb dX10_weight_80 ?_
        refine j_wrap (fun z_13 rz_13 ez_13 => ?_)
        refine j_add hx hb dX10_weight_81 ?_
        refine j_wrap (fun z_14 rz_14 ez_14 => ?_)
        exact hRet 82 _ z_14 dX10_weight_82 (by omega) trivial
      · refine lv_iload_n hx hb dX10_weight_27 rfl (lv_at hl 2 rfl) ?_
        refine lv_aload_n hx hb dX10_weight_28 rfl (lv_at hl 0 rfl) ?_
        refine j_getR hx hb (C := RX10) (T := TX10) (N := 9) hts inX10_weight_X10 hown hK hS hW h0 rfl 0 rfl rfl (by decide) (hts _ flX10_weight_12) dX10_weight_29 ?_
        refine lv_iload_n hx hb dX10_weight_32 rfl (lv_at hl 3 rfl) ?_
        refine j_cR (j_runV (As := [.int (jI v3_16)]) (rest := [.int (jI v2_16)]) hx hb hml hown hts hK hS hW (kX3_lengthOf l hS σ (a0 := G a0 0) (h0 := h_4) (x1 := v3_16) (r1 := (by omega))) 1 gX10_weight_X3_lengthOf rfl hvX3_lengthOf ⟨Nat.le_of_ble_eq_true rfl, Nat.le_of_ble_eq_true rfl⟩ rfl rfl h_4 rfl rfl rfl rfl hl.1 rfl (Nat.le_of_ble_eq_true rfl) dX10_weight_33 ⟨Nat.le_of_ble_eq_true rfl, Nat.le_of_ble_eq_true rfl⟩) (fun v_15 rv_15 pv_15 => ?_)
        try dsimp only at pv_15
        refine lv_aload_n hx hb dX10_weight_36 rfl (lv_at hl 0 rfl) ?_
        refine lv_iload_n hx hb dX10_weight_37 rfl (lv_at hl 3 rfl) ?_
        refine j_cR (j_runV (As := [.int (jI v3_16)]) (rest := [.int (jI v_15), .int (jI v2_16)]) hx hb hml hown hts hK hS hW (kX10_depthOf l hS σ (a0 := a0) (h0 := h0) (x1 := v3_16) (r1 := (by omega))) 1 gX10_weight_X10_depthOf rfl hvX10_depthOf ⟨Nat.le_of_ble_eq_true rfl, Nat.le_of_ble_eq_true rfl⟩ rfl rfl h0 rfl rfl rfl rfl hl.1 rfl (Nat.le_of_ble_eq_true rfl) dX10_weight_38 ⟨Nat.le_of_ble_eq_true rfl, Nat.le_of_ble_eq_true rfl⟩) (fun v_16 rv_16 pv_16 => ?_)
        try dsimp only at pv_16
        refine lv_aload_n hx hb dX10_weight_41 rfl (lv_at hl 0 rfl) ?_
        refine j_getI hx hb (C := RX10) (T := TX10) (N := 9) hts inX10_weight_X10 hown hK hS hW h0 rfl 1 rfl rfl (by decide) (hts _ flX10_weight_26) dX10_weight_42 ?_
        refine j_mul hx hb dX10_weight_45 ?_
        refine j_wrap (fun z_17 rz_17 ez_17 => ?_)
        refine j_sub hx hb dX10_weight_46 ?_
        refine j_wrap (fun z_18 rz_18 ez_18 => ?_)
        refine j_add hx hb dX10_weight_47 ?_
        refine j_wrap (fun z_19 rz_19 ez_19 => ?_)
        refine lv_istore_n (lv' := [(2, .int (jI z_19)), (0, .ref a0), (1, .int (jI z_2)), (3, .int (jI v3_16))]) hx hb dX10_weight_48 rfl hl (by decide) rfl (fun ls hl => ?_)
        refine j_iinc (lv' := [(3, .int (jI (v3_16 + 1))), (2, .int (jI z_19)), (0, .ref a0), (1, .int (jI z_2))]) hx hb dX10_weight_49 hl (k := 3) rfl (by decide) rfl (fun ls hl => ?_)
        refine lv_goto (tgt := 16) hx hb dX10_weight_52 (by decide) ?_
        exact ih_16 ((2147483647 - (v3_16 + 1) : Int).toNat) (by omega) z_19 (v3_16 + 1) _ rfl (by omega) (by omega) (by omega) (lv_sub hl [2, 3, 1, 0] rfl)
  exact L_16 ((2147483647 - 0 : Int).toNat) z_3 0 _ rfl (by omega) (by omega) (by decide) (lv_sub hl [3, 2, 1, 0] rfl)
theorem flX10_measure_12 : Cond.fieldLink RX10 12 "PageTrie$Trie" "keys" "LPageTrie$Keys;" ∈ wsX10_measure := List.mem_of_getElem? (i := 1) rfl
theorem flX10_measure_26 : Cond.fieldLink RX10 26 "PageTrie$Trie" "width" "I" ∈ wsX10_measure := List.mem_of_getElem? (i := 3) rfl
theorem flX10_measure_30 : Cond.fieldLink RX10 30 "PageTrie$Trie" "room" "I" ∈ wsX10_measure := List.mem_of_getElem? (i := 4) rfl
theorem flX10_measure_33 : Cond.fieldLink RX10 33 "PageTrie$Trie" "parted" "I" ∈ wsX10_measure := List.mem_of_getElem? (i := 5) rfl
theorem flX10_measure_36 : Cond.fieldLink RX10 36 "PageTrie$Trie" "joined" "I" ∈ wsX10_measure := List.mem_of_getElem? (i := 6) rfl
theorem flX10_measure_39 : Cond.fieldLink RX10 39 "PageTrie$Trie" "made" "I" ∈ wsX10_measure := List.mem_of_getElem? (i := 7) rfl
theorem flX10_measure_42 : Cond.fieldLink RX10 42 "PageTrie$Trie" "folded" "I" ∈ wsX10_measure := List.mem_of_getElem? (i := 8) rfl
theorem flX10_measure_45 : Cond.fieldLink RX10 45 "PageTrie$Keys" "size" "I" ∈ wsX10_measure := List.mem_of_getElem? (i := 2) rfl
theorem inX10_measure_X10 : ∀ w ∈ u_ws RX10 TX10 9, w ∈ wsX10_measure := mem_r _ [68, 69, 70, 71, 72, 73, 74, 75, 76] rfl
theorem inX10_measure_X3 : ∀ w ∈ u_ws RX3 TX3 4, w ∈ wsX10_measure := mem_r _ [77, 78, 79, 80] rfl
theorem hvX10_measure : yX10_measure.cls = RX10 ∧ yX10_measure.cls ≠ "java/lang/invoke/MethodHandle" ∧ yX10_measure.cls ≠ "java/lang/invoke/VarHandle" ∧ (parseMethodDescriptor yX10_measure.desc).map (fun d => d.parameters.length) = some 1 := by decide +kernel
set_option maxHeartbeats 4000000 in
set_option maxRecDepth 100000 in
theorem kX10_measure (l : Launch) {D : va_G} {cA : Nat → ClassId} {τ : Nat → Nat} {G : Nat → Nat → Nat} {L : List Nat} (hS : SW τ G L) (σ : Nat → Nat → Int) {a0 : Nat} (h0 : τ a0 = 11) {x1 : Int} (r1 : rg x1) : Met l yX10_measure wsX10_measure ({ frames := 4, cells := 0, slots := 0, locals := 90 }) (jP D cA τ G L σ [.ref a0, .int (jI x1)]) (jQR (fun r => True)) 0 0 (fun _ => False) := by
  refine j_metR (by decide +kernel) rfl (Nat.le_of_ble_eq_true rfl) ?_
  intro p e s m args below meth c Q hx hb hml hown hts hK hW hRet ls hl
  have hl : lv_has ls 2 [(0, .ref a0), (1, .int (jI x1))] := hl
  refine lv_iload_n hx hb dX10_measure_0 rfl (lv_at hl 1 rfl) ?_
  have hrc_1 : rg x1 := by omega
  by_cases c_1_0 : x1 = 0
  · refine lv_tableIn (tgt := 76) (off := 75) hx hb dX10_measure_1 (by rw [jI_toInt hrc_1]; omega) (by rw [jI_toInt hrc_1]; omega) (by rw [jI_toInt hrc_1, c_1_0]; rfl) (by decide) ?_
    refine lv_aload_n hx hb dX10_measure_76 rfl (lv_at hl 0 rfl) ?_
    refine j_getR hx hb (C := RX10) (T := TX10) (N := 9) hts inX10_measure_X10 hown hK hS hW h0 rfl 0 rfl rfl (by decide) (hts _ flX10_measure_12) dX10_measure_77 ?_
    have h_2 : τ (G a0 0) = 4 := gty hS h0 (k := 0) rfl rfl
    refine j_getI hx hb (C := RX3) (T := TX3) (N := 4) hts inX10_measure_X3 hown hK hS hW h_2 rfl 3 rfl rfl (by decide) (hts _ flX10_measure_45) dX10_measure_80 ?_
    have := fbd hW h_2 (k := 3) (lo := 0) (hi := 150) rfl rfl
    exact hRet 83 _ (σ (G a0 0) 3) dX10_measure_83 (by omega) trivial
  by_cases c_1_1 : x1 = 1
  · refine lv_tableIn (tgt := 84) (off := 83) hx hb dX10_measure_1 (by rw [jI_toInt hrc_1]; omega) (by rw [jI_toInt hrc_1]; omega) (by rw [jI_toInt hrc_1, c_1_1]; rfl) (by decide) ?_
    refine lv_aload_n hx hb dX10_measure_84 rfl (lv_at hl 0 rfl) ?_
    refine j_getI hx hb (C := RX10) (T := TX10) (N := 9) hts inX10_measure_X10 hown hK hS hW h0 rfl 1 rfl rfl (by decide) (hts _ flX10_measure_26) dX10_measure_85 ?_
    have := fbd hW h0 (k := 1) (lo := -2147483648) (hi := 2147483647) rfl rfl
    exact hRet 88 _ (σ a0 1) dX10_measure_88 (by omega) trivial
  by_cases c_1_2 : x1 = 2
  · refine lv_tableIn (tgt := 89) (off := 88) hx hb dX10_measure_1 (by rw [jI_toInt hrc_1]; omega) (by rw [jI_toInt hrc_1]; omega) (by rw [jI_toInt hrc_1, c_1_2]; rfl) (by decide) ?_
    refine lv_aload_n hx hb dX10_measure_89 rfl (lv_at hl 0 rfl) ?_
    refine j_getI hx hb (C := RX10) (T := TX10) (N := 9) hts inX10_measure_X10 hown hK hS hW h0 rfl 2 rfl rfl (by decide) (hts _ flX10_measure_30) dX10_measure_90 ?_
    have := fbd hW h0 (k := 2) (lo := -2147483648) (hi := 2147483647) rfl rfl
    exact hRet 93 _ (σ a0 2) dX10_measure_93 (by omega) trivial
  by_cases c_1_3 : x1 = 3
  · refine lv_tableIn (tgt := 94) (off := 93) hx hb dX10_measure_1 (by rw [jI_toInt hrc_1]; omega) (by rw [jI_toInt hrc_1]; omega) (by rw [jI_toInt hrc_1, c_1_3]; rfl) (by decide) ?_
    refine lv_aload_n hx hb dX10_measure_94 rfl (lv_at hl 0 rfl) ?_
    refine j_cR (j_runV (As := []) (rest := []) hx hb hml hown hts hK hS hW (kX10_layers l hS σ (a0 := a0) (h0 := h0)) 0 gX10_measure_X10_layers rfl hvX10_layers ⟨Nat.le_of_ble_eq_true rfl, Nat.le_of_ble_eq_true rfl⟩ rfl rfl h0 rfl rfl rfl rfl hl.1 rfl (Nat.le_of_ble_eq_true rfl) dX10_measure_95 ⟨Nat.le_of_ble_eq_true rfl, Nat.le_of_ble_eq_true rfl⟩) (fun v_3 rv_3 pv_3 => ?_)
    try dsimp only at pv_3
    exact hRet 98 _ v_3 dX10_measure_98 (by omega) trivial
  by_cases c_1_4 : x1 = 4
  · refine lv_tableIn (tgt := 99) (off := 98) hx hb dX10_measure_1 (by rw [jI_toInt hrc_1]; omega) (by rw [jI_toInt hrc_1]; omega) (by rw [jI_toInt hrc_1, c_1_4]; rfl) (by decide) ?_
    refine lv_aload_n hx hb dX10_measure_99 rfl (lv_at hl 0 rfl) ?_
    refine j_cR (j_runV (As := []) (rest := []) hx hb hml hown hts hK hS hW (kX10_pages l hS σ (a0 := a0) (h0 := h0)) 0 gX10_measure_X10_pages rfl hvX10_pages ⟨Nat.le_of_ble_eq_true rfl, Nat.le_of_ble_eq_true rfl⟩ rfl rfl h0 rfl rfl rfl rfl hl.1 rfl (Nat.le_of_ble_eq_true rfl) dX10_measure_100 ⟨Nat.le_of_ble_eq_true rfl, Nat.le_of_ble_eq_true rfl⟩) (fun v_4 rv_4 pv_4 => ?_)
    try dsimp only at pv_4
    exact hRet 103 _ v_4 dX10_measure_103 (by omega) trivial
  by_cases c_1_5 : x1 = 5
  · refine lv_tableIn (tgt := 104) (off := 103) hx hb dX10_measure_1 (by rw [jI_toInt hrc_1]; omega) (by rw [jI_toInt hrc_1]; omega) (by rw [jI_toInt hrc_1, c_1_5]; rfl) (by decide) ?_
    refine lv_aload_n hx hb dX10_measure_104 rfl (lv_at hl 0 rfl) ?_
    refine j_cR (j_runV (As := []) (rest := []) hx hb hml hown hts hK hS hW (kX10_ends l hS σ (a0 := a0) (h0 := h0)) 0 gX10_measure_X10_ends rfl hvX10_ends ⟨Nat.le_of_ble_eq_true rfl, Nat.le_of_ble_eq_true rfl⟩ rfl rfl h0 rfl rfl rfl rfl hl.1 rfl (Nat.le_of_ble_eq_true rfl) dX10_measure_105 ⟨Nat.le_of_ble_eq_true rfl, Nat.le_of_ble_eq_true rfl⟩) (fun v_5 rv_5 pv_5 => ?_)
    try dsimp only at pv_5
    exact hRet 108 _ v_5 dX10_measure_108 (by omega) trivial
  by_cases c_1_6 : x1 = 6
  · refine lv_tableIn (tgt := 109) (off := 108) hx hb dX10_measure_1 (by rw [jI_toInt hrc_1]; omega) (by rw [jI_toInt hrc_1]; omega) (by rw [jI_toInt hrc_1, c_1_6]; rfl) (by decide) ?_
    refine lv_aload_n hx hb dX10_measure_109 rfl (lv_at hl 0 rfl) ?_
    refine j_getR hx hb (C := RX10) (T := TX10) (N := 9) hts inX10_measure_X10 hown hK hS hW h0 rfl 0 rfl rfl (by decide) (hts _ flX10_measure_12) dX10_measure_110 ?_
    have h_6 : τ (G a0 0) = 4 := gty hS h0 (k := 0) rfl rfl
    refine j_getI hx hb (C := RX3) (T := TX3) (N := 4) hts inX10_measure_X3 hown hK hS hW h_6 rfl 3 rfl rfl (by decide) (hts _ flX10_measure_45) dX10_measure_113 ?_
    have := fbd hW h_6 (k := 3) (lo := 0) (hi := 150) rfl rfl
    refine lv_aload_n hx hb dX10_measure_116 rfl (lv_at hl 0 rfl) ?_
    refine j_cR (j_runV (As := []) (rest := [.int (jI (σ (G a0 0) 3))]) hx hb hml hown hts hK hS hW (kX10_ends l hS σ (a0 := a0) (h0 := h0)) 0 gX10_measure_X10_ends rfl hvX10_ends ⟨Nat.le_of_ble_eq_true rfl, Nat.le_of_ble_eq_true rfl⟩ rfl rfl h0 rfl rfl rfl rfl hl.1 rfl (Nat.le_of_ble_eq_true rfl) dX10_measure_117 ⟨Nat.le_of_ble_eq_true rfl, Nat.le_of_ble_eq_true rfl⟩) (fun v_7 rv_7 pv_7 => ?_)
    try dsimp only at pv_7
    refine j_sub hx hb dX10_measure_120 ?_
    refine j_wrap (fun z_8 rz_8 ez_8 => ?_)
    exact hRet 121 _ z_8 dX10_measure_121 (by omega) trivial
  by_cases c_1_7 : x1 = 7
  · refine lv_tableIn (tgt := 122) (off := 121) hx hb dX10_measure_1 (by rw [jI_toInt hrc_1]; omega) (by rw [jI_toInt hrc_1]; omega) (by rw [jI_toInt hrc_1, c_1_7]; rfl) (by decide) ?_
    refine lv_aload_n hx hb dX10_measure_122 rfl (lv_at hl 0 rfl) ?_
    refine j_cR (j_runV (As := []) (rest := []) hx hb hml hown hts hK hS hW (kX10_layers l hS σ (a0 := a0) (h0 := h0)) 0 gX10_measure_X10_layers rfl hvX10_layers ⟨Nat.le_of_ble_eq_true rfl, Nat.le_of_ble_eq_true rfl⟩ rfl rfl h0 rfl rfl rfl rfl hl.1 rfl (Nat.le_of_ble_eq_true rfl) dX10_measure_123 ⟨Nat.le_of_ble_eq_true rfl, Nat.le_of_ble_eq_true rfl⟩) (fun v_9 rv_9 pv_9 => ?_)
    try dsimp only at pv_9
    refine j_const hx hb dX10_measure_126 ?_
    refine j_sub hx hb dX10_measure_127 ?_
    refine j_wrap (fun z_10 rz_10 ez_10 => ?_)
    exact hRet 128 _ z_10 dX10_measure_128 (by omega) trivial
  by_cases c_1_8 : x1 = 8
  · refine lv_tableIn (tgt := 129) (off := 128) hx hb dX10_measure_1 (by rw [jI_toInt hrc_1]; omega) (by rw [jI_toInt hrc_1]; omega) (by rw [jI_toInt hrc_1, c_1_8]; rfl) (by decide) ?_
    refine lv_aload_n hx hb dX10_measure_129 rfl (lv_at hl 0 rfl) ?_
    refine j_cR (j_runV (As := []) (rest := []) hx hb hml hown hts hK hS hW (kX10_deepest l hS σ (a0 := a0) (h0 := h0)) 0 gX10_measure_X10_deepest rfl hvX10_deepest ⟨Nat.le_of_ble_eq_true rfl, Nat.le_of_ble_eq_true rfl⟩ rfl rfl h0 rfl rfl rfl rfl hl.1 rfl (Nat.le_of_ble_eq_true rfl) dX10_measure_130 ⟨Nat.le_of_ble_eq_true rfl, Nat.le_of_ble_eq_true rfl⟩) (fun v_11 rv_11 pv_11 => ?_)
    try dsimp only at pv_11
    refine j_const hx hb dX10_measure_133 ?_
    refine j_add hx hb dX10_measure_134 ?_
    refine j_wrap (fun z_12 rz_12 ez_12 => ?_)
    exact hRet 135 _ z_12 dX10_measure_135 (by omega) trivial
  by_cases c_1_9 : x1 = 9
  · refine lv_tableIn (tgt := 136) (off := 135) hx hb dX10_measure_1 (by rw [jI_toInt hrc_1]; omega) (by rw [jI_toInt hrc_1]; omega) (by rw [jI_toInt hrc_1, c_1_9]; rfl) (by decide) ?_
    refine lv_aload_n hx hb dX10_measure_136 rfl (lv_at hl 0 rfl) ?_
    refine j_getI hx hb (C := RX10) (T := TX10) (N := 9) hts inX10_measure_X10 hown hK hS hW h0 rfl 5 rfl rfl (by decide) (hts _ flX10_measure_33) dX10_measure_137 ?_
    have := fbd hW h0 (k := 5) (lo := -2147483648) (hi := 2147483647) rfl rfl
    exact hRet 140 _ (σ a0 5) dX10_measure_140 (by omega) trivial
  by_cases c_1_10 : x1 = 10
  · refine lv_tableIn (tgt := 141) (off := 140) hx hb dX10_measure_1 (by rw [jI_toInt hrc_1]; omega) (by rw [jI_toInt hrc_1]; omega) (by rw [jI_toInt hrc_1, c_1_10]; rfl) (by decide) ?_
    refine lv_aload_n hx hb dX10_measure_141 rfl (lv_at hl 0 rfl) ?_
    refine j_getI hx hb (C := RX10) (T := TX10) (N := 9) hts inX10_measure_X10 hown hK hS hW h0 rfl 6 rfl rfl (by decide) (hts _ flX10_measure_36) dX10_measure_142 ?_
    have := fbd hW h0 (k := 6) (lo := -2147483648) (hi := 2147483647) rfl rfl
    exact hRet 145 _ (σ a0 6) dX10_measure_145 (by omega) trivial
  by_cases c_1_11 : x1 = 11
  · refine lv_tableIn (tgt := 146) (off := 145) hx hb dX10_measure_1 (by rw [jI_toInt hrc_1]; omega) (by rw [jI_toInt hrc_1]; omega) (by rw [jI_toInt hrc_1, c_1_11]; rfl) (by decide) ?_
    refine lv_aload_n hx hb dX10_measure_146 rfl (lv_at hl 0 rfl) ?_
    refine j_getI hx hb (C := RX10) (T := TX10) (N := 9) hts inX10_measure_X10 hown hK hS hW h0 rfl 7 rfl rfl (by decide) (hts _ flX10_measure_39) dX10_measure_147 ?_
    have := fbd hW h0 (k := 7) (lo := -2147483648) (hi := 2147483647) rfl rfl
    exact hRet 150 _ (σ a0 7) dX10_measure_150 (by omega) trivial
  by_cases c_1_12 : x1 = 12
  · refine lv_tableIn (tgt := 151) (off := 150) hx hb dX10_measure_1 (by rw [jI_toInt hrc_1]; omega) (by rw [jI_toInt hrc_1]; omega) (by rw [jI_toInt hrc_1, c_1_12]; rfl) (by decide) ?_
    refine lv_aload_n hx hb dX10_measure_151 rfl (lv_at hl 0 rfl) ?_
    refine j_getI hx hb (C := RX10) (T := TX10) (N := 9) hts inX10_measure_X10 hown hK hS hW h0 rfl 8 rfl rfl (by decide) (hts _ flX10_measure_42) dX10_measure_152 ?_
    have := fbd hW h0 (k := 8) (lo := -2147483648) (hi := 2147483647) rfl rfl
    exact hRet 155 _ (σ a0 8) dX10_measure_155 (by omega) trivial
  by_cases c_1_13 : x1 = 13
  · refine lv_tableIn (tgt := 156) (off := 155) hx hb dX10_measure_1 (by rw [jI_toInt hrc_1]; omega) (by rw [jI_toInt hrc_1]; omega) (by rw [jI_toInt hrc_1, c_1_13]; rfl) (by decide) ?_
    refine lv_aload_n hx hb dX10_measure_156 rfl (lv_at hl 0 rfl) ?_
    refine j_cR (j_runV (As := []) (rest := []) hx hb hml hown hts hK hS hW (kX10_weight l hS σ (a0 := a0) (h0 := h0)) 0 gX10_measure_X10_weight rfl hvX10_weight ⟨Nat.le_of_ble_eq_true rfl, Nat.le_of_ble_eq_true rfl⟩ rfl rfl h0 rfl rfl rfl rfl hl.1 rfl (Nat.le_of_ble_eq_true rfl) dX10_measure_157 ⟨Nat.le_of_ble_eq_true rfl, Nat.le_of_ble_eq_true rfl⟩) (fun v_13 rv_13 pv_13 => ?_)
    try dsimp only at pv_13
    exact hRet 160 _ v_13 dX10_measure_160 (by omega) trivial
  by_cases c_1_14 : x1 = 14
  · refine lv_tableIn (tgt := 161) (off := 160) hx hb dX10_measure_1 (by rw [jI_toInt hrc_1]; omega) (by rw [jI_toInt hrc_1]; omega) (by rw [jI_toInt hrc_1, c_1_14]; rfl) (by decide) ?_
    refine lv_aload_n hx hb dX10_measure_161 rfl (lv_at hl 0 rfl) ?_
    refine j_getR hx hb (C := RX10) (T := TX10) (N := 9) hts inX10_measure_X10 hown hK hS hW h0 rfl 0 rfl rfl (by decide) (hts _ flX10_measure_12) dX10_measure_162 ?_
    have h_14 : τ (G a0 0) = 4 := gty hS h0 (k := 0) rfl rfl
    refine j_const hx hb dX10_measure_165 ?_
    refine lv_aload_n hx hb dX10_measure_166 rfl (lv_at hl 0 rfl) ?_
    refine j_getR hx hb (C := RX10) (T := TX10) (N := 9) hts inX10_measure_X10 hown hK hS hW h0 rfl 0 rfl rfl (by decide) (hts _ flX10_measure_12) dX10_measure_167 ?_
    refine j_getI hx hb (C := RX3) (T := TX3) (N := 4) hts inX10_measure_X3 hown hK hS hW h_14 rfl 3 rfl rfl (by decide) (hts _ flX10_measure_45) dX10_measure_170 ?_
    have := fbd hW h_14 (k := 3) (lo := 0) (hi := 150) rfl rfl
    refine j_cR (j_runV (As := [.int (jI 0), .int (jI (σ (G a0 0) 3))]) (rest := []) hx hb hml hown hts hK hS hW (kX3_valuesTogether l hS σ (a0 := G a0 0) (h0 := h_14) (x1 := 0) (r1 := (by decide)) (x2 := σ (G a0 0) 3) (r2 := (by omega))) 2 gX10_measure_X3_valuesTogether rfl hvX3_valuesTogether ⟨Nat.le_of_ble_eq_true rfl, Nat.le_of_ble_eq_true rfl⟩ rfl rfl h_14 rfl rfl rfl rfl hl.1 rfl (Nat.le_of_ble_eq_true rfl) dX10_measure_173 ⟨Nat.le_of_ble_eq_true rfl, Nat.le_of_ble_eq_true rfl⟩) (fun v_15 rv_15 pv_15 => ?_)
    try dsimp only at pv_15
    exact hRet 176 _ v_15 dX10_measure_176 (by omega) trivial
  refine lv_tableOut (tgt := 177) hx hb dX10_measure_1 (by rw [jI_toInt hrc_1]; omega) (by decide) ?_
  refine j_const hx hb dX10_measure_177 ?_
  exact hRet 178 _ (-1) dX10_measure_178 (by decide) trivial
abbrev wr_X0_copyFrom : List Nat := [1001, 1002, 1003, 1004, 3001, 20000]
theorem flX0_copyFrom_12 : Cond.fieldLink RX0 12 "PageTrie$Cursor" "key" "LPageTrie$Key;" ∈ wsX0_copyFrom := List.mem_of_getElem? (i := 1) rfl
theorem flX0_copyFrom_18 : Cond.fieldLink RX0 18 "PageTrie$Cursor" "isTold" "Z" ∈ wsX0_copyFrom := List.mem_of_getElem? (i := 2) rfl
theorem flX0_copyFrom_22 : Cond.fieldLink RX0 22 "PageTrie$Cursor" "nearSteps" "I" ∈ wsX0_copyFrom := List.mem_of_getElem? (i := 3) rfl
theorem flX0_copyFrom_26 : Cond.fieldLink RX0 26 "PageTrie$Cursor" "farSteps" "I" ∈ wsX0_copyFrom := List.mem_of_getElem? (i := 4) rfl
theorem flX0_copyFrom_29 : Cond.fieldLink RX0 29 "PageTrie$Cursor" "lostSteps" "I" ∈ wsX0_copyFrom := List.mem_of_getElem? (i := 5) rfl
theorem inX0_copyFrom_X0 : ∀ w ∈ u_ws RX0 TX0 5, w ∈ wsX0_copyFrom := mem_r _ [17, 18, 19, 20, 21] rfl
theorem hvX0_copyFrom : yX0_copyFrom.cls = RX0 ∧ yX0_copyFrom.cls ≠ "java/lang/invoke/MethodHandle" ∧ yX0_copyFrom.cls ≠ "java/lang/invoke/VarHandle" ∧ (parseMethodDescriptor yX0_copyFrom.desc).map (fun d => d.parameters.length) = some 1 := by decide +kernel
set_option maxHeartbeats 4000000 in
set_option maxRecDepth 100000 in
theorem kX0_copyFrom (l : Launch) {D : va_G} {cA : Nat → ClassId} {τ : Nat → Nat} {G : Nat → Nat → Nat} {L : List Nat} (hS : SW τ G L) (σ : Nat → Nat → Int) {a0 : Nat} (h0 : τ a0 = 1) {a1 : Nat} (h1 : τ a1 = 1) : Met l yX0_copyFrom wsX0_copyFrom ({ frames := 2, cells := 0, slots := 0, locals := 61 }) (jP D cA τ G L σ [.ref a0, .ref a1]) (jQV D cA τ G L (fun σ' => (True) ∧ fr wr_X0_copyFrom τ σ σ')) 0 0 (fun q => q ∈ L) := by
  refine j_metV (by decide +kernel) rfl (Nat.le_of_ble_eq_true rfl) ?_
  intro p e s m args below meth c Q hx hb hml hown hts hK hW hRet ls hl
  have hl : lv_has ls 2 [(0, .ref a0), (1, .ref a1)] := hl
  have hA : ∀ q ∈ L, (fun q => q ∈ L) q := fun _ h => h
  have hF : va_S (fun q => q ∈ L) s.heap s.heap [] := va_S.rf
  have hR : fr wr_X0_copyFrom τ σ σ := fr_rf
  refine lv_aload_n hx hb dX0_copyFrom_0 rfl (lv_at hl 0 rfl) ?_
  refine j_getR hx hb (C := RX0) (T := TX0) (N := 5) hts inX0_copyFrom_X0 hown hK hS hW h0 rfl 0 rfl rfl (by decide) (hts _ flX0_copyFrom_12) dX0_copyFrom_1 ?_
  have h_1 : τ (G a0 0) = 3 := gty hS h0 (k := 0) rfl rfl
  refine lv_aload_n hx hb dX0_copyFrom_4 rfl (lv_at hl 1 rfl) ?_
  refine j_getR hx hb (C := RX0) (T := TX0) (N := 5) hts inX0_copyFrom_X0 hown hK hS hW h1 rfl 0 rfl rfl (by decide) (hts _ flX0_copyFrom_12) dX0_copyFrom_5 ?_
  have h_2 : τ (G a1 0) = 3 := gty hS h1 (k := 0) rfl rfl
  refine j_cV (j_runV (As := [.ref (G a1 0)]) (rest := []) hx hb hml hown hts hK hS hW (kX2_copyFrom l hS σ (a0 := G a0 0) (h0 := h_1) (a1 := G a1 0) (h1 := h_2)) 1 gX0_copyFrom_X2_copyFrom rfl hvX2_copyFrom ⟨Nat.le_of_ble_eq_true rfl, Nat.le_of_ble_eq_true rfl⟩ rfl rfl h_1 rfl rfl rfl rfl hl.1 rfl (Nat.le_of_ble_eq_true rfl) dX0_copyFrom_8 ⟨Nat.le_of_ble_eq_true rfl, Nat.le_of_ble_eq_true rfl⟩) hA hF (fun σ_3 H locs hW hF pσ_3 => ?_)
  try dsimp only at pσ_3
  obtain ⟨pσ_3, fpσ_3⟩ := pσ_3
  have hR := fr_call hR fpσ_3 (by decide)
  refine lv_aload_n hx hb dX0_copyFrom_11 rfl (lv_at hl 0 rfl) ?_
  refine lv_aload_n hx hb dX0_copyFrom_12 rfl (lv_at hl 1 rfl) ?_
  refine j_getI hx hb (C := RX0) (T := TX0) (N := 5) hts inX0_copyFrom_X0 hown hK hS hW h1 rfl 1 rfl rfl (by decide) (hts _ flX0_copyFrom_18) dX0_copyFrom_13 ?_
  have := fbd hW h1 (k := 1) (lo := 0) (hi := 1) rfl rfl
  refine j_putI hx hb (C := RX0) (T := TX0) (N := 5) hts inX0_copyFrom_X0 tyX0 tyX0_ok nmX0 hown hK hS hA hW hF h0 rfl 1 (lo := 0) (hi := 1) rfl rfl (by decide) (hts _ flX0_copyFrom_18) rfl .boolean rfl (by omega) (nar01 (by omega)) (fit01 (by omega)) dX0_copyFrom_16 (fun σ_4 H locs e_5 hW hF => ?_)
  have hR := fr_up hR e_5 h0 1001 rfl (by decide)
  have : σ_4 a0 1 = σ_3 a1 1 := by rw [e_5]; exact up2_at _ _ _ _
  refine lv_aload_n hx hb dX0_copyFrom_19 rfl (lv_at hl 0 rfl) ?_
  refine lv_aload_n hx hb dX0_copyFrom_20 rfl (lv_at hl 1 rfl) ?_
  refine j_getI hx hb (C := RX0) (T := TX0) (N := 5) hts inX0_copyFrom_X0 hown hK hS hW h1 rfl 2 rfl rfl (by decide) (hts _ flX0_copyFrom_22) dX0_copyFrom_21 ?_
  have := fbd hW h1 (k := 2) (lo := -2147483648) (hi := 2147483647) rfl rfl
  refine j_putI hx hb (C := RX0) (T := TX0) (N := 5) hts inX0_copyFrom_X0 tyX0 tyX0_ok nmX0 hown hK hS hA hW hF h0 rfl 2 (lo := -2147483648) (hi := 2147483647) rfl rfl (by decide) (hts _ flX0_copyFrom_22) rfl .int rfl (by omega) rfl rfl dX0_copyFrom_24 (fun σ_6 H locs e_7 hW hF => ?_)
  have hR := fr_up hR e_7 h0 1002 rfl (by decide)
  have : σ_6 a0 2 = σ_4 a1 2 := by rw [e_7]; exact up2_at _ _ _ _
  refine lv_aload_n hx hb dX0_copyFrom_27 rfl (lv_at hl 0 rfl) ?_
  refine lv_aload_n hx hb dX0_copyFrom_28 rfl (lv_at hl 1 rfl) ?_
  refine j_getI hx hb (C := RX0) (T := TX0) (N := 5) hts inX0_copyFrom_X0 hown hK hS hW h1 rfl 3 rfl rfl (by decide) (hts _ flX0_copyFrom_26) dX0_copyFrom_29 ?_
  have := fbd hW h1 (k := 3) (lo := -2147483648) (hi := 2147483647) rfl rfl
  refine j_putI hx hb (C := RX0) (T := TX0) (N := 5) hts inX0_copyFrom_X0 tyX0 tyX0_ok nmX0 hown hK hS hA hW hF h0 rfl 3 (lo := -2147483648) (hi := 2147483647) rfl rfl (by decide) (hts _ flX0_copyFrom_26) rfl .int rfl (by omega) rfl rfl dX0_copyFrom_32 (fun σ_8 H locs e_9 hW hF => ?_)
  have hR := fr_up hR e_9 h0 1003 rfl (by decide)
  have : σ_8 a0 3 = σ_6 a1 3 := by rw [e_9]; exact up2_at _ _ _ _
  refine lv_aload_n hx hb dX0_copyFrom_35 rfl (lv_at hl 0 rfl) ?_
  refine lv_aload_n hx hb dX0_copyFrom_36 rfl (lv_at hl 1 rfl) ?_
  refine j_getI hx hb (C := RX0) (T := TX0) (N := 5) hts inX0_copyFrom_X0 hown hK hS hW h1 rfl 4 rfl rfl (by decide) (hts _ flX0_copyFrom_29) dX0_copyFrom_37 ?_
  have := fbd hW h1 (k := 4) (lo := -2147483648) (hi := 2147483647) rfl rfl
  refine j_putI hx hb (C := RX0) (T := TX0) (N := 5) hts inX0_copyFrom_X0 tyX0 tyX0_ok nmX0 hown hK hS hA hW hF h0 rfl 4 (lo := -2147483648) (hi := 2147483647) rfl rfl (by decide) (hts _ flX0_copyFrom_29) rfl .int rfl (by omega) rfl rfl dX0_copyFrom_40 (fun σ_10 H locs e_11 hW hF => ?_)
  have hR := fr_up hR e_11 h0 1004 rfl (by decide)
  have : σ_10 a0 4 = σ_8 a1 4 := by rw [e_11]; exact up2_at _ _ _ _
  exact hRet 43 _ _ _ _ dX0_copyFrom_43 hW hF ⟨trivial, hR⟩
abbrev wr_X0_tell : List Nat := [1001, 1002, 1003, 1004, 3001, 20000]
theorem flX0_tell_12 : Cond.fieldLink RX0 12 "PageTrie$Cursor" "key" "LPageTrie$Key;" ∈ wsX0_tell := List.mem_of_getElem? (i := 1) rfl
theorem flX0_tell_18 : Cond.fieldLink RX0 18 "PageTrie$Cursor" "isTold" "Z" ∈ wsX0_tell := List.mem_of_getElem? (i := 2) rfl
theorem flX0_tell_22 : Cond.fieldLink RX0 22 "PageTrie$Cursor" "nearSteps" "I" ∈ wsX0_tell := List.mem_of_getElem? (i := 3) rfl
theorem flX0_tell_26 : Cond.fieldLink RX0 26 "PageTrie$Cursor" "farSteps" "I" ∈ wsX0_tell := List.mem_of_getElem? (i := 4) rfl
theorem flX0_tell_29 : Cond.fieldLink RX0 29 "PageTrie$Cursor" "lostSteps" "I" ∈ wsX0_tell := List.mem_of_getElem? (i := 5) rfl
theorem inX0_tell_X0 : ∀ w ∈ u_ws RX0 TX0 5, w ∈ wsX0_tell := mem_r _ [17, 18, 19, 20, 21] rfl
theorem hvX0_tell : yX0_tell.cls = RX0 ∧ yX0_tell.cls ≠ "java/lang/invoke/MethodHandle" ∧ yX0_tell.cls ≠ "java/lang/invoke/VarHandle" ∧ (parseMethodDescriptor yX0_tell.desc).map (fun d => d.parameters.length) = some 1 := by decide +kernel
set_option maxHeartbeats 4000000 in
set_option maxRecDepth 100000 in
theorem kX0_tell (l : Launch) {D : va_G} {cA : Nat → ClassId} {τ : Nat → Nat} {G : Nat → Nat → Nat} {L : List Nat} (hS : SW τ G L) (σ : Nat → Nat → Int) {a0 : Nat} (h0 : τ a0 = 1) {a1 : Nat} (h1 : τ a1 = 3) : Met l yX0_tell wsX0_tell ({ frames := 2, cells := 0, slots := 0, locals := 61 }) (jP D cA τ G L σ [.ref a0, .ref a1]) (jQV D cA τ G L (fun σ' => (True) ∧ fr wr_X0_tell τ σ σ')) 0 0 (fun q => q ∈ L) := by
  refine j_metV (by decide +kernel) rfl (Nat.le_of_ble_eq_true rfl) ?_
  intro p e s m args below meth c Q hx hb hml hown hts hK hW hRet ls hl
  have hl : lv_has ls 2 [(0, .ref a0), (1, .ref a1)] := hl
  have hA : ∀ q ∈ L, (fun q => q ∈ L) q := fun _ h => h
  have hF : va_S (fun q => q ∈ L) s.heap s.heap [] := va_S.rf
  have hR : fr wr_X0_tell τ σ σ := fr_rf
  refine lv_aload_n hx hb dX0_tell_0 rfl (lv_at hl 0 rfl) ?_
  refine j_getR hx hb (C := RX0) (T := TX0) (N := 5) hts inX0_tell_X0 hown hK hS hW h0 rfl 0 rfl rfl (by decide) (hts _ flX0_tell_12) dX0_tell_1 ?_
  have h_1 : τ (G a0 0) = 3 := gty hS h0 (k := 0) rfl rfl
  refine lv_aload_n hx hb dX0_tell_4 rfl (lv_at hl 1 rfl) ?_
  refine j_cV (j_runV (As := [.ref a1]) (rest := []) hx hb hml hown hts hK hS hW (kX2_copyFrom l hS σ (a0 := G a0 0) (h0 := h_1) (a1 := a1) (h1 := h1)) 1 gX0_tell_X2_copyFrom rfl hvX2_copyFrom ⟨Nat.le_of_ble_eq_true rfl, Nat.le_of_ble_eq_true rfl⟩ rfl rfl h_1 rfl rfl rfl rfl hl.1 rfl (Nat.le_of_ble_eq_true rfl) dX0_tell_5 ⟨Nat.le_of_ble_eq_true rfl, Nat.le_of_ble_eq_true rfl⟩) hA hF (fun σ_2 H locs hW hF pσ_2 => ?_)
  try dsimp only at pσ_2
  obtain ⟨pσ_2, fpσ_2⟩ := pσ_2
  have hR := fr_call hR fpσ_2 (by decide)
  refine lv_aload_n hx hb dX0_tell_8 rfl (lv_at hl 0 rfl) ?_
  refine j_const hx hb dX0_tell_9 ?_
  refine j_putI hx hb (C := RX0) (T := TX0) (N := 5) hts inX0_tell_X0 tyX0 tyX0_ok nmX0 hown hK hS hA hW hF h0 rfl 1 (lo := 0) (hi := 1) rfl rfl (by decide) (hts _ flX0_tell_18) rfl .boolean rfl (by omega) (nar01 (by omega)) (fit01 (by omega)) dX0_tell_10 (fun σ_3 H locs e_4 hW hF => ?_)
  have hR := fr_up hR e_4 h0 1001 rfl (by decide)
  have : σ_3 a0 1 = 1 := by rw [e_4]; exact up2_at _ _ _ _
  refine lv_aload_n hx hb dX0_tell_13 rfl (lv_at hl 0 rfl) ?_
  refine j_const hx hb dX0_tell_14 ?_
  refine j_putI hx hb (C := RX0) (T := TX0) (N := 5) hts inX0_tell_X0 tyX0 tyX0_ok nmX0 hown hK hS hA hW hF h0 rfl 2 (lo := -2147483648) (hi := 2147483647) rfl rfl (by decide) (hts _ flX0_tell_22) rfl .int rfl (by omega) rfl rfl dX0_tell_15 (fun σ_5 H locs e_6 hW hF => ?_)
  have hR := fr_up hR e_6 h0 1002 rfl (by decide)
  have : σ_5 a0 2 = 0 := by rw [e_6]; exact up2_at _ _ _ _
  refine lv_aload_n hx hb dX0_tell_18 rfl (lv_at hl 0 rfl) ?_
  refine j_const hx hb dX0_tell_19 ?_
  refine j_putI hx hb (C := RX0) (T := TX0) (N := 5) hts inX0_tell_X0 tyX0 tyX0_ok nmX0 hown hK hS hA hW hF h0 rfl 3 (lo := -2147483648) (hi := 2147483647) rfl rfl (by decide) (hts _ flX0_tell_26) rfl .int rfl (by omega) rfl rfl dX0_tell_20 (fun σ_7 H locs e_8 hW hF => ?_)
  have hR := fr_up hR e_8 h0 1003 rfl (by decide)
  have : σ_7 a0 3 = 0 := by rw [e_8]; exact up2_at _ _ _ _
  refine lv_aload_n hx hb dX0_tell_23 rfl (lv_at hl 0 rfl) ?_
  refine j_const hx hb dX0_tell_24 ?_
  refine j_putI hx hb (C := RX0) (T := TX0) (N := 5) hts inX0_tell_X0 tyX0 tyX0_ok nmX0 hown hK hS hA hW hF h0 rfl 4 (lo := -2147483648) (hi := 2147483647) rfl rfl (by decide) (hts _ flX0_tell_29) rfl .int rfl (by omega) rfl rfl dX0_tell_25 (fun σ_9 H locs e_10 hW hF => ?_)
  have hR := fr_up hR e_10 h0 1004 rfl (by decide)
  have : σ_9 a0 4 = 0 := by rw [e_10]; exact up2_at _ _ _ _
  exact hRet 28 _ _ _ _ dX0_tell_28 hW hF ⟨trivial, hR⟩
abbrev wr_X0_go : List Nat := [1002, 1003, 1004, 3001, 20000]
theorem flX0_go_12 : Cond.fieldLink RX0 12 "PageTrie$Cursor" "key" "LPageTrie$Key;" ∈ wsX0_go := List.mem_of_getElem? (i := 2) rfl
theorem flX0_go_22 : Cond.fieldLink RX0 22 "PageTrie$Cursor" "nearSteps" "I" ∈ wsX0_go := List.mem_of_getElem? (i := 8) rfl
theorem flX0_go_26 : Cond.fieldLink RX0 26 "PageTrie$Cursor" "farSteps" "I" ∈ wsX0_go := List.mem_of_getElem? (i := 9) rfl
theorem flX0_go_29 : Cond.fieldLink RX0 29 "PageTrie$Cursor" "lostSteps" "I" ∈ wsX0_go := List.mem_of_getElem? (i := 3) rfl
theorem flX0_go_36 : Cond.fieldLink RX0 36 "PageTrie$Trie" "keys" "LPageTrie$Keys;" ∈ wsX0_go := List.mem_of_getElem? (i := 1) rfl
theorem inX0_go_X0 : ∀ w ∈ u_ws RX0 TX0 5, w ∈ wsX0_go := mem_r _ [94, 95, 96, 97, 98] rfl
theorem inX0_go_X10 : ∀ w ∈ u_ws RX10 TX10 9, w ∈ wsX0_go := mem_r _ [85, 86, 87, 88, 89, 90, 91, 92, 93] rfl
theorem hvX0_go : yX0_go.cls = RX0 ∧ yX0_go.cls ≠ "java/lang/invoke/MethodHandle" ∧ yX0_go.cls ≠ "java/lang/invoke/VarHandle" ∧ (parseMethodDescriptor yX0_go.desc).map (fun d => d.parameters.length) = some 2 := by decide +kernel
set_option maxHeartbeats 4000000 in
set_option maxRecDepth 100000 in
theorem kX0_go (l : Launch) {D : va_G} {cA : Nat → ClassId} {τ : Nat → Nat} {G : Nat → Nat → Nat} {L : List Nat} (hS : SW τ G L) (σ : Nat → Nat → Int) {a0 : Nat} (h0 : τ a0 = 1) {a1 : Nat} (h1 : τ a1 = 11) {x2 : Int} (r2 : rg x2) : Met l yX0_go wsX0_go ({ frames := 3, cells := 0, slots := 0, locals := 74 }) (jP D cA τ G L σ [.ref a0, .ref a1, .int (jI x2)]) (jQI D cA τ G L (fun r σ' => (True) ∧ fr wr_X0_go τ σ σ')) 0 0 (fun q => q ∈ L) := by
  refine j_metI (by decide +kernel) rfl (Nat.le_of_ble_eq_true rfl) ?_
  intro p e s m args below meth c Q hx hb hml hown hts hK hW hRet ls hl
  have hl : lv_has ls 6 [(0, .ref a0), (1, .ref a1), (2, .int (jI x2))] := hl
  have hA : ∀ q ∈ L, (fun q => q ∈ L) q := fun _ h => h
  have hF : va_S (fun q => q ∈ L) s.heap s.heap [] := va_S.rf
  have hR : fr wr_X0_go τ σ σ := fr_rf
  refine lv_aload_n hx hb dX0_go_0 rfl (lv_at hl 1 rfl) ?_
  refine j_getR hx hb (C := RX10) (T := TX10) (N := 9) hts inX0_go_X10 hown hK hS hW h1 rfl 0 rfl rfl (by decide) (hts _ flX0_go_36) dX0_go_1 ?_
  have h_1 : τ (G a1 0) = 4 := gty hS h1 (k := 0) rfl rfl
  refine lv_aload_n hx hb dX0_go_4 rfl (lv_at hl 0 rfl) ?_
  refine j_getR hx hb (C := RX0) (T := TX0) (N := 5) hts inX0_go_X0 hown hK hS hW h0 rfl 0 rfl rfl (by decide) (hts _ flX0_go_12) dX0_go_5 ?_
  have h_2 : τ (G a0 0) = 3 := gty hS h0 (k := 0) rfl rfl
  refine j_cR (j_runV (As := [.ref (G a0 0)]) (rest := []) hx hb hml hown hts hK hS hW (kX3_placeOf l hS σ (a0 := G a1 0) (h0 := h_1) (a1 := G a0 0) (h1 := h_2)) 1 gX0_go_X3_placeOf rfl hvX3_placeOf ⟨Nat.le_of_ble_eq_true rfl, Nat.le_of_ble_eq_true rfl⟩ rfl rfl h_1 rfl rfl rfl rfl hl.1 rfl (Nat.le_of_ble_eq_true rfl) dX0_go_8 ⟨Nat.le_of_ble_eq_true rfl, Nat.le_of_ble_eq_true rfl⟩) (fun v_3 rv_3 pv_3 => ?_)
  try dsimp only at pv_3
  refine lv_istore_n (lv' := [(3, .int (jI v_3)), (0, .ref a0), (1, .ref a1), (2, .int (jI x2))]) hx hb dX0_go_11 rfl hl (by decide) rfl (fun ls hl => ?_)
  refine lv_aload_n hx hb dX0_go_12 rfl (lv_at hl 2 rfl) ?_
  refine j_getR hx hb (C := RX10) (T := TX10) (N := 9) hts inX0_go_X10 hown hK hS hW h1 rfl 0 rfl rfl (by decide) (hts _ flX0_go_36) dX0_go_13 ?_
  refine lv_iload_n hx hb dX0_go_16 rfl (lv_at hl 0 rfl) ?_
  refine lv_aload_n hx hb dX0_go_17 rfl (lv_at hl 1 rfl) ?_
  refine j_getR hx hb (C := RX0) (T := TX0) (N := 5) hts inX0_go_X0 hown hK hS hW h0 rfl 0 rfl rfl (by decide) (hts _ flX0_go_12) dX0_go_18 ?_
  refine j_cR (j_runV (As := [.int (jI v_3), .ref (G a0 0)]) (rest := []) hx hb hml hown hts hK hS hW (kX3_isAt l hS σ (a0 := G a1 0) (h0 := h_1) (x1 := v_3) (r1 := (by omega)) (a2 := G a0 0) (h2 := h_2)) 2 gX0_go_X3_isAt rfl hvX3_isAt ⟨Nat.le_of_ble_eq_true rfl, Nat.le_of_ble_eq_true rfl⟩ rfl rfl h_1 rfl rfl rfl rfl hl.1 rfl (Nat.le_of_ble_eq_true rfl) dX0_go_21 ⟨Nat.le_of_ble_eq_true rfl, Nat.le_of_ble_eq_true rfl⟩) (fun v_4 rv_4 pv_4 => ?_)
  try dsimp only at pv_4
  refine lv_istore (lv' := [(4, .int (jI v_4)), (3, .int (jI v_3)), (0, .ref a0), (1, .ref a1), (2, .int (jI x2))]) hx hb dX0_go_24 hl (by decide) rfl (fun ls hl => ?_)
  refine lv_aload_n hx hb dX0_go_26 rfl (lv_at hl 3 rfl) ?_
  refine j_getR hx hb (C := RX10) (T := TX10) (N := 9) hts inX0_go_X10 hown hK hS hW h1 rfl 0 rfl rfl (by decide) (hts _ flX0_go_36) dX0_go_27 ?_
  refine lv_iload_n hx hb dX0_go_30 rfl (lv_at hl 1 rfl) ?_
  refine lv_iload hx hb dX0_go_31 (lv_at hl 0 rfl) ?_
  refine lv_iload_n hx hb dX0_go_33 rfl (lv_at hl 4 rfl) ?_
  refine j_cR (j_runV (As := [.int (jI v_3), .int (jI v_4), .int (jI x2)]) (rest := []) hx hb hml hown hts hK hS hW (kX3_beside l hS σ (a0 := G a1 0) (h0 := h_1) (x1 := v_3) (r1 := (by omega)) (x2 := v_4) (r2 := (by omega)) (x3 := x2) (r3 := (by omega))) 3 gX0_go_X3_beside rfl hvX3_beside ⟨Nat.le_of_ble_eq_true rfl, Nat.le_of_ble_eq_true rfl⟩ rfl rfl h_1 rfl rfl rfl rfl hl.1 rfl (Nat.le_of_ble_eq_true rfl) dX0_go_34 ⟨Nat.le_of_ble_eq_true rfl, Nat.le_of_ble_eq_true rfl⟩) (fun v_5 rv_5 pv_5 => ?_)
  try dsimp only at pv_5
  refine lv_istore (lv' := [(5, .int (jI v_5)), (4, .int (jI v_4)), (3, .int (jI v_3)), (0, .ref a0), (1, .ref a1), (2, .int (jI x2))]) hx hb dX0_go_37 hl (by decide) rfl (fun ls hl => ?_)
  refine lv_aload_n hx hb dX0_go_39 rfl (lv_at hl 4 rfl) ?_
  refine j_getR hx hb (C := RX10) (T := TX10) (N := 9) hts inX0_go_X10 hown hK hS hW h1 rfl 0 rfl rfl (by decide) (hts _ flX0_go_36) dX0_go_40 ?_
  refine lv_iload hx hb dX0_go_43 (lv_at hl 0 rfl) ?_
  refine j_cR (j_runV (As := [.int (jI v_5)]) (rest := []) hx hb hml hown hts hK hS hW (kX3_has l hS σ (a0 := G a1 0) (h0 := h_1) (x1 := v_5) (r1 := (by omega))) 1 gX0_go_X3_has rfl hvX3_has ⟨Nat.le_of_ble_eq_true rfl, Nat.le_of_ble_eq_true rfl⟩ rfl rfl h_1 rfl rfl rfl rfl hl.1 rfl (Nat.le_of_ble_eq_true rfl) dX0_go_45 ⟨Nat.le_of_ble_eq_true rfl, Nat.le_of_ble_eq_true rfl⟩) (fun v_6 rv_6 pv_6 => ?_)
  try dsimp only at pv_6
  refine j_if_ne (tgt := 54) hx hb (by omega) dX0_go_48 (by decide) (fun c_7 => ?_) (fun c_7 => ?_)
  · refine lv_iload hx hb dX0_go_54 (lv_at hl 1 rfl) ?_
    refine j_if_ne (tgt := 72) hx hb (by omega) dX0_go_56 (by decide) (fun c_8 => ?_) (fun c_8 => ?_)
    · refine lv_aload_n hx hb dX0_go_72 rfl (lv_at hl 4 rfl) ?_
      refine lv_iload_n hx hb dX0_go_73 rfl (lv_at hl 2 rfl) ?_
      refine lv_iload hx hb dX0_go_74 (lv_at hl 0 rfl) ?_
      refine j_mmax hx hb (hml.trans hl.1.symm) hown (hts (.methodLink RX0 60 Lib.Math.max.name) (by decide +kernel)) (hts (.static Lib.Math.max.name) (by decide +kernel)) (hts (.initialized "java/lang/Math") (by decide +kernel)) (hts (.code Lib.Math.max.name Lib.Math.max.code 2 (some .int)) (by decide +kernel)) (Nat.le_of_ble_eq_true rfl) (Nat.le_of_ble_eq_true rfl) (Nat.le_of_ble_eq_true rfl) (Nat.le_of_ble_eq_true rfl) (by omega) (by omega) dX0_go_76 (fun z_9 rz_9 ez_9 => ?_)
      refine j_cR (j_runV (As := [.int (jI z_9)]) (rest := []) hx hb hml hown hts hK hS hW (kX10_isPageCommon l hS σ (a0 := a1) (h0 := h1) (x1 := z_9) (r1 := (by omega))) 1 gX0_go_X10_isPageCommon rfl hvX10_isPageCommon ⟨Nat.le_of_ble_eq_true rfl, Nat.le_of_ble_eq_true rfl⟩ rfl rfl h1 rfl rfl rfl rfl hl.1 rfl (Nat.le_of_ble_eq_true rfl) dX0_go_79 ⟨Nat.le_of_ble_eq_true rfl, Nat.le_of_ble_eq_true rfl⟩) (fun v_10 rv_10 pv_10 => ?_)
      try dsimp only at pv_10
      refine j_if_eq (tgt := 98) hx hb (by omega) dX0_go_82 (by decide) (fun c_11 => ?_) (fun c_11 => ?_)
      · refine lv_aload_n hx hb dX0_go_98 rfl (lv_at hl 3 rfl) ?_
        refine lv_dup hx hb dX0_go_99 rfl ?_
        refine j_getI hx hb (C := RX0) (T := TX0) (N := 5) hts inX0_go_X0 hown hK hS hW h0 rfl 3 rfl rfl (by decide) (hts _ flX0_go_26) dX0_go_100 ?_
        have := fbd hW h0 (k := 3) (lo := -2147483648) (hi := 2147483647) rfl rfl
        refine j_const hx hb dX0_go_103 ?_
        refine j_add hx hb dX0_go_104 ?_
        refine j_wrap (fun z_12 rz_12 ez_12 => ?_)
        refine j_putI hx hb (C := RX0) (T := TX0) (N := 5) hts inX0_go_X0 tyX0 tyX0_ok nmX0 hown hK hS hA hW hF h0 rfl 3 (lo := -2147483648) (hi := 2147483647) rfl rfl (by decide) (hts _ flX0_go_26) rfl .int rfl (by omega) rfl rfl dX0_go_105 (fun σ_13 H locs e_14 hW hF => ?_)
        have hR := fr_up hR e_14 h0 1003 rfl (by decide)
        have : σ_13 a0 3 = z_12 := by rw [e_14]; exact up2_at _ _ _ _
        refine lv_aload_n hx hb dX0_go_108 rfl (lv_at hl 4 rfl) ?_
        refine j_getR hx hb (C := RX10) (T := TX10) (N := 9) hts inX0_go_X10 hown hK hS hW h1 rfl 0 rfl rfl (by decide) (hts _ flX0_go_36) dX0_go_109 ?_
        refine lv_iload hx hb dX0_go_112 (lv_at hl 0 rfl) ?_
        refine lv_aload_n hx hb dX0_go_114 rfl (lv_at hl 3 rfl) ?_
        refine j_getR hx hb (C := RX0) (T := TX0) (N := 5) hts inX0_go_X0 hown hK hS hW h0 rfl 0 rfl rfl (by decide) (hts _ flX0_go_12) dX0_go_115 ?_
        refine j_cV (j_runV (As := [.int (jI v_5), .ref (G a0 0)]) (rest := []) hx hb hml hown hts hK hS hW (kX3_copyTo l hS σ_13 (a0 := G a1 0) (h0 := h_1) (x1 := v_5) (r1 := (by omega)) (a2 := G a0 0) (h2 := h_2)) 2 gX0_go_X3_copyTo rfl hvX3_copyTo ⟨Nat.le_of_ble_eq_true rfl, Nat.le_of_ble_eq_true rfl⟩ rfl rfl h_1 rfl rfl rfl rfl hl.1 rfl (Nat.le_of_ble_eq_true rfl) dX0_go_118 ⟨Nat.le_of_ble_eq_true rfl, Nat.le_of_ble_eq_true rfl⟩) hA hF (fun σ_15 H locs hW hF pσ_15 => ?_)
        try dsimp only at pσ_15
        obtain ⟨pσ_15, fpσ_15⟩ := pσ_15
        have hR := fr_call hR fpσ_15 (by decide)
        refine lv_iload hx hb dX0_go_121 (lv_at hl 0 rfl) ?_
        exact hRet 123 _ _ _ v_5 _ dX0_go_123 hW hF (by omega) ⟨trivial, hR⟩
      · refine lv_aload_n hx hb dX0_go_85 rfl (lv_at hl 3 rfl) ?_
        refine lv_dup hx hb dX0_go_86 rfl ?_
        refine j_getI hx hb (C := RX0) (T := TX0) (N := 5) hts inX0_go_X0 hown hK hS hW h0 rfl 2 rfl rfl (by decide) (hts _ flX0_go_22) dX0_go_87 ?_
        have := fbd hW h0 (k := 2) (lo := -2147483648) (hi := 2147483647) rfl rfl
        refine j_const hx hb dX0_go_90 ?_
        refine j_add hx hb dX0_go_91 ?_
        refine j_wrap (fun z_16 rz_16 ez_16 => ?_)
        refine j_putI hx hb (C := RX0) (T := TX0) (N := 5) hts inX0_go_X0 tyX0 tyX0_ok nmX0 hown hK hS hA hW hF h0 rfl 2 (lo := -2147483648) (hi := 2147483647) rfl rfl (by decide) (hts _ flX0_go_22) rfl .int rfl (by omega) rfl rfl dX0_go_92 (fun σ_17 H locs e_18 hW hF => ?_)
        have hR := fr_up hR e_18 h0 1002 rfl (by decide)
        have : σ_17 a0 2 = z_16 := by rw [e_18]; exact up2_at _ _ _ _
        refine lv_goto (tgt := 108) hx hb dX0_go_95 (by decide) ?_
        refine lv_aload_n hx hb dX0_go_108 rfl (lv_at hl 4 rfl) ?_
        refine j_getR hx hb (C := RX10) (T := TX10) (N := 9) hts inX0_go_X10 hown hK hS hW h1 rfl 0 rfl rfl (by decide) (hts _ flX0_go_36) dX0_go_109 ?_
        refine lv_iload hx hb dX0_go_112 (lv_at hl 0 rfl) ?_
        refine lv_aload_n hx hb dX0_go_114 rfl (lv_at hl 3 rfl) ?_
        refine j_getR hx hb (C := RX0) (T := TX0) (N := 5) hts inX0_go_X0 hown hK hS hW h0 rfl 0 rfl rfl (by decide) (hts _ flX0_go_12) dX0_go_115 ?_
        refine j_cV (j_runV (As := [.int (jI v_5), .ref (G a0 0)]) (rest := []) hx hb hml hown hts hK hS hW (kX3_copyTo l hS σ_17 (a0 := G a1 0) (h0 := h_1) (x1 := v_5) (r1 := (by omega)) (a2 := G a0 0) (h2 := h_2)) 2 gX0_go_X3_copyTo rfl hvX3_copyTo ⟨Nat.le_of_ble_eq_true rfl, Nat.le_of_ble_eq_true rfl⟩ rfl rfl h_1 rfl rfl rfl rfl hl.1 rfl (Nat.le_of_ble_eq_true rfl) dX0_go_118 ⟨Nat.le_of_ble_eq_true rfl, Nat.le_of_ble_eq_true rfl⟩) hA hF (fun σ_19 H locs hW hF pσ_19 => ?_)
        try dsimp only at pσ_19
        obtain ⟨pσ_19, fpσ_19⟩ := pσ_19
        have hR := fr_call hR fpσ_19 (by decide)
        refine lv_iload hx hb dX0_go_121 (lv_at hl 0 rfl) ?_
        exact hRet 123 _ _ _ v_5 _ dX0_go_123 hW hF (by omega) ⟨trivial, hR⟩
    · refine lv_aload_n hx hb dX0_go_59 rfl (lv_at hl 3 rfl) ?_
      refine lv_dup hx hb dX0_go_60 rfl ?_
      refine j_getI hx hb (C := RX0) (T := TX0) (N := 5) hts inX0_go_X0 hown hK hS hW h0 rfl 4 rfl rfl (by decide) (hts _ flX0_go_29) dX0_go_61 ?_
      have := fbd hW h0 (k := 4) (lo := -2147483648) (hi := 2147483647) rfl rfl
      refine j_const hx hb dX0_go_64 ?_
      refine j_add hx hb dX0_go_65 ?_
      refine j_wrap (fun z_20 rz_20 ez_20 => ?_)
      refine j_putI hx hb (C := RX0) (T := TX0) (N := 5) hts inX0_go_X0 tyX0 tyX0_ok nmX0 hown hK hS hA hW hF h0 rfl 4 (lo := -2147483648) (hi := 2147483647) rfl rfl (by decide) (hts _ flX0_go_29) rfl .int rfl (by omega) rfl rfl dX0_go_66 (fun σ_21 H locs e_22 hW hF => ?_)
      have hR := fr_up hR e_22 h0 1004 rfl (by decide)
      have : σ_21 a0 4 = z_20 := by rw [e_22]; exact up2_at _ _ _ _
      refine lv_goto (tgt := 108) hx hb dX0_go_69 (by decide) ?_
      refine lv_aload_n hx hb dX0_go_108 rfl (lv_at hl 4 rfl) ?_
      refine j_getR hx hb (C := RX10) (T := TX10) (N := 9) hts inX0_go_X10 hown hK hS hW h1 rfl 0 rfl rfl (by decide) (hts _ flX0_go_36) dX0_go_109 ?_
      refine lv_iload hx hb dX0_go_112 (lv_at hl 0 rfl) ?_
      refine lv_aload_n hx hb dX0_go_114 rfl (lv_at hl 3 rfl) ?_
      refine j_getR hx hb (C := RX0) (T := TX0) (N := 5) hts inX0_go_X0 hown hK hS hW h0 rfl 0 rfl rfl (by decide) (hts _ flX0_go_12) dX0_go_115 ?_
      refine j_cV (j_runV (As := [.int (jI v_5), .ref (G a0 0)]) (rest := []) hx hb hml hown hts hK hS hW (kX3_copyTo l hS σ_21 (a0 := G a1 0) (h0 := h_1) (x1 := v_5) (r1 := (by omega)) (a2 := G a0 0) (h2 := h_2)) 2 gX0_go_X3_copyTo rfl hvX3_copyTo ⟨Nat.le_of_ble_eq_true rfl, Nat.le_of_ble_eq_true rfl⟩ rfl rfl h_1 rfl rfl rfl rfl hl.1 rfl (Nat.le_of_ble_eq_true rfl) dX0_go_118 ⟨Nat.le_of_ble_eq_true rfl, Nat.le_of_ble_eq_true rfl⟩) hA hF (fun σ_23 H locs hW hF pσ_23 => ?_)
      try dsimp only at pσ_23
      obtain ⟨pσ_23, fpσ_23⟩ := pσ_23
      have hR := fr_call hR fpσ_23 (by decide)
      refine lv_iload hx hb dX0_go_121 (lv_at hl 0 rfl) ?_
      exact hRet 123 _ _ _ v_5 _ dX0_go_123 hW hF (by omega) ⟨trivial, hR⟩
  · refine j_bi hx hb dX0_go_51 (by decide) ?_
    exact hRet 53 _ _ _ (-3) _ dX0_go_53 hW hF (by decide) ⟨trivial, hR⟩
theorem flX4_isEntryStart_9 : Cond.fieldLink RX4 9 "PageTrie$LayerView" "trie" "LPageTrie$Trie;" ∈ wsX4_isEntryStart := List.mem_of_getElem? (i := 2) rfl
theorem flX4_isEntryStart_15 : Cond.fieldLink RX4 15 "PageTrie$LayerView" "start" "I" ∈ wsX4_isEntryStart := List.mem_of_getElem? (i := 1) rfl
theorem flX4_isEntryStart_19 : Cond.fieldLink RX4 19 "PageTrie$LayerView" "depth" "I" ∈ wsX4_isEntryStart := List.mem_of_getElem? (i := 3) rfl
theorem inX4_isEntryStart_X4 : ∀ w ∈ u_ws RX4 TX4 4, w ∈ wsX4_isEntryStart := mem_r _ [12, 13, 14, 15] rfl
theorem hvX4_isEntryStart : yX4_isEntryStart.cls = RX4 ∧ yX4_isEntryStart.cls ≠ "java/lang/invoke/MethodHandle" ∧ yX4_isEntryStart.cls ≠ "java/lang/invoke/VarHandle" ∧ (parseMethodDescriptor yX4_isEntryStart.desc).map (fun d => d.parameters.length) = some 1 := by decide +kernel
set_option maxHeartbeats 4000000 in
set_option maxRecDepth 100000 in
theorem kX4_isEntryStart (l : Launch) {D : va_G} {cA : Nat → ClassId} {τ : Nat → Nat} {G : Nat → Nat → Nat} {L : List Nat} (hS : SW τ G L) (σ : Nat → Nat → Int) {a0 : Nat} (h0 : τ a0 = 5) {x1 : Int} (r1 : rg x1) : Met l yX4_isEntryStart wsX4_isEntryStart ({ frames := 1, cells := 0, slots := 0, locals := 21 }) (jP D cA τ G L σ [.ref a0, .int (jI x1)]) (jQR (fun r => (0 ≤ r ∧ r ≤ 1) ∧ (True))) 0 0 (fun _ => False) := by
  refine j_metRZ (by decide +kernel) rfl (Nat.le_of_ble_eq_true rfl) ?_
  intro p e s m args below meth c Q hx hb hml hown hts hK hW hRet ls hl
  have hl : lv_has ls 2 [(0, .ref a0), (1, .int (jI x1))] := hl
  refine lv_iload_n hx hb dX4_isEntryStart_0 rfl (lv_at hl 1 rfl) ?_
  refine lv_aload_n hx hb dX4_isEntryStart_1 rfl (lv_at hl 0 rfl) ?_
  refine j_getI hx hb (C := RX4) (T := TX4) (N := 4) hts inX4_isEntryStart_X4 hown hK hS hW h0 rfl 1 rfl rfl (by decide) (hts _ flX4_isEntryStart_15) dX4_isEntryStart_2 ?_
  have := fbd hW h0 (k := 1) (lo := 0) (hi := 150) rfl rfl
  refine j_icmp_eq (tgt := 23) hx hb (by omega) (by omega) dX4_isEntryStart_5 (by decide) (fun c_1 => ?_) (fun c_1 => ?_)
  · refine j_const hx hb dX4_isEntryStart_23 ?_
    refine lv_goto (tgt := 28) hx hb dX4_isEntryStart_24 (by decide) ?_
    exact hRet 28 _ 1 dX4_isEntryStart_28 (by omega) trivial
  · refine lv_aload_n hx hb dX4_isEntryStart_8 rfl (lv_at hl 0 rfl) ?_
    refine j_getR hx hb (C := RX4) (T := TX4) (N := 4) hts inX4_isEntryStart_X4 hown hK hS hW h0 rfl 0 rfl rfl (by decide) (hts _ flX4_isEntryStart_9) dX4_isEntryStart_9 ?_
    have h_2 : τ (G a0 0) = 11 := gty hS h0 (k := 0) rfl rfl
    refine lv_iload_n hx hb dX4_isEntryStart_12 rfl (lv_at hl 1 rfl) ?_
    refine j_cR (j_runV (As := [.int (jI x1)]) (rest := []) hx hb hml hown hts hK hS hW (kX10_sharedAt l hS σ (a0 := G a0 0) (h0 := h_2) (x1 := x1) (r1 := (by omega))) 1 gX4_isEntryStart_X10_sharedAt rfl hvX10_sharedAt ⟨Nat.le_of_ble_eq_true rfl, Nat.le_of_ble_eq_true rfl⟩ rfl rfl h_2 rfl rfl rfl rfl hl.1 rfl (Nat.le_of_ble_eq_true rfl) dX4_isEntryStart_13 ⟨Nat.le_of_ble_eq_true rfl, Nat.le_of_ble_eq_true rfl⟩) (fun v_3 rv_3 pv_3 => ?_)
    try dsimp only at pv_3
    refine lv_aload_n hx hb dX4_isEntryStart_16 rfl (lv_at hl 0 rfl) ?_
    refine j_getI hx hb (C := RX4) (T := TX4) (N := 4) hts inX4_isEntryStart_X4 hown hK hS hW h0 rfl 2 rfl rfl (by decide) (hts _ flX4_isEntryStart_19) dX4_isEntryStart_17 ?_
    have := fbd hW h0 (k := 2) (lo := -2147483648) (hi := 2147483647) rfl rfl
    refine j_icmp_ne (tgt := 27) hx hb (by omega) (by omega) dX4_isEntryStart_20 (by decide) (fun c_4 => ?_) (fun c_4 => ?_)
    · refine j_const hx hb dX4_isEntryStart_27 ?_
      exact hRet 28 _ 0 dX4_isEntryStart_28 (by omega) trivial
    · refine j_const hx hb dX4_isEntryStart_23 ?_
      refine lv_goto (tgt := 28) hx hb dX4_isEntryStart_24 (by decide) ?_
      exact hRet 28 _ 1 dX4_isEntryStart_28 (by omega) trivial
theorem flX4_isPageStart_9 : Cond.fieldLink RX4 9 "PageTrie$LayerView" "trie" "LPageTrie$Trie;" ∈ wsX4_isPageStart := List.mem_of_getElem? (i := 2) rfl
theorem flX4_isPageStart_15 : Cond.fieldLink RX4 15 "PageTrie$LayerView" "start" "I" ∈ wsX4_isPageStart := List.mem_of_getElem? (i := 1) rfl
theorem flX4_isPageStart_19 : Cond.fieldLink RX4 19 "PageTrie$LayerView" "depth" "I" ∈ wsX4_isPageStart := List.mem_of_getElem? (i := 3) rfl
theorem inX4_isPageStart_X4 : ∀ w ∈ u_ws RX4 TX4 4, w ∈ wsX4_isPageStart := mem_r _ [17, 18, 19, 20] rfl
theorem hvX4_isPageStart : yX4_isPageStart.cls = RX4 ∧ yX4_isPageStart.cls ≠ "java/lang/invoke/MethodHandle" ∧ yX4_isPageStart.cls ≠ "java/lang/invoke/VarHandle" ∧ (parseMethodDescriptor yX4_isPageStart.desc).map (fun d => d.parameters.length) = some 1 := by decide +kernel
set_option maxHeartbeats 4000000 in
set_option maxRecDepth 100000 in
theorem kX4_isPageStart (l : Launch) {D : va_G} {cA : Nat → ClassId} {τ : Nat → Nat} {G : Nat → Nat → Nat} {L : List Nat} (hS : SW τ G L) (σ : Nat → Nat → Int) {a0 : Nat} (h0 : τ a0 = 5) {x1 : Int} (r1 : rg x1) : Met l yX4_isPageStart wsX4_isPageStart ({ frames := 1, cells := 0, slots := 0, locals := 21 }) (jP D cA τ G L σ [.ref a0, .int (jI x1)]) (jQR (fun r => (0 ≤ r ∧ r ≤ 1) ∧ (True))) 0 0 (fun _ => False) := by
  refine j_metRZ (by decide +kernel) rfl (Nat.le_of_ble_eq_true rfl) ?_
  intro p e s m args below meth c Q hx hb hml hown hts hK hW hRet ls hl
  have hl : lv_has ls 2 [(0, .ref a0), (1, .int (jI x1))] := hl
  refine lv_iload_n hx hb dX4_isPageStart_0 rfl (lv_at hl 1 rfl) ?_
  refine lv_aload_n hx hb dX4_isPageStart_1 rfl (lv_at hl 0 rfl) ?_
  refine j_getI hx hb (C := RX4) (T := TX4) (N := 4) hts inX4_isPageStart_X4 hown hK hS hW h0 rfl 1 rfl rfl (by decide) (hts _ flX4_isPageStart_15) dX4_isPageStart_2 ?_
  have := fbd hW h0 (k := 1) (lo := 0) (hi := 150) rfl rfl
  refine j_icmp_eq (tgt := 34) hx hb (by omega) (by omega) dX4_isPageStart_5 (by decide) (fun c_1 => ?_) (fun c_1 => ?_)
  · refine j_const hx hb dX4_isPageStart_34 ?_
    refine lv_goto (tgt := 39) hx hb dX4_isPageStart_35 (by decide) ?_
    exact hRet 39 _ 1 dX4_isPageStart_39 (by omega) trivial
  · refine lv_aload_n hx hb dX4_isPageStart_8 rfl (lv_at hl 0 rfl) ?_
    refine j_getR hx hb (C := RX4) (T := TX4) (N := 4) hts inX4_isPageStart_X4 hown hK hS hW h0 rfl 0 rfl rfl (by decide) (hts _ flX4_isPageStart_9) dX4_isPageStart_9 ?_
    have h_2 : τ (G a0 0) = 11 := gty hS h0 (k := 0) rfl rfl
    refine lv_iload_n hx hb dX4_isPageStart_12 rfl (lv_at hl 1 rfl) ?_
    refine j_cR (j_runV (As := [.int (jI x1)]) (rest := []) hx hb hml hown hts hK hS hW (kX10_sharedAt l hS σ (a0 := G a0 0) (h0 := h_2) (x1 := x1) (r1 := (by omega))) 1 gX4_isPageStart_X10_sharedAt rfl hvX10_sharedAt ⟨Nat.le_of_ble_eq_true rfl, Nat.le_of_ble_eq_true rfl⟩ rfl rfl h_2 rfl rfl rfl rfl hl.1 rfl (Nat.le_of_ble_eq_true rfl) dX4_isPageStart_13 ⟨Nat.le_of_ble_eq_true rfl, Nat.le_of_ble_eq_true rfl⟩) (fun v_3 rv_3 pv_3 => ?_)
    try dsimp only at pv_3
    refine lv_aload_n hx hb dX4_isPageStart_16 rfl (lv_at hl 0 rfl) ?_
    refine j_getI hx hb (C := RX4) (T := TX4) (N := 4) hts inX4_isPageStart_X4 hown hK hS hW h0 rfl 2 rfl rfl (by decide) (hts _ flX4_isPageStart_19) dX4_isPageStart_17 ?_
    have := fbd hW h0 (k := 2) (lo := -2147483648) (hi := 2147483647) rfl rfl
    refine j_icmp_ne (tgt := 38) hx hb (by omega) (by omega) dX4_isPageStart_20 (by decide) (fun c_4 => ?_) (fun c_4 => ?_)
    · refine j_const hx hb dX4_isPageStart_38 ?_
      exact hRet 39 _ 0 dX4_isPageStart_39 (by omega) trivial
    · refine lv_aload_n hx hb dX4_isPageStart_23 rfl (lv_at hl 0 rfl) ?_
      refine j_getR hx hb (C := RX4) (T := TX4) (N := 4) hts inX4_isPageStart_X4 hown hK hS hW h0 rfl 0 rfl rfl (by decide) (hts _ flX4_isPageStart_9) dX4_isPageStart_24 ?_
      refine lv_iload_n hx hb dX4_isPageStart_27 rfl (lv_at hl 1 rfl) ?_
      refine j_cR (j_runV (As := [.int (jI x1)]) (rest := []) hx hb hml hown hts hK hS hW (kX10_opensAt l hS σ (a0 := G a0 0) (h0 := h_2) (x1 := x1) (r1 := (by omega))) 1 gX4_isPageStart_X10_opensAt rfl hvX10_opensAt ⟨Nat.le_of_ble_eq_true rfl, Nat.le_of_ble_eq_true rfl⟩ rfl rfl h_2 rfl rfl rfl rfl hl.1 rfl (Nat.le_of_ble_eq_true rfl) dX4_isPageStart_28 ⟨Nat.le_of_ble_eq_true rfl, Nat.le_of_ble_eq_true rfl⟩) (fun v_5 rv_5 pv_5 => ?_)
      try dsimp only at pv_5
      refine j_if_eq (tgt := 38) hx hb (by omega) dX4_isPageStart_31 (by decide) (fun c_6 => ?_) (fun c_6 => ?_)
      · refine j_const hx hb dX4_isPageStart_38 ?_
        exact hRet 39 _ 0 dX4_isPageStart_39 (by omega) trivial
      · refine j_const hx hb dX4_isPageStart_34 ?_
        refine lv_goto (tgt := 39) hx hb dX4_isPageStart_35 (by decide) ?_
        exact hRet 39 _ 1 dX4_isPageStart_39 (by omega) trivial
theorem flX4_beginningBytes_9 : Cond.fieldLink RX4 9 "PageTrie$LayerView" "trie" "LPageTrie$Trie;" ∈ wsX4_beginningBytes := List.mem_of_getElem? (i := 2) rfl
theorem flX4_beginningBytes_19 : Cond.fieldLink RX4 19 "PageTrie$LayerView" "depth" "I" ∈ wsX4_beginningBytes := List.mem_of_getElem? (i := 1) rfl
theorem flX4_beginningBytes_47 : Cond.fieldLink RX4 47 "PageTrie$Trie" "width" "I" ∈ wsX4_beginningBytes := List.mem_of_getElem? (i := 3) rfl
theorem inX4_beginningBytes_X10 : ∀ w ∈ u_ws RX10 TX10 9, w ∈ wsX4_beginningBytes := mem_r _ [8, 9, 10, 11, 12, 13, 14, 15, 16] rfl
theorem inX4_beginningBytes_X4 : ∀ w ∈ u_ws RX4 TX4 4, w ∈ wsX4_beginningBytes := mem_r _ [4, 5, 6, 7] rfl
theorem hvX4_beginningBytes : yX4_beginningBytes.cls = RX4 ∧ yX4_beginningBytes.cls ≠ "java/lang/invoke/MethodHandle" ∧ yX4_beginningBytes.cls ≠ "java/lang/invoke/VarHandle" ∧ (parseMethodDescriptor yX4_beginningBytes.desc).map (fun d => d.parameters.length) = some 0 := by decide +kernel
set_option maxHeartbeats 4000000 in
set_option maxRecDepth 100000 in
theorem kX4_beginningBytes (l : Launch) {D : va_G} {cA : Nat → ClassId} {τ : Nat → Nat} {G : Nat → Nat → Nat} {L : List Nat} (hS : SW τ G L) (σ : Nat → Nat → Int) {a0 : Nat} (h0 : τ a0 = 5) : Met l yX4_beginningBytes wsX4_beginningBytes ({ frames := 0, cells := 0, slots := 0, locals := 0 }) (jP D cA τ G L σ [.ref a0]) (jQR (fun r => True)) 0 0 (fun _ => False) := by
  refine j_metR (by decide +kernel) rfl (Nat.le_of_ble_eq_true rfl) ?_
  intro p e s m args below meth c Q hx hb hml hown hts hK hW hRet ls hl
  have hl : lv_has ls 1 [(0, .ref a0)] := hl
  refine lv_aload_n hx hb dX4_beginningBytes_0 rfl (lv_at hl 0 rfl) ?_
  refine j_getI hx hb (C := RX4) (T := TX4) (N := 4) hts inX4_beginningBytes_X4 hown hK hS hW h0 rfl 2 rfl rfl (by decide) (hts _ flX4_beginningBytes_19) dX4_beginningBytes_1 ?_
  have := fbd hW h0 (k := 2) (lo := -2147483648) (hi := 2147483647) rfl rfl
  refine lv_aload_n hx hb dX4_beginningBytes_4 rfl (lv_at hl 0 rfl) ?_
  refine j_getR hx hb (C := RX4) (T := TX4) (N := 4) hts inX4_beginningBytes_X4 hown hK hS hW h0 rfl 0 rfl rfl (by decide) (hts _ flX4_beginningBytes_9) dX4_beginningBytes_5 ?_
  have h_1 : τ (G a0 0) = 11 := gty hS h0 (k := 0) rfl rfl
  refine j_getI hx hb (C := RX10) (T := TX10) (N := 9) hts inX4_beginningBytes_X10 hown hK hS hW h_1 rfl 1 rfl rfl (by decide) (hts _ flX4_beginningBytes_47) dX4_beginningBytes_8 ?_
  have := fbd hW h_1 (k := 1) (lo := -2147483648) (hi := 2147483647) rfl rfl
  refine j_mul hx hb dX4_beginningBytes_11 ?_
  refine j_wrap (fun z_2 rz_2 ez_2 => ?_)
  exact hRet 12 _ z_2 dX4_beginningBytes_12 (by omega) trivial
theorem flX4_keys_15 : Cond.fieldLink RX4 15 "PageTrie$LayerView" "start" "I" ∈ wsX4_keys := List.mem_of_getElem? (i := 2) rfl
theorem flX4_keys_22 : Cond.fieldLink RX4 22 "PageTrie$LayerView" "end" "I" ∈ wsX4_keys := List.mem_of_getElem? (i := 1) rfl
theorem inX4_keys_X4 : ∀ w ∈ u_ws RX4 TX4 4, w ∈ wsX4_keys := mem_r _ [3, 4, 5, 6] rfl
theorem hvX4_keys : yX4_keys.cls = RX4 ∧ yX4_keys.cls ≠ "java/lang/invoke/MethodHandle" ∧ yX4_keys.cls ≠ "java/lang/invoke/VarHandle" ∧ (parseMethodDescriptor yX4_keys.desc).map (fun d => d.parameters.length) = some 0 := by decide +kernel
set_option maxHeartbeats 4000000 in
set_option maxRecDepth 100000 in
theorem kX4_keys (l : Launch) {D : va_G} {cA : Nat → ClassId} {τ : Nat → Nat} {G : Nat → Nat → Nat} {L : List Nat} (hS : SW τ G L) (σ : Nat → Nat → Int) {a0 : Nat} (h0 : τ a0 = 5) : Met l yX4_keys wsX4_keys ({ frames := 0, cells := 0, slots := 0, locals := 0 }) (jP D cA τ G L σ [.ref a0]) (jQR (fun r => True)) 0 0 (fun _ => False) := by
  refine j_metR (by decide +kernel) rfl (Nat.le_of_ble_eq_true rfl) ?_
  intro p e s m args below meth c Q hx hb hml hown hts hK hW hRet ls hl
  have hl : lv_has ls 1 [(0, .ref a0)] := hl
  refine lv_aload_n hx hb dX4_keys_0 rfl (lv_at hl 0 rfl) ?_
  refine j_getI hx hb (C := RX4) (T := TX4) (N := 4) hts inX4_keys_X4 hown hK hS hW h0 rfl 3 rfl rfl (by decide) (hts _ flX4_keys_22) dX4_keys_1 ?_
  have := fbd hW h0 (k := 3) (lo := 0) (hi := 151) rfl rfl
  refine lv_aload_n hx hb dX4_keys_4 rfl (lv_at hl 0 rfl) ?_
  refine j_getI hx hb (C := RX4) (T := TX4) (N := 4) hts inX4_keys_X4 hown hK hS hW h0 rfl 1 rfl rfl (by decide) (hts _ flX4_keys_15) dX4_keys_5 ?_
  have := fbd hW h0 (k := 1) (lo := 0) (hi := 150) rfl rfl
  refine j_sub hx hb dX4_keys_8 ?_
  exact hRet 9 _ ((σ a0 3) - (σ a0 1)) dX4_keys_9 (by omega) trivial
abbrev wr_X4_goTo : List Nat := [5001, 5002, 5003]
theorem flX4_goTo_9 : Cond.fieldLink RX4 9 "PageTrie$LayerView" "trie" "LPageTrie$Trie;" ∈ wsX4_goTo := List.mem_of_getElem? (i := 3) rfl
theorem flX4_goTo_15 : Cond.fieldLink RX4 15 "PageTrie$LayerView" "start" "I" ∈ wsX4_goTo := List.mem_of_getElem? (i := 1) rfl
theorem flX4_goTo_19 : Cond.fieldLink RX4 19 "PageTrie$LayerView" "depth" "I" ∈ wsX4_goTo := List.mem_of_getElem? (i := 2) rfl
theorem flX4_goTo_22 : Cond.fieldLink RX4 22 "PageTrie$LayerView" "end" "I" ∈ wsX4_goTo := List.mem_of_getElem? (i := 6) rfl
theorem flX4_goTo_25 : Cond.fieldLink RX4 25 "PageTrie$Trie" "keys" "LPageTrie$Keys;" ∈ wsX4_goTo := List.mem_of_getElem? (i := 4) rfl
theorem flX4_goTo_31 : Cond.fieldLink RX4 31 "PageTrie$Keys" "size" "I" ∈ wsX4_goTo := List.mem_of_getElem? (i := 5) rfl
theorem inX4_goTo_X10 : ∀ w ∈ u_ws RX10 TX10 9, w ∈ wsX4_goTo := mem_r _ [35, 36, 37, 38, 39, 40, 41, 42, 43] rfl
theorem inX4_goTo_X3 : ∀ w ∈ u_ws RX3 TX3 4, w ∈ wsX4_goTo := mem_r _ [44, 45, 46, 47] rfl
theorem inX4_goTo_X4 : ∀ w ∈ u_ws RX4 TX4 4, w ∈ wsX4_goTo := mem_r _ [31, 32, 33, 34] rfl
theorem hvX4_goTo : yX4_goTo.cls = RX4 ∧ yX4_goTo.cls ≠ "java/lang/invoke/MethodHandle" ∧ yX4_goTo.cls ≠ "java/lang/invoke/VarHandle" ∧ (parseMethodDescriptor yX4_goTo.desc).map (fun d => d.parameters.length) = some 1 := by decide +kernel
set_option maxHeartbeats 4000000 in
set_option maxRecDepth 100000 in
theorem kX4_goTo (l : Launch) {D : va_G} {cA : Nat → ClassId} {τ : Nat → Nat} {G : Nat → Nat → Nat} {L : List Nat} (hS : SW τ G L) (σ : Nat → Nat → Int) {a0 : Nat} (h0 : τ a0 = 5) {x1 : Int} (r1 : rg x1) : Met l yX4_goTo wsX4_goTo ({ frames := 2, cells := 0, slots := 0, locals := 47 }) (jP D cA τ G L σ [.ref a0, .int (jI x1)]) (jQI D cA τ G L (fun r σ' => (0 ≤ r ∧ r ≤ 1) ∧ ((True) ∧ fr wr_X4_goTo τ σ σ'))) 0 0 (fun q => q ∈ L) := by
  refine j_metZ (by decide +kernel) rfl (Nat.le_of_ble_eq_true rfl) ?_
  intro p e s m args below meth c Q hx hb hml hown hts hK hW hRet ls hl
  have hl : lv_has ls 6 [(0, .ref a0), (1, .int (jI x1))] := hl
  have hA : ∀ q ∈ L, (fun q => q ∈ L) q := fun _ h => h
  have hF : va_S (fun q => q ∈ L) s.heap s.heap [] := va_S.rf
  have hR : fr wr_X4_goTo τ σ σ := fr_rf
  refine lv_iload_n hx hb dX4_goTo_0 rfl (lv_at hl 1 rfl) ?_
  have L_9 : ∀ (t0_9 : Int) (ls : Array Slot), (0 ≤ t0_9) → (t0_9 ≤ 1) → rg t0_9 → lv_has ls 6 [(0, .ref a0), (1, .int (jI x1))] → W p l e ({ frames := 2, cells := 0, slots := 0, locals := 47 }) s m args below meth c s.heap [] 0 0 Q (F0 m 9 ls [.int (jI t0_9)]) := by
    intro t0_9 ls i0_9 i1_9 rt0_9 hl
    refine lv_istore_n (lv' := [(2, .int (jI t0_9)), (0, .ref a0), (1, .int (jI x1))]) hx hb dX4_goTo_9 rfl hl (by decide) rfl (fun ls hl => ?_)
    refine lv_iload_n hx hb dX4_goTo_10 rfl (lv_at hl 2 rfl) ?_
    refine lv_istore_n (lv' := [(3, .int (jI x1)), (2, .int (jI t0_9)), (0, .ref a0), (1, .int (jI x1))]) hx hb dX4_goTo_11 rfl hl (by decide) rfl (fun ls hl => ?_)
    refine lv_aload_n hx hb dX4_goTo_12 rfl (lv_at hl 2 rfl) ?_
    refine j_const hx hb dX4_goTo_13 ?_
    refine j_putI hx hb (C := RX4) (T := TX4) (N := 4) hts inX4_goTo_X4 tyX4 tyX4_ok nmX4 hown hK hS hA hW hF h0 rfl 1 (lo := 0) (hi := 150) rfl rfl (by decide) (hts _ flX4_goTo_15) rfl .int rfl (by omega) rfl rfl dX4_goTo_14 (fun σ_1 H locs e_2 hW hF => ?_)
    have hR := fr_up hR e_2 h0 5001 rfl (by decide)
    have : σ_1 a0 1 = 0 := by rw [e_2]; exact up2_at _ _ _ _
    refine lv_aload_n hx hb dX4_goTo_17 rfl (lv_at hl 2 rfl) ?_
    refine j_const hx hb dX4_goTo_18 ?_
    refine j_putI hx hb (C := RX4) (T := TX4) (N := 4) hts inX4_goTo_X4 tyX4 tyX4_ok nmX4 hown hK hS hA hW hF h0 rfl 2 (lo := -2147483648) (hi := 2147483647) rfl rfl (by decide) (hts _ flX4_goTo_19) rfl .int rfl (by omega) rfl rfl dX4_goTo_19 (fun σ_3 H locs e_4 hW hF => ?_)
    have hR := fr_up hR e_4 h0 5002 rfl (by decide)
    have : σ_3 a0 2 = 0 := by rw [e_4]; exact up2_at _ _ _ _
    refine j_const hx hb dX4_goTo_22 ?_
    refine lv_istore (lv' := [(4, .int (jI 0)), (3, .int (jI x1)), (2, .int (jI t0_9)), (0, .ref a0), (1, .int (jI x1))]) hx hb dX4_goTo_23 hl (by decide) rfl (fun ls hl => ?_)
    have L_25 : ∀ (N : Nat) (v2_25 v3_25 v4_25 : Int) (σ_25 : Nat → Nat → Int) (H : Heap) (locs : List Loc) (ls : Array Slot), N = (2147483647 - v4_25 : Int).toNat → (0 ≤ v4_25) → (0 ≤ v2_25) → (v2_25 ≤ 1) → rg v2_25 → rg v3_25 → rg v4_25 → PW D cA τ G L σ_25 H → va_S (fun q => q ∈ L) s.heap H locs → fr wr_X4_goTo τ σ σ_25 → lv_has ls 6 [(0, .ref a0), (2, .int (jI v2_25)), (3, .int (jI v3_25)), (4, .int (jI v4_25))] → W p l e ({ frames := 2, cells := 0, slots := 0, locals := 47 }) s m args below meth c H locs 0 0 Q (F0 m 25 ls []) := by
      intro N
      induction N using Nat.strongRecOn with
      | ind N ih_25 =>
        intro v2_25 v3_25 v4_25 σ_25 H locs ls hN i0_25 i1_25 i2_25 rv2_25 rv3_25 rv4_25 hW hF hR hl
        refine lv_iload hx hb dX4_goTo_25 (lv_at hl 3 rfl) ?_
        refine lv_aload_n hx hb dX4_goTo_27 rfl (lv_at hl 0 rfl) ?_
        refine j_getR hx hb (C := RX4) (T := TX4) (N := 4) hts inX4_goTo_X4 hown hK hS hW h0 rfl 0 rfl rfl (by decide) (hts _ flX4_goTo_9) dX4_goTo_28 ?_
        have h_5 : τ (G a0 0) = 11 := gty hS h0 (k := 0) rfl rfl
        refine j_getR hx hb (C := RX10) (T := TX10) (N := 9) hts inX4_goTo_X10 hown hK hS hW h_5 rfl 0 rfl rfl (by decide) (hts _ flX4_goTo_25) dX4_goTo_31 ?_
        have h_6 : τ (G (G a0 0) 0) = 4 := gty hS h_5 (k := 0) rfl rfl
        refine j_getI hx hb (C := RX3) (T := TX3) (N := 4) hts inX4_goTo_X3 hown hK hS hW h_6 rfl 3 rfl rfl (by decide) (hts _ flX4_goTo_31) dX4_goTo_34 ?_
        have := fbd hW h_6 (k := 3) (lo := 0) (hi := 150) rfl rfl
        refine j_icmp_ge (tgt := 105) hx hb (by omega) (by omega) dX4_goTo_37 (by decide) (fun c_7 => ?_) (fun c_7 => ?_)
        · refine lv_aload_n hx hb dX4_goTo_105 rfl (lv_at hl 0 rfl) ?_
          refine lv_aload_n hx hb dX4_goTo_106 rfl (lv_at hl 0 rfl) ?_
          refine j_getR hx hb (C := RX4) (T := TX4) (N := 4) hts inX4_goTo_X4 hown hK hS hW h0 rfl 0 rfl rfl (by decide) (hts _ flX4_goTo_9) dX4_goTo_107 ?_
          refine lv_aload_n hx hb dX4_goTo_110 rfl (lv_at hl 0 rfl) ?_
          refine j_getI hx hb (C := RX4) (T := TX4) (N := 4) hts inX4_goTo_X4 hown hK hS hW h0 rfl 1 rfl rfl (by decide) (hts _ flX4_goTo_15) dX4_goTo_111 ?_
          have := fbd hW h0 (k := 1) (lo := 0) (hi := 150) rfl rfl
          refine lv_aload_n hx hb dX4_goTo_114 rfl (lv_at hl 0 rfl) ?_
          refine j_getI hx hb (C := RX4) (T := TX4) (N := 4) hts inX4_goTo_X4 hown hK hS hW h0 rfl 2 rfl rfl (by decide) (hts _ flX4_goTo_19) dX4_goTo_115 ?_
          have := fbd hW h0 (k := 2) (lo := -2147483648) (hi := 2147483647) rfl rfl
          refine j_cR (j_runV (As := [.int (jI (σ_25 a0 1)), .int (jI (σ_25 a0 2))]) (rest := [.ref a0]) hx hb hml hown hts hK hS hW (kX10_layerEnd l hS σ_25 (a0 := G a0 0) (h0 := h_5) (x1 := σ_25 a0 1) (r1 := (by omega)) (x2 := σ_25 a0 2) (r2 := (by omega)) (q0 := (by omega)) (q1 := (by omega))) 2 gX4_goTo_X10_layerEnd rfl hvX10_layerEnd ⟨Nat.le_of_ble_eq_true rfl, Nat.le_of_ble_eq_true rfl⟩ rfl rfl h_5 rfl rfl rfl rfl hl.1 rfl (Nat.le_of_ble_eq_true rfl) dX4_goTo_118 ⟨Nat.le_of_ble_eq_true rfl, Nat.le_of_ble_eq_true rfl⟩) (fun v_8 rv_8 pv_8 => ?_)
          try dsimp only at pv_8
          refine j_putI hx hb (C := RX4) (T := TX4) (N := 4) hts inX4_goTo_X4 tyX4 tyX4_ok nmX4 hown hK hS hA hW hF h0 rfl 3 (lo := 0) (hi := 151) rfl rfl (by decide) (hts _ flX4_goTo_22) rfl .int rfl (by omega) rfl rfl dX4_goTo_121 (fun σ_9 H locs e_10 hW hF => ?_)
          have hR := fr_up hR e_10 h0 5003 rfl (by decide)
          have : σ_9 a0 3 = v_8 := by rw [e_10]; exact up2_at _ _ _ _
          refine lv_iload_n hx hb dX4_goTo_124 rfl (lv_at hl 1 rfl) ?_
          exact hRet 125 _ _ _ v2_25 _ dX4_goTo_125 hW hF (by omega) ⟨trivial, hR⟩
        · refine lv_iload_n hx hb dX4_goTo_40 rfl (lv_at hl 2 rfl) ?_
          refine j_if_le (tgt := 105) hx hb (by omega) dX4_goTo_41 (by decide) (fun c_11 => ?_) (fun c_11 => ?_)
          · refine lv_aload_n hx hb dX4_goTo_105 rfl (lv_at hl 0 rfl) ?_
            refine lv_aload_n hx hb dX4_goTo_106 rfl (lv_at hl 0 rfl) ?_
            refine j_getR hx hb (C := RX4) (T := TX4) (N := 4) hts inX4_goTo_X4 hown hK hS hW h0 rfl 0 rfl rfl (by decide) (hts _ flX4_goTo_9) dX4_goTo_107 ?_
            refine lv_aload_n hx hb dX4_goTo_110 rfl (lv_at hl 0 rfl) ?_
            refine j_getI hx hb (C := RX4) (T := TX4) (N := 4) hts inX4_goTo_X4 hown hK hS hW h0 rfl 1 rfl rfl (by decide) (hts _ flX4_goTo_15) dX4_goTo_111 ?_
            have := fbd hW h0 (k := 1) (lo := 0) (hi := 150) rfl rfl
            refine lv_aload_n hx hb dX4_goTo_114 rfl (lv_at hl 0 rfl) ?_
            refine j_getI hx hb (C := RX4) (T := TX4) (N := 4) hts inX4_goTo_X4 hown hK hS hW h0 rfl 2 rfl rfl (by decide) (hts _ flX4_goTo_19) dX4_goTo_115 ?_
            have := fbd hW h0 (k := 2) (lo := -2147483648) (hi := 2147483647) rfl rfl
            refine j_cR (j_runV (As := [.int (jI (σ_25 a0 1)), .int (jI (σ_25 a0 2))]) (rest := [.ref a0]) hx hb hml hown hts hK hS hW (kX10_layerEnd l hS σ_25 (a0 := G a0 0) (h0 := h_5) (x1 := σ_25 a0 1) (r1 := (by omega)) (x2 := σ_25 a0 2) (r2 := (by omega)) (q0 := (by omega)) (q1 := (by omega))) 2 gX4_goTo_X10_layerEnd rfl hvX10_layerEnd ⟨Nat.le_of_ble_eq_true rfl, Nat.le_of_ble_eq_true rfl⟩ rfl rfl h_5 rfl rfl rfl rfl hl.1 rfl (Nat.le_of_ble_eq_true rfl) dX4_goTo_118 ⟨Nat.le_of_ble_eq_true rfl, Nat.le_of_ble_eq_true rfl⟩) (fun v_12 rv_12 pv_12 => ?_)
            try dsimp only at pv_12
            refine j_putI hx hb (C := RX4) (T := TX4) (N := 4) hts inX4_goTo_X4 tyX4 tyX4_ok nmX4 hown hK hS hA hW hF h0 rfl 3 (lo := 0) (hi := 151) rfl rfl (by decide) (hts _ flX4_goTo_22) rfl .int rfl (by omega) rfl rfl dX4_goTo_121 (fun σ_13 H locs e_14 hW hF => ?_)
            have hR := fr_up hR e_14 h0 5003 rfl (by decide)
            have : σ_13 a0 3 = v_12 := by rw [e_14]; exact up2_at _ _ _ _
            refine lv_iload_n hx hb dX4_goTo_124 rfl (lv_at hl 1 rfl) ?_
            exact hRet 125 _ _ _ v2_25 _ dX4_goTo_125 hW hF (by omega) ⟨trivial, hR⟩
          · refine lv_aload_n hx hb dX4_goTo_44 rfl (lv_at hl 0 rfl) ?_
            refine j_getR hx hb (C := RX4) (T := TX4) (N := 4) hts inX4_goTo_X4 hown hK hS hW h0 rfl 0 rfl rfl (by decide) (hts _ flX4_goTo_9) dX4_goTo_45 ?_
            refine lv_iload hx hb dX4_goTo_48 (lv_at hl 3 rfl) ?_
            refine j_cR (j_runV (As := [.int (jI v4_25)]) (rest := []) hx hb hml hown hts hK hS hW (kX10_depthOf l hS σ_25 (a0 := G a0 0) (h0 := h_5) (x1 := v4_25) (r1 := (by omega))) 1 gX4_goTo_X10_depthOf rfl hvX10_depthOf ⟨Nat.le_of_ble_eq_true rfl, Nat.le_of_ble_eq_true rfl⟩ rfl rfl h_5 rfl rfl rfl rfl hl.1 rfl (Nat.le_of_ble_eq_true rfl) dX4_goTo_50 ⟨Nat.le_of_ble_eq_true rfl, Nat.le_of_ble_eq_true rfl⟩) (fun v_15 rv_15 pv_15 => ?_)
            try dsimp only at pv_15
            refine lv_aload_n hx hb dX4_goTo_53 rfl (lv_at hl 0 rfl) ?_
            refine j_getR hx hb (C := RX4) (T := TX4) (N := 4) hts inX4_goTo_X4 hown hK hS hW h0 rfl 0 rfl rfl (by decide) (hts _ flX4_goTo_9) dX4_goTo_54 ?_
            refine lv_iload hx hb dX4_goTo_57 (lv_at hl 3 rfl) ?_
            refine j_cR (j_runV (As := [.int (jI v4_25)]) (rest := [.int (jI v_15)]) hx hb hml hown hts hK hS hW (kX10_sharedAt l hS σ_25 (a0 := G a0 0) (h0 := h_5) (x1 := v4_25) (r1 := (by omega))) 1 gX4_goTo_X10_sharedAt rfl hvX10_sharedAt ⟨Nat.le_of_ble_eq_true rfl, Nat.le_of_ble_eq_true rfl⟩ rfl rfl h_5 rfl rfl rfl rfl hl.1 rfl (Nat.le_of_ble_eq_true rfl) dX4_goTo_59 ⟨Nat.le_of_ble_eq_true rfl, Nat.le_of_ble_eq_true rfl⟩) (fun v_16 rv_16 pv_16 => ?_)
            try dsimp only at pv_16
            refine j_sub hx hb dX4_goTo_62 ?_
            refine lv_istore (lv' := [(5, .int (jI (v_15 - v_16))), (0, .ref a0), (2, .int (jI v2_25)), (3, .int (jI v3_25)), (4, .int (jI v4_25))]) hx hb dX4_goTo_63 hl (by decide) rfl (fun ls hl => ?_)
            refine lv_iload_n hx hb dX4_goTo_65 rfl (lv_at hl 3 rfl) ?_
            refine lv_iload hx hb dX4_goTo_66 (lv_at hl 0 rfl) ?_
            refine j_icmp_gt (tgt := 94) hx hb (by omega) (by omega) dX4_goTo_68 (by decide) (fun c_17 => ?_) (fun c_17 => ?_)
            · refine lv_iload_n hx hb dX4_goTo_94 rfl (lv_at hl 3 rfl) ?_
              refine lv_iload hx hb dX4_goTo_95 (lv_at hl 0 rfl) ?_
              refine j_sub hx hb dX4_goTo_97 ?_
              refine j_wrap (fun z_18 rz_18 ez_18 => ?_)
              refine lv_istore_n (lv' := [(3, .int (jI z_18)), (5, .int (jI (v_15 - v_16))), (0, .ref a0), (2, .int (jI v2_25)), (4, .int (jI v4_25))]) hx hb dX4_goTo_98 rfl hl (by decide) rfl (fun ls hl => ?_)
              refine j_iinc (lv' := [(4, .int (jI (v4_25 + 1))), (3, .int (jI z_18)), (5, .int (jI (v_15 - v_16))), (0, .ref a0), (2, .int (jI v2_25))]) hx hb dX4_goTo_99 hl (k := 4) rfl (by decide) rfl (fun ls hl => ?_)
              refine lv_goto (tgt := 25) hx hb dX4_goTo_102 (by decide) ?_
              exact ih_25 ((2147483647 - (v4_25 + 1) : Int).toNat) (by omega) v2_25 z_18 (v4_25 + 1) σ_25 _ _ _ rfl (by omega) (by omega) (by omega) (by omega) (by omega) (by omega) hW hF hR (lv_sub hl [3, 4, 1, 0] rfl)
            · refine lv_aload_n hx hb dX4_goTo_71 rfl (lv_at hl 1 rfl) ?_
              refine lv_iload hx hb dX4_goTo_72 (lv_at hl 4 rfl) ?_
              refine j_putI hx hb (C := RX4) (T := TX4) (N := 4) hts inX4_goTo_X4 tyX4 tyX4_ok nmX4 hown hK hS hA hW hF h0 rfl 1 (lo := 0) (hi := 150) rfl rfl (by decide) (hts _ flX4_goTo_15) rfl .int rfl (by omega) rfl rfl dX4_goTo_74 (fun σ_19 H locs e_20 hW hF => ?_)
              have hR := fr_up hR e_20 h0 5001 rfl (by decide)
              have : σ_19 a0 1 = v4_25 := by rw [e_20]; exact up2_at _ _ _ _
              refine lv_aload_n hx hb dX4_goTo_77 rfl (lv_at hl 1 rfl) ?_
              refine lv_aload_n hx hb dX4_goTo_78 rfl (lv_at hl 1 rfl) ?_
              refine j_getR hx hb (C := RX4) (T := TX4) (N := 4) hts inX4_goTo_X4 hown hK hS hW h0 rfl 0 rfl rfl (by decide) (hts _ flX4_goTo_9) dX4_goTo_79 ?_
              refine lv_iload hx hb dX4_goTo_82 (lv_at hl 4 rfl) ?_
              refine j_cR (j_runV (As := [.int (jI v4_25)]) (rest := [.ref a0]) hx hb hml hown hts hK hS hW (kX10_sharedAt l hS σ_19 (a0 := G a0 0) (h0 := h_5) (x1 := v4_25) (r1 := (by omega))) 1 gX4_goTo_X10_sharedAt rfl hvX10_sharedAt ⟨Nat.le_of_ble_eq_true rfl, Nat.le_of_ble_eq_true rfl⟩ rfl rfl h_5 rfl rfl rfl rfl hl.1 rfl (Nat.le_of_ble_eq_true rfl) dX4_goTo_84 ⟨Nat.le_of_ble_eq_true rfl, Nat.le_of_ble_eq_true rfl⟩) (fun v_21 rv_21 pv_21 => ?_)
              try dsimp only at pv_21
              refine lv_iload_n hx hb dX4_goTo_87 rfl (lv_at hl 3 rfl) ?_
              refine j_add hx hb dX4_goTo_88 ?_
              refine j_wrap (fun z_22 rz_22 ez_22 => ?_)
              refine j_putI hx hb (C := RX4) (T := TX4) (N := 4) hts inX4_goTo_X4 tyX4 tyX4_ok nmX4 hown hK hS hA hW hF h0 rfl 2 (lo := -2147483648) (hi := 2147483647) rfl rfl (by decide) (hts _ flX4_goTo_19) rfl .int rfl (by omega) rfl rfl dX4_goTo_89 (fun σ_23 H locs e_24 hW hF => ?_)
              have hR := fr_up hR e_24 h0 5002 rfl (by decide)
              have : σ_23 a0 2 = z_22 := by rw [e_24]; exact up2_at _ _ _ _
              refine j_const hx hb dX4_goTo_92 ?_
              refine lv_istore_n (lv' := [(2, .int (jI 1)), (5, .int (jI (v_15 - v_16))), (0, .ref a0), (3, .int (jI v3_25)), (4, .int (jI v4_25))]) hx hb dX4_goTo_93 rfl hl (by decide) rfl (fun ls hl => ?_)
              refine lv_iload_n hx hb dX4_goTo_94 rfl (lv_at hl 3 rfl) ?_
              refine lv_iload hx hb dX4_goTo_95 (lv_at hl 1 rfl) ?_
              refine j_sub hx hb dX4_goTo_97 ?_
              refine j_wrap (fun z_25 rz_25 ez_25 => ?_)
              refine lv_istore_n (lv' := [(3, .int (jI z_25)), (2, .int (jI 1)), (5, .int (jI (v_15 - v_16))), (0, .ref a0), (4, .int (jI v4_25))]) hx hb dX4_goTo_98 rfl hl (by decide) rfl (fun ls hl => ?_)
              refine j_iinc (lv' := [(4, .int (jI (v4_25 + 1))), (3, .int (jI z_25)), (2, .int (jI 1)), (5, .int (jI (v_15 - v_16))), (0, .ref a0)]) hx hb dX4_goTo_99 hl (k := 4) rfl (by decide) rfl (fun ls hl => ?_)
              refine lv_goto (tgt := 25) hx hb dX4_goTo_102 (by decide) ?_
              exact ih_25 ((2147483647 - (v4_25 + 1) : Int).toNat) (by omega) 1 z_25 (v4_25 + 1) σ_23 _ _ _ rfl (by omega) (by omega) (by omega) (by decide) (by omega) (by omega) hW hF hR (lv_sub hl [4, 2, 1, 0] rfl)
    exact L_25 ((2147483647 - 0 : Int).toNat) t0_9 x1 0 σ_3 _ _ _ rfl (by omega) (by omega) (by omega) (by omega) (by omega) (by decide) hW hF hR (lv_sub hl [3, 2, 1, 0] rfl)
  refine j_if_ne (tgt := 8) hx hb (by omega) dX4_goTo_1 (by decide) (fun c_26 => ?_) (fun c_26 => ?_)
  · refine j_const hx hb dX4_goTo_8 ?_
    exact L_9 0 _ (by omega) (by omega) (by decide) (lv_sub hl [0, 1] rfl)
  · refine j_const hx hb dX4_goTo_4 ?_
    refine lv_goto (tgt := 9) hx hb dX4_goTo_5 (by decide) ?_
    exact L_9 1 _ (by omega) (by omega) (by decide) (lv_sub hl [0, 1] rfl)
theorem flX4_entries_15 : Cond.fieldLink RX4 15 "PageTrie$LayerView" "start" "I" ∈ wsX4_entries := List.mem_of_getElem? (i := 1) rfl
theorem flX4_entries_22 : Cond.fieldLink RX4 22 "PageTrie$LayerView" "end" "I" ∈ wsX4_entries := List.mem_of_getElem? (i := 2) rfl
theorem inX4_entries_X4 : ∀ w ∈ u_ws RX4 TX4 4, w ∈ wsX4_entries := mem_r _ [18, 19, 20, 21] rfl
theorem hvX4_entries : yX4_entries.cls = RX4 ∧ yX4_entries.cls ≠ "java/lang/invoke/MethodHandle" ∧ yX4_entries.cls ≠ "java/lang/invoke/VarHandle" ∧ (parseMethodDescriptor yX4_entries.desc).map (fun d => d.parameters.length) = some 0 := by decide +kernel
set_option maxHeartbeats 4000000 in
set_option maxRecDepth 100000 in
theorem kX4_entries (l : Launch) {D : va_G} {cA : Nat → ClassId} {τ : Nat → Nat} {G : Nat → Nat → Nat} {L : List Nat} (hS : SW τ G L) (σ : Nat → Nat → Int) {a0 : Nat} (h0 : τ a0 = 5) : Met l yX4_entries wsX4_entries ({ frames := 2, cells := 0, slots := 0, locals := 42 }) (jP D cA τ G L σ [.ref a0]) (jQR (fun r => True)) 0 0 (fun _ => False) := by
  refine j_metR (by decide +kernel) rfl (Nat.le_of_ble_eq_true rfl) ?_
  intro p e s m args below meth c Q hx hb hml hown hts hK hW hRet ls hl
  have hl : lv_has ls 3 [(0, .ref a0)] := hl
  refine j_const hx hb dX4_entries_0 ?_
  refine lv_istore_n (lv' := [(1, .int (jI 0)), (0, .ref a0)]) hx hb dX4_entries_1 rfl hl (by decide) rfl (fun ls hl => ?_)
  refine lv_aload_n hx hb dX4_entries_2 rfl (lv_at hl 1 rfl) ?_
  refine j_getI hx hb (C := RX4) (T := TX4) (N := 4) hts inX4_entries_X4 hown hK hS hW h0 rfl 1 rfl rfl (by decide) (hts _ flX4_entries_15) dX4_entries_3 ?_
  have := fbd hW h0 (k := 1) (lo := 0) (hi := 150) rfl rfl
  refine lv_istore_n (lv' := [(2, .int (jI (σ a0 1))), (1, .int (jI 0)), (0, .ref a0)]) hx hb dX4_entries_6 rfl hl (by decide) rfl (fun ls hl => ?_)
  have L_7 : ∀ (N : Nat) (v1_7 v2_7 : Int) (ls : Array Slot), N = (2147483647 - v2_7 : Int).toNat → (0 ≤ v2_7) → rg v1_7 → rg v2_7 → lv_has ls 3 [(0, .ref a0), (1, .int (jI v1_7)), (2, .int (jI v2_7))] → W p l e ({ frames := 2, cells := 0, slots := 0, locals := 42 }) s m args below meth c s.heap [] 0 0 Q (F0 m 7 ls []) := by
    intro N
    induction N using Nat.strongRecOn with
    | ind N ih_7 =>
      intro v1_7 v2_7 ls hN i0_7 rv1_7 rv2_7 hl
      refine lv_iload_n hx hb dX4_entries_7 rfl (lv_at hl 2 rfl) ?_
      refine lv_aload_n hx hb dX4_entries_8 rfl (lv_at hl 0 rfl) ?_
      refine j_getI hx hb (C := RX4) (T := TX4) (N := 4) hts inX4_entries_X4 hown hK hS hW h0 rfl 3 rfl rfl (by decide) (hts _ flX4_entries_22) dX4_entries_9 ?_
      have := fbd hW h0 (k := 3) (lo := 0) (hi := 151) rfl rfl
      refine j_icmp_ge (tgt := 37) hx hb (by omega) (by omega) dX4_entries_12 (by decide) (fun c_1 => ?_) (fun c_1 => ?_)
      · refine lv_iload_n hx hb dX4_entries_37 rfl (lv_at hl 1 rfl) ?_
        exact hRet 38 _ v1_7 dX4_entries_38 (by omega) trivial
      · refine lv_iload_n hx hb dX4_entries_15 rfl (lv_at hl 1 rfl) ?_
        refine lv_aload_n hx hb dX4_entries_16 rfl (lv_at hl 0 rfl) ?_
        refine lv_iload_n hx hb dX4_entries_17 rfl (lv_at hl 2 rfl) ?_
        refine j_cR (j_runV (As := [.int (jI v2_7)]) (rest := [.int (jI v1_7)]) hx hb hml hown hts hK hS hW (kX4_isEntryStart l hS σ (a0 := a0) (h0 := h0) (x1 := v2_7) (r1 := (by omega))) 1 gX4_entries_X4_isEntryStart rfl hvX4_isEntryStart ⟨Nat.le_of_ble_eq_true rfl, Nat.le_of_ble_eq_true rfl⟩ rfl rfl h0 rfl rfl rfl rfl hl.1 rfl (Nat.le_of_ble_eq_true rfl) dX4_entries_18 ⟨Nat.le_of_ble_eq_true rfl, Nat.le_of_ble_eq_true rfl⟩) (fun v_2 rv_2 pv_2 => ?_)
        try dsimp only at pv_2
        refine j_if_eq (tgt := 28) hx hb (by omega) dX4_entries_21 (by decide) (fun c_3 => ?_) (fun c_3 => ?_)
        · refine j_const hx hb dX4_entries_28 ?_
          refine j_add hx hb dX4_entries_29 ?_
          refine j_wrap (fun z_4 rz_4 ez_4 => ?_)
          refine lv_istore_n (lv' := [(1, .int (jI z_4)), (0, .ref a0), (2, .int (jI v2_7))]) hx hb dX4_entries_30 rfl hl (by decide) rfl (fun ls hl => ?_)
          refine j_iinc (lv' := [(2, .int (jI (v2_7 + 1))), (1, .int (jI z_4)), (0, .ref a0)]) hx hb dX4_entries_31 hl (k := 2) rfl (by decide) rfl (fun ls hl => ?_)
          refine lv_goto (tgt := 7) hx hb dX4_entries_34 (by decide) ?_
          exact ih_7 ((2147483647 - (v2_7 + 1) : Int).toNat) (by omega) z_4 (v2_7 + 1) _ rfl (by omega) (by omega) (by omega) (lv_sub hl [2, 1, 0] rfl)
        · refine j_const hx hb dX4_entries_24 ?_
          refine lv_goto (tgt := 29) hx hb dX4_entries_25 (by decide) ?_
          refine j_add hx hb dX4_entries_29 ?_
          refine j_wrap (fun z_5 rz_5 ez_5 => ?_)
          refine lv_istore_n (lv' := [(1, .int (jI z_5)), (0, .ref a0), (2, .int (jI v2_7))]) hx hb dX4_entries_30 rfl hl (by decide) rfl (fun ls hl => ?_)
          refine j_iinc (lv' := [(2, .int (jI (v2_7 + 1))), (1, .int (jI z_5)), (0, .ref a0)]) hx hb dX4_entries_31 hl (k := 2) rfl (by decide) rfl (fun ls hl => ?_)
          refine lv_goto (tgt := 7) hx hb dX4_entries_34 (by decide) ?_
          exact ih_7 ((2147483647 - (v2_7 + 1) : Int).toNat) (by omega) z_5 (v2_7 + 1) _ rfl (by omega) (by omega) (by omega) (lv_sub hl [2, 1, 0] rfl)
  exact L_7 ((2147483647 - (σ a0 1) : Int).toNat) 0 (σ a0 1) _ rfl (by omega) (by decide) (by omega) (lv_sub hl [2, 1, 0] rfl)
theorem flX4_pageOf_15 : Cond.fieldLink RX4 15 "PageTrie$LayerView" "start" "I" ∈ wsX4_pageOf := List.mem_of_getElem? (i := 1) rfl
theorem inX4_pageOf_X4 : ∀ w ∈ u_ws RX4 TX4 4, w ∈ wsX4_pageOf := mem_r _ [22, 23, 24, 25] rfl
theorem hvX4_pageOf : yX4_pageOf.cls = RX4 ∧ yX4_pageOf.cls ≠ "java/lang/invoke/MethodHandle" ∧ yX4_pageOf.cls ≠ "java/lang/invoke/VarHandle" ∧ (parseMethodDescriptor yX4_pageOf.desc).map (fun d => d.parameters.length) = some 1 := by decide +kernel
set_option maxHeartbeats 4000000 in
set_option maxRecDepth 100000 in
theorem kX4_pageOf (l : Launch) {D : va_G} {cA : Nat → ClassId} {τ : Nat → Nat} {G : Nat → Nat → Nat} {L : List Nat} (hS : SW τ G L) (σ : Nat → Nat → Int) {a0 : Nat} (h0 : τ a0 = 5) {x1 : Int} (r1 : rg x1) (q0 : x1 ≤ 1000) : Met l yX4_pageOf wsX4_pageOf ({ frames := 2, cells := 0, slots := 0, locals := 42 }) (jP D cA τ G L σ [.ref a0, .int (jI x1)]) (jQR (fun r => True)) 0 0 (fun _ => False) := by
  refine j_metR (by decide +kernel) rfl (Nat.le_of_ble_eq_true rfl) ?_
  intro p e s m args below meth c Q hx hb hml hown hts hK hW hRet ls hl
  have hl : lv_has ls 4 [(0, .ref a0), (1, .int (jI x1))] := hl
  refine j_const hx hb dX4_pageOf_0 ?_
  refine lv_istore_n (lv' := [(2, .int (jI (-1))), (0, .ref a0), (1, .int (jI x1))]) hx hb dX4_pageOf_1 rfl hl (by decide) rfl (fun ls hl => ?_)
  refine lv_aload_n hx hb dX4_pageOf_2 rfl (lv_at hl 1 rfl) ?_
  refine j_getI hx hb (C := RX4) (T := TX4) (N := 4) hts inX4_pageOf_X4 hown hK hS hW h0 rfl 1 rfl rfl (by decide) (hts _ flX4_pageOf_15) dX4_pageOf_3 ?_
  have := fbd hW h0 (k := 1) (lo := 0) (hi := 150) rfl rfl
  refine lv_istore_n (lv' := [(3, .int (jI (σ a0 1))), (2, .int (jI (-1))), (0, .ref a0), (1, .int (jI x1))]) hx hb dX4_pageOf_6 rfl hl (by decide) rfl (fun ls hl => ?_)
  have L_7 : ∀ (N : Nat) (v2_7 v3_7 : Int) (ls : Array Slot), N = (2147483647 - v3_7 : Int).toNat → (0 ≤ v3_7) → rg v2_7 → rg v3_7 → lv_has ls 4 [(0, .ref a0), (1, .int (jI x1)), (2, .int (jI v2_7)), (3, .int (jI v3_7))] → W p l e ({ frames := 2, cells := 0, slots := 0, locals := 42 }) s m args below meth c s.heap [] 0 0 Q (F0 m 7 ls []) := by
    intro N
    induction N using Nat.strongRecOn with
    | ind N ih_7 =>
      intro v2_7 v3_7 ls hN i0_7 rv2_7 rv3_7 hl
      refine lv_iload_n hx hb dX4_pageOf_7 rfl (lv_at hl 3 rfl) ?_
      refine lv_iload_n hx hb dX4_pageOf_8 rfl (lv_at hl 1 rfl) ?_
      refine j_icmp_gt (tgt := 34) hx hb (by omega) (by omega) dX4_pageOf_9 (by decide) (fun c_1 => ?_) (fun c_1 => ?_)
      · refine lv_iload_n hx hb dX4_pageOf_34 rfl (lv_at hl 2 rfl) ?_
        exact hRet 35 _ v2_7 dX4_pageOf_35 (by omega) trivial
      · refine lv_iload_n hx hb dX4_pageOf_12 rfl (lv_at hl 2 rfl) ?_
        refine lv_aload_n hx hb dX4_pageOf_13 rfl (lv_at hl 0 rfl) ?_
        refine lv_iload_n hx hb dX4_pageOf_14 rfl (lv_at hl 3 rfl) ?_
        refine j_cR (j_runV (As := [.int (jI v3_7)]) (rest := [.int (jI v2_7)]) hx hb hml hown hts hK hS hW (kX4_isPageStart l hS σ (a0 := a0) (h0 := h0) (x1 := v3_7) (r1 := (by omega))) 1 gX4_pageOf_X4_isPageStart rfl hvX4_isPageStart ⟨Nat.le_of_ble_eq_true rfl, Nat.le_of_ble_eq_true rfl⟩ rfl rfl h0 rfl rfl rfl rfl hl.1 rfl (Nat.le_of_ble_eq_true rfl) dX4_pageOf_15 ⟨Nat.le_of_ble_eq_true rfl, Nat.le_of_ble_eq_true rfl⟩) (fun v_2 rv_2 pv_2 => ?_)
        try dsimp only at pv_2
        refine j_if_eq (tgt := 25) hx hb (by omega) dX4_pageOf_18 (by decide) (fun c_3 => ?_) (fun c_3 => ?_)
        · refine j_const hx hb dX4_pageOf_25 ?_
          refine j_add hx hb dX4_pageOf_26 ?_
          refine j_wrap (fun z_4 rz_4 ez_4 => ?_)
          refine lv_istore_n (lv' := [(2, .int (jI z_4)), (0, .ref a0), (1, .int (jI x1)), (3, .int (jI v3_7))]) hx hb dX4_pageOf_27 rfl hl (by decide) rfl (fun ls hl => ?_)
          refine j_iinc (lv' := [(3, .int (jI (v3_7 + 1))), (2, .int (jI z_4)), (0, .ref a0), (1, .int (jI x1))]) hx hb dX4_pageOf_28 hl (k := 3) rfl (by decide) rfl (fun ls hl => ?_)
          refine lv_goto (tgt := 7) hx hb dX4_pageOf_31 (by decide) ?_
          exact ih_7 ((2147483647 - (v3_7 + 1) : Int).toNat) (by omega) z_4 (v3_7 + 1) _ rfl (by omega) (by omega) (by omega) (lv_sub hl [2, 3, 1, 0] rfl)
        · refine j_const hx hb dX4_pageOf_21 ?_
          refine lv_goto (tgt := 26) hx hb dX4_pageOf_22 (by decide) ?_
          refine j_add hx hb dX4_pageOf_26 ?_
          refine j_wrap (fun z_5 rz_5 ez_5 => ?_)
          refine lv_istore_n (lv' := [(2, .int (jI z_5)), (0, .ref a0), (1, .int (jI x1)), (3, .int (jI v3_7))]) hx hb dX4_pageOf_27 rfl hl (by decide) rfl (fun ls hl => ?_)
          refine j_iinc (lv' := [(3, .int (jI (v3_7 + 1))), (2, .int (jI z_5)), (0, .ref a0), (1, .int (jI x1))]) hx hb dX4_pageOf_28 hl (k := 3) rfl (by decide) rfl (fun ls hl => ?_)
          refine lv_goto (tgt := 7) hx hb dX4_pageOf_31 (by decide) ?_
          exact ih_7 ((2147483647 - (v3_7 + 1) : Int).toNat) (by omega) z_5 (v3_7 + 1) _ rfl (by omega) (by omega) (by omega) (lv_sub hl [2, 3, 1, 0] rfl)
  exact L_7 ((2147483647 - (σ a0 1) : Int).toNat) (-1) (σ a0 1) _ rfl (by omega) (by decide) (by omega) (lv_sub hl [2, 3, 1, 0] rfl)
theorem flX4_pages_15 : Cond.fieldLink RX4 15 "PageTrie$LayerView" "start" "I" ∈ wsX4_pages := List.mem_of_getElem? (i := 2) rfl
theorem flX4_pages_22 : Cond.fieldLink RX4 22 "PageTrie$LayerView" "end" "I" ∈ wsX4_pages := List.mem_of_getElem? (i := 1) rfl
theorem inX4_pages_X4 : ∀ w ∈ u_ws RX4 TX4 4, w ∈ wsX4_pages := mem_r _ [27, 28, 29, 30] rfl
theorem hvX4_pages : yX4_pages.cls = RX4 ∧ yX4_pages.cls ≠ "java/lang/invoke/MethodHandle" ∧ yX4_pages.cls ≠ "java/lang/invoke/VarHandle" ∧ (parseMethodDescriptor yX4_pages.desc).map (fun d => d.parameters.length) = some 0 := by decide +kernel
set_option maxHeartbeats 4000000 in
set_option maxRecDepth 100000 in
theorem kX4_pages (l : Launch) {D : va_G} {cA : Nat → ClassId} {τ : Nat → Nat} {G : Nat → Nat → Nat} {L : List Nat} (hS : SW τ G L) (σ : Nat → Nat → Int) {a0 : Nat} (h0 : τ a0 = 5) : Met l yX4_pages wsX4_pages ({ frames := 3, cells := 0, slots := 0, locals := 65 }) (jP D cA τ G L σ [.ref a0]) (jQR (fun r => True)) 0 0 (fun _ => False) := by
  refine j_metR (by decide +kernel) rfl (Nat.le_of_ble_eq_true rfl) ?_
  intro p e s m args below meth c Q hx hb hml hown hts hK hW hRet ls hl
  have hl : lv_has ls 1 [(0, .ref a0)] := hl
  refine lv_aload_n hx hb dX4_pages_0 rfl (lv_at hl 0 rfl) ?_
  refine j_getI hx hb (C := RX4) (T := TX4) (N := 4) hts inX4_pages_X4 hown hK hS hW h0 rfl 3 rfl rfl (by decide) (hts _ flX4_pages_22) dX4_pages_1 ?_
  have := fbd hW h0 (k := 3) (lo := 0) (hi := 151) rfl rfl
  refine lv_aload_n hx hb dX4_pages_4 rfl (lv_at hl 0 rfl) ?_
  refine j_getI hx hb (C := RX4) (T := TX4) (N := 4) hts inX4_pages_X4 hown hK hS hW h0 rfl 1 rfl rfl (by decide) (hts _ flX4_pages_15) dX4_pages_5 ?_
  have := fbd hW h0 (k := 1) (lo := 0) (hi := 150) rfl rfl
  refine j_icmp_le (tgt := 26) hx hb (by omega) (by omega) dX4_pages_8 (by decide) (fun c_1 => ?_) (fun c_1 => ?_)
  · refine j_const hx hb dX4_pages_26 ?_
    exact hRet 27 _ 0 dX4_pages_27 (by decide) trivial
  · refine lv_aload_n hx hb dX4_pages_11 rfl (lv_at hl 0 rfl) ?_
    refine lv_aload_n hx hb dX4_pages_12 rfl (lv_at hl 0 rfl) ?_
    refine j_getI hx hb (C := RX4) (T := TX4) (N := 4) hts inX4_pages_X4 hown hK hS hW h0 rfl 3 rfl rfl (by decide) (hts _ flX4_pages_22) dX4_pages_13 ?_
    refine j_const hx hb dX4_pages_16 ?_
    refine j_sub hx hb dX4_pages_17 ?_
    refine j_cR (j_runV (As := [.int (jI ((σ a0 3) - 1))]) (rest := []) hx hb hml hown hts hK hS hW (kX4_pageOf l hS σ (a0 := a0) (h0 := h0) (x1 := (σ a0 3) - 1) (r1 := (by omega)) (q0 := (by omega))) 1 gX4_pages_X4_pageOf rfl hvX4_pageOf ⟨Nat.le_of_ble_eq_true rfl, Nat.le_of_ble_eq_true rfl⟩ rfl rfl h0 rfl rfl rfl rfl hl.1 rfl (Nat.le_of_ble_eq_true rfl) dX4_pages_18 ⟨Nat.le_of_ble_eq_true rfl, Nat.le_of_ble_eq_true rfl⟩) (fun v_2 rv_2 pv_2 => ?_)
    try dsimp only at pv_2
    refine j_const hx hb dX4_pages_21 ?_
    refine j_add hx hb dX4_pages_22 ?_
    refine j_wrap (fun z_3 rz_3 ez_3 => ?_)
    refine lv_goto (tgt := 27) hx hb dX4_pages_23 (by decide) ?_
    exact hRet 27 _ z_3 dX4_pages_27 (by omega) trivial
theorem flX4_entriesOfPage_9 : Cond.fieldLink RX4 9 "PageTrie$LayerView" "trie" "LPageTrie$Trie;" ∈ wsX4_entriesOfPage := List.mem_of_getElem? (i := 3) rfl
theorem flX4_entriesOfPage_15 : Cond.fieldLink RX4 15 "PageTrie$LayerView" "start" "I" ∈ wsX4_entriesOfPage := List.mem_of_getElem? (i := 1) rfl
theorem flX4_entriesOfPage_19 : Cond.fieldLink RX4 19 "PageTrie$LayerView" "depth" "I" ∈ wsX4_entriesOfPage := List.mem_of_getElem? (i := 4) rfl
theorem flX4_entriesOfPage_22 : Cond.fieldLink RX4 22 "PageTrie$LayerView" "end" "I" ∈ wsX4_entriesOfPage := List.mem_of_getElem? (i := 2) rfl
theorem inX4_entriesOfPage_X4 : ∀ w ∈ u_ws RX4 TX4 4, w ∈ wsX4_entriesOfPage := mem_r _ [32, 33, 34, 35] rfl
theorem hvX4_entriesOfPage : yX4_entriesOfPage.cls = RX4 ∧ yX4_entriesOfPage.cls ≠ "java/lang/invoke/MethodHandle" ∧ yX4_entriesOfPage.cls ≠ "java/lang/invoke/VarHandle" ∧ (parseMethodDescriptor yX4_entriesOfPage.desc).map (fun d => d.parameters.length) = some 1 := by decide +kernel
set_option maxHeartbeats 4000000 in
set_option maxRecDepth 100000 in
theorem kX4_entriesOfPage (l : Launch) {D : va_G} {cA : Nat → ClassId} {τ : Nat → Nat} {G : Nat → Nat → Nat} {L : List Nat} (hS : SW τ G L) (σ : Nat → Nat → Int) {a0 : Nat} (h0 : τ a0 = 5) {x1 : Int} (r1 : rg x1) : Met l yX4_entriesOfPage wsX4_entriesOfPage ({ frames := 2, cells := 0, slots := 0, locals := 46 }) (jP D cA τ G L σ [.ref a0, .int (jI x1)]) (jQR (fun r => True)) 0 0 (fun _ => False) := by
  refine j_metR (by decide +kernel) rfl (Nat.le_of_ble_eq_true rfl) ?_
  intro p e s m args below meth c Q hx hb hml hown hts hK hW hRet ls hl
  have hl : lv_has ls 4 [(0, .ref a0), (1, .int (jI x1))] := hl
  refine lv_iload_n hx hb dX4_entriesOfPage_0 rfl (lv_at hl 1 rfl) ?_
  refine lv_istore_n (lv' := [(2, .int (jI x1)), (0, .ref a0), (1, .int (jI x1))]) hx hb dX4_entriesOfPage_1 rfl hl (by decide) rfl (fun ls hl => ?_)
  refine lv_aload_n hx hb dX4_entriesOfPage_2 rfl (lv_at hl 1 rfl) ?_
  refine j_getI hx hb (C := RX4) (T := TX4) (N := 4) hts inX4_entriesOfPage_X4 hown hK hS hW h0 rfl 1 rfl rfl (by decide) (hts _ flX4_entriesOfPage_15) dX4_entriesOfPage_3 ?_
  have := fbd hW h0 (k := 1) (lo := 0) (hi := 150) rfl rfl
  refine lv_istore_n (lv' := [(3, .int (jI (σ a0 1))), (2, .int (jI x1)), (0, .ref a0), (1, .int (jI x1))]) hx hb dX4_entriesOfPage_6 rfl hl (by decide) rfl (fun ls hl => ?_)
  have L_7 : ∀ (N : Nat) (v2_7 v3_7 : Int) (ls : Array Slot), N = (2147483647 - v3_7 : Int).toNat → (0 ≤ v3_7) → rg v2_7 → rg v3_7 → lv_has ls 4 [(0, .ref a0), (2, .int (jI v2_7)), (3, .int (jI v3_7))] → W p l e ({ frames := 2, cells := 0, slots := 0, locals := 46 }) s m args below meth c s.heap [] 0 0 Q (F0 m 7 ls []) := by
    intro N
    induction N using Nat.strongRecOn with
    | ind N ih_7 =>
      intro v2_7 v3_7 ls hN i0_7 rv2_7 rv3_7 hl
      refine lv_iload_n hx hb dX4_entriesOfPage_7 rfl (lv_at hl 2 rfl) ?_
      refine lv_aload_n hx hb dX4_entriesOfPage_8 rfl (lv_at hl 0 rfl) ?_
      refine j_getI hx hb (C := RX4) (T := TX4) (N := 4) hts inX4_entriesOfPage_X4 hown hK hS hW h0 rfl 3 rfl rfl (by decide) (hts _ flX4_entriesOfPage_22) dX4_entriesOfPage_9 ?_
      have := fbd hW h0 (k := 3) (lo := 0) (hi := 151) rfl rfl
      refine j_icmp_ge (tgt := 49) hx hb (by omega) (by omega) dX4_entriesOfPage_12 (by decide) (fun c_1 => ?_) (fun c_1 => ?_)
      · refine j_bi hx hb dX4_entriesOfPage_49 (by decide) ?_
        exact hRet 51 _ (-4) dX4_entriesOfPage_51 (by decide) trivial
      · refine lv_aload_n hx hb dX4_entriesOfPage_15 rfl (lv_at hl 0 rfl) ?_
        refine lv_iload_n hx hb dX4_entriesOfPage_16 rfl (lv_at hl 2 rfl) ?_
        refine j_cR (j_runV (As := [.int (jI v3_7)]) (rest := []) hx hb hml hown hts hK hS hW (kX4_isPageStart l hS σ (a0 := a0) (h0 := h0) (x1 := v3_7) (r1 := (by omega))) 1 gX4_entriesOfPage_X4_isPageStart rfl hvX4_isPageStart ⟨Nat.le_of_ble_eq_true rfl, Nat.le_of_ble_eq_true rfl⟩ rfl rfl h0 rfl rfl rfl rfl hl.1 rfl (Nat.le_of_ble_eq_true rfl) dX4_entriesOfPage_17 ⟨Nat.le_of_ble_eq_true rfl, Nat.le_of_ble_eq_true rfl⟩) (fun v_2 rv_2 pv_2 => ?_)
        try dsimp only at pv_2
        refine j_if_eq (tgt := 43) hx hb (by omega) dX4_entriesOfPage_20 (by decide) (fun c_3 => ?_) (fun c_3 => ?_)
        · refine j_iinc (lv' := [(3, .int (jI (v3_7 + 1))), (0, .ref a0), (2, .int (jI v2_7))]) hx hb dX4_entriesOfPage_43 hl (k := 2) rfl (by decide) rfl (fun ls hl => ?_)
          refine lv_goto (tgt := 7) hx hb dX4_entriesOfPage_46 (by decide) ?_
          exact ih_7 ((2147483647 - (v3_7 + 1) : Int).toNat) (by omega) v2_7 (v3_7 + 1) _ rfl (by omega) (by omega) (by omega) (lv_sub hl [1, 2, 0] rfl)
        · refine lv_iload_n hx hb dX4_entriesOfPage_23 rfl (lv_at hl 1 rfl) ?_
          refine j_if_ne (tgt := 40) hx hb (by omega) dX4_entriesOfPage_24 (by decide) (fun c_4 => ?_) (fun c_4 => ?_)
          · refine j_iincW hx hb dX4_entriesOfPage_40 hl (k := 1) rfl (by decide) (fun z_5 ls rz_5 ez_5 hl => ?_)
            have hl : lv_has ls 4 [(2, .int (jI z_5)), (0, .ref a0), (3, .int (jI v3_7))] := hl
            refine j_iinc (lv' := [(3, .int (jI (v3_7 + 1))), (2, .int (jI z_5)), (0, .ref a0)]) hx hb dX4_entriesOfPage_43 hl (k := 2) rfl (by decide) rfl (fun ls hl => ?_)
            refine lv_goto (tgt := 7) hx hb dX4_entriesOfPage_46 (by decide) ?_
            exact ih_7 ((2147483647 - (v3_7 + 1) : Int).toNat) (by omega) z_5 (v3_7 + 1) _ rfl (by omega) (by omega) (by omega) (lv_sub hl [2, 1, 0] rfl)
          · refine lv_aload_n hx hb dX4_entriesOfPage_27 rfl (lv_at hl 0 rfl) ?_
            refine j_getR hx hb (C := RX4) (T := TX4) (N := 4) hts inX4_entriesOfPage_X4 hown hK hS hW h0 rfl 0 rfl rfl (by decide) (hts _ flX4_entriesOfPage_9) dX4_entriesOfPage_28 ?_
            have h_6 : τ (G a0 0) = 11 := gty hS h0 (k := 0) rfl rfl
            refine lv_iload_n hx hb dX4_entriesOfPage_31 rfl (lv_at hl 2 rfl) ?_
            refine lv_aload_n hx hb dX4_entriesOfPage_32 rfl (lv_at hl 0 rfl) ?_
            refine j_getI hx hb (C := RX4) (T := TX4) (N := 4) hts inX4_entriesOfPage_X4 hown hK hS hW h0 rfl 2 rfl rfl (by decide) (hts _ flX4_entriesOfPage_19) dX4_entriesOfPage_33 ?_
            have := fbd hW h0 (k := 2) (lo := -2147483648) (hi := 2147483647) rfl rfl
            refine j_cR (j_runV (As := [.int (jI v3_7), .int (jI (σ a0 2))]) (rest := []) hx hb hml hown hts hK hS hW (kX10_entriesFrom l hS σ (a0 := G a0 0) (h0 := h_6) (x1 := v3_7) (r1 := (by omega)) (x2 := σ a0 2) (r2 := (by omega))) 2 gX4_entriesOfPage_X10_entriesFrom rfl hvX10_entriesFrom ⟨Nat.le_of_ble_eq_true rfl, Nat.le_of_ble_eq_true rfl⟩ rfl rfl h_6 rfl rfl rfl rfl hl.1 rfl (Nat.le_of_ble_eq_true rfl) dX4_entriesOfPage_36 ⟨Nat.le_of_ble_eq_true rfl, Nat.le_of_ble_eq_true rfl⟩) (fun v_7 rv_7 pv_7 => ?_)
            try dsimp only at pv_7
            exact hRet 39 _ v_7 dX4_entriesOfPage_39 (by omega) trivial
  exact L_7 ((2147483647 - (σ a0 1) : Int).toNat) x1 (σ a0 1) _ rfl (by omega) (by omega) (by omega) (lv_sub hl [2, 1, 0] rfl)
theorem flX4_entryAt_15 : Cond.fieldLink RX4 15 "PageTrie$LayerView" "start" "I" ∈ wsX4_entryAt := List.mem_of_getElem? (i := 1) rfl
theorem flX4_entryAt_22 : Cond.fieldLink RX4 22 "PageTrie$LayerView" "end" "I" ∈ wsX4_entryAt := List.mem_of_getElem? (i := 2) rfl
theorem inX4_entryAt_X4 : ∀ w ∈ u_ws RX4 TX4 4, w ∈ wsX4_entryAt := mem_r _ [18, 19, 20, 21] rfl
theorem hvX4_entryAt : yX4_entryAt.cls = RX4 ∧ yX4_entryAt.cls ≠ "java/lang/invoke/MethodHandle" ∧ yX4_entryAt.cls ≠ "java/lang/invoke/VarHandle" ∧ (parseMethodDescriptor yX4_entryAt.desc).map (fun d => d.parameters.length) = some 1 := by decide +kernel
set_option maxHeartbeats 4000000 in
set_option maxRecDepth 100000 in
theorem kX4_entryAt (l : Launch) {D : va_G} {cA : Nat → ClassId} {τ : Nat → Nat} {G : Nat → Nat → Nat} {L : List Nat} (hS : SW τ G L) (σ : Nat → Nat → Int) {a0 : Nat} (h0 : τ a0 = 5) {x1 : Int} (r1 : rg x1) : Met l yX4_entryAt wsX4_entryAt ({ frames := 2, cells := 0, slots := 0, locals := 42 }) (jP D cA τ G L σ [.ref a0, .int (jI x1)]) (jQR (fun r => (-1 ≤ r) ∧ (r ≤ 151))) 0 0 (fun _ => False) := by
  refine j_metR (by decide +kernel) rfl (Nat.le_of_ble_eq_true rfl) ?_
  intro p e s m args below meth c Q hx hb hml hown hts hK hW hRet ls hl
  have hl : lv_has ls 4 [(0, .ref a0), (1, .int (jI x1))] := hl
  refine lv_iload_n hx hb dX4_entryAt_0 rfl (lv_at hl 1 rfl) ?_
  refine lv_istore_n (lv' := [(2, .int (jI x1)), (0, .ref a0), (1, .int (jI x1))]) hx hb dX4_entryAt_1 rfl hl (by decide) rfl (fun ls hl => ?_)
  refine lv_aload_n hx hb dX4_entryAt_2 rfl (lv_at hl 1 rfl) ?_
  refine j_getI hx hb (C := RX4) (T := TX4) (N := 4) hts inX4_entryAt_X4 hown hK hS hW h0 rfl 1 rfl rfl (by decide) (hts _ flX4_entryAt_15) dX4_entryAt_3 ?_
  have := fbd hW h0 (k := 1) (lo := 0) (hi := 150) rfl rfl
  refine lv_istore_n (lv' := [(3, .int (jI (σ a0 1))), (2, .int (jI x1)), (0, .ref a0), (1, .int (jI x1))]) hx hb dX4_entryAt_6 rfl hl (by decide) rfl (fun ls hl => ?_)
  have L_7 : ∀ (N : Nat) (v2_7 v3_7 : Int) (ls : Array Slot), N = (2147483647 - v3_7 : Int).toNat → (0 ≤ v3_7) → rg v2_7 → rg v3_7 → lv_has ls 4 [(0, .ref a0), (2, .int (jI v2_7)), (3, .int (jI v3_7))] → W p l e ({ frames := 2, cells := 0, slots := 0, locals := 42 }) s m args below meth c s.heap [] 0 0 Q (F0 m 7 ls []) := by
    intro N
    induction N using Nat.strongRecOn with
    | ind N ih_7 =>
      intro v2_7 v3_7 ls hN i0_7 rv2_7 rv3_7 hl
      refine lv_iload_n hx hb dX4_entryAt_7 rfl (lv_at hl 2 rfl) ?_
      refine lv_aload_n hx hb dX4_entryAt_8 rfl (lv_at hl 0 rfl) ?_
      refine j_getI hx hb (C := RX4) (T := TX4) (N := 4) hts inX4_entryAt_X4 hown hK hS hW h0 rfl 3 rfl rfl (by decide) (hts _ flX4_entryAt_22) dX4_entryAt_9 ?_
      have := fbd hW h0 (k := 3) (lo := 0) (hi := 151) rfl rfl
      refine j_icmp_ge (tgt := 38) hx hb (by omega) (by omega) dX4_entryAt_12 (by decide) (fun c_1 => ?_) (fun c_1 => ?_)
      · refine j_const hx hb dX4_entryAt_38 ?_
        exact hRet 39 _ (-1) dX4_entryAt_39 (by decide) ⟨by omega, by omega⟩
      · refine lv_aload_n hx hb dX4_entryAt_15 rfl (lv_at hl 0 rfl) ?_
        refine lv_iload_n hx hb dX4_entryAt_16 rfl (lv_at hl 2 rfl) ?_
        refine j_cR (j_runV (As := [.int (jI v3_7)]) (rest := []) hx hb hml hown hts hK hS hW (kX4_isEntryStart l hS σ (a0 := a0) (h0 := h0) (x1 := v3_7) (r1 := (by omega))) 1 gX4_entryAt_X4_isEntryStart rfl hvX4_isEntryStart ⟨Nat.le_of_ble_eq_true rfl, Nat.le_of_ble_eq_true rfl⟩ rfl rfl h0 rfl rfl rfl rfl hl.1 rfl (Nat.le_of_ble_eq_true rfl) dX4_entryAt_17 ⟨Nat.le_of_ble_eq_true rfl, Nat.le_of_ble_eq_true rfl⟩) (fun v_2 rv_2 pv_2 => ?_)
        try dsimp only at pv_2
        refine j_if_eq (tgt := 32) hx hb (by omega) dX4_entryAt_20 (by decide) (fun c_3 => ?_) (fun c_3 => ?_)
        · refine j_iinc (lv' := [(3, .int (jI (v3_7 + 1))), (0, .ref a0), (2, .int (jI v2_7))]) hx hb dX4_entryAt_32 hl (k := 2) rfl (by decide) rfl (fun ls hl => ?_)
          refine lv_goto (tgt := 7) hx hb dX4_entryAt_35 (by decide) ?_
          exact ih_7 ((2147483647 - (v3_7 + 1) : Int).toNat) (by omega) v2_7 (v3_7 + 1) _ rfl (by omega) (by omega) (by omega) (lv_sub hl [1, 2, 0] rfl)
        · refine lv_iload_n hx hb dX4_entryAt_23 rfl (lv_at hl 1 rfl) ?_
          refine j_if_ne (tgt := 29) hx hb (by omega) dX4_entryAt_24 (by decide) (fun c_4 => ?_) (fun c_4 => ?_)
          · refine j_iincW hx hb dX4_entryAt_29 hl (k := 1) rfl (by decide) (fun z_5 ls rz_5 ez_5 hl => ?_)
            have hl : lv_has ls 4 [(2, .int (jI z_5)), (0, .ref a0), (3, .int (jI v3_7))] := hl
            refine j_iinc (lv' := [(3, .int (jI (v3_7 + 1))), (2, .int (jI z_5)), (0, .ref a0)]) hx hb dX4_entryAt_32 hl (k := 2) rfl (by decide) rfl (fun ls hl => ?_)
            refine lv_goto (tgt := 7) hx hb dX4_entryAt_35 (by decide) ?_
            exact ih_7 ((2147483647 - (v3_7 + 1) : Int).toNat) (by omega) z_5 (v3_7 + 1) _ rfl (by omega) (by omega) (by omega) (lv_sub hl [2, 1, 0] rfl)
          · refine lv_iload_n hx hb dX4_entryAt_27 rfl (lv_at hl 2 rfl) ?_
            exact hRet 28 _ v3_7 dX4_entryAt_28 (by omega) ⟨by omega, by omega⟩
  exact L_7 ((2147483647 - (σ a0 1) : Int).toNat) x1 (σ a0 1) _ rfl (by omega) (by omega) (by omega) (lv_sub hl [2, 1, 0] rfl)
theorem flX4_kindOf_9 : Cond.fieldLink RX4 9 "PageTrie$LayerView" "trie" "LPageTrie$Trie;" ∈ wsX4_kindOf := List.mem_of_getElem? (i := 1) rfl
theorem flX4_kindOf_19 : Cond.fieldLink RX4 19 "PageTrie$LayerView" "depth" "I" ∈ wsX4_kindOf := List.mem_of_getElem? (i := 2) rfl
theorem inX4_kindOf_X4 : ∀ w ∈ u_ws RX4 TX4 4, w ∈ wsX4_kindOf := mem_r _ [32, 33, 34, 35] rfl
theorem hvX4_kindOf : yX4_kindOf.cls = RX4 ∧ yX4_kindOf.cls ≠ "java/lang/invoke/MethodHandle" ∧ yX4_kindOf.cls ≠ "java/lang/invoke/VarHandle" ∧ (parseMethodDescriptor yX4_kindOf.desc).map (fun d => d.parameters.length) = some 1 := by decide +kernel
set_option maxHeartbeats 4000000 in
set_option maxRecDepth 100000 in
theorem kX4_kindOf (l : Launch) {D : va_G} {cA : Nat → ClassId} {τ : Nat → Nat} {G : Nat → Nat → Nat} {L : List Nat} (hS : SW τ G L) (σ : Nat → Nat → Int) {a0 : Nat} (h0 : τ a0 = 5) {x1 : Int} (r1 : rg x1) : Met l yX4_kindOf wsX4_kindOf ({ frames := 3, cells := 0, slots := 0, locals := 66 }) (jP D cA τ G L σ [.ref a0, .int (jI x1)]) (jQR (fun r => True)) 0 0 (fun _ => False) := by
  refine j_metR (by decide +kernel) rfl (Nat.le_of_ble_eq_true rfl) ?_
  intro p e s m args below meth c Q hx hb hml hown hts hK hW hRet ls hl
  have hl : lv_has ls 2 [(0, .ref a0), (1, .int (jI x1))] := hl
  refine lv_aload_n hx hb dX4_kindOf_0 rfl (lv_at hl 0 rfl) ?_
  refine j_getR hx hb (C := RX4) (T := TX4) (N := 4) hts inX4_kindOf_X4 hown hK hS hW h0 rfl 0 rfl rfl (by decide) (hts _ flX4_kindOf_9) dX4_kindOf_1 ?_
  have h_1 : τ (G a0 0) = 11 := gty hS h0 (k := 0) rfl rfl
  refine lv_iload_n hx hb dX4_kindOf_4 rfl (lv_at hl 1 rfl) ?_
  refine j_cR (j_runV (As := [.int (jI x1)]) (rest := []) hx hb hml hown hts hK hS hW (kX10_depthOf l hS σ (a0 := G a0 0) (h0 := h_1) (x1 := x1) (r1 := (by omega))) 1 gX4_kindOf_X10_depthOf rfl hvX10_depthOf ⟨Nat.le_of_ble_eq_true rfl, Nat.le_of_ble_eq_true rfl⟩ rfl rfl h_1 rfl rfl rfl rfl hl.1 rfl (Nat.le_of_ble_eq_true rfl) dX4_kindOf_5 ⟨Nat.le_of_ble_eq_true rfl, Nat.le_of_ble_eq_true rfl⟩) (fun v_2 rv_2 pv_2 => ?_)
  try dsimp only at pv_2
  refine lv_aload_n hx hb dX4_kindOf_8 rfl (lv_at hl 0 rfl) ?_
  refine j_getI hx hb (C := RX4) (T := TX4) (N := 4) hts inX4_kindOf_X4 hown hK hS hW h0 rfl 2 rfl rfl (by decide) (hts _ flX4_kindOf_19) dX4_kindOf_9 ?_
  have := fbd hW h0 (k := 2) (lo := -2147483648) (hi := 2147483647) rfl rfl
  refine j_icmp_le (tgt := 17) hx hb (by omega) (by omega) dX4_kindOf_12 (by decide) (fun c_3 => ?_) (fun c_3 => ?_)
  · refine lv_aload_n hx hb dX4_kindOf_17 rfl (lv_at hl 0 rfl) ?_
    refine j_getR hx hb (C := RX4) (T := TX4) (N := 4) hts inX4_kindOf_X4 hown hK hS hW h0 rfl 0 rfl rfl (by decide) (hts _ flX4_kindOf_9) dX4_kindOf_18 ?_
    refine lv_iload_n hx hb dX4_kindOf_21 rfl (lv_at hl 1 rfl) ?_
    refine j_cR (j_runV (As := [.int (jI x1)]) (rest := []) hx hb hml hown hts hK hS hW (kX10_isEnd l hS σ (a0 := G a0 0) (h0 := h_1) (x1 := x1) (r1 := (by omega))) 1 gX4_kindOf_X10_isEnd rfl hvX10_isEnd ⟨Nat.le_of_ble_eq_true rfl, Nat.le_of_ble_eq_true rfl⟩ rfl rfl h_1 rfl rfl rfl rfl hl.1 rfl (Nat.le_of_ble_eq_true rfl) dX4_kindOf_22 ⟨Nat.le_of_ble_eq_true rfl, Nat.le_of_ble_eq_true rfl⟩) (fun v_4 rv_4 pv_4 => ?_)
    try dsimp only at pv_4
    refine j_if_eq (tgt := 32) hx hb (by omega) dX4_kindOf_25 (by decide) (fun c_5 => ?_) (fun c_5 => ?_)
    · refine j_const hx hb dX4_kindOf_32 ?_
      exact hRet 33 _ 1 dX4_kindOf_33 (by decide) trivial
    · refine j_const hx hb dX4_kindOf_28 ?_
      refine lv_goto (tgt := 33) hx hb dX4_kindOf_29 (by decide) ?_
      exact hRet 33 _ 0 dX4_kindOf_33 (by decide) trivial
  · refine j_const hx hb dX4_kindOf_15 ?_
    exact hRet 16 _ 2 dX4_kindOf_16 (by decide) trivial
theorem flX4_partBytes_9 : Cond.fieldLink RX4 9 "PageTrie$LayerView" "trie" "LPageTrie$Trie;" ∈ wsX4_partBytes := List.mem_of_getElem? (i := 1) rfl
theorem flX4_partBytes_25 : Cond.fieldLink RX4 25 "PageTrie$Trie" "keys" "LPageTrie$Keys;" ∈ wsX4_partBytes := List.mem_of_getElem? (i := 3) rfl
theorem flX4_partBytes_47 : Cond.fieldLink RX4 47 "PageTrie$Trie" "width" "I" ∈ wsX4_partBytes := List.mem_of_getElem? (i := 2) rfl
theorem inX4_partBytes_X10 : ∀ w ∈ u_ws RX10 TX10 9, w ∈ wsX4_partBytes := mem_r _ [25, 26, 27, 28, 29, 30, 31, 32, 33] rfl
theorem inX4_partBytes_X4 : ∀ w ∈ u_ws RX4 TX4 4, w ∈ wsX4_partBytes := mem_r _ [21, 22, 23, 24] rfl
theorem hvX4_partBytes : yX4_partBytes.cls = RX4 ∧ yX4_partBytes.cls ≠ "java/lang/invoke/MethodHandle" ∧ yX4_partBytes.cls ≠ "java/lang/invoke/VarHandle" ∧ (parseMethodDescriptor yX4_partBytes.desc).map (fun d => d.parameters.length) = some 1 := by decide +kernel
set_option maxHeartbeats 4000000 in
set_option maxRecDepth 100000 in
theorem kX4_partBytes (l : Launch) {D : va_G} {cA : Nat → ClassId} {τ : Nat → Nat} {G : Nat → Nat → Nat} {L : List Nat} (hS : SW τ G L) (σ : Nat → Nat → Int) {a0 : Nat} (h0 : τ a0 = 5) {x1 : Int} (r1 : rg x1) : Met l yX4_partBytes wsX4_partBytes ({ frames := 1, cells := 0, slots := 0, locals := 24 }) (jP D cA τ G L σ [.ref a0, .int (jI x1)]) (jQR (fun r => True)) 0 0 (fun _ => False) := by
  refine j_metR (by decide +kernel) rfl (Nat.le_of_ble_eq_true rfl) ?_
  intro p e s m args below meth c Q hx hb hml hown hts hK hW hRet ls hl
  have hl : lv_has ls 2 [(0, .ref a0), (1, .int (jI x1))] := hl
  refine lv_aload_n hx hb dX4_partBytes_0 rfl (lv_at hl 0 rfl) ?_
  refine j_getR hx hb (C := RX4) (T := TX4) (N := 4) hts inX4_partBytes_X4 hown hK hS hW h0 rfl 0 rfl rfl (by decide) (hts _ flX4_partBytes_9) dX4_partBytes_1 ?_
  have h_1 : τ (G a0 0) = 11 := gty hS h0 (k := 0) rfl rfl
  refine j_getI hx hb (C := RX10) (T := TX10) (N := 9) hts inX4_partBytes_X10 hown hK hS hW h_1 rfl 1 rfl rfl (by decide) (hts _ flX4_partBytes_47) dX4_partBytes_4 ?_
  have := fbd hW h_1 (k := 1) (lo := -2147483648) (hi := 2147483647) rfl rfl
  refine lv_aload_n hx hb dX4_partBytes_7 rfl (lv_at hl 0 rfl) ?_
  refine j_getR hx hb (C := RX4) (T := TX4) (N := 4) hts inX4_partBytes_X4 hown hK hS hW h0 rfl 0 rfl rfl (by decide) (hts _ flX4_partBytes_9) dX4_partBytes_8 ?_
  refine j_getR hx hb (C := RX10) (T := TX10) (N := 9) hts inX4_partBytes_X10 hown hK hS hW h_1 rfl 0 rfl rfl (by decide) (hts _ flX4_partBytes_25) dX4_partBytes_11 ?_
  have h_2 : τ (G (G a0 0) 0) = 4 := gty hS h_1 (k := 0) rfl rfl
  refine lv_iload_n hx hb dX4_partBytes_14 rfl (lv_at hl 1 rfl) ?_
  refine j_cR (j_runV (As := [.int (jI x1)]) (rest := [.int (jI (σ (G a0 0) 1))]) hx hb hml hown hts hK hS hW (kX3_lengthOf l hS σ (a0 := G (G a0 0) 0) (h0 := h_2) (x1 := x1) (r1 := (by omega))) 1 gX4_partBytes_X3_lengthOf rfl hvX3_lengthOf ⟨Nat.le_of_ble_eq_true rfl, Nat.le_of_ble_eq_true rfl⟩ rfl rfl h_2 rfl rfl rfl rfl hl.1 rfl (Nat.le_of_ble_eq_true rfl) dX4_partBytes_15 ⟨Nat.le_of_ble_eq_true rfl, Nat.le_of_ble_eq_true rfl⟩) (fun v_3 rv_3 pv_3 => ?_)
  try dsimp only at pv_3
  refine lv_aload_n hx hb dX4_partBytes_18 rfl (lv_at hl 0 rfl) ?_
  refine j_cR (j_runV (As := []) (rest := [.int (jI v_3), .int (jI (σ (G a0 0) 1))]) hx hb hml hown hts hK hS hW (kX4_beginningBytes l hS σ (a0 := a0) (h0 := h0)) 0 gX4_partBytes_X4_beginningBytes rfl hvX4_beginningBytes ⟨Nat.le_of_ble_eq_true rfl, Nat.le_of_ble_eq_true rfl⟩ rfl rfl h0 rfl rfl rfl rfl hl.1 rfl (Nat.le_of_ble_eq_true rfl) dX4_partBytes_19 ⟨Nat.le_of_ble_eq_true rfl, Nat.le_of_ble_eq_true rfl⟩) (fun v_4 rv_4 pv_4 => ?_)
  try dsimp only at pv_4
  refine j_sub hx hb dX4_partBytes_22 ?_
  refine j_wrap (fun z_5 rz_5 ez_5 => ?_)
  refine j_mmin hx hb (hml.trans hl.1.symm) hown (hts (.methodLink RX4 88 Lib.Math.min.name) (by decide +kernel)) (hts (.static Lib.Math.min.name) (by decide +kernel)) (hts (.initialized "java/lang/Math") (by decide +kernel)) (hts (.code Lib.Math.min.name Lib.Math.min.code 2 (some .int)) (by decide +kernel)) (Nat.le_of_ble_eq_true rfl) (Nat.le_of_ble_eq_true rfl) (Nat.le_of_ble_eq_true rfl) (Nat.le_of_ble_eq_true rfl) (by omega) (by omega) dX4_partBytes_23 (fun z_6 rz_6 ez_6 => ?_)
  exact hRet 26 _ z_6 dX4_partBytes_26 (by omega) trivial
theorem flX4_restBytes_9 : Cond.fieldLink RX4 9 "PageTrie$LayerView" "trie" "LPageTrie$Trie;" ∈ wsX4_restBytes := List.mem_of_getElem? (i := 1) rfl
theorem flX4_restBytes_25 : Cond.fieldLink RX4 25 "PageTrie$Trie" "keys" "LPageTrie$Keys;" ∈ wsX4_restBytes := List.mem_of_getElem? (i := 2) rfl
theorem flX4_restBytes_47 : Cond.fieldLink RX4 47 "PageTrie$Trie" "width" "I" ∈ wsX4_restBytes := List.mem_of_getElem? (i := 3) rfl
theorem inX4_restBytes_X10 : ∀ w ∈ u_ws RX10 TX10 9, w ∈ wsX4_restBytes := mem_r _ [48, 49, 50, 51, 52, 53, 54, 55, 56] rfl
theorem inX4_restBytes_X4 : ∀ w ∈ u_ws RX4 TX4 4, w ∈ wsX4_restBytes := mem_r _ [44, 45, 46, 47] rfl
theorem hvX4_restBytes : yX4_restBytes.cls = RX4 ∧ yX4_restBytes.cls ≠ "java/lang/invoke/MethodHandle" ∧ yX4_restBytes.cls ≠ "java/lang/invoke/VarHandle" ∧ (parseMethodDescriptor yX4_restBytes.desc).map (fun d => d.parameters.length) = some 1 := by decide +kernel
set_option maxHeartbeats 4000000 in
set_option maxRecDepth 100000 in
theorem kX4_restBytes (l : Launch) {D : va_G} {cA : Nat → ClassId} {τ : Nat → Nat} {G : Nat → Nat → Nat} {L : List Nat} (hS : SW τ G L) (σ : Nat → Nat → Int) {a0 : Nat} (h0 : τ a0 = 5) {x1 : Int} (r1 : rg x1) : Met l yX4_restBytes wsX4_restBytes ({ frames := 4, cells := 0, slots := 0, locals := 87 }) (jP D cA τ G L σ [.ref a0, .int (jI x1)]) (jQR (fun r => True)) 0 0 (fun _ => False) := by
  refine j_metR (by decide +kernel) rfl (Nat.le_of_ble_eq_true rfl) ?_
  intro p e s m args below meth c Q hx hb hml hown hts hK hW hRet ls hl
  have hl : lv_has ls 2 [(0, .ref a0), (1, .int (jI x1))] := hl
  refine lv_aload_n hx hb dX4_restBytes_0 rfl (lv_at hl 0 rfl) ?_
  refine lv_iload_n hx hb dX4_restBytes_1 rfl (lv_at hl 1 rfl) ?_
  refine j_cR (j_runV (As := [.int (jI x1)]) (rest := []) hx hb hml hown hts hK hS hW (kX4_kindOf l hS σ (a0 := a0) (h0 := h0) (x1 := x1) (r1 := (by omega))) 1 gX4_restBytes_X4_kindOf rfl hvX4_kindOf ⟨Nat.le_of_ble_eq_true rfl, Nat.le_of_ble_eq_true rfl⟩ rfl rfl h0 rfl rfl rfl rfl hl.1 rfl (Nat.le_of_ble_eq_true rfl) dX4_restBytes_2 ⟨Nat.le_of_ble_eq_true rfl, Nat.le_of_ble_eq_true rfl⟩) (fun v_1 rv_1 pv_1 => ?_)
  try dsimp only at pv_1
  refine j_const hx hb dX4_restBytes_5 ?_
  refine j_icmp_ne (tgt := 36) hx hb (by omega) (by decide) dX4_restBytes_6 (by decide) (fun c_2 => ?_) (fun c_2 => ?_)
  · refine j_const hx hb dX4_restBytes_36 ?_
    exact hRet 37 _ 0 dX4_restBytes_37 (by decide) trivial
  · refine lv_aload_n hx hb dX4_restBytes_9 rfl (lv_at hl 0 rfl) ?_
    refine j_getR hx hb (C := RX4) (T := TX4) (N := 4) hts inX4_restBytes_X4 hown hK hS hW h0 rfl 0 rfl rfl (by decide) (hts _ flX4_restBytes_9) dX4_restBytes_10 ?_
    have h_3 : τ (G a0 0) = 11 := gty hS h0 (k := 0) rfl rfl
    refine j_getR hx hb (C := RX10) (T := TX10) (N := 9) hts inX4_restBytes_X10 hown hK hS hW h_3 rfl 0 rfl rfl (by decide) (hts _ flX4_restBytes_25) dX4_restBytes_13 ?_
    have h_4 : τ (G (G a0 0) 0) = 4 := gty hS h_3 (k := 0) rfl rfl
    refine lv_iload_n hx hb dX4_restBytes_16 rfl (lv_at hl 1 rfl) ?_
    refine j_cR (j_runV (As := [.int (jI x1)]) (rest := []) hx hb hml hown hts hK hS hW (kX3_lengthOf l hS σ (a0 := G (G a0 0) 0) (h0 := h_4) (x1 := x1) (r1 := (by omega))) 1 gX4_restBytes_X3_lengthOf rfl hvX3_lengthOf ⟨Nat.le_of_ble_eq_true rfl, Nat.le_of_ble_eq_true rfl⟩ rfl rfl h_4 rfl rfl rfl rfl hl.1 rfl (Nat.le_of_ble_eq_true rfl) dX4_restBytes_17 ⟨Nat.le_of_ble_eq_true rfl, Nat.le_of_ble_eq_true rfl⟩) (fun v_5 rv_5 pv_5 => ?_)
    try dsimp only at pv_5
    refine lv_aload_n hx hb dX4_restBytes_20 rfl (lv_at hl 0 rfl) ?_
    refine j_cR (j_runV (As := []) (rest := [.int (jI v_5)]) hx hb hml hown hts hK hS hW (kX4_beginningBytes l hS σ (a0 := a0) (h0 := h0)) 0 gX4_restBytes_X4_beginningBytes rfl hvX4_beginningBytes ⟨Nat.le_of_ble_eq_true rfl, Nat.le_of_ble_eq_true rfl⟩ rfl rfl h0 rfl rfl rfl rfl hl.1 rfl (Nat.le_of_ble_eq_true rfl) dX4_restBytes_21 ⟨Nat.le_of_ble_eq_true rfl, Nat.le_of_ble_eq_true rfl⟩) (fun v_6 rv_6 pv_6 => ?_)
    try dsimp only at pv_6
    refine j_sub hx hb dX4_restBytes_24 ?_
    refine j_wrap (fun z_7 rz_7 ez_7 => ?_)
    refine lv_aload_n hx hb dX4_restBytes_25 rfl (lv_at hl 0 rfl) ?_
    refine j_getR hx hb (C := RX4) (T := TX4) (N := 4) hts inX4_restBytes_X4 hown hK hS hW h0 rfl 0 rfl rfl (by decide) (hts _ flX4_restBytes_9) dX4_restBytes_26 ?_
    refine j_getI hx hb (C := RX10) (T := TX10) (N := 9) hts inX4_restBytes_X10 hown hK hS hW h_3 rfl 1 rfl rfl (by decide) (hts _ flX4_restBytes_47) dX4_restBytes_29 ?_
    have := fbd hW h_3 (k := 1) (lo := -2147483648) (hi := 2147483647) rfl rfl
    refine j_sub hx hb dX4_restBytes_32 ?_
    refine j_wrap (fun z_8 rz_8 ez_8 => ?_)
    refine lv_goto (tgt := 37) hx hb dX4_restBytes_33 (by decide) ?_
    exact hRet 37 _ z_8 dX4_restBytes_37 (by omega) trivial
theorem flX4_partByte_9 : Cond.fieldLink RX4 9 "PageTrie$LayerView" "trie" "LPageTrie$Trie;" ∈ wsX4_partByte := List.mem_of_getElem? (i := 1) rfl
theorem flX4_partByte_25 : Cond.fieldLink RX4 25 "PageTrie$Trie" "keys" "LPageTrie$Keys;" ∈ wsX4_partByte := List.mem_of_getElem? (i := 2) rfl
theorem inX4_partByte_X10 : ∀ w ∈ u_ws RX10 TX10 9, w ∈ wsX4_partByte := mem_r _ [34, 35, 36, 37, 38, 39, 40, 41, 42] rfl
theorem inX4_partByte_X4 : ∀ w ∈ u_ws RX4 TX4 4, w ∈ wsX4_partByte := mem_r _ [30, 31, 32, 33] rfl
theorem hvX4_partByte : yX4_partByte.cls = RX4 ∧ yX4_partByte.cls ≠ "java/lang/invoke/MethodHandle" ∧ yX4_partByte.cls ≠ "java/lang/invoke/VarHandle" ∧ (parseMethodDescriptor yX4_partByte.desc).map (fun d => d.parameters.length) = some 2 := by decide +kernel
set_option maxHeartbeats 4000000 in
set_option maxRecDepth 100000 in
theorem kX4_partByte (l : Launch) {D : va_G} {cA : Nat → ClassId} {τ : Nat → Nat} {G : Nat → Nat → Nat} {L : List Nat} (hS : SW τ G L) (σ : Nat → Nat → Int) {a0 : Nat} (h0 : τ a0 = 5) {x1 : Int} (r1 : rg x1) {x2 : Int} (r2 : rg x2) : Met l yX4_partByte wsX4_partByte ({ frames := 2, cells := 0, slots := 0, locals := 45 }) (jP D cA τ G L σ [.ref a0, .int (jI x1), .int (jI x2)]) (jQR (fun r => True)) 0 0 (fun _ => False) := by
  refine j_metR (by decide +kernel) rfl (Nat.le_of_ble_eq_true rfl) ?_
  intro p e s m args below meth c Q hx hb hml hown hts hK hW hRet ls hl
  have hl : lv_has ls 3 [(0, .ref a0), (1, .int (jI x1)), (2, .int (jI x2))] := hl
  refine lv_iload_n hx hb dX4_partByte_0 rfl (lv_at hl 2 rfl) ?_
  refine lv_aload_n hx hb dX4_partByte_1 rfl (lv_at hl 0 rfl) ?_
  refine lv_iload_n hx hb dX4_partByte_2 rfl (lv_at hl 1 rfl) ?_
  refine j_cR (j_runV (As := [.int (jI x1)]) (rest := [.int (jI x2)]) hx hb hml hown hts hK hS hW (kX4_partBytes l hS σ (a0 := a0) (h0 := h0) (x1 := x1) (r1 := (by omega))) 1 gX4_partByte_X4_partBytes rfl hvX4_partBytes ⟨Nat.le_of_ble_eq_true rfl, Nat.le_of_ble_eq_true rfl⟩ rfl rfl h0 rfl rfl rfl rfl hl.1 rfl (Nat.le_of_ble_eq_true rfl) dX4_partByte_3 ⟨Nat.le_of_ble_eq_true rfl, Nat.le_of_ble_eq_true rfl⟩) (fun v_1 rv_1 pv_1 => ?_)
  try dsimp only at pv_1
  refine j_icmp_ge (tgt := 29) hx hb (by omega) (by omega) dX4_partByte_6 (by decide) (fun c_2 => ?_) (fun c_2 => ?_)
  · refine j_bi hx hb dX4_partByte_29 (by decide) ?_
    exact hRet 31 _ (-4) dX4_partByte_31 (by decide) trivial
  · refine lv_aload_n hx hb dX4_partByte_9 rfl (lv_at hl 0 rfl) ?_
    refine j_getR hx hb (C := RX4) (T := TX4) (N := 4) hts inX4_partByte_X4 hown hK hS hW h0 rfl 0 rfl rfl (by decide) (hts _ flX4_partByte_9) dX4_partByte_10 ?_
    have h_3 : τ (G a0 0) = 11 := gty hS h0 (k := 0) rfl rfl
    refine j_getR hx hb (C := RX10) (T := TX10) (N := 9) hts inX4_partByte_X10 hown hK hS hW h_3 rfl 0 rfl rfl (by decide) (hts _ flX4_partByte_25) dX4_partByte_13 ?_
    have h_4 : τ (G (G a0 0) 0) = 4 := gty hS h_3 (k := 0) rfl rfl
    refine lv_iload_n hx hb dX4_partByte_16 rfl (lv_at hl 1 rfl) ?_
    refine lv_aload_n hx hb dX4_partByte_17 rfl (lv_at hl 0 rfl) ?_
    refine j_cR (j_runV (As := []) (rest := [.int (jI x1), .ref (G (G a0 0) 0)]) hx hb hml hown hts hK hS hW (kX4_beginningBytes l hS σ (a0 := a0) (h0 := h0)) 0 gX4_partByte_X4_beginningBytes rfl hvX4_beginningBytes ⟨Nat.le_of_ble_eq_true rfl, Nat.le_of_ble_eq_true rfl⟩ rfl rfl h0 rfl rfl rfl rfl hl.1 rfl (Nat.le_of_ble_eq_true rfl) dX4_partByte_18 ⟨Nat.le_of_ble_eq_true rfl, Nat.le_of_ble_eq_true rfl⟩) (fun v_5 rv_5 pv_5 => ?_)
    try dsimp only at pv_5
    refine lv_iload_n hx hb dX4_partByte_21 rfl (lv_at hl 2 rfl) ?_
    refine j_add hx hb dX4_partByte_22 ?_
    refine j_wrap (fun z_6 rz_6 ez_6 => ?_)
    refine j_cR (j_runV (As := [.int (jI x1), .int (jI z_6)]) (rest := []) hx hb hml hown hts hK hS hW (kX3_byteOf l hS σ (a0 := G (G a0 0) 0) (h0 := h_4) (x1 := x1) (r1 := (by omega)) (x2 := z_6) (r2 := (by omega))) 2 gX4_partByte_X3_byteOf rfl hvX3_byteOf ⟨Nat.le_of_ble_eq_true rfl, Nat.le_of_ble_eq_true rfl⟩ rfl rfl h_4 rfl rfl rfl rfl hl.1 rfl (Nat.le_of_ble_eq_true rfl) dX4_partByte_23 ⟨Nat.le_of_ble_eq_true rfl, Nat.le_of_ble_eq_true rfl⟩) (fun v_7 rv_7 pv_7 => ?_)
    try dsimp only at pv_7
    refine lv_goto (tgt := 31) hx hb dX4_partByte_26 (by decide) ?_
    exact hRet 31 _ v_7 dX4_partByte_31 (by omega) trivial
theorem flX4_restByte_9 : Cond.fieldLink RX4 9 "PageTrie$LayerView" "trie" "LPageTrie$Trie;" ∈ wsX4_restByte := List.mem_of_getElem? (i := 1) rfl
theorem flX4_restByte_25 : Cond.fieldLink RX4 25 "PageTrie$Trie" "keys" "LPageTrie$Keys;" ∈ wsX4_restByte := List.mem_of_getElem? (i := 2) rfl
theorem flX4_restByte_47 : Cond.fieldLink RX4 47 "PageTrie$Trie" "width" "I" ∈ wsX4_restByte := List.mem_of_getElem? (i := 3) rfl
theorem inX4_restByte_X10 : ∀ w ∈ u_ws RX10 TX10 9, w ∈ wsX4_restByte := mem_r _ [57, 58, 59, 60, 61, 62, 63, 64, 65] rfl
theorem inX4_restByte_X4 : ∀ w ∈ u_ws RX4 TX4 4, w ∈ wsX4_restByte := mem_r _ [53, 54, 55, 56] rfl
theorem hvX4_restByte : yX4_restByte.cls = RX4 ∧ yX4_restByte.cls ≠ "java/lang/invoke/MethodHandle" ∧ yX4_restByte.cls ≠ "java/lang/invoke/VarHandle" ∧ (parseMethodDescriptor yX4_restByte.desc).map (fun d => d.parameters.length) = some 2 := by decide +kernel
set_option maxHeartbeats 4000000 in
set_option maxRecDepth 100000 in
theorem kX4_restByte (l : Launch) {D : va_G} {cA : Nat → ClassId} {τ : Nat → Nat} {G : Nat → Nat → Nat} {L : List Nat} (hS : SW τ G L) (σ : Nat → Nat → Int) {a0 : Nat} (h0 : τ a0 = 5) {x1 : Int} (r1 : rg x1) {x2 : Int} (r2 : rg x2) : Met l yX4_restByte wsX4_restByte ({ frames := 5, cells := 0, slots := 0, locals := 108 }) (jP D cA τ G L σ [.ref a0, .int (jI x1), .int (jI x2)]) (jQR (fun r => True)) 0 0 (fun _ => False) := by
  refine j_metR (by decide +kernel) rfl (Nat.le_of_ble_eq_true rfl) ?_
  intro p e s m args below meth c Q hx hb hml hown hts hK hW hRet ls hl
  have hl : lv_has ls 3 [(0, .ref a0), (1, .int (jI x1)), (2, .int (jI x2))] := hl
  refine lv_iload_n hx hb dX4_restByte_0 rfl (lv_at hl 2 rfl) ?_
  refine lv_aload_n hx hb dX4_restByte_1 rfl (lv_at hl 0 rfl) ?_
  refine lv_iload_n hx hb dX4_restByte_2 rfl (lv_at hl 1 rfl) ?_
  refine j_cR (j_runV (As := [.int (jI x1)]) (rest := [.int (jI x2)]) hx hb hml hown hts hK hS hW (kX4_restBytes l hS σ (a0 := a0) (h0 := h0) (x1 := x1) (r1 := (by omega))) 1 gX4_restByte_X4_restBytes rfl hvX4_restBytes ⟨Nat.le_of_ble_eq_true rfl, Nat.le_of_ble_eq_true rfl⟩ rfl rfl h0 rfl rfl rfl rfl hl.1 rfl (Nat.le_of_ble_eq_true rfl) dX4_restByte_3 ⟨Nat.le_of_ble_eq_true rfl, Nat.le_of_ble_eq_true rfl⟩) (fun v_1 rv_1 pv_1 => ?_)
  try dsimp only at pv_1
  refine j_icmp_ge (tgt := 37) hx hb (by omega) (by omega) dX4_restByte_6 (by decide) (fun c_2 => ?_) (fun c_2 => ?_)
  · refine j_bi hx hb dX4_restByte_37 (by decide) ?_
    exact hRet 39 _ (-4) dX4_restByte_39 (by decide) trivial
  · refine lv_aload_n hx hb dX4_restByte_9 rfl (lv_at hl 0 rfl) ?_
    refine j_getR hx hb (C := RX4) (T := TX4) (N := 4) hts inX4_restByte_X4 hown hK hS hW h0 rfl 0 rfl rfl (by decide) (hts _ flX4_restByte_9) dX4_restByte_10 ?_
    have h_3 : τ (G a0 0) = 11 := gty hS h0 (k := 0) rfl rfl
    refine j_getR hx hb (C := RX10) (T := TX10) (N := 9) hts inX4_restByte_X10 hown hK hS hW h_3 rfl 0 rfl rfl (by decide) (hts _ flX4_restByte_25) dX4_restByte_13 ?_
    have h_4 : τ (G (G a0 0) 0) = 4 := gty hS h_3 (k := 0) rfl rfl
    refine lv_iload_n hx hb dX4_restByte_16 rfl (lv_at hl 1 rfl) ?_
    refine lv_aload_n hx hb dX4_restByte_17 rfl (lv_at hl 0 rfl) ?_
    refine j_cR (j_runV (As := []) (rest := [.int (jI x1), .ref (G (G a0 0) 0)]) hx hb hml hown hts hK hS hW (kX4_beginningBytes l hS σ (a0 := a0) (h0 := h0)) 0 gX4_restByte_X4_beginningBytes rfl hvX4_beginningBytes ⟨Nat.le_of_ble_eq_true rfl, Nat.le_of_ble_eq_true rfl⟩ rfl rfl h0 rfl rfl rfl rfl hl.1 rfl (Nat.le_of_ble_eq_true rfl) dX4_restByte_18 ⟨Nat.le_of_ble_eq_true rfl, Nat.le_of_ble_eq_true rfl⟩) (fun v_5 rv_5 pv_5 => ?_)
    try dsimp only at pv_5
    refine lv_aload_n hx hb dX4_restByte_21 rfl (lv_at hl 0 rfl) ?_
    refine j_getR hx hb (C := RX4) (T := TX4) (N := 4) hts inX4_restByte_X4 hown hK hS hW h0 rfl 0 rfl rfl (by decide) (hts _ flX4_restByte_9) dX4_restByte_22 ?_
    refine j_getI hx hb (C := RX10) (T := TX10) (N := 9) hts inX4_restByte_X10 hown hK hS hW h_3 rfl 1 rfl rfl (by decide) (hts _ flX4_restByte_47) dX4_restByte_25 ?_
    have := fbd hW h_3 (k := 1) (lo := -2147483648) (hi := 2147483647) rfl rfl
    refine j_add hx hb dX4_restByte_28 ?_
    refine j_wrap (fun z_6 rz_6 ez_6 => ?_)
    refine lv_iload_n hx hb dX4_restByte_29 rfl (lv_at hl 2 rfl) ?_
    refine j_add hx hb dX4_restByte_30 ?_
    refine j_wrap (fun z_7 rz_7 ez_7 => ?_)
    refine j_cR (j_runV (As := [.int (jI x1), .int (jI z_7)]) (rest := []) hx hb hml hown hts hK hS hW (kX3_byteOf l hS σ (a0 := G (G a0 0) 0) (h0 := h_4) (x1 := x1) (r1 := (by omega)) (x2 := z_7) (r2 := (by omega))) 2 gX4_restByte_X3_byteOf rfl hvX3_byteOf ⟨Nat.le_of_ble_eq_true rfl, Nat.le_of_ble_eq_true rfl⟩ rfl rfl h_4 rfl rfl rfl rfl hl.1 rfl (Nat.le_of_ble_eq_true rfl) dX4_restByte_31 ⟨Nat.le_of_ble_eq_true rfl, Nat.le_of_ble_eq_true rfl⟩) (fun v_8 rv_8 pv_8 => ?_)
    try dsimp only at pv_8
    refine lv_goto (tgt := 39) hx hb dX4_restByte_34 (by decide) ?_
    exact hRet 39 _ v_8 dX4_restByte_39 (by omega) trivial
theorem flX4_entryIs_9 : Cond.fieldLink RX4 9 "PageTrie$LayerView" "trie" "LPageTrie$Trie;" ∈ wsX4_entryIs := List.mem_of_getElem? (i := 1) rfl
theorem flX4_entryIs_25 : Cond.fieldLink RX4 25 "PageTrie$Trie" "keys" "LPageTrie$Keys;" ∈ wsX4_entryIs := List.mem_of_getElem? (i := 2) rfl
theorem inX4_entryIs_X10 : ∀ w ∈ u_ws RX10 TX10 9, w ∈ wsX4_entryIs := mem_r _ [79, 80, 81, 82, 83, 84, 85, 86, 87] rfl
theorem inX4_entryIs_X4 : ∀ w ∈ u_ws RX4 TX4 4, w ∈ wsX4_entryIs := mem_r _ [75, 76, 77, 78] rfl
theorem hvX4_entryIs : yX4_entryIs.cls = RX4 ∧ yX4_entryIs.cls ≠ "java/lang/invoke/MethodHandle" ∧ yX4_entryIs.cls ≠ "java/lang/invoke/VarHandle" ∧ (parseMethodDescriptor yX4_entryIs.desc).map (fun d => d.parameters.length) = some 2 := by decide +kernel
set_option maxHeartbeats 4000000 in
set_option maxRecDepth 100000 in
theorem kX4_entryIs (l : Launch) {D : va_G} {cA : Nat → ClassId} {τ : Nat → Nat} {G : Nat → Nat → Nat} {L : List Nat} (hS : SW τ G L) (σ : Nat → Nat → Int) {a0 : Nat} (h0 : τ a0 = 5) {x1 : Int} (r1 : rg x1) {x2 : Int} (r2 : rg x2) (q0 : x1 ≤ 1000) : Met l yX4_entryIs wsX4_entryIs ({ frames := 5, cells := 0, slots := 0, locals := 108 }) (jP D cA τ G L σ [.ref a0, .int (jI x1), .int (jI x2)]) (jQR (fun r => True)) 0 0 (fun _ => False) := by
  refine j_metR (by decide +kernel) rfl (Nat.le_of_ble_eq_true rfl) ?_
  intro p e s m args below meth c Q hx hb hml hown hts hK hW hRet ls hl
  have hl : lv_has ls 4 [(0, .ref a0), (1, .int (jI x1)), (2, .int (jI x2))] := hl
  refine lv_aload_n hx hb dX4_entryIs_0 rfl (lv_at hl 0 rfl) ?_
  refine lv_iload_n hx hb dX4_entryIs_1 rfl (lv_at hl 1 rfl) ?_
  refine j_cR (j_runV (As := [.int (jI x1)]) (rest := []) hx hb hml hown hts hK hS hW (kX4_kindOf l hS σ (a0 := a0) (h0 := h0) (x1 := x1) (r1 := (by omega))) 1 gX4_entryIs_X4_kindOf rfl hvX4_kindOf ⟨Nat.le_of_ble_eq_true rfl, Nat.le_of_ble_eq_true rfl⟩ rfl rfl h0 rfl rfl rfl rfl hl.1 rfl (Nat.le_of_ble_eq_true rfl) dX4_entryIs_2 ⟨Nat.le_of_ble_eq_true rfl, Nat.le_of_ble_eq_true rfl⟩) (fun v_1 rv_1 pv_1 => ?_)
  try dsimp only at pv_1
  refine lv_istore_n (lv' := [(3, .int (jI v_1)), (0, .ref a0), (1, .int (jI x1)), (2, .int (jI x2))]) hx hb dX4_entryIs_5 rfl hl (by decide) rfl (fun ls hl => ?_)
  refine lv_iload_n hx hb dX4_entryIs_6 rfl (lv_at hl 3 rfl) ?_
  have hrc_2 : rg x2 := by omega
  by_cases c_2_0 : x2 = 0
  · refine lv_tableIn (tgt := 36) (off := 29) hx hb dX4_entryIs_7 (by rw [jI_toInt hrc_2]; omega) (by rw [jI_toInt hrc_2]; omega) (by rw [jI_toInt hrc_2, c_2_0]; rfl) (by decide) ?_
    refine lv_iload_n hx hb dX4_entryIs_36 rfl (lv_at hl 0 rfl) ?_
    exact hRet 37 _ v_1 dX4_entryIs_37 (by omega) trivial
  by_cases c_2_1 : x2 = 1
  · refine lv_tableIn (tgt := 38) (off := 31) hx hb dX4_entryIs_7 (by rw [jI_toInt hrc_2]; omega) (by rw [jI_toInt hrc_2]; omega) (by rw [jI_toInt hrc_2, c_2_1]; rfl) (by decide) ?_
    refine lv_aload_n hx hb dX4_entryIs_38 rfl (lv_at hl 1 rfl) ?_
    refine lv_iload_n hx hb dX4_entryIs_39 rfl (lv_at hl 2 rfl) ?_
    refine j_cR (j_runV (As := [.int (jI x1)]) (rest := []) hx hb hml hown hts hK hS hW (kX4_partBytes l hS σ (a0 := a0) (h0 := h0) (x1 := x1) (r1 := (by omega))) 1 gX4_entryIs_X4_partBytes rfl hvX4_partBytes ⟨Nat.le_of_ble_eq_true rfl, Nat.le_of_ble_eq_true rfl⟩ rfl rfl h0 rfl rfl rfl rfl hl.1 rfl (Nat.le_of_ble_eq_true rfl) dX4_entryIs_40 ⟨Nat.le_of_ble_eq_true rfl, Nat.le_of_ble_eq_true rfl⟩) (fun v_3 rv_3 pv_3 => ?_)
    try dsimp only at pv_3
    exact hRet 43 _ v_3 dX4_entryIs_43 (by omega) trivial
  by_cases c_2_2 : x2 = 2
  · refine lv_tableIn (tgt := 44) (off := 37) hx hb dX4_entryIs_7 (by rw [jI_toInt hrc_2]; omega) (by rw [jI_toInt hrc_2]; omega) (by rw [jI_toInt hrc_2, c_2_2]; rfl) (by decide) ?_
    refine lv_iload_n hx hb dX4_entryIs_44 rfl (lv_at hl 0 rfl) ?_
    refine j_const hx hb dX4_entryIs_45 ?_
    refine j_icmp_ne (tgt := 54) hx hb (by omega) (by decide) dX4_entryIs_46 (by decide) (fun c_4 => ?_) (fun c_4 => ?_)
    · refine lv_aload_n hx hb dX4_entryIs_54 rfl (lv_at hl 1 rfl) ?_
      refine j_getR hx hb (C := RX4) (T := TX4) (N := 4) hts inX4_entryIs_X4 hown hK hS hW h0 rfl 0 rfl rfl (by decide) (hts _ flX4_entryIs_9) dX4_entryIs_55 ?_
      have h_5 : τ (G a0 0) = 11 := gty hS h0 (k := 0) rfl rfl
      refine j_getR hx hb (C := RX10) (T := TX10) (N := 9) hts inX4_entryIs_X10 hown hK hS hW h_5 rfl 0 rfl rfl (by decide) (hts _ flX4_entryIs_25) dX4_entryIs_58 ?_
      have h_6 : τ (G (G a0 0) 0) = 4 := gty hS h_5 (k := 0) rfl rfl
      refine lv_iload_n hx hb dX4_entryIs_61 rfl (lv_at hl 2 rfl) ?_
      refine j_cR (j_runV (As := [.int (jI x1)]) (rest := []) hx hb hml hown hts hK hS hW (kX3_valueOf l hS σ (a0 := G (G a0 0) 0) (h0 := h_6) (x1 := x1) (r1 := (by omega))) 1 gX4_entryIs_X3_valueOf rfl hvX3_valueOf ⟨Nat.le_of_ble_eq_true rfl, Nat.le_of_ble_eq_true rfl⟩ rfl rfl h_6 rfl rfl rfl rfl hl.1 rfl (Nat.le_of_ble_eq_true rfl) dX4_entryIs_62 ⟨Nat.le_of_ble_eq_true rfl, Nat.le_of_ble_eq_true rfl⟩) (fun v_7 rv_7 pv_7 => ?_)
      try dsimp only at pv_7
      exact hRet 65 _ v_7 dX4_entryIs_65 (by omega) trivial
    · refine j_bi hx hb dX4_entryIs_49 (by decide) ?_
      refine lv_goto (tgt := 65) hx hb dX4_entryIs_51 (by decide) ?_
      exact hRet 65 _ (-2) dX4_entryIs_65 (by decide) trivial
  by_cases c_2_3 : x2 = 3
  · refine lv_tableIn (tgt := 66) (off := 59) hx hb dX4_entryIs_7 (by rw [jI_toInt hrc_2]; omega) (by rw [jI_toInt hrc_2]; omega) (by rw [jI_toInt hrc_2, c_2_3]; rfl) (by decide) ?_
    refine lv_aload_n hx hb dX4_entryIs_66 rfl (lv_at hl 1 rfl) ?_
    refine lv_iload_n hx hb dX4_entryIs_67 rfl (lv_at hl 2 rfl) ?_
    refine j_cR (j_runV (As := [.int (jI x1)]) (rest := []) hx hb hml hown hts hK hS hW (kX4_restBytes l hS σ (a0 := a0) (h0 := h0) (x1 := x1) (r1 := (by omega))) 1 gX4_entryIs_X4_restBytes rfl hvX4_restBytes ⟨Nat.le_of_ble_eq_true rfl, Nat.le_of_ble_eq_true rfl⟩ rfl rfl h0 rfl rfl rfl rfl hl.1 rfl (Nat.le_of_ble_eq_true rfl) dX4_entryIs_68 ⟨Nat.le_of_ble_eq_true rfl, Nat.le_of_ble_eq_true rfl⟩) (fun v_8 rv_8 pv_8 => ?_)
    try dsimp only at pv_8
    exact hRet 71 _ v_8 dX4_entryIs_71 (by omega) trivial
  refine lv_tableOut (tgt := 72) hx hb dX4_entryIs_7 (by rw [jI_toInt hrc_2]; omega) (by decide) ?_
  refine lv_aload_n hx hb dX4_entryIs_72 rfl (lv_at hl 1 rfl) ?_
  refine lv_iload_n hx hb dX4_entryIs_73 rfl (lv_at hl 2 rfl) ?_
  refine j_cR (j_runV (As := [.int (jI x1)]) (rest := []) hx hb hml hown hts hK hS hW (kX4_pageOf l hS σ (a0 := a0) (h0 := h0) (x1 := x1) (r1 := (by omega)) (q0 := (by omega))) 1 gX4_entryIs_X4_pageOf rfl hvX4_pageOf ⟨Nat.le_of_ble_eq_true rfl, Nat.le_of_ble_eq_true rfl⟩ rfl rfl h0 rfl rfl rfl rfl hl.1 rfl (Nat.le_of_ble_eq_true rfl) dX4_entryIs_74 ⟨Nat.le_of_ble_eq_true rfl, Nat.le_of_ble_eq_true rfl⟩) (fun v_9 rv_9 pv_9 => ?_)
  try dsimp only at pv_9
  exact hRet 77 _ v_9 dX4_entryIs_77 (by omega) trivial
