theorem flX12_here_22 : Cond.fieldLink RX12 22 "PageTrieModel" "tape" "[B" ∈ wsX12_here := List.mem_of_getElem? (i := 3) rfl
theorem flX12_here_180 : Cond.fieldLink RX12 180 "PageTrieModel" "place0" "I" ∈ wsX12_here := List.mem_of_getElem? (i := 1) rfl
theorem flX12_here_183 : Cond.fieldLink RX12 183 "PageTrieModel" "length0" "I" ∈ wsX12_here := List.mem_of_getElem? (i := 2) rfl
theorem inX12_here_X12 : ∀ w ∈ u_ws RX12 TX12 41, w ∈ wsX12_here := mem_r _ [4, 5, 6, 7, 8, 9, 10, 11, 12, 13, 14, 15, 16, 17, 18, 19, 20, 21, 22, 23, 24, 25, 26, 27, 28, 29, 30, 31, 32, 33, 34, 35, 36, 37, 38, 39, 40, 41, 42, 43, 44] rfl
theorem hvX12_here : yX12_here.cls = RX12 ∧ yX12_here.cls ≠ "java/lang/invoke/MethodHandle" ∧ yX12_here.cls ≠ "java/lang/invoke/VarHandle" ∧ (parseMethodDescriptor yX12_here.desc).map (fun d => d.parameters.length) = some 0 := by decide +kernel
set_option maxHeartbeats 4000000 in
set_option maxRecDepth 100000 in
theorem kX12_here (l : Launch) {D : va_G} {cA : Nat → ClassId} {τ : Nat → Nat} {G : Nat → Nat → Nat} {L : List Nat} (hS : SW τ G L) (σ : Nat → Nat → Int) {a0 : Nat} (h0 : τ a0 = 13) : Met l yX12_here wsX12_here ({ frames := 0, cells := 0, slots := 0, locals := 0 }) (jP D cA τ G L σ [.ref a0]) (jQR (fun r => (r = -1 ∨ (σ a0 12 < σ a0 13 ∧ 0 ≤ r ∧ r ≤ 255)) ∧ (hrP (σ a0 12) (σ a0 13) (σ (G a0 10)) r))) 0 0 (fun _ => False) := by
  refine j_metR (by decide +kernel) rfl (Nat.le_of_ble_eq_true rfl) ?_
  intro p e s m args below meth c Q hx hb hml hown hts hK hW hRet ls hl
  have hl : lv_has ls 1 [(0, .ref a0)] := hl
  refine lv_aload_n hx hb dX12_here_0 rfl (lv_at hl 0 rfl) ?_
  refine j_getI hx hb (C := RX12) (T := TX12) (N := 41) hts inX12_here_X12 hown hK hS hW h0 rfl 12 rfl rfl (by decide) (hts _ flX12_here_180) dX12_here_1 ?_
  have := fbd hW h0 (k := 12) (lo := 0) (hi := 200) rfl rfl
  refine lv_aload_n hx hb dX12_here_4 rfl (lv_at hl 0 rfl) ?_
  refine j_getI hx hb (C := RX12) (T := TX12) (N := 41) hts inX12_here_X12 hown hK hS hW h0 rfl 13 rfl rfl (by decide) (hts _ flX12_here_183) dX12_here_5 ?_
  have := fbd hW h0 (k := 13) (lo := 0) (hi := 200) rfl rfl
  refine j_icmp_ge (tgt := 27) hx hb (by omega) (by omega) dX12_here_8 (by decide) (fun c_1 => ?_) (fun c_1 => ?_)
  · refine j_const hx hb dX12_here_27 ?_
    exact hRet 28 _ (-1) dX12_here_28 (by decide) ⟨by omega, (by first | exact Or.inl ⟨by omega, rfl⟩ | exact Or.inr ⟨by omega, rfl⟩)⟩
  · refine lv_aload_n hx hb dX12_here_11 rfl (lv_at hl 0 rfl) ?_
    refine j_getR hx hb (C := RX12) (T := TX12) (N := 41) hts inX12_here_X12 hown hK hS hW h0 rfl 10 rfl rfl (by decide) (hts _ flX12_here_22) dX12_here_12 ?_
    have h_2 : τ (G a0 10) = 44 := gty hS h0 (k := 10) rfl rfl
    refine lv_aload_n hx hb dX12_here_15 rfl (lv_at hl 0 rfl) ?_
    refine j_getI hx hb (C := RX12) (T := TX12) (N := 41) hts inX12_here_X12 hown hK hS hW h0 rfl 12 rfl rfl (by decide) (hts _ flX12_here_180) dX12_here_16 ?_
    refine j_bald hx hb hK hS hW h_2 (n := 240) rfl (by omega) (by omega) (by decide) dX12_here_19 ?_
    have := abd hW h_2 (n := 240) (lo := -128) (hi := 127) (i := σ a0 12) rfl (by omega) (by omega)
    refine j_si hx hb dX12_here_20 (by decide) ?_
    refine j_and255 hx hb dX12_here_23 ?_
    refine lv_goto (tgt := 28) hx hb dX12_here_24 (by decide) ?_
    exact hRet 28 _ ((σ (G a0 10) (σ a0 12).toNat) % 256) dX12_here_28 (by omega) ⟨by omega, (by first | exact Or.inl ⟨by omega, rfl⟩ | exact Or.inr ⟨by omega, rfl⟩)⟩
abbrev wr_X12_wrongAt : List Nat := [13014]
theorem flX12_wrongAt_186 : Cond.fieldLink RX12 186 "PageTrieModel" "fault" "I" ∈ wsX12_wrongAt := List.mem_of_getElem? (i := 1) rfl
theorem inX12_wrongAt_X12 : ∀ w ∈ u_ws RX12 TX12 41, w ∈ wsX12_wrongAt := mem_r _ [2, 3, 4, 5, 6, 7, 8, 9, 10, 11, 12, 13, 14, 15, 16, 17, 18, 19, 20, 21, 22, 23, 24, 25, 26, 27, 28, 29, 30, 31, 32, 33, 34, 35, 36, 37, 38, 39, 40, 41, 42] rfl
theorem hvX12_wrongAt : yX12_wrongAt.cls = RX12 ∧ yX12_wrongAt.cls ≠ "java/lang/invoke/MethodHandle" ∧ yX12_wrongAt.cls ≠ "java/lang/invoke/VarHandle" ∧ (parseMethodDescriptor yX12_wrongAt.desc).map (fun d => d.parameters.length) = some 2 := by decide +kernel
set_option maxHeartbeats 4000000 in
set_option maxRecDepth 100000 in
theorem kX12_wrongAt (l : Launch) {D : va_G} {cA : Nat → ClassId} {τ : Nat → Nat} {G : Nat → Nat → Nat} {L : List Nat} (hS : SW τ G L) (σ : Nat → Nat → Int) {a0 : Nat} (h0 : τ a0 = 13) {x1 : Int} (r1 : rg x1) {x2 : Int} (r2 : rg x2) : Met l yX12_wrongAt wsX12_wrongAt ({ frames := 0, cells := 0, slots := 0, locals := 0 }) (jP D cA τ G L σ [.ref a0, .int (jI x1), .int (jI x2)]) (jQI D cA τ G L (fun r σ' => (0 ≤ r ∧ r ≤ 1) ∧ (((r = 0)) ∧ fr wr_X12_wrongAt τ σ σ'))) 0 0 (fun q => q ∈ L) := by
  refine j_metZ (by decide +kernel) rfl (Nat.le_of_ble_eq_true rfl) ?_
  intro p e s m args below meth c Q hx hb hml hown hts hK hW hRet ls hl
  have hl : lv_has ls 3 [(0, .ref a0), (1, .int (jI x1)), (2, .int (jI x2))] := hl
  have hA : ∀ q ∈ L, (fun q => q ∈ L) q := fun _ h => h
  have hF : va_S (fun q => q ∈ L) s.heap s.heap [] := va_S.rf
  have hR : fr wr_X12_wrongAt τ σ σ := fr_rf
  refine lv_aload_n hx hb dX12_wrongAt_0 rfl (lv_at hl 0 rfl) ?_
  refine j_si hx hb dX12_wrongAt_1 (by decide) ?_
  refine lv_iload_n hx hb dX12_wrongAt_4 rfl (lv_at hl 1 rfl) ?_
  refine j_mul hx hb dX12_wrongAt_5 ?_
  refine j_wrap (fun z_1 rz_1 ez_1 => ?_)
  refine lv_iload_n hx hb dX12_wrongAt_6 rfl (lv_at hl 2 rfl) ?_
  refine j_sub hx hb dX12_wrongAt_7 ?_
  refine j_wrap (fun z_2 rz_2 ez_2 => ?_)
  refine j_putI hx hb (C := RX12) (T := TX12) (N := 41) hts inX12_wrongAt_X12 tyX12 tyX12_ok nmX12 hown hK hS hA hW hF h0 rfl 14 (lo := -2147483648) (hi := 2147483647) rfl rfl (by decide) (hts _ flX12_wrongAt_186) rfl .int rfl (by omega) rfl rfl dX12_wrongAt_8 (fun σ_3 H locs e_4 hW hF => ?_)
  have hR := fr_up hR e_4 h0 13014 rfl (by decide)
  have hfk : σ_3 a0 14 = z_2 := by rw [e_4]; exact up2_at _ _ _ _
  refine j_const hx hb dX12_wrongAt_11 ?_
  exact hRet 12 _ _ _ 0 _ dX12_wrongAt_12 hW hF (by omega) ⟨(by omega), hR⟩
abbrev wr_X12_takesSign : List Nat := [13012, 13014]
theorem flX12_takesSign_180 : Cond.fieldLink RX12 180 "PageTrieModel" "place0" "I" ∈ wsX12_takesSign := List.mem_of_getElem? (i := 1) rfl
theorem inX12_takesSign_X12 : ∀ w ∈ u_ws RX12 TX12 41, w ∈ wsX12_takesSign := mem_r _ [14, 15, 16, 17, 18, 19, 20, 21, 22, 23, 24, 25, 26, 27, 28, 29, 30, 31, 32, 33, 34, 35, 36, 37, 38, 39, 40, 41, 42, 43, 44, 45, 46, 47, 48, 49, 50, 51, 52, 53, 54] rfl
theorem hvX12_takesSign : yX12_takesSign.cls = RX12 ∧ yX12_takesSign.cls ≠ "java/lang/invoke/MethodHandle" ∧ yX12_takesSign.cls ≠ "java/lang/invoke/VarHandle" ∧ (parseMethodDescriptor yX12_takesSign.desc).map (fun d => d.parameters.length) = some 1 := by decide +kernel
set_option maxHeartbeats 4000000 in
set_option maxRecDepth 100000 in
theorem kX12_takesSign (l : Launch) {D : va_G} {cA : Nat → ClassId} {τ : Nat → Nat} {G : Nat → Nat → Nat} {L : List Nat} (hS : SW τ G L) (σ : Nat → Nat → Int) {a0 : Nat} (h0 : τ a0 = 13) {x1 : Int} (r1 : rg x1) (q0 : 0 ≤ x1) : Met l yX12_takesSign wsX12_takesSign ({ frames := 1, cells := 0, slots := 0, locals := 22 }) (jP D cA τ G L σ [.ref a0, .int (jI x1)]) (jQI D cA τ G L (fun r σ' => (0 ≤ r ∧ r ≤ 1) ∧ (((σ a0 12 ≤ σ' a0 12) ∧ (r = 1 → σ' a0 12 = σ a0 12 + 1)) ∧ fr wr_X12_takesSign τ σ σ'))) 0 0 (fun q => q ∈ L) := by
  refine j_metZ (by decide +kernel) rfl (Nat.le_of_ble_eq_true rfl) ?_
  intro p e s m args below meth c Q hx hb hml hown hts hK hW hRet ls hl
  have hl : lv_has ls 2 [(0, .ref a0), (1, .int (jI x1))] := hl
  have hA : ∀ q ∈ L, (fun q => q ∈ L) q := fun _ h => h
  have hF : va_S (fun q => q ∈ L) s.heap s.heap [] := va_S.rf
  have hR : fr wr_X12_takesSign τ σ σ := fr_rf
  have := fbd hW h0 (k := 12) (lo := 0) (hi := 200) rfl rfl
  have := fbd hW h0 (k := 13) (lo := 0) (hi := 200) rfl rfl
  refine lv_aload_n hx hb dX12_takesSign_0 rfl (lv_at hl 0 rfl) ?_
  refine j_cR (j_runV (As := []) (rest := []) hx hb hml hown hts hK hS hW (kX12_here l hS σ (a0 := a0) (h0 := h0)) 0 gX12_takesSign_X12_here rfl hvX12_here ⟨Nat.le_of_ble_eq_true rfl, Nat.le_of_ble_eq_true rfl⟩ rfl rfl h0 rfl rfl rfl rfl hl.1 rfl (Nat.le_of_ble_eq_true rfl) dX12_takesSign_1 ⟨Nat.le_of_ble_eq_true rfl, Nat.le_of_ble_eq_true rfl⟩) (fun v_1 rv_1 pv_1 => ?_)
  try dsimp only at pv_1
  have q_here := pv_1
  refine lv_iload_n hx hb dX12_takesSign_4 rfl (lv_at hl 1 rfl) ?_
  refine j_icmp_eq (tgt := 18) hx hb (by omega) (by omega) dX12_takesSign_5 (by decide) (fun c_2 => ?_) (fun c_2 => ?_)
  · refine lv_aload_n hx hb dX12_takesSign_18 rfl (lv_at hl 0 rfl) ?_
    refine lv_aload_n hx hb dX12_takesSign_19 rfl (lv_at hl 0 rfl) ?_
    refine j_getI hx hb (C := RX12) (T := TX12) (N := 41) hts inX12_takesSign_X12 hown hK hS hW h0 rfl 12 rfl rfl (by decide) (hts _ flX12_takesSign_180) dX12_takesSign_20 ?_
    have := fbd hW h0 (k := 12) (lo := 0) (hi := 200) rfl rfl
    refine j_const hx hb dX12_takesSign_23 ?_
    refine j_add hx hb dX12_takesSign_24 ?_
    refine j_putI hx hb (C := RX12) (T := TX12) (N := 41) hts inX12_takesSign_X12 tyX12 tyX12_ok nmX12 hown hK hS hA hW hF h0 rfl 12 (lo := 0) (hi := 200) rfl rfl (by decide) (hts _ flX12_takesSign_180) rfl .int rfl (by omega) rfl rfl dX12_takesSign_25 (fun σ_3 H locs e_4 hW hF => ?_)
    have hR := fr_up hR e_4 h0 13012 rfl (by decide)
    have hfk : σ_3 a0 12 = (σ a0 12) + 1 := by rw [e_4]; exact up2_at _ _ _ _
    refine j_const hx hb dX12_takesSign_28 ?_
    exact hRet 29 _ _ _ 1 _ dX12_takesSign_29 hW hF (by omega) ⟨⟨by omega, by omega⟩, hR⟩
  · refine lv_aload_n hx hb dX12_takesSign_8 rfl (lv_at hl 0 rfl) ?_
    refine j_const hx hb dX12_takesSign_9 ?_
    refine lv_aload_n hx hb dX12_takesSign_10 rfl (lv_at hl 0 rfl) ?_
    refine j_getI hx hb (C := RX12) (T := TX12) (N := 41) hts inX12_takesSign_X12 hown hK hS hW h0 rfl 12 rfl rfl (by decide) (hts _ flX12_takesSign_180) dX12_takesSign_11 ?_
    have := fbd hW h0 (k := 12) (lo := 0) (hi := 200) rfl rfl
    refine j_cI (j_runV (As := [.int (jI 1), .int (jI (σ a0 12))]) (rest := []) hx hb hml hown hts hK hS hW (kX12_wrongAt l hS σ (a0 := a0) (h0 := h0) (x1 := 1) (r1 := (by decide)) (x2 := σ a0 12) (r2 := (by omega))) 2 gX12_takesSign_X12_wrongAt rfl hvX12_wrongAt ⟨Nat.le_of_ble_eq_true rfl, Nat.le_of_ble_eq_true rfl⟩ rfl rfl h0 rfl rfl rfl rfl hl.1 rfl (Nat.le_of_ble_eq_true rfl) dX12_takesSign_14 ⟨Nat.le_of_ble_eq_true rfl, Nat.le_of_ble_eq_true rfl⟩) hA hF (fun v_5 σ_6 H locs hW hF rv_5 pv_5 => ?_)
    try dsimp only at pv_5
    obtain ⟨bpv_5, pv_5, fpv_5⟩ := pv_5
    have q_wrongAt := pv_5
    have hR := fr_call hR fpv_5 (by decide)
    have Eplace0 : σ_6 a0 12 = σ a0 12 := fr_at fpv_5 h0 12 13012 rfl (by decide)
    exact hRet 17 _ _ _ v_5 _ dX12_takesSign_17 hW hF (by omega) ⟨⟨by omega, by omega⟩, hR⟩
abbrev wr_X12_readsNumber : List Nat := [13012, 13014, 13015]
theorem flX12_readsNumber_180 : Cond.fieldLink RX12 180 "PageTrieModel" "place0" "I" ∈ wsX12_readsNumber := List.mem_of_getElem? (i := 1) rfl
theorem flX12_readsNumber_195 : Cond.fieldLink RX12 195 "PageTrieModel" "number0" "I" ∈ wsX12_readsNumber := List.mem_of_getElem? (i := 2) rfl
theorem inX12_readsNumber_X12 : ∀ w ∈ u_ws RX12 TX12 41, w ∈ wsX12_readsNumber := mem_r _ [18, 19, 20, 21, 22, 23, 24, 25, 26, 27, 28, 29, 30, 31, 32, 33, 34, 35, 36, 37, 38, 39, 40, 41, 42, 43, 44, 45, 46, 47, 48, 49, 50, 51, 52, 53, 54, 55, 56, 57, 58] rfl
theorem hvX12_readsNumber : yX12_readsNumber.cls = RX12 ∧ yX12_readsNumber.cls ≠ "java/lang/invoke/MethodHandle" ∧ yX12_readsNumber.cls ≠ "java/lang/invoke/VarHandle" ∧ (parseMethodDescriptor yX12_readsNumber.desc).map (fun d => d.parameters.length) = some 0 := by decide +kernel
set_option maxHeartbeats 4000000 in
set_option maxRecDepth 100000 in
theorem kX12_readsNumber (l : Launch) {D : va_G} {cA : Nat → ClassId} {τ : Nat → Nat} {G : Nat → Nat → Nat} {L : List Nat} (hS : SW τ G L) (σ : Nat → Nat → Int) {a0 : Nat} (h0 : τ a0 = 13) : Met l yX12_readsNumber wsX12_readsNumber ({ frames := 1, cells := 0, slots := 0, locals := 22 }) (jP D cA τ G L σ [.ref a0]) (jQI D cA τ G L (fun r σ' => (0 ≤ r ∧ r ≤ 1) ∧ (((σ a0 12 ≤ σ' a0 12)) ∧ fr wr_X12_readsNumber τ σ σ'))) 0 0 (fun q => q ∈ L) := by
  refine j_metZ (by decide +kernel) rfl (Nat.le_of_ble_eq_true rfl) ?_
  intro p e s m args below meth c Q hx hb hml hown hts hK hW hRet ls hl
  have hl : lv_has ls 2 [(0, .ref a0)] := hl
  have hA : ∀ q ∈ L, (fun q => q ∈ L) q := fun _ h => h
  have hF : va_S (fun q => q ∈ L) s.heap s.heap [] := va_S.rf
  have hR : fr wr_X12_readsNumber τ σ σ := fr_rf
  have := fbd hW h0 (k := 12) (lo := 0) (hi := 200) rfl rfl
  have := fbd hW h0 (k := 13) (lo := 0) (hi := 200) rfl rfl
  refine lv_aload_n hx hb dX12_readsNumber_0 rfl (lv_at hl 0 rfl) ?_
  refine j_getI hx hb (C := RX12) (T := TX12) (N := 41) hts inX12_readsNumber_X12 hown hK hS hW h0 rfl 12 rfl rfl (by decide) (hts _ flX12_readsNumber_180) dX12_readsNumber_1 ?_
  have := fbd hW h0 (k := 12) (lo := 0) (hi := 200) rfl rfl
  refine lv_istore_n (lv' := [(1, .int (jI (σ a0 12))), (0, .ref a0)]) hx hb dX12_readsNumber_4 rfl hl (by decide) rfl (fun ls hl => ?_)
  refine lv_aload_n hx hb dX12_readsNumber_5 rfl (lv_at hl 1 rfl) ?_
  refine j_cR (j_runV (As := []) (rest := []) hx hb hml hown hts hK hS hW (kX12_here l hS σ (a0 := a0) (h0 := h0)) 0 gX12_readsNumber_X12_here rfl hvX12_here ⟨Nat.le_of_ble_eq_true rfl, Nat.le_of_ble_eq_true rfl⟩ rfl rfl h0 rfl rfl rfl rfl hl.1 rfl (Nat.le_of_ble_eq_true rfl) dX12_readsNumber_6 ⟨Nat.le_of_ble_eq_true rfl, Nat.le_of_ble_eq_true rfl⟩) (fun v_1 rv_1 pv_1 => ?_)
  try dsimp only at pv_1
  have q_here := pv_1
  refine j_bi hx hb dX12_readsNumber_9 (by decide) ?_
  refine j_bi hx hb dX12_readsNumber_11 (by decide) ?_
  refine j_cR (j_runS (As := [.int (jI v_1), .int (jI 48), .int (jI 57)]) (rest := []) hx hb hml hown hts hK hW (kX12_in l hS σ (x0 := v_1) (r0 := (by omega)) (x1 := 48) (r1 := (by decide)) (x2 := 57) (r2 := (by decide))) 3 gX12_readsNumber_X12_in rfl hsX12_in ⟨Nat.le_of_ble_eq_true rfl, Nat.le_of_ble_eq_true rfl⟩ rfl rfl rfl hl.1 rfl (Nat.le_of_ble_eq_true rfl) dX12_readsNumber_13 ⟨Nat.le_of_ble_eq_true rfl, Nat.le_of_ble_eq_true rfl⟩) (fun v_2 rv_2 pv_2 => ?_)
  try dsimp only at pv_2
  have q_in := pv_2
  refine j_if_ne (tgt := 29) hx hb (by omega) dX12_readsNumber_16 (by decide) (fun c_3 => ?_) (fun c_3 => ?_)
  · refine lv_aload_n hx hb dX12_readsNumber_29 rfl (lv_at hl 1 rfl) ?_
    refine j_const hx hb dX12_readsNumber_30 ?_
    refine j_putI hx hb (C := RX12) (T := TX12) (N := 41) hts inX12_readsNumber_X12 tyX12 tyX12_ok nmX12 hown hK hS hA hW hF h0 rfl 15 (lo := -2147483648) (hi := 2147483647) rfl rfl (by decide) (hts _ flX12_readsNumber_195) rfl .int rfl (by omega) rfl rfl dX12_readsNumber_31 (fun σ_4 H locs e_5 hW hF => ?_)
    have hR := fr_up hR e_5 h0 13015 rfl (by decide)
    have Eplace0 : σ_4 a0 12 = σ a0 12 := fld_up e_5 h0 h0 (fun q => absurd q.2 (by decide))
    have Elength0 : σ_4 a0 13 = σ a0 13 := fld_up e_5 h0 h0 (fun q => absurd q.2 (by decide))
    have hfk : σ_4 a0 15 = 0 := by rw [e_5]; exact up2_at _ _ _ _
    have L_34 : ∀ (N : Nat) (σL_34 : Nat → Nat → Int) (H : Heap) (locs : List Loc) (ls : Array Slot), N = (300 - σL_34 a0 12 : Int).toNat → (σ a0 12 ≤ σL_34 a0 12) → (σL_34 a0 12 ≤ 200) → PW D cA τ G L σL_34 H → va_S (fun q => q ∈ L) s.heap H locs → fr wr_X12_readsNumber τ σ σL_34 → σL_34 a0 13 = σ a0 13 → lv_has ls 2 [(0, .ref a0), (1, .int (jI (σ a0 12)))] → W p l e ({ frames := 1, cells := 0, slots := 0, locals := 22 }) s m args below meth c H locs 0 0 Q (F0 m 34 ls []) := by
      intro N
      induction N using Nat.strongRecOn with
      | ind N ih_34 =>
        intro σL_34 H locs ls hN i0_34 i1_34 hW hF hR Elength0 hl
        refine lv_aload_n hx hb dX12_readsNumber_34 rfl (lv_at hl 0 rfl) ?_
        refine j_cR (j_runV (As := []) (rest := []) hx hb hml hown hts hK hS hW (kX12_here l hS σL_34 (a0 := a0) (h0 := h0)) 0 gX12_readsNumber_X12_here rfl hvX12_here ⟨Nat.le_of_ble_eq_true rfl, Nat.le_of_ble_eq_true rfl⟩ rfl rfl h0 rfl rfl rfl rfl hl.1 rfl (Nat.le_of_ble_eq_true rfl) dX12_readsNumber_35 ⟨Nat.le_of_ble_eq_true rfl, Nat.le_of_ble_eq_true rfl⟩) (fun v_6 rv_6 pv_6 => ?_)
        try dsimp only at pv_6
        try simp only [Elength0] at pv_6
        have q_here := pv_6
        refine j_bi hx hb dX12_readsNumber_38 (by decide) ?_
        refine j_bi hx hb dX12_readsNumber_40 (by decide) ?_
        refine j_cR (j_runS (As := [.int (jI v_6), .int (jI 48), .int (jI 57)]) (rest := []) hx hb hml hown hts hK hW (kX12_in l hS σL_34 (x0 := v_6) (r0 := (by omega)) (x1 := 48) (r1 := (by decide)) (x2 := 57) (r2 := (by decide))) 3 gX12_readsNumber_X12_in rfl hsX12_in ⟨Nat.le_of_ble_eq_true rfl, Nat.le_of_ble_eq_true rfl⟩ rfl rfl rfl hl.1 rfl (Nat.le_of_ble_eq_true rfl) dX12_readsNumber_42 ⟨Nat.le_of_ble_eq_true rfl, Nat.le_of_ble_eq_true rfl⟩) (fun v_7 rv_7 pv_7 => ?_)
        try dsimp only at pv_7
        try simp only [Elength0] at pv_7
        have q_in := pv_7
        refine j_if_eq (tgt := 100) hx hb (by omega) dX12_readsNumber_45 (by decide) (fun c_8 => ?_) (fun c_8 => ?_)
        · refine j_const hx hb dX12_readsNumber_100 ?_
          exact hRet 101 _ _ _ 1 _ dX12_readsNumber_101 hW hF (by omega) ⟨(by omega), hR⟩
        · refine lv_aload_n hx hb dX12_readsNumber_48 rfl (lv_at hl 0 rfl) ?_
          refine j_getI hx hb (C := RX12) (T := TX12) (N := 41) hts inX12_readsNumber_X12 hown hK hS hW h0 rfl 12 rfl rfl (by decide) (hts _ flX12_readsNumber_180) dX12_readsNumber_49 ?_
          have := fbd hW h0 (k := 12) (lo := 0) (hi := 200) rfl rfl
          refine lv_iload_n hx hb dX12_readsNumber_52 rfl (lv_at hl 1 rfl) ?_
          refine j_const hx hb dX12_readsNumber_53 ?_
          refine j_add hx hb dX12_readsNumber_54 ?_
          refine j_icmp_ne (tgt := 68) hx hb (by omega) (by omega) dX12_readsNumber_55 (by decide) (fun c_9 => ?_) (fun c_9 => ?_)
          · refine lv_aload_n hx hb dX12_readsNumber_68 rfl (lv_at hl 0 rfl) ?_
            refine j_bi hx hb dX12_readsNumber_69 (by decide) ?_
            refine lv_aload_n hx hb dX12_readsNumber_71 rfl (lv_at hl 0 rfl) ?_
            refine j_getI hx hb (C := RX12) (T := TX12) (N := 41) hts inX12_readsNumber_X12 hown hK hS hW h0 rfl 15 rfl rfl (by decide) (hts _ flX12_readsNumber_195) dX12_readsNumber_72 ?_
            have := fbd hW h0 (k := 15) (lo := -2147483648) (hi := 2147483647) rfl rfl
            refine j_mul hx hb dX12_readsNumber_75 ?_
            refine j_wrap (fun z_10 rz_10 ez_10 => ?_)
            refine lv_aload_n hx hb dX12_readsNumber_76 rfl (lv_at hl 0 rfl) ?_
            refine j_cR (j_runV (As := []) (rest := [.int (jI z_10), .ref a0]) hx hb hml hown hts hK hS hW (kX12_here l hS σL_34 (a0 := a0) (h0 := h0)) 0 gX12_readsNumber_X12_here rfl hvX12_here ⟨Nat.le_of_ble_eq_true rfl, Nat.le_of_ble_eq_true rfl⟩ rfl rfl h0 rfl rfl rfl rfl hl.1 rfl (Nat.le_of_ble_eq_true rfl) dX12_readsNumber_77 ⟨Nat.le_of_ble_eq_true rfl, Nat.le_of_ble_eq_true rfl⟩) (fun v_11 rv_11 pv_11 => ?_)
            try dsimp only at pv_11
            try simp only [Elength0] at pv_11
            have q_here := pv_11
            refine j_add hx hb dX12_readsNumber_80 ?_
            refine j_wrap (fun z_12 rz_12 ez_12 => ?_)
            refine j_bi hx hb dX12_readsNumber_81 (by decide) ?_
            refine j_sub hx hb dX12_readsNumber_83 ?_
            refine j_wrap (fun z_13 rz_13 ez_13 => ?_)
            refine j_putI hx hb (C := RX12) (T := TX12) (N := 41) hts inX12_readsNumber_X12 tyX12 tyX12_ok nmX12 hown hK hS hA hW hF h0 rfl 15 (lo := -2147483648) (hi := 2147483647) rfl rfl (by decide) (hts _ flX12_readsNumber_195) rfl .int rfl (by omega) rfl rfl dX12_readsNumber_84 (fun σ_14 H locs e_15 hW hF => ?_)
            have hR := fr_up hR e_15 h0 13015 rfl (by decide)
            have Eplace0 : σ_14 a0 12 = σL_34 a0 12 := fld_up e_15 h0 h0 (fun q => absurd q.2 (by decide))
            have Elength0 : σ_14 a0 13 = σ a0 13 := (fld_up e_15 h0 h0 (fun q => absurd q.2 (by decide))).trans Elength0
            have hfk : σ_14 a0 15 = z_13 := by rw [e_15]; exact up2_at _ _ _ _
            refine lv_aload_n hx hb dX12_readsNumber_87 rfl (lv_at hl 0 rfl) ?_
            refine lv_aload_n hx hb dX12_readsNumber_88 rfl (lv_at hl 0 rfl) ?_
            refine j_getI hx hb (C := RX12) (T := TX12) (N := 41) hts inX12_readsNumber_X12 hown hK hS hW h0 rfl 12 rfl rfl (by decide) (hts _ flX12_readsNumber_180) dX12_readsNumber_89 ?_
            rw [Eplace0]
            refine j_const hx hb dX12_readsNumber_92 ?_
            refine j_add hx hb dX12_readsNumber_93 ?_
            refine j_putI hx hb (C := RX12) (T := TX12) (N := 41) hts inX12_readsNumber_X12 tyX12 tyX12_ok nmX12 hown hK hS hA hW hF h0 rfl 12 (lo := 0) (hi := 200) rfl rfl (by decide) (hts _ flX12_readsNumber_180) rfl .int rfl (by omega) rfl rfl dX12_readsNumber_94 (fun σ_16 H locs e_17 hW hF => ?_)
            have hR := fr_up hR e_17 h0 13012 rfl (by decide)
            have Elength0 : σ_16 a0 13 = σ a0 13 := (fld_up e_17 h0 h0 (fun q => absurd q.2 (by decide))).trans Elength0
            have hfk : σ_16 a0 12 = (σL_34 a0 12) + 1 := by rw [e_17]; exact up2_at _ _ _ _
            refine lv_goto (tgt := 34) hx hb dX12_readsNumber_97 (by decide) ?_
            exact ih_34 ((300 - σ_16 a0 12 : Int).toNat) (by omega) σ_16 _ _ _ rfl (by omega) (by omega) hW hF hR Elength0 (lv_sub hl [0, 1] rfl)
          · refine lv_aload_n hx hb dX12_readsNumber_58 rfl (lv_at hl 0 rfl) ?_
            refine j_const hx hb dX12_readsNumber_59 ?_
            refine lv_aload_n hx hb dX12_readsNumber_60 rfl (lv_at hl 0 rfl) ?_
            refine j_getI hx hb (C := RX12) (T := TX12) (N := 41) hts inX12_readsNumber_X12 hown hK hS hW h0 rfl 12 rfl rfl (by decide) (hts _ flX12_readsNumber_180) dX12_readsNumber_61 ?_
            refine j_cI (j_runV (As := [.int (jI 2), .int (jI (σL_34 a0 12))]) (rest := []) hx hb hml hown hts hK hS hW (kX12_wrongAt l hS σL_34 (a0 := a0) (h0 := h0) (x1 := 2) (r1 := (by decide)) (x2 := σL_34 a0 12) (r2 := (by omega))) 2 gX12_readsNumber_X12_wrongAt rfl hvX12_wrongAt ⟨Nat.le_of_ble_eq_true rfl, Nat.le_of_ble_eq_true rfl⟩ rfl rfl h0 rfl rfl rfl rfl hl.1 rfl (Nat.le_of_ble_eq_true rfl) dX12_readsNumber_64 ⟨Nat.le_of_ble_eq_true rfl, Nat.le_of_ble_eq_true rfl⟩) hA hF (fun v_18 σ_19 H locs hW hF rv_18 pv_18 => ?_)
            try dsimp only at pv_18
            obtain ⟨bpv_18, pv_18, fpv_18⟩ := pv_18
            try simp only [Elength0] at pv_18
            have q_wrongAt := pv_18
            have hR := fr_call hR fpv_18 (by decide)
            have Eplace0 : σ_19 a0 12 = σL_34 a0 12 := fr_at fpv_18 h0 12 13012 rfl (by decide)
            have Elength0 : σ_19 a0 13 = σ a0 13 := (fr_at fpv_18 h0 13 13013 rfl (by decide)).trans Elength0
            exact hRet 67 _ _ _ v_18 _ dX12_readsNumber_67 hW hF (by omega) ⟨(by omega), hR⟩
    exact L_34 ((300 - σ_4 a0 12 : Int).toNat) σ_4 _ _ _ rfl (by omega) (by omega) hW hF hR Elength0 (lv_sub hl [1, 0] rfl)
  · refine lv_aload_n hx hb dX12_readsNumber_19 rfl (lv_at hl 1 rfl) ?_
    refine j_const hx hb dX12_readsNumber_20 ?_
    refine lv_aload_n hx hb dX12_readsNumber_21 rfl (lv_at hl 1 rfl) ?_
    refine j_getI hx hb (C := RX12) (T := TX12) (N := 41) hts inX12_readsNumber_X12 hown hK hS hW h0 rfl 12 rfl rfl (by decide) (hts _ flX12_readsNumber_180) dX12_readsNumber_22 ?_
    refine j_cI (j_runV (As := [.int (jI 1), .int (jI (σ a0 12))]) (rest := []) hx hb hml hown hts hK hS hW (kX12_wrongAt l hS σ (a0 := a0) (h0 := h0) (x1 := 1) (r1 := (by decide)) (x2 := σ a0 12) (r2 := (by omega))) 2 gX12_readsNumber_X12_wrongAt rfl hvX12_wrongAt ⟨Nat.le_of_ble_eq_true rfl, Nat.le_of_ble_eq_true rfl⟩ rfl rfl h0 rfl rfl rfl rfl hl.1 rfl (Nat.le_of_ble_eq_true rfl) dX12_readsNumber_25 ⟨Nat.le_of_ble_eq_true rfl, Nat.le_of_ble_eq_true rfl⟩) hA hF (fun v_20 σ_21 H locs hW hF rv_20 pv_20 => ?_)
    try dsimp only at pv_20
    obtain ⟨bpv_20, pv_20, fpv_20⟩ := pv_20
    have q_wrongAt := pv_20
    have hR := fr_call hR fpv_20 (by decide)
    have Eplace0 : σ_21 a0 12 = σ a0 12 := fr_at fpv_20 h0 12 13012 rfl (by decide)
    have Elength0 : σ_21 a0 13 = σ a0 13 := fr_at fpv_20 h0 13 13013 rfl (by decide)
    exact hRet 28 _ _ _ v_20 _ dX12_readsNumber_28 hW hF (by omega) ⟨(by omega), hR⟩
abbrev wr_X12_handsKey : List Nat := [13003, 41000]
theorem flX12_handsKey_13 : Cond.fieldLink RX12 13 "PageTrieModel" "hand" "[I" ∈ wsX12_handsKey := List.mem_of_getElem? (i := 2) rfl
theorem flX12_handsKey_22 : Cond.fieldLink RX12 22 "PageTrieModel" "tape" "[B" ∈ wsX12_handsKey := List.mem_of_getElem? (i := 3) rfl
theorem flX12_handsKey_70 : Cond.fieldLink RX12 70 "PageTrieModel" "handLong" "I" ∈ wsX12_handsKey := List.mem_of_getElem? (i := 1) rfl
theorem inX12_handsKey_X12 : ∀ w ∈ u_ws RX12 TX12 41, w ∈ wsX12_handsKey := mem_r _ [4, 5, 6, 7, 8, 9, 10, 11, 12, 13, 14, 15, 16, 17, 18, 19, 20, 21, 22, 23, 24, 25, 26, 27, 28, 29, 30, 31, 32, 33, 34, 35, 36, 37, 38, 39, 40, 41, 42, 43, 44] rfl
theorem hvX12_handsKey : yX12_handsKey.cls = RX12 ∧ yX12_handsKey.cls ≠ "java/lang/invoke/MethodHandle" ∧ yX12_handsKey.cls ≠ "java/lang/invoke/VarHandle" ∧ (parseMethodDescriptor yX12_handsKey.desc).map (fun d => d.parameters.length) = some 2 := by decide +kernel
set_option maxHeartbeats 4000000 in
set_option maxRecDepth 100000 in
theorem kX12_handsKey (l : Launch) {D : va_G} {cA : Nat → ClassId} {τ : Nat → Nat} {G : Nat → Nat → Nat} {L : List Nat} (hS : SW τ G L) (σ : Nat → Nat → Int) {a0 : Nat} (h0 : τ a0 = 13) {x1 : Int} (r1 : rg x1) {x2 : Int} (r2 : rg x2) (q0 : 0 ≤ x1) (q1 : x1 ≤ 200) (q2 : 0 ≤ x2) (q3 : x2 ≤ 24) : Met l yX12_handsKey wsX12_handsKey ({ frames := 0, cells := 0, slots := 0, locals := 0 }) (jP D cA τ G L σ [.ref a0, .int (jI x1), .int (jI x2)]) (jQV D cA τ G L (fun σ' => ((σ' a0 3 = x2)) ∧ fr wr_X12_handsKey τ σ σ')) 0 0 (fun q => q ∈ L) := by
  refine j_metV (by decide +kernel) rfl (Nat.le_of_ble_eq_true rfl) ?_
  intro p e s m args below meth c Q hx hb hml hown hts hK hW hRet ls hl
  have hl : lv_has ls 4 [(0, .ref a0), (1, .int (jI x1)), (2, .int (jI x2))] := hl
  have hA : ∀ q ∈ L, (fun q => q ∈ L) q := fun _ h => h
  have hF : va_S (fun q => q ∈ L) s.heap s.heap [] := va_S.rf
  have hR : fr wr_X12_handsKey τ σ σ := fr_rf
  refine lv_aload_n hx hb dX12_handsKey_0 rfl (lv_at hl 0 rfl) ?_
  refine lv_iload_n hx hb dX12_handsKey_1 rfl (lv_at hl 2 rfl) ?_
  refine j_putI hx hb (C := RX12) (T := TX12) (N := 41) hts inX12_handsKey_X12 tyX12 tyX12_ok nmX12 hown hK hS hA hW hF h0 rfl 3 (lo := 0) (hi := 24) rfl rfl (by decide) (hts _ flX12_handsKey_70) rfl .int rfl (by omega) rfl rfl dX12_handsKey_2 (fun σ_1 H locs e_2 hW hF => ?_)
  have hR := fr_up hR e_2 h0 13003 rfl (by decide)
  have hfk : σ_1 a0 3 = x2 := by rw [e_2]; exact up2_at _ _ _ _
  have hx3 := hfk
  refine j_const hx hb dX12_handsKey_5 ?_
  refine lv_istore_n (lv' := [(3, .int (jI 0)), (0, .ref a0), (1, .int (jI x1)), (2, .int (jI x2))]) hx hb dX12_handsKey_6 rfl hl (by decide) rfl (fun ls hl => ?_)
  have L_7 : ∀ (N : Nat) (v3_7 : Int) (σL_7 : Nat → Nat → Int) (H : Heap) (locs : List Loc) (ls : Array Slot), N = (2147483647 - v3_7 : Int).toNat → (0 ≤ v3_7) → rg v3_7 → PW D cA τ G L σL_7 H → va_S (fun q => q ∈ L) s.heap H locs → fr wr_X12_handsKey τ σ σL_7 → σL_7 a0 3 = σ_1 a0 3 → lv_has ls 4 [(0, .ref a0), (1, .int (jI x1)), (2, .int (jI x2)), (3, .int (jI v3_7))] → W p l e ({ frames := 0, cells := 0, slots := 0, locals := 0 }) s m args below meth c H locs 0 0 Q (F0 m 7 ls []) := by
    intro N
    induction N using Nat.strongRecOn with
    | ind N ih_7 =>
      intro v3_7 σL_7 H locs ls hN i0_7 rv3_7 hW hF hR Ehl hl
      refine lv_iload_n hx hb dX12_handsKey_7 rfl (lv_at hl 3 rfl) ?_
      refine lv_iload_n hx hb dX12_handsKey_8 rfl (lv_at hl 2 rfl) ?_
      refine j_icmp_ge (tgt := 36) hx hb (by omega) (by omega) dX12_handsKey_9 (by decide) (fun c_3 => ?_) (fun c_3 => ?_)
      · exact hRet 36 _ _ _ _ dX12_handsKey_36 hW hF ⟨(by omega), hR⟩
      · refine lv_aload_n hx hb dX12_handsKey_12 rfl (lv_at hl 0 rfl) ?_
        refine j_getR hx hb (C := RX12) (T := TX12) (N := 41) hts inX12_handsKey_X12 hown hK hS hW h0 rfl 2 rfl rfl (by decide) (hts _ flX12_handsKey_13) dX12_handsKey_13 ?_
        have h_4 : τ (G a0 2) = 41 := gty hS h0 (k := 2) rfl rfl
        refine lv_iload_n hx hb dX12_handsKey_16 rfl (lv_at hl 3 rfl) ?_
        refine lv_aload_n hx hb dX12_handsKey_17 rfl (lv_at hl 0 rfl) ?_
        refine j_getR hx hb (C := RX12) (T := TX12) (N := 41) hts inX12_handsKey_X12 hown hK hS hW h0 rfl 10 rfl rfl (by decide) (hts _ flX12_handsKey_22) dX12_handsKey_18 ?_
        have h_5 : τ (G a0 10) = 44 := gty hS h0 (k := 10) rfl rfl
        refine lv_iload_n hx hb dX12_handsKey_21 rfl (lv_at hl 1 rfl) ?_
        refine lv_iload_n hx hb dX12_handsKey_22 rfl (lv_at hl 3 rfl) ?_
        refine j_add hx hb dX12_handsKey_23 ?_
        refine j_bald hx hb hK hS hW h_5 (n := 240) rfl (by omega) (by omega) (by decide) dX12_handsKey_24 ?_
        have := abd hW h_5 (n := 240) (lo := -128) (hi := 127) (i := x1 + v3_7) rfl (by omega) (by omega)
        refine j_si hx hb dX12_handsKey_25 (by decide) ?_
        refine j_and255 hx hb dX12_handsKey_28 ?_
        refine j_ast hx hb hK hS hA hW hF h_4 (n := 24) (lo := 0) (hi := 255) rfl (by omega) (by omega) (by decide) (by omega) dX12_handsKey_29 (fun σ_6 H locs e_7 hW hF => ?_)
        have st_hand := e_7
        have hR := fr_up hR e_7 h_4 41000 (cdA 41 (by decide) _) (by decide)
        have Ehl : σ_6 a0 3 = σ_1 a0 3 := (fld_up e_7 h_4 h0 (fun q => absurd q.1 (by decide))).trans Ehl
        refine j_iinc (lv' := [(3, .int (jI (v3_7 + 1))), (0, .ref a0), (1, .int (jI x1)), (2, .int (jI x2))]) hx hb dX12_handsKey_30 hl (k := 3) rfl (by decide) rfl (fun ls hl => ?_)
        refine lv_goto (tgt := 7) hx hb dX12_handsKey_33 (by decide) ?_
        exact ih_7 ((2147483647 - (v3_7 + 1) : Int).toNat) (by omega) (v3_7 + 1) σ_6 _ _ _ rfl (by omega) (by omega) hW hF hR Ehl (lv_sub hl [1, 2, 3, 0] rfl)
  exact L_7 ((2147483647 - 0 : Int).toNat) 0 σ_1 _ _ _ rfl (by omega) (by decide) hW hF hR rfl (lv_sub hl [1, 2, 3, 0] rfl)
theorem flX12_isText_147 : Cond.fieldLink RX12 147 "PageTrieModel" "taped" "I" ∈ wsX12_isText := List.mem_of_getElem? (i := 1) rfl
theorem inX12_isText_X12 : ∀ w ∈ u_ws RX12 TX12 41, w ∈ wsX12_isText := mem_r _ [6, 7, 8, 9, 10, 11, 12, 13, 14, 15, 16, 17, 18, 19, 20, 21, 22, 23, 24, 25, 26, 27, 28, 29, 30, 31, 32, 33, 34, 35, 36, 37, 38, 39, 40, 41, 42, 43, 44, 45, 46] rfl
theorem hvX12_isText : yX12_isText.cls = RX12 ∧ yX12_isText.cls ≠ "java/lang/invoke/MethodHandle" ∧ yX12_isText.cls ≠ "java/lang/invoke/VarHandle" ∧ (parseMethodDescriptor yX12_isText.desc).map (fun d => d.parameters.length) = some 3 := by decide +kernel
set_option maxHeartbeats 4000000 in
set_option maxRecDepth 100000 in
theorem kX12_isText (l : Launch) {D : va_G} {cA : Nat → ClassId} {τ : Nat → Nat} {G : Nat → Nat → Nat} {L : List Nat} (hS : SW τ G L) (σ : Nat → Nat → Int) {a0 : Nat} (h0 : τ a0 = 13) {x1 : Int} (r1 : rg x1) {x2 : Int} (r2 : rg x2) {x3 : Int} (r3 : rg x3) : Met l yX12_isText wsX12_isText ({ frames := 1, cells := 0, slots := 0, locals := 22 }) (jP D cA τ G L σ [.ref a0, .int (jI x1), .int (jI x2), .int (jI x3)]) (jQR (fun r => (0 ≤ r ∧ r ≤ 1) ∧ ((r = 1 ↔ (x2 ≤ x1 ∧ x1 ≤ x3 ∧ x1 ≤ σ a0 11))))) 0 0 (fun _ => False) := by
  refine j_metRZ (by decide +kernel) rfl (Nat.le_of_ble_eq_true rfl) ?_
  intro p e s m args below meth c Q hx hb hml hown hts hK hW hRet ls hl
  have hl : lv_has ls 4 [(0, .ref a0), (1, .int (jI x1)), (2, .int (jI x2)), (3, .int (jI x3))] := hl
  refine lv_iload_n hx hb dX12_isText_0 rfl (lv_at hl 1 rfl) ?_
  refine lv_iload_n hx hb dX12_isText_1 rfl (lv_at hl 2 rfl) ?_
  refine lv_iload_n hx hb dX12_isText_2 rfl (lv_at hl 3 rfl) ?_
  refine j_cR (j_runS (As := [.int (jI x1), .int (jI x2), .int (jI x3)]) (rest := []) hx hb hml hown hts hK hW (kX12_in l hS σ (x0 := x1) (r0 := (by omega)) (x1 := x2) (r1 := (by omega)) (x2 := x3) (r2 := (by omega))) 3 gX12_isText_X12_in rfl hsX12_in ⟨Nat.le_of_ble_eq_true rfl, Nat.le_of_ble_eq_true rfl⟩ rfl rfl rfl hl.1 rfl (Nat.le_of_ble_eq_true rfl) dX12_isText_3 ⟨Nat.le_of_ble_eq_true rfl, Nat.le_of_ble_eq_true rfl⟩) (fun v_1 rv_1 pv_1 => ?_)
  try dsimp only at pv_1
  have q_in := pv_1
  refine j_if_eq (tgt := 21) hx hb (by omega) dX12_isText_6 (by decide) (fun c_2 => ?_) (fun c_2 => ?_)
  · refine j_const hx hb dX12_isText_21 ?_
    exact hRet 22 _ 0 dX12_isText_22 (by omega) (by omega)
  · refine lv_iload_n hx hb dX12_isText_9 rfl (lv_at hl 1 rfl) ?_
    refine lv_aload_n hx hb dX12_isText_10 rfl (lv_at hl 0 rfl) ?_
    refine j_getI hx hb (C := RX12) (T := TX12) (N := 41) hts inX12_isText_X12 hown hK hS hW h0 rfl 11 rfl rfl (by decide) (hts _ flX12_isText_147) dX12_isText_11 ?_
    have := fbd hW h0 (k := 11) (lo := 0) (hi := 240) rfl rfl
    refine j_icmp_gt (tgt := 21) hx hb (by omega) (by omega) dX12_isText_14 (by decide) (fun c_3 => ?_) (fun c_3 => ?_)
    · refine j_const hx hb dX12_isText_21 ?_
      exact hRet 22 _ 0 dX12_isText_22 (by omega) (by omega)
    · refine j_const hx hb dX12_isText_17 ?_
      refine lv_goto (tgt := 22) hx hb dX12_isText_18 (by decide) ?_
      exact hRet 22 _ 1 dX12_isText_22 (by omega) (by omega)
