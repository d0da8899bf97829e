theorem flX11_isTextTold_10 : Cond.fieldLink RX11 10 "PageTrie" "tape" "LPageTrie$Tape;" ∈ wsX11_isTextTold := List.mem_of_getElem? (i := 1) rfl
theorem flX11_isTextTold_95 : Cond.fieldLink RX11 95 "PageTrie$Tape" "length" "I" ∈ wsX11_isTextTold := List.mem_of_getElem? (i := 2) rfl
theorem inX11_isTextTold_X11 : ∀ w ∈ u_ws RX11 TX11 12, w ∈ wsX11_isTextTold := mem_r _ [3, 4, 5, 6, 7, 8, 9, 10, 11, 12, 13, 14] rfl
theorem inX11_isTextTold_X9 : ∀ w ∈ u_ws RX9 TX9 2, w ∈ wsX11_isTextTold := mem_r _ [15, 16] rfl
theorem hvX11_isTextTold : yX11_isTextTold.cls = RX11 ∧ yX11_isTextTold.cls ≠ "java/lang/invoke/MethodHandle" ∧ yX11_isTextTold.cls ≠ "java/lang/invoke/VarHandle" ∧ (parseMethodDescriptor yX11_isTextTold.desc).map (fun d => d.parameters.length) = some 3 := by decide +kernel
set_option maxHeartbeats 4000000 in
set_option maxRecDepth 100000 in
theorem kX11_isTextTold (l : Launch) {D : va_G} {cA : Nat → ClassId} {τ : Nat → Nat} {G : Nat → Nat → Nat} {L : List Nat} (hS : SW τ G L) (σ : Nat → Nat → Int) {a0 : Nat} (h0 : τ a0 = 12) {x1 : Int} (r1 : rg x1) {x2 : Int} (r2 : rg x2) {x3 : Int} (r3 : rg x3) : Met l yX11_isTextTold wsX11_isTextTold ({ frames := 0, cells := 0, slots := 0, locals := 0 }) (jP D cA τ G L σ [.ref a0, .int (jI x1), .int (jI x2), .int (jI x3)]) (jQR (fun r => (0 ≤ r ∧ r ≤ 1) ∧ (True))) 0 0 (fun _ => False) := by
  refine j_metRZ (by decide +kernel) rfl (Nat.le_of_ble_eq_true rfl) ?_
  intro p e s m args below meth c Q hx hb hml hown hts hK hW hRet ls hl
  have hl : lv_has ls 4 [(0, .ref a0), (1, .int (jI x1)), (2, .int (jI x2)), (3, .int (jI x3))] := hl
  refine lv_iload_n hx hb dX11_isTextTold_0 rfl (lv_at hl 1 rfl) ?_
  refine lv_iload_n hx hb dX11_isTextTold_1 rfl (lv_at hl 2 rfl) ?_
  refine j_icmp_lt (tgt := 25) hx hb (by omega) (by omega) dX11_isTextTold_2 (by decide) (fun c_1 => ?_) (fun c_1 => ?_)
  · refine j_const hx hb dX11_isTextTold_25 ?_
    exact hRet 26 _ 0 dX11_isTextTold_26 (by omega) trivial
  · refine lv_iload_n hx hb dX11_isTextTold_5 rfl (lv_at hl 1 rfl) ?_
    refine lv_iload_n hx hb dX11_isTextTold_6 rfl (lv_at hl 3 rfl) ?_
    refine j_icmp_gt (tgt := 25) hx hb (by omega) (by omega) dX11_isTextTold_7 (by decide) (fun c_2 => ?_) (fun c_2 => ?_)
    · refine j_const hx hb dX11_isTextTold_25 ?_
      exact hRet 26 _ 0 dX11_isTextTold_26 (by omega) trivial
    · refine lv_iload_n hx hb dX11_isTextTold_10 rfl (lv_at hl 1 rfl) ?_
      refine lv_aload_n hx hb dX11_isTextTold_11 rfl (lv_at hl 0 rfl) ?_
      refine j_getR hx hb (C := RX11) (T := TX11) (N := 12) hts inX11_isTextTold_X11 hown hK hS hW h0 rfl 0 rfl rfl (by decide) (hts _ flX11_isTextTold_10) dX11_isTextTold_12 ?_
      have h_3 : τ (G a0 0) = 10 := gty hS h0 (k := 0) rfl rfl
      refine j_getI hx hb (C := RX9) (T := TX9) (N := 2) hts inX11_isTextTold_X9 hown hK hS hW h_3 rfl 1 rfl rfl (by decide) (hts _ flX11_isTextTold_95) dX11_isTextTold_15 ?_
      have := fbd hW h_3 (k := 1) (lo := 0) (hi := 240) rfl rfl
      refine j_icmp_gt (tgt := 25) hx hb (by omega) (by omega) dX11_isTextTold_18 (by decide) (fun c_4 => ?_) (fun c_4 => ?_)
      · refine j_const hx hb dX11_isTextTold_25 ?_
        exact hRet 26 _ 0 dX11_isTextTold_26 (by omega) trivial
      · refine j_const hx hb dX11_isTextTold_21 ?_
        refine lv_goto (tgt := 26) hx hb dX11_isTextTold_22 (by decide) ?_
        exact hRet 26 _ 1 dX11_isTextTold_26 (by omega) trivial
theorem hvX11_isKeyTold : yX11_isKeyTold.cls = RX11 ∧ yX11_isKeyTold.cls ≠ "java/lang/invoke/MethodHandle" ∧ yX11_isKeyTold.cls ≠ "java/lang/invoke/VarHandle" ∧ (parseMethodDescriptor yX11_isKeyTold.desc).map (fun d => d.parameters.length) = some 1 := by decide +kernel
set_option maxHeartbeats 4000000 in
set_option maxRecDepth 100000 in
theorem kX11_isKeyTold (l : Launch) {D : va_G} {cA : Nat → ClassId} {τ : Nat → Nat} {G : Nat → Nat → Nat} {L : List Nat} (hS : SW τ G L) (σ : Nat → Nat → Int) {a0 : Nat} (h0 : τ a0 = 12) {x1 : Int} (r1 : rg x1) : Met l yX11_isKeyTold wsX11_isKeyTold ({ frames := 1, cells := 0, slots := 0, locals := 23 }) (jP D cA τ G L σ [.ref a0, .int (jI x1)]) (jQR (fun r => (0 ≤ r ∧ r ≤ 1) ∧ (True))) 0 0 (fun _ => False) := by
  refine j_metRZ (by decide +kernel) rfl (Nat.le_of_ble_eq_true rfl) ?_
  intro p e s m args below meth c Q hx hb hml hown hts hK hW hRet ls hl
  have hl : lv_has ls 2 [(0, .ref a0), (1, .int (jI x1))] := hl
  refine lv_aload_n hx hb dX11_isKeyTold_0 rfl (lv_at hl 0 rfl) ?_
  refine lv_iload_n hx hb dX11_isKeyTold_1 rfl (lv_at hl 1 rfl) ?_
  refine j_const hx hb dX11_isKeyTold_2 ?_
  refine j_bi hx hb dX11_isKeyTold_3 (by decide) ?_
  refine j_cR (j_runV (As := [.int (jI x1), .int (jI 1), .int (jI 24)]) (rest := []) hx hb hml hown hts hK hS hW (kX11_isTextTold l hS σ (a0 := a0) (h0 := h0) (x1 := x1) (r1 := (by omega)) (x2 := 1) (r2 := (by decide)) (x3 := 24) (r3 := (by decide))) 3 gX11_isKeyTold_X11_isTextTold rfl hvX11_isTextTold ⟨Nat.le_of_ble_eq_true rfl, Nat.le_of_ble_eq_true rfl⟩ rfl rfl h0 rfl rfl rfl rfl hl.1 rfl (Nat.le_of_ble_eq_true rfl) dX11_isKeyTold_5 ⟨Nat.le_of_ble_eq_true rfl, Nat.le_of_ble_eq_true rfl⟩) (fun v_1 rv_1 pv_1 => ?_)
  try dsimp only at pv_1
  exact hRet 8 _ v_1 dX11_isKeyTold_8 (by omega) trivial
abbrev wr_X11_readTold : List Nat := [3001, 10001, 20000]
theorem flX11_readTold_10 : Cond.fieldLink RX11 10 "PageTrie" "tape" "LPageTrie$Tape;" ∈ wsX11_readTold := List.mem_of_getElem? (i := 2) rfl
theorem flX11_readTold_28 : Cond.fieldLink RX11 28 "PageTrie" "told" "LPageTrie$Key;" ∈ wsX11_readTold := List.mem_of_getElem? (i := 1) rfl
theorem inX11_readTold_X11 : ∀ w ∈ u_ws RX11 TX11 12, w ∈ wsX11_readTold := mem_r _ [29, 30, 31, 32, 33, 34, 35, 36, 37, 38, 39, 40] rfl
theorem hvX11_readTold : yX11_readTold.cls = RX11 ∧ yX11_readTold.cls ≠ "java/lang/invoke/MethodHandle" ∧ yX11_readTold.cls ≠ "java/lang/invoke/VarHandle" ∧ (parseMethodDescriptor yX11_readTold.desc).map (fun d => d.parameters.length) = some 1 := by decide +kernel
set_option maxHeartbeats 4000000 in
set_option maxRecDepth 100000 in
theorem kX11_readTold (l : Launch) {D : va_G} {cA : Nat → ClassId} {τ : Nat → Nat} {G : Nat → Nat → Nat} {L : List Nat} (hS : SW τ G L) (σ : Nat → Nat → Int) {a0 : Nat} (h0 : τ a0 = 12) {x1 : Int} (r1 : rg x1) : Met l yX11_readTold wsX11_readTold ({ frames := 1, cells := 0, slots := 0, locals := 21 }) (jP D cA τ G L σ [.ref a0, .int (jI x1)]) (jQI D cA τ G L (fun r σ' => (0 ≤ r ∧ r ≤ 1) ∧ ((True) ∧ fr wr_X11_readTold τ σ σ'))) 0 0 (fun q => q ∈ L) := by
  refine j_metZ (by decide +kernel) rfl (Nat.le_of_ble_eq_true rfl) ?_
  intro p e s m args below meth c Q hx hb hml hown hts hK hW hRet ls hl
  have hl : lv_has ls 5 [(0, .ref a0), (1, .int (jI x1))] := hl
  have hA : ∀ q ∈ L, (fun q => q ∈ L) q := fun _ h => h
  have hF : va_S (fun q => q ∈ L) s.heap s.heap [] := va_S.rf
  have hR : fr wr_X11_readTold τ σ σ := fr_rf
  refine j_const hx hb dX11_readTold_0 ?_
  refine lv_istore_n (lv' := [(2, .int (jI 1)), (0, .ref a0), (1, .int (jI x1))]) hx hb dX11_readTold_1 rfl hl (by decide) rfl (fun ls hl => ?_)
  refine lv_aload_n hx hb dX11_readTold_2 rfl (lv_at hl 1 rfl) ?_
  refine j_getR hx hb (C := RX11) (T := TX11) (N := 12) hts inX11_readTold_X11 hown hK hS hW h0 rfl 2 rfl rfl (by decide) (hts _ flX11_readTold_28) dX11_readTold_3 ?_
  have h_1 : τ (G a0 2) = 3 := gty hS h0 (k := 2) rfl rfl
  refine j_cV (j_runV (As := []) (rest := []) hx hb hml hown hts hK hS hW (kX2_clear l hS σ (a0 := G a0 2) (h0 := h_1)) 0 gX11_readTold_X2_clear rfl hvX2_clear ⟨Nat.le_of_ble_eq_true rfl, Nat.le_of_ble_eq_true rfl⟩ rfl rfl h_1 rfl rfl rfl rfl hl.1 rfl (Nat.le_of_ble_eq_true rfl) dX11_readTold_6 ⟨Nat.le_of_ble_eq_true rfl, Nat.le_of_ble_eq_true rfl⟩) hA hF (fun σ_2 H locs hW hF pσ_2 => ?_)
  try dsimp only at pσ_2
  obtain ⟨pσ_2, fpσ_2⟩ := pσ_2
  have hR := fr_call hR fpσ_2 (by decide)
  refine j_const hx hb dX11_readTold_9 ?_
  refine lv_istore_n (lv' := [(3, .int (jI 0)), (2, .int (jI 1)), (0, .ref a0), (1, .int (jI x1))]) hx hb dX11_readTold_10 rfl hl (by decide) rfl (fun ls hl => ?_)
  have L_11 : ∀ (N : Nat) (v2_11 v3_11 : Int) (σ_11 : Nat → Nat → Int) (H : Heap) (locs : List Loc) (ls : Array Slot), N = (2147483647 - v3_11 : Int).toNat → (0 ≤ v3_11) → (0 ≤ v2_11) → (v2_11 ≤ 1) → rg v2_11 → rg v3_11 → PW D cA τ G L σ_11 H → va_S (fun q => q ∈ L) s.heap H locs → fr wr_X11_readTold τ σ σ_11 → lv_has ls 5 [(0, .ref a0), (1, .int (jI x1)), (2, .int (jI v2_11)), (3, .int (jI v3_11))] → W p l e ({ frames := 1, cells := 0, slots := 0, locals := 21 }) s m args below meth c H locs 0 0 Q (F0 m 11 ls []) := by
    intro N
    induction N using Nat.strongRecOn with
    | ind N ih_11 =>
      intro v2_11 v3_11 σ_11 H locs ls hN i0_11 i1_11 i2_11 rv2_11 rv3_11 hW hF hR hl
      refine lv_iload_n hx hb dX11_readTold_11 rfl (lv_at hl 3 rfl) ?_
      refine lv_iload_n hx hb dX11_readTold_12 rfl (lv_at hl 1 rfl) ?_
      refine j_icmp_ge (tgt := 62) hx hb (by omega) (by omega) dX11_readTold_13 (by decide) (fun c_3 => ?_) (fun c_3 => ?_)
      · refine lv_aload_n hx hb dX11_readTold_62 rfl (lv_at hl 0 rfl) ?_
        refine j_getR hx hb (C := RX11) (T := TX11) (N := 12) hts inX11_readTold_X11 hown hK hS hW h0 rfl 0 rfl rfl (by decide) (hts _ flX11_readTold_10) dX11_readTold_63 ?_
        have h_4 : τ (G a0 0) = 10 := gty hS h0 (k := 0) rfl rfl
        refine j_cV (j_runV (As := []) (rest := []) hx hb hml hown hts hK hS hW (kX9_clear l hS σ_11 (a0 := G a0 0) (h0 := h_4)) 0 gX11_readTold_X9_clear rfl hvX9_clear ⟨Nat.le_of_ble_eq_true rfl, Nat.le_of_ble_eq_true rfl⟩ rfl rfl h_4 rfl rfl rfl rfl hl.1 rfl (Nat.le_of_ble_eq_true rfl) dX11_readTold_66 ⟨Nat.le_of_ble_eq_true rfl, Nat.le_of_ble_eq_true rfl⟩) hA hF (fun σ_5 H locs hW hF pσ_5 => ?_)
        try dsimp only at pσ_5
        obtain ⟨pσ_5, fpσ_5⟩ := pσ_5
        have hR := fr_call hR fpσ_5 (by decide)
        refine lv_iload_n hx hb dX11_readTold_69 rfl (lv_at hl 2 rfl) ?_
        exact hRet 70 _ _ _ v2_11 _ dX11_readTold_70 hW hF (by omega) ⟨trivial, hR⟩
      · refine lv_aload_n hx hb dX11_readTold_16 rfl (lv_at hl 0 rfl) ?_
        refine j_getR hx hb (C := RX11) (T := TX11) (N := 12) hts inX11_readTold_X11 hown hK hS hW h0 rfl 0 rfl rfl (by decide) (hts _ flX11_readTold_10) dX11_readTold_17 ?_
        have h_6 : τ (G a0 0) = 10 := gty hS h0 (k := 0) rfl rfl
        refine lv_iload_n hx hb dX11_readTold_20 rfl (lv_at hl 3 rfl) ?_
        refine j_cR (j_runV (As := [.int (jI v3_11)]) (rest := []) hx hb hml hown hts hK hS hW (kX9_byteAt l hS σ_11 (a0 := G a0 0) (h0 := h_6) (x1 := v3_11) (r1 := (by omega))) 1 gX11_readTold_X9_byteAt rfl hvX9_byteAt ⟨Nat.le_of_ble_eq_true rfl, Nat.le_of_ble_eq_true rfl⟩ rfl rfl h_6 rfl rfl rfl rfl hl.1 rfl (Nat.le_of_ble_eq_true rfl) dX11_readTold_21 ⟨Nat.le_of_ble_eq_true rfl, Nat.le_of_ble_eq_true rfl⟩) (fun v_7 rv_7 pv_7 => ?_)
        try dsimp only at pv_7
        refine lv_istore (lv' := [(4, .int (jI v_7)), (0, .ref a0), (1, .int (jI x1)), (2, .int (jI v2_11)), (3, .int (jI v3_11))]) hx hb dX11_readTold_24 hl (by decide) rfl (fun ls hl => ?_)
        refine lv_iload_n hx hb dX11_readTold_26 rfl (lv_at hl 3 rfl) ?_
        refine j_if_eq (tgt := 54) hx hb (by omega) dX11_readTold_27 (by decide) (fun c_8 => ?_) (fun c_8 => ?_)
        · refine j_const hx hb dX11_readTold_54 ?_
          refine lv_istore_n (lv' := [(2, .int (jI 0)), (4, .int (jI v_7)), (0, .ref a0), (1, .int (jI x1)), (3, .int (jI v3_11))]) hx hb dX11_readTold_55 rfl hl (by decide) rfl (fun ls hl => ?_)
          refine j_iinc (lv' := [(3, .int (jI (v3_11 + 1))), (2, .int (jI 0)), (4, .int (jI v_7)), (0, .ref a0), (1, .int (jI x1))]) hx hb dX11_readTold_56 hl (k := 4) rfl (by decide) rfl (fun ls hl => ?_)
          refine lv_goto (tgt := 11) hx hb dX11_readTold_59 (by decide) ?_
          exact ih_11 ((2147483647 - (v3_11 + 1) : Int).toNat) (by omega) 0 (v3_11 + 1) σ_11 _ _ _ rfl (by omega) (by omega) (by omega) (by decide) (by omega) hW hF hR (lv_sub hl [3, 4, 1, 0] rfl)
        · refine lv_iload hx hb dX11_readTold_30 (lv_at hl 0 rfl) ?_
          refine j_cR (j_runS (As := [.int (jI v_7)]) (rest := []) hx hb hml hown hts hK hW (kX11_isKeyByte l hS σ_11 (x0 := v_7) (r0 := (by omega))) 1 gX11_readTold_X11_isKeyByte rfl hsX11_isKeyByte ⟨Nat.le_of_ble_eq_true rfl, Nat.le_of_ble_eq_true rfl⟩ rfl rfl rfl hl.1 rfl (Nat.le_of_ble_eq_true rfl) dX11_readTold_32 ⟨Nat.le_of_ble_eq_true rfl, Nat.le_of_ble_eq_true rfl⟩) (fun v_9 rv_9 pv_9 => ?_)
          try dsimp only at pv_9
          refine j_if_eq (tgt := 54) hx hb (by omega) dX11_readTold_35 (by decide) (fun c_10 => ?_) (fun c_10 => ?_)
          · refine j_const hx hb dX11_readTold_54 ?_
            refine lv_istore_n (lv' := [(2, .int (jI 0)), (4, .int (jI v_7)), (0, .ref a0), (1, .int (jI x1)), (3, .int (jI v3_11))]) hx hb dX11_readTold_55 rfl hl (by decide) rfl (fun ls hl => ?_)
            refine j_iinc (lv' := [(3, .int (jI (v3_11 + 1))), (2, .int (jI 0)), (4, .int (jI v_7)), (0, .ref a0), (1, .int (jI x1))]) hx hb dX11_readTold_56 hl (k := 4) rfl (by decide) rfl (fun ls hl => ?_)
            refine lv_goto (tgt := 11) hx hb dX11_readTold_59 (by decide) ?_
            exact ih_11 ((2147483647 - (v3_11 + 1) : Int).toNat) (by omega) 0 (v3_11 + 1) σ_11 _ _ _ rfl (by omega) (by omega) (by omega) (by decide) (by omega) hW hF hR (lv_sub hl [3, 4, 1, 0] rfl)
          · refine lv_aload_n hx hb dX11_readTold_38 rfl (lv_at hl 1 rfl) ?_
            refine j_getR hx hb (C := RX11) (T := TX11) (N := 12) hts inX11_readTold_X11 hown hK hS hW h0 rfl 2 rfl rfl (by decide) (hts _ flX11_readTold_28) dX11_readTold_39 ?_
            refine lv_iload hx hb dX11_readTold_42 (lv_at hl 0 rfl) ?_
            refine j_cI (j_runV (As := [.int (jI v_7)]) (rest := []) hx hb hml hown hts hK hS hW (kX2_add l hS σ_11 (a0 := G a0 2) (h0 := h_1) (x1 := v_7) (r1 := (by omega))) 1 gX11_readTold_X2_add rfl hvX2_add ⟨Nat.le_of_ble_eq_true rfl, Nat.le_of_ble_eq_true rfl⟩ rfl rfl h_1 rfl rfl rfl rfl hl.1 rfl (Nat.le_of_ble_eq_true rfl) dX11_readTold_44 ⟨Nat.le_of_ble_eq_true rfl, Nat.le_of_ble_eq_true rfl⟩) hA hF (fun v_11 σ_12 H locs hW hF rv_11 pv_11 => ?_)
            try dsimp only at pv_11
            obtain ⟨bpv_11, pv_11, fpv_11⟩ := pv_11
            have hR := fr_call hR fpv_11 (by decide)
            refine j_if_eq (tgt := 54) hx hb (by omega) dX11_readTold_47 (by decide) (fun c_13 => ?_) (fun c_13 => ?_)
            · refine j_const hx hb dX11_readTold_54 ?_
              refine lv_istore_n (lv' := [(2, .int (jI 0)), (4, .int (jI v_7)), (0, .ref a0), (1, .int (jI x1)), (3, .int (jI v3_11))]) hx hb dX11_readTold_55 rfl hl (by decide) rfl (fun ls hl => ?_)
              refine j_iinc (lv' := [(3, .int (jI (v3_11 + 1))), (2, .int (jI 0)), (4, .int (jI v_7)), (0, .ref a0), (1, .int (jI x1))]) hx hb dX11_readTold_56 hl (k := 4) rfl (by decide) rfl (fun ls hl => ?_)
              refine lv_goto (tgt := 11) hx hb dX11_readTold_59 (by decide) ?_
              exact ih_11 ((2147483647 - (v3_11 + 1) : Int).toNat) (by omega) 0 (v3_11 + 1) σ_12 _ _ _ rfl (by omega) (by omega) (by omega) (by decide) (by omega) hW hF hR (lv_sub hl [3, 4, 1, 0] rfl)
            · refine j_const hx hb dX11_readTold_50 ?_
              refine lv_goto (tgt := 55) hx hb dX11_readTold_51 (by decide) ?_
              refine lv_istore_n (lv' := [(2, .int (jI 1)), (4, .int (jI v_7)), (0, .ref a0), (1, .int (jI x1)), (3, .int (jI v3_11))]) hx hb dX11_readTold_55 rfl hl (by decide) rfl (fun ls hl => ?_)
              refine j_iinc (lv' := [(3, .int (jI (v3_11 + 1))), (2, .int (jI 1)), (4, .int (jI v_7)), (0, .ref a0), (1, .int (jI x1))]) hx hb dX11_readTold_56 hl (k := 4) rfl (by decide) rfl (fun ls hl => ?_)
              refine lv_goto (tgt := 11) hx hb dX11_readTold_59 (by decide) ?_
              exact ih_11 ((2147483647 - (v3_11 + 1) : Int).toNat) (by omega) 1 (v3_11 + 1) σ_12 _ _ _ rfl (by omega) (by omega) (by omega) (by decide) (by omega) hW hF hR (lv_sub hl [3, 4, 1, 0] rfl)
  exact L_11 ((2147483647 - 0 : Int).toNat) 1 0 σ_2 _ _ _ rfl (by omega) (by omega) (by omega) (by decide) (by decide) hW hF hR (lv_sub hl [2, 3, 1, 0] rfl)
abbrev wr_X11_readItems : List Nat := [3001, 6004, 8001, 8002, 8003, 10001, 20000, 27000]
theorem flX11_readItems_10 : Cond.fieldLink RX11 10 "PageTrie" "tape" "LPageTrie$Tape;" ∈ wsX11_readItems := List.mem_of_getElem? (i := 3) rfl
theorem flX11_readItems_21 : Cond.fieldLink RX11 21 "PageTrie" "reader" "LPageTrie$Reader;" ∈ wsX11_readItems := List.mem_of_getElem? (i := 1) rfl
theorem flX11_readItems_71 : Cond.fieldLink RX11 71 "PageTrie" "items" "LPageTrie$Orders;" ∈ wsX11_readItems := List.mem_of_getElem? (i := 2) rfl
theorem flX11_readItems_147 : Cond.fieldLink RX11 147 "PageTrie$Reader" "fault" "I" ∈ wsX11_readItems := List.mem_of_getElem? (i := 4) rfl
theorem inX11_readItems_X11 : ∀ w ∈ u_ws RX11 TX11 12, w ∈ wsX11_readItems := mem_r _ [95, 96, 97, 98, 99, 100, 101, 102, 103, 104, 105, 106] rfl
theorem inX11_readItems_X7 : ∀ w ∈ u_ws RX7 TX7 4, w ∈ wsX11_readItems := mem_r _ [107, 108, 109, 110] rfl
theorem hvX11_readItems : yX11_readItems.cls = RX11 ∧ yX11_readItems.cls ≠ "java/lang/invoke/MethodHandle" ∧ yX11_readItems.cls ≠ "java/lang/invoke/VarHandle" ∧ (parseMethodDescriptor yX11_readItems.desc).map (fun d => d.parameters.length) = some 1 := by decide +kernel
set_option maxHeartbeats 4000000 in
set_option maxRecDepth 100000 in
theorem kX11_readItems (l : Launch) {D : va_G} {cA : Nat → ClassId} {τ : Nat → Nat} {G : Nat → Nat → Nat} {L : List Nat} (hS : SW τ G L) (σ : Nat → Nat → Int) {a0 : Nat} (h0 : τ a0 = 12) {x1 : Int} (r1 : rg x1) : Met l yX11_readItems wsX11_readItems ({ frames := 5, cells := 0, slots := 0, locals := 112 }) (jP D cA τ G L σ [.ref a0, .int (jI x1)]) (jQI D cA τ G L (fun r σ' => (0 ≤ r ∧ r ≤ 1) ∧ ((True) ∧ fr wr_X11_readItems τ σ σ'))) 0 0 (fun q => q ∈ L) := by
  refine j_metZ (by decide +kernel) rfl (Nat.le_of_ble_eq_true rfl) ?_
  intro p e s m args below meth c Q hx hb hml hown hts hK hW hRet ls hl
  have hl : lv_has ls 2 [(0, .ref a0), (1, .int (jI x1))] := hl
  have hA : ∀ q ∈ L, (fun q => q ∈ L) q := fun _ h => h
  have hF : va_S (fun q => q ∈ L) s.heap s.heap [] := va_S.rf
  have hR : fr wr_X11_readItems τ σ σ := fr_rf
  refine lv_aload_n hx hb dX11_readItems_0 rfl (lv_at hl 0 rfl) ?_
  refine j_getR hx hb (C := RX11) (T := TX11) (N := 12) hts inX11_readItems_X11 hown hK hS hW h0 rfl 1 rfl rfl (by decide) (hts _ flX11_readItems_21) dX11_readItems_1 ?_
  have h_1 : τ (G a0 1) = 8 := gty hS h0 (k := 1) rfl rfl
  refine lv_iload_n hx hb dX11_readItems_4 rfl (lv_at hl 1 rfl) ?_
  refine j_cV (j_runV (As := [.int (jI x1)]) (rest := []) hx hb hml hown hts hK hS hW (kX7_open l hS σ (a0 := G a0 1) (h0 := h_1) (x1 := x1) (r1 := (by omega))) 1 gX11_readItems_X7_open rfl hvX7_open ⟨Nat.le_of_ble_eq_true rfl, Nat.le_of_ble_eq_true rfl⟩ rfl rfl h_1 rfl rfl rfl rfl hl.1 rfl (Nat.le_of_ble_eq_true rfl) dX11_readItems_5 ⟨Nat.le_of_ble_eq_true rfl, Nat.le_of_ble_eq_true rfl⟩) hA hF (fun σ_2 H locs hW hF pσ_2 => ?_)
  try dsimp only at pσ_2
  obtain ⟨pσ_2, fpσ_2⟩ := pσ_2
  have hR := fr_call hR fpσ_2 (by decide)
  refine lv_aload_n hx hb dX11_readItems_8 rfl (lv_at hl 0 rfl) ?_
  refine j_getR hx hb (C := RX11) (T := TX11) (N := 12) hts inX11_readItems_X11 hown hK hS hW h0 rfl 9 rfl rfl (by decide) (hts _ flX11_readItems_71) dX11_readItems_9 ?_
  have h_3 : τ (G a0 9) = 6 := gty hS h0 (k := 9) rfl rfl
  refine lv_aload_n hx hb dX11_readItems_12 rfl (lv_at hl 0 rfl) ?_
  refine j_getR hx hb (C := RX11) (T := TX11) (N := 12) hts inX11_readItems_X11 hown hK hS hW h0 rfl 1 rfl rfl (by decide) (hts _ flX11_readItems_21) dX11_readItems_13 ?_
  refine j_cV (j_runV (As := [.ref (G a0 1)]) (rest := []) hx hb hml hown hts hK hS hW (kX5_readFrom l hS σ_2 (a0 := G a0 9) (h0 := h_3) (a1 := G a0 1) (h1 := h_1)) 1 gX11_readItems_X5_readFrom rfl hvX5_readFrom ⟨Nat.le_of_ble_eq_true rfl, Nat.le_of_ble_eq_true rfl⟩ rfl rfl h_3 rfl rfl rfl rfl hl.1 rfl (Nat.le_of_ble_eq_true rfl) dX11_readItems_16 ⟨Nat.le_of_ble_eq_true rfl, Nat.le_of_ble_eq_true rfl⟩) hA hF (fun σ_4 H locs hW hF pσ_4 => ?_)
  try dsimp only at pσ_4
  obtain ⟨pσ_4, fpσ_4⟩ := pσ_4
  have hR := fr_call hR fpσ_4 (by decide)
  refine lv_aload_n hx hb dX11_readItems_19 rfl (lv_at hl 0 rfl) ?_
  refine j_getR hx hb (C := RX11) (T := TX11) (N := 12) hts inX11_readItems_X11 hown hK hS hW h0 rfl 0 rfl rfl (by decide) (hts _ flX11_readItems_10) dX11_readItems_20 ?_
  have h_5 : τ (G a0 0) = 10 := gty hS h0 (k := 0) rfl rfl
  refine j_cV (j_runV (As := []) (rest := []) hx hb hml hown hts hK hS hW (kX9_clear l hS σ_4 (a0 := G a0 0) (h0 := h_5)) 0 gX11_readItems_X9_clear rfl hvX9_clear ⟨Nat.le_of_ble_eq_true rfl, Nat.le_of_ble_eq_true rfl⟩ rfl rfl h_5 rfl rfl rfl rfl hl.1 rfl (Nat.le_of_ble_eq_true rfl) dX11_readItems_23 ⟨Nat.le_of_ble_eq_true rfl, Nat.le_of_ble_eq_true rfl⟩) hA hF (fun σ_6 H locs hW hF pσ_6 => ?_)
  try dsimp only at pσ_6
  obtain ⟨pσ_6, fpσ_6⟩ := pσ_6
  have hR := fr_call hR fpσ_6 (by decide)
  refine lv_aload_n hx hb dX11_readItems_26 rfl (lv_at hl 0 rfl) ?_
  refine j_getR hx hb (C := RX11) (T := TX11) (N := 12) hts inX11_readItems_X11 hown hK hS hW h0 rfl 1 rfl rfl (by decide) (hts _ flX11_readItems_21) dX11_readItems_27 ?_
  refine j_getI hx hb (C := RX7) (T := TX7) (N := 4) hts inX11_readItems_X7 hown hK hS hW h_1 rfl 3 rfl rfl (by decide) (hts _ flX11_readItems_147) dX11_readItems_30 ?_
  have := fbd hW h_1 (k := 3) (lo := -2147483648) (hi := 2147483647) rfl rfl
  refine j_if_ne (tgt := 40) hx hb (by omega) dX11_readItems_33 (by decide) (fun c_7 => ?_) (fun c_7 => ?_)
  · refine j_const hx hb dX11_readItems_40 ?_
    exact hRet 41 _ _ _ 0 _ dX11_readItems_41 hW hF (by omega) ⟨trivial, hR⟩
  · refine j_const hx hb dX11_readItems_36 ?_
    refine lv_goto (tgt := 41) hx hb dX11_readItems_37 (by decide) ?_
    exact hRet 41 _ _ _ 1 _ dX11_readItems_41 hW hF (by omega) ⟨trivial, hR⟩
abbrev wr_X11_feed : List Nat := [10001, 21000]
theorem flX11_feed_10 : Cond.fieldLink RX11 10 "PageTrie" "tape" "LPageTrie$Tape;" ∈ wsX11_feed := List.mem_of_getElem? (i := 1) rfl
theorem flX11_feed_95 : Cond.fieldLink RX11 95 "PageTrie$Tape" "length" "I" ∈ wsX11_feed := List.mem_of_getElem? (i := 2) rfl
theorem inX11_feed_X11 : ∀ w ∈ u_ws RX11 TX11 12, w ∈ wsX11_feed := mem_r _ [10, 11, 12, 13, 14, 15, 16, 17, 18, 19, 20, 21] rfl
theorem inX11_feed_X9 : ∀ w ∈ u_ws RX9 TX9 2, w ∈ wsX11_feed := mem_r _ [22, 23] rfl
theorem hvX11_feed : yX11_feed.cls = RX11 ∧ yX11_feed.cls ≠ "java/lang/invoke/MethodHandle" ∧ yX11_feed.cls ≠ "java/lang/invoke/VarHandle" ∧ (parseMethodDescriptor yX11_feed.desc).map (fun d => d.parameters.length) = some 5 := by decide +kernel
set_option maxHeartbeats 4000000 in
set_option maxRecDepth 100000 in
theorem kX11_feed (l : Launch) {D : va_G} {cA : Nat → ClassId} {τ : Nat → Nat} {G : Nat → Nat → Nat} {L : List Nat} (hS : SW τ G L) (σ : Nat → Nat → Int) {a0 : Nat} (h0 : τ a0 = 12) {x1 : Int} (r1 : rg x1) {x2 : Int} (r2 : rg x2) {x3 : Int} (r3 : rg x3) {x4 : Int} (r4 : rg x4) {x5 : Int} (r5 : rg x5) : Met l yX11_feed wsX11_feed ({ frames := 1, cells := 0, slots := 0, locals := 22 }) (jP D cA τ G L σ [.ref a0, .int (jI x1), .int (jI x2), .int (jI x3), .int (jI x4), .int (jI x5)]) (jQI D cA τ G L (fun r σ' => (True) ∧ fr wr_X11_feed τ σ σ')) 0 0 (fun q => q ∈ L) := by
  refine j_metI (by decide +kernel) rfl (Nat.le_of_ble_eq_true rfl) ?_
  intro p e s m args below meth c Q hx hb hml hown hts hK hW hRet ls hl
  have hl : lv_has ls 6 [(0, .ref a0), (1, .int (jI x1)), (2, .int (jI x2)), (3, .int (jI x3)), (4, .int (jI x4)), (5, .int (jI x5))] := hl
  have hA : ∀ q ∈ L, (fun q => q ∈ L) q := fun _ h => h
  have hF : va_S (fun q => q ∈ L) s.heap s.heap [] := va_S.rf
  have hR : fr wr_X11_feed τ σ σ := fr_rf
  refine lv_aload_n hx hb dX11_feed_0 rfl (lv_at hl 0 rfl) ?_
  refine j_getR hx hb (C := RX11) (T := TX11) (N := 12) hts inX11_feed_X11 hown hK hS hW h0 rfl 0 rfl rfl (by decide) (hts _ flX11_feed_10) dX11_feed_1 ?_
  have h_1 : τ (G a0 0) = 10 := gty hS h0 (k := 0) rfl rfl
  refine j_getI hx hb (C := RX9) (T := TX9) (N := 2) hts inX11_feed_X9 hown hK hS hW h_1 rfl 1 rfl rfl (by decide) (hts _ flX11_feed_95) dX11_feed_4 ?_
  have := fbd hW h_1 (k := 1) (lo := 0) (hi := 240) rfl rfl
  refine j_si hx hb dX11_feed_7 (by decide) ?_
  refine j_icmp_le (tgt := 15) hx hb (by omega) (by decide) dX11_feed_10 (by decide) (fun c_2 => ?_) (fun c_2 => ?_)
  · refine lv_aload_n hx hb dX11_feed_15 rfl (lv_at hl 0 rfl) ?_
    refine j_getR hx hb (C := RX11) (T := TX11) (N := 12) hts inX11_feed_X11 hown hK hS hW h0 rfl 0 rfl rfl (by decide) (hts _ flX11_feed_10) dX11_feed_16 ?_
    refine lv_iload_n hx hb dX11_feed_19 rfl (lv_at hl 1 rfl) ?_
    refine j_cV (j_runV (As := [.int (jI x1)]) (rest := []) hx hb hml hown hts hK hS hW (kX9_addWord l hS σ (a0 := G a0 0) (h0 := h_1) (x1 := x1) (r1 := (by omega))) 1 gX11_feed_X9_addWord rfl hvX9_addWord ⟨Nat.le_of_ble_eq_true rfl, Nat.le_of_ble_eq_true rfl⟩ rfl rfl h_1 rfl rfl rfl rfl hl.1 rfl (Nat.le_of_ble_eq_true rfl) dX11_feed_20 ⟨Nat.le_of_ble_eq_true rfl, Nat.le_of_ble_eq_true rfl⟩) hA hF (fun σ_3 H locs hW hF pσ_3 => ?_)
    try dsimp only at pσ_3
    obtain ⟨pσ_3, fpσ_3⟩ := pσ_3
    have hR := fr_call hR fpσ_3 (by decide)
    refine lv_aload_n hx hb dX11_feed_23 rfl (lv_at hl 0 rfl) ?_
    refine j_getR hx hb (C := RX11) (T := TX11) (N := 12) hts inX11_feed_X11 hown hK hS hW h0 rfl 0 rfl rfl (by decide) (hts _ flX11_feed_10) dX11_feed_24 ?_
    refine lv_iload_n hx hb dX11_feed_27 rfl (lv_at hl 2 rfl) ?_
    refine j_cV (j_runV (As := [.int (jI x2)]) (rest := []) hx hb hml hown hts hK hS hW (kX9_addWord l hS σ_3 (a0 := G a0 0) (h0 := h_1) (x1 := x2) (r1 := (by omega))) 1 gX11_feed_X9_addWord rfl hvX9_addWord ⟨Nat.le_of_ble_eq_true rfl, Nat.le_of_ble_eq_true rfl⟩ rfl rfl h_1 rfl rfl rfl rfl hl.1 rfl (Nat.le_of_ble_eq_true rfl) dX11_feed_28 ⟨Nat.le_of_ble_eq_true rfl, Nat.le_of_ble_eq_true rfl⟩) hA hF (fun σ_4 H locs hW hF pσ_4 => ?_)
    try dsimp only at pσ_4
    obtain ⟨pσ_4, fpσ_4⟩ := pσ_4
    have hR := fr_call hR fpσ_4 (by decide)
    refine lv_aload_n hx hb dX11_feed_31 rfl (lv_at hl 0 rfl) ?_
    refine j_getR hx hb (C := RX11) (T := TX11) (N := 12) hts inX11_feed_X11 hown hK hS hW h0 rfl 0 rfl rfl (by decide) (hts _ flX11_feed_10) dX11_feed_32 ?_
    refine lv_iload_n hx hb dX11_feed_35 rfl (lv_at hl 3 rfl) ?_
    refine j_cV (j_runV (As := [.int (jI x3)]) (rest := []) hx hb hml hown hts hK hS hW (kX9_addWord l hS σ_4 (a0 := G a0 0) (h0 := h_1) (x1 := x3) (r1 := (by omega))) 1 gX11_feed_X9_addWord rfl hvX9_addWord ⟨Nat.le_of_ble_eq_true rfl, Nat.le_of_ble_eq_true rfl⟩ rfl rfl h_1 rfl rfl rfl rfl hl.1 rfl (Nat.le_of_ble_eq_true rfl) dX11_feed_36 ⟨Nat.le_of_ble_eq_true rfl, Nat.le_of_ble_eq_true rfl⟩) hA hF (fun σ_5 H locs hW hF pσ_5 => ?_)
    try dsimp only at pσ_5
    obtain ⟨pσ_5, fpσ_5⟩ := pσ_5
    have hR := fr_call hR fpσ_5 (by decide)
    refine lv_aload_n hx hb dX11_feed_39 rfl (lv_at hl 0 rfl) ?_
    refine j_getR hx hb (C := RX11) (T := TX11) (N := 12) hts inX11_feed_X11 hown hK hS hW h0 rfl 0 rfl rfl (by decide) (hts _ flX11_feed_10) dX11_feed_40 ?_
    refine lv_iload hx hb dX11_feed_43 (lv_at hl 4 rfl) ?_
    refine j_cV (j_runV (As := [.int (jI x4)]) (rest := []) hx hb hml hown hts hK hS hW (kX9_addWord l hS σ_5 (a0 := G a0 0) (h0 := h_1) (x1 := x4) (r1 := (by omega))) 1 gX11_feed_X9_addWord rfl hvX9_addWord ⟨Nat.le_of_ble_eq_true rfl, Nat.le_of_ble_eq_true rfl⟩ rfl rfl h_1 rfl rfl rfl rfl hl.1 rfl (Nat.le_of_ble_eq_true rfl) dX11_feed_45 ⟨Nat.le_of_ble_eq_true rfl, Nat.le_of_ble_eq_true rfl⟩) hA hF (fun σ_6 H locs hW hF pσ_6 => ?_)
    try dsimp only at pσ_6
    obtain ⟨pσ_6, fpσ_6⟩ := pσ_6
    have hR := fr_call hR fpσ_6 (by decide)
    refine lv_aload_n hx hb dX11_feed_48 rfl (lv_at hl 0 rfl) ?_
    refine j_getR hx hb (C := RX11) (T := TX11) (N := 12) hts inX11_feed_X11 hown hK hS hW h0 rfl 0 rfl rfl (by decide) (hts _ flX11_feed_10) dX11_feed_49 ?_
    refine lv_iload hx hb dX11_feed_52 (lv_at hl 5 rfl) ?_
    refine j_cV (j_runV (As := [.int (jI x5)]) (rest := []) hx hb hml hown hts hK hS hW (kX9_addWord l hS σ_6 (a0 := G a0 0) (h0 := h_1) (x1 := x5) (r1 := (by omega))) 1 gX11_feed_X9_addWord rfl hvX9_addWord ⟨Nat.le_of_ble_eq_true rfl, Nat.le_of_ble_eq_true rfl⟩ rfl rfl h_1 rfl rfl rfl rfl hl.1 rfl (Nat.le_of_ble_eq_true rfl) dX11_feed_54 ⟨Nat.le_of_ble_eq_true rfl, Nat.le_of_ble_eq_true rfl⟩) hA hF (fun σ_7 H locs hW hF pσ_7 => ?_)
    try dsimp only at pσ_7
    obtain ⟨pσ_7, fpσ_7⟩ := pσ_7
    have hR := fr_call hR fpσ_7 (by decide)
    refine lv_aload_n hx hb dX11_feed_57 rfl (lv_at hl 0 rfl) ?_
    refine j_getR hx hb (C := RX11) (T := TX11) (N := 12) hts inX11_feed_X11 hown hK hS hW h0 rfl 0 rfl rfl (by decide) (hts _ flX11_feed_10) dX11_feed_58 ?_
    refine j_getI hx hb (C := RX9) (T := TX9) (N := 2) hts inX11_feed_X9 hown hK hS hW h_1 rfl 1 rfl rfl (by decide) (hts _ flX11_feed_95) dX11_feed_61 ?_
    have := fbd hW h_1 (k := 1) (lo := 0) (hi := 240) rfl rfl
    exact hRet 64 _ _ _ (σ_7 (G a0 0) 1) _ dX11_feed_64 hW hF (by omega) ⟨trivial, hR⟩
  · refine j_const hx hb dX11_feed_13 ?_
    exact hRet 14 _ _ _ (-1) _ dX11_feed_14 hW hF (by decide) ⟨trivial, hR⟩
abbrev wr_X11_begin : List Nat := [1001, 4003, 10001, 11001, 11002, 11005, 11006, 11007, 11008]
theorem flX11_begin_10 : Cond.fieldLink RX11 10 "PageTrie" "tape" "LPageTrie$Tape;" ∈ wsX11_begin := List.mem_of_getElem? (i := 3) rfl
theorem flX11_begin_35 : Cond.fieldLink RX11 35 "PageTrie" "now" "LPageTrie$State;" ∈ wsX11_begin := List.mem_of_getElem? (i := 1) rfl
theorem flX11_begin_58 : Cond.fieldLink RX11 58 "PageTrie$State" "trie" "LPageTrie$Trie;" ∈ wsX11_begin := List.mem_of_getElem? (i := 2) rfl
theorem inX11_begin_X11 : ∀ w ∈ u_ws RX11 TX11 12, w ∈ wsX11_begin := mem_r _ [37, 38, 39, 40, 41, 42, 43, 44, 45, 46, 47, 48] rfl
theorem inX11_begin_X8 : ∀ w ∈ u_ws RX8 TX8 3, w ∈ wsX11_begin := mem_r _ [49, 50, 51] rfl
theorem hvX11_begin : yX11_begin.cls = RX11 ∧ yX11_begin.cls ≠ "java/lang/invoke/MethodHandle" ∧ yX11_begin.cls ≠ "java/lang/invoke/VarHandle" ∧ (parseMethodDescriptor yX11_begin.desc).map (fun d => d.parameters.length) = some 2 := by decide +kernel
set_option maxHeartbeats 4000000 in
set_option maxRecDepth 100000 in
theorem kX11_begin (l : Launch) {D : va_G} {cA : Nat → ClassId} {τ : Nat → Nat} {G : Nat → Nat → Nat} {L : List Nat} (hS : SW τ G L) (σ : Nat → Nat → Int) {a0 : Nat} (h0 : τ a0 = 12) {x1 : Int} (r1 : rg x1) {x2 : Int} (r2 : rg x2) : Met l yX11_begin wsX11_begin ({ frames := 1, cells := 0, slots := 0, locals := 22 }) (jP D cA τ G L σ [.ref a0, .int (jI x1), .int (jI x2)]) (jQI D cA τ G L (fun r σ' => ((r = -1 ∨ r = 0) ∧ (r = 0 ↔ (1 ≤ x1 ∧ x1 ≤ 8 ∧ 2 ≤ x2 ∧ x2 ≤ 8))) ∧ fr wr_X11_begin τ σ σ')) 0 0 (fun q => q ∈ L) := by
  refine j_metI (by decide +kernel) rfl (Nat.le_of_ble_eq_true rfl) ?_
  intro p e s m args below meth c Q hx hb hml hown hts hK hW hRet ls hl
  have hl : lv_has ls 3 [(0, .ref a0), (1, .int (jI x1)), (2, .int (jI x2))] := hl
  have hA : ∀ q ∈ L, (fun q => q ∈ L) q := fun _ h => h
  have hF : va_S (fun q => q ∈ L) s.heap s.heap [] := va_S.rf
  have hR : fr wr_X11_begin τ σ σ := fr_rf
  refine lv_iload_n hx hb dX11_begin_0 rfl (lv_at hl 1 rfl) ?_
  refine j_cR (j_runS (As := [.int (jI x1)]) (rest := []) hx hb hml hown hts hK hW (kX11_isWidth l hS σ (x0 := x1) (r0 := (by omega))) 1 gX11_begin_X11_isWidth rfl hsX11_isWidth ⟨Nat.le_of_ble_eq_true rfl, Nat.le_of_ble_eq_true rfl⟩ rfl rfl rfl hl.1 rfl (Nat.le_of_ble_eq_true rfl) dX11_begin_1 ⟨Nat.le_of_ble_eq_true rfl, Nat.le_of_ble_eq_true rfl⟩) (fun v_1 rv_1 pv_1 => ?_)
  try dsimp only at pv_1
  refine j_if_eq (tgt := 14) hx hb (by omega) dX11_begin_4 (by decide) (fun c_2 => ?_) (fun c_2 => ?_)
  · refine j_const hx hb dX11_begin_14 ?_
    exact hRet 15 _ _ _ (-1) _ dX11_begin_15 hW hF (by decide) ⟨⟨by omega, by omega⟩, hR⟩
  · refine lv_iload_n hx hb dX11_begin_7 rfl (lv_at hl 2 rfl) ?_
    refine j_cR (j_runS (As := [.int (jI x2)]) (rest := []) hx hb hml hown hts hK hW (kX11_isRoom l hS σ (x0 := x2) (r0 := (by omega))) 1 gX11_begin_X11_isRoom rfl hsX11_isRoom ⟨Nat.le_of_ble_eq_true rfl, Nat.le_of_ble_eq_true rfl⟩ rfl rfl rfl hl.1 rfl (Nat.le_of_ble_eq_true rfl) dX11_begin_8 ⟨Nat.le_of_ble_eq_true rfl, Nat.le_of_ble_eq_true rfl⟩) (fun v_3 rv_3 pv_3 => ?_)
    try dsimp only at pv_3
    refine j_if_ne (tgt := 16) hx hb (by omega) dX11_begin_11 (by decide) (fun c_4 => ?_) (fun c_4 => ?_)
    · refine lv_aload_n hx hb dX11_begin_16 rfl (lv_at hl 0 rfl) ?_
      refine j_getR hx hb (C := RX11) (T := TX11) (N := 12) hts inX11_begin_X11 hown hK hS hW h0 rfl 3 rfl rfl (by decide) (hts _ flX11_begin_35) dX11_begin_17 ?_
      have h_5 : τ (G a0 3) = 9 := gty hS h0 (k := 3) rfl rfl
      refine j_getR hx hb (C := RX8) (T := TX8) (N := 3) hts inX11_begin_X8 hown hK hS hW h_5 rfl 0 rfl rfl (by decide) (hts _ flX11_begin_58) dX11_begin_20 ?_
      have h_6 : τ (G (G a0 3) 0) = 11 := gty hS h_5 (k := 0) rfl rfl
      refine lv_iload_n hx hb dX11_begin_23 rfl (lv_at hl 1 rfl) ?_
      refine lv_iload_n hx hb dX11_begin_24 rfl (lv_at hl 2 rfl) ?_
      refine j_cV (j_runV (As := [.int (jI x1), .int (jI x2)]) (rest := []) hx hb hml hown hts hK hS hW (kX10_clear l hS σ (a0 := G (G a0 3) 0) (h0 := h_6) (x1 := x1) (r1 := (by omega)) (x2 := x2) (r2 := (by omega))) 2 gX11_begin_X10_clear rfl hvX10_clear ⟨Nat.le_of_ble_eq_true rfl, Nat.le_of_ble_eq_true rfl⟩ rfl rfl h_6 rfl rfl rfl rfl hl.1 rfl (Nat.le_of_ble_eq_true rfl) dX11_begin_25 ⟨Nat.le_of_ble_eq_true rfl, Nat.le_of_ble_eq_true rfl⟩) hA hF (fun σ_7 H locs hW hF pσ_7 => ?_)
      try dsimp only at pσ_7
      obtain ⟨pσ_7, fpσ_7⟩ := pσ_7
      have hR := fr_call hR fpσ_7 (by decide)
      refine lv_aload_n hx hb dX11_begin_28 rfl (lv_at hl 0 rfl) ?_
      refine j_getR hx hb (C := RX11) (T := TX11) (N := 12) hts inX11_begin_X11 hown hK hS hW h0 rfl 3 rfl rfl (by decide) (hts _ flX11_begin_35) dX11_begin_29 ?_
      refine j_cV (j_runV (As := []) (rest := []) hx hb hml hown hts hK hS hW (kX8_forgetCursors l hS σ_7 (a0 := G a0 3) (h0 := h_5)) 0 gX11_begin_X8_forgetCursors rfl hvX8_forgetCursors ⟨Nat.le_of_ble_eq_true rfl, Nat.le_of_ble_eq_true rfl⟩ rfl rfl h_5 rfl rfl rfl rfl hl.1 rfl (Nat.le_of_ble_eq_true rfl) dX11_begin_32 ⟨Nat.le_of_ble_eq_true rfl, Nat.le_of_ble_eq_true rfl⟩) hA hF (fun σ_8 H locs hW hF pσ_8 => ?_)
      try dsimp only at pσ_8
      obtain ⟨pσ_8, fpσ_8⟩ := pσ_8
      have hR := fr_call hR fpσ_8 (by decide)
      refine lv_aload_n hx hb dX11_begin_35 rfl (lv_at hl 0 rfl) ?_
      refine j_getR hx hb (C := RX11) (T := TX11) (N := 12) hts inX11_begin_X11 hown hK hS hW h0 rfl 0 rfl rfl (by decide) (hts _ flX11_begin_10) dX11_begin_36 ?_
      have h_9 : τ (G a0 0) = 10 := gty hS h0 (k := 0) rfl rfl
      refine j_cV (j_runV (As := []) (rest := []) hx hb hml hown hts hK hS hW (kX9_clear l hS σ_8 (a0 := G a0 0) (h0 := h_9)) 0 gX11_begin_X9_clear rfl hvX9_clear ⟨Nat.le_of_ble_eq_true rfl, Nat.le_of_ble_eq_true rfl⟩ rfl rfl h_9 rfl rfl rfl rfl hl.1 rfl (Nat.le_of_ble_eq_true rfl) dX11_begin_39 ⟨Nat.le_of_ble_eq_true rfl, Nat.le_of_ble_eq_true rfl⟩) hA hF (fun σ_10 H locs hW hF pσ_10 => ?_)
      try dsimp only at pσ_10
      obtain ⟨pσ_10, fpσ_10⟩ := pσ_10
      have hR := fr_call hR fpσ_10 (by decide)
      refine j_const hx hb dX11_begin_42 ?_
      exact hRet 43 _ _ _ 0 _ dX11_begin_43 hW hF (by decide) ⟨⟨by omega, by omega⟩, hR⟩
    · refine j_const hx hb dX11_begin_14 ?_
      exact hRet 15 _ _ _ (-1) _ dX11_begin_15 hW hF (by decide) ⟨⟨by omega, by omega⟩, hR⟩
abbrev wr_X11_put : List Nat := [3001, 4003, 10001, 11005, 11007, 20000, 22000, 23000, 24000, 25000, 26000]
theorem flX11_put_28 : Cond.fieldLink RX11 28 "PageTrie" "told" "LPageTrie$Key;" ∈ wsX11_put := List.mem_of_getElem? (i := 3) rfl
theorem flX11_put_35 : Cond.fieldLink RX11 35 "PageTrie" "now" "LPageTrie$State;" ∈ wsX11_put := List.mem_of_getElem? (i := 1) rfl
theorem flX11_put_58 : Cond.fieldLink RX11 58 "PageTrie$State" "trie" "LPageTrie$Trie;" ∈ wsX11_put := List.mem_of_getElem? (i := 2) rfl
theorem inX11_put_X11 : ∀ w ∈ u_ws RX11 TX11 12, w ∈ wsX11_put := mem_r _ [171, 172, 173, 174, 175, 176, 177, 178, 179, 180, 181, 182] rfl
theorem inX11_put_X8 : ∀ w ∈ u_ws RX8 TX8 3, w ∈ wsX11_put := mem_r _ [183, 184, 185] rfl
theorem hvX11_put : yX11_put.cls = RX11 ∧ yX11_put.cls ≠ "java/lang/invoke/MethodHandle" ∧ yX11_put.cls ≠ "java/lang/invoke/VarHandle" ∧ (parseMethodDescriptor yX11_put.desc).map (fun d => d.parameters.length) = some 2 := by decide +kernel
set_option maxHeartbeats 4000000 in
set_option maxRecDepth 100000 in
theorem kX11_put (l : Launch) {D : va_G} {cA : Nat → ClassId} {τ : Nat → Nat} {G : Nat → Nat → Nat} {L : List Nat} (hS : SW τ G L) (σ : Nat → Nat → Int) {a0 : Nat} (h0 : τ a0 = 12) {x1 : Int} (r1 : rg x1) {x2 : Int} (r2 : rg x2) : Met l yX11_put wsX11_put ({ frames := 5, cells := 0, slots := 0, locals := 124 }) (jP D cA τ G L σ [.ref a0, .int (jI x1), .int (jI x2)]) (jQI D cA τ G L (fun r σ' => (True) ∧ fr wr_X11_put τ σ σ')) 0 0 (fun q => q ∈ L) := by
  refine j_metI (by decide +kernel) rfl (Nat.le_of_ble_eq_true rfl) ?_
  intro p e s m args below meth c Q hx hb hml hown hts hK hW hRet ls hl
  have hl : lv_has ls 3 [(0, .ref a0), (1, .int (jI x1)), (2, .int (jI x2))] := hl
  have hA : ∀ q ∈ L, (fun q => q ∈ L) q := fun _ h => h
  have hF : va_S (fun q => q ∈ L) s.heap s.heap [] := va_S.rf
  have hR : fr wr_X11_put τ σ σ := fr_rf
  refine lv_iload_n hx hb dX11_put_0 rfl (lv_at hl 2 rfl) ?_
  refine j_cR (j_runS (As := [.int (jI x2)]) (rest := []) hx hb hml hown hts hK hW (kX11_isValue l hS σ (x0 := x2) (r0 := (by omega))) 1 gX11_put_X11_isValue rfl hsX11_isValue ⟨Nat.le_of_ble_eq_true rfl, Nat.le_of_ble_eq_true rfl⟩ rfl rfl rfl hl.1 rfl (Nat.le_of_ble_eq_true rfl) dX11_put_1 ⟨Nat.le_of_ble_eq_true rfl, Nat.le_of_ble_eq_true rfl⟩) (fun v_1 rv_1 pv_1 => ?_)
  try dsimp only at pv_1
  refine j_if_eq (tgt := 15) hx hb (by omega) dX11_put_4 (by decide) (fun c_2 => ?_) (fun c_2 => ?_)
  · refine j_const hx hb dX11_put_15 ?_
    exact hRet 16 _ _ _ (-1) _ dX11_put_16 hW hF (by decide) ⟨trivial, hR⟩
  · refine lv_aload_n hx hb dX11_put_7 rfl (lv_at hl 0 rfl) ?_
    refine lv_iload_n hx hb dX11_put_8 rfl (lv_at hl 1 rfl) ?_
    refine j_cR (j_runV (As := [.int (jI x1)]) (rest := []) hx hb hml hown hts hK hS hW (kX11_isKeyTold l hS σ (a0 := a0) (h0 := h0) (x1 := x1) (r1 := (by omega))) 1 gX11_put_X11_isKeyTold rfl hvX11_isKeyTold ⟨Nat.le_of_ble_eq_true rfl, Nat.le_of_ble_eq_true rfl⟩ rfl rfl h0 rfl rfl rfl rfl hl.1 rfl (Nat.le_of_ble_eq_true rfl) dX11_put_9 ⟨Nat.le_of_ble_eq_true rfl, Nat.le_of_ble_eq_true rfl⟩) (fun v_3 rv_3 pv_3 => ?_)
    try dsimp only at pv_3
    refine j_if_ne (tgt := 17) hx hb (by omega) dX11_put_12 (by decide) (fun c_4 => ?_) (fun c_4 => ?_)
    · refine lv_aload_n hx hb dX11_put_17 rfl (lv_at hl 0 rfl) ?_
      refine lv_iload_n hx hb dX11_put_18 rfl (lv_at hl 1 rfl) ?_
      refine j_cI (j_runV (As := [.int (jI x1)]) (rest := []) hx hb hml hown hts hK hS hW (kX11_readTold l hS σ (a0 := a0) (h0 := h0) (x1 := x1) (r1 := (by omega))) 1 gX11_put_X11_readTold rfl hvX11_readTold ⟨Nat.le_of_ble_eq_true rfl, Nat.le_of_ble_eq_true rfl⟩ rfl rfl h0 rfl rfl rfl rfl hl.1 rfl (Nat.le_of_ble_eq_true rfl) dX11_put_19 ⟨Nat.le_of_ble_eq_true rfl, Nat.le_of_ble_eq_true rfl⟩) hA hF (fun v_5 σ_6 H locs hW hF rv_5 pv_5 => ?_)
      try dsimp only at pv_5
      obtain ⟨bpv_5, pv_5, fpv_5⟩ := pv_5
      have hR := fr_call hR fpv_5 (by decide)
      refine j_if_eq (tgt := 43) hx hb (by omega) dX11_put_22 (by decide) (fun c_7 => ?_) (fun c_7 => ?_)
      · refine j_bi hx hb dX11_put_43 (by decide) ?_
        exact hRet 45 _ _ _ (-2) _ dX11_put_45 hW hF (by decide) ⟨trivial, hR⟩
      · refine lv_aload_n hx hb dX11_put_25 rfl (lv_at hl 0 rfl) ?_
        refine j_getR hx hb (C := RX11) (T := TX11) (N := 12) hts inX11_put_X11 hown hK hS hW h0 rfl 3 rfl rfl (by decide) (hts _ flX11_put_35) dX11_put_26 ?_
        have h_8 : τ (G a0 3) = 9 := gty hS h0 (k := 3) rfl rfl
        refine j_getR hx hb (C := RX8) (T := TX8) (N := 3) hts inX11_put_X8 hown hK hS hW h_8 rfl 0 rfl rfl (by decide) (hts _ flX11_put_58) dX11_put_29 ?_
        have h_9 : τ (G (G a0 3) 0) = 11 := gty hS h_8 (k := 0) rfl rfl
        refine lv_aload_n hx hb dX11_put_32 rfl (lv_at hl 0 rfl) ?_
        refine j_getR hx hb (C := RX11) (T := TX11) (N := 12) hts inX11_put_X11 hown hK hS hW h0 rfl 2 rfl rfl (by decide) (hts _ flX11_put_28) dX11_put_33 ?_
        have h_10 : τ (G a0 2) = 3 := gty hS h0 (k := 2) rfl rfl
        refine lv_iload_n hx hb dX11_put_36 rfl (lv_at hl 2 rfl) ?_
        refine j_cI (j_runV (As := [.ref (G a0 2), .int (jI x2)]) (rest := []) hx hb hml hown hts hK hS hW (kX10_insertKey l hS σ_6 (a0 := G (G a0 3) 0) (h0 := h_9) (a1 := G a0 2) (h1 := h_10) (x2 := x2) (r2 := (by omega))) 2 gX11_put_X10_insertKey rfl hvX10_insertKey ⟨Nat.le_of_ble_eq_true rfl, Nat.le_of_ble_eq_true rfl⟩ rfl rfl h_9 rfl rfl rfl rfl hl.1 rfl (Nat.le_of_ble_eq_true rfl) dX11_put_37 ⟨Nat.le_of_ble_eq_true rfl, Nat.le_of_ble_eq_true rfl⟩) hA hF (fun v_11 σ_12 H locs hW hF rv_11 pv_11 => ?_)
        try dsimp only at pv_11
        obtain ⟨pv_11, fpv_11⟩ := pv_11
        have hR := fr_call hR fpv_11 (by decide)
        refine lv_goto (tgt := 45) hx hb dX11_put_40 (by decide) ?_
        exact hRet 45 _ _ _ v_11 _ dX11_put_45 hW hF (by omega) ⟨trivial, hR⟩
    · refine j_const hx hb dX11_put_15 ?_
      exact hRet 16 _ _ _ (-1) _ dX11_put_16 hW hF (by decide) ⟨trivial, hR⟩
abbrev wr_X11_take : List Nat := [3001, 4003, 10001, 11006, 11008, 20000, 22000, 23000, 24000, 25000, 26000]
theorem flX11_take_28 : Cond.fieldLink RX11 28 "PageTrie" "told" "LPageTrie$Key;" ∈ wsX11_take := List.mem_of_getElem? (i := 3) rfl
theorem flX11_take_35 : Cond.fieldLink RX11 35 "PageTrie" "now" "LPageTrie$State;" ∈ wsX11_take := List.mem_of_getElem? (i := 1) rfl
theorem flX11_take_58 : Cond.fieldLink RX11 58 "PageTrie$State" "trie" "LPageTrie$Trie;" ∈ wsX11_take := List.mem_of_getElem? (i := 2) rfl
theorem inX11_take_X11 : ∀ w ∈ u_ws RX11 TX11 12, w ∈ wsX11_take := mem_r _ [167, 168, 169, 170, 171, 172, 173, 174, 175, 176, 177, 178] rfl
theorem inX11_take_X8 : ∀ w ∈ u_ws RX8 TX8 3, w ∈ wsX11_take := mem_r _ [179, 180, 181] rfl
theorem hvX11_take : yX11_take.cls = RX11 ∧ yX11_take.cls ≠ "java/lang/invoke/MethodHandle" ∧ yX11_take.cls ≠ "java/lang/invoke/VarHandle" ∧ (parseMethodDescriptor yX11_take.desc).map (fun d => d.parameters.length) = some 1 := by decide +kernel
set_option maxHeartbeats 4000000 in
set_option maxRecDepth 100000 in
theorem kX11_take (l : Launch) {D : va_G} {cA : Nat → ClassId} {τ : Nat → Nat} {G : Nat → Nat → Nat} {L : List Nat} (hS : SW τ G L) (σ : Nat → Nat → Int) {a0 : Nat} (h0 : τ a0 = 12) {x1 : Int} (r1 : rg x1) : Met l yX11_take wsX11_take ({ frames := 5, cells := 0, slots := 0, locals := 122 }) (jP D cA τ G L σ [.ref a0, .int (jI x1)]) (jQI D cA τ G L (fun r σ' => (True) ∧ fr wr_X11_take τ σ σ')) 0 0 (fun q => q ∈ L) := by
  refine j_metI (by decide +kernel) rfl (Nat.le_of_ble_eq_true rfl) ?_
  intro p e s m args below meth c Q hx hb hml hown hts hK hW hRet ls hl
  have hl : lv_has ls 2 [(0, .ref a0), (1, .int (jI x1))] := hl
  have hA : ∀ q ∈ L, (fun q => q ∈ L) q := fun _ h => h
  have hF : va_S (fun q => q ∈ L) s.heap s.heap [] := va_S.rf
  have hR : fr wr_X11_take τ σ σ := fr_rf
  refine lv_aload_n hx hb dX11_take_0 rfl (lv_at hl 0 rfl) ?_
  refine lv_iload_n hx hb dX11_take_1 rfl (lv_at hl 1 rfl) ?_
  refine j_cR (j_runV (As := [.int (jI x1)]) (rest := []) hx hb hml hown hts hK hS hW (kX11_isKeyTold l hS σ (a0 := a0) (h0 := h0) (x1 := x1) (r1 := (by omega))) 1 gX11_take_X11_isKeyTold rfl hvX11_isKeyTold ⟨Nat.le_of_ble_eq_true rfl, Nat.le_of_ble_eq_true rfl⟩ rfl rfl h0 rfl rfl rfl rfl hl.1 rfl (Nat.le_of_ble_eq_true rfl) dX11_take_2 ⟨Nat.le_of_ble_eq_true rfl, Nat.le_of_ble_eq_true rfl⟩) (fun v_1 rv_1 pv_1 => ?_)
  try dsimp only at pv_1
  refine j_if_ne (tgt := 10) hx hb (by omega) dX11_take_5 (by decide) (fun c_2 => ?_) (fun c_2 => ?_)
  · refine lv_aload_n hx hb dX11_take_10 rfl (lv_at hl 0 rfl) ?_
    refine lv_iload_n hx hb dX11_take_11 rfl (lv_at hl 1 rfl) ?_
    refine j_cI (j_runV (As := [.int (jI x1)]) (rest := []) hx hb hml hown hts hK hS hW (kX11_readTold l hS σ (a0 := a0) (h0 := h0) (x1 := x1) (r1 := (by omega))) 1 gX11_take_X11_readTold rfl hvX11_readTold ⟨Nat.le_of_ble_eq_true rfl, Nat.le_of_ble_eq_true rfl⟩ rfl rfl h0 rfl rfl rfl rfl hl.1 rfl (Nat.le_of_ble_eq_true rfl) dX11_take_12 ⟨Nat.le_of_ble_eq_true rfl, Nat.le_of_ble_eq_true rfl⟩) hA hF (fun v_3 σ_4 H locs hW hF rv_3 pv_3 => ?_)
    try dsimp only at pv_3
    obtain ⟨bpv_3, pv_3, fpv_3⟩ := pv_3
    have hR := fr_call hR fpv_3 (by decide)
    refine j_if_eq (tgt := 35) hx hb (by omega) dX11_take_15 (by decide) (fun c_5 => ?_) (fun c_5 => ?_)
    · refine j_bi hx hb dX11_take_35 (by decide) ?_
      exact hRet 37 _ _ _ (-2) _ dX11_take_37 hW hF (by decide) ⟨trivial, hR⟩
    · refine lv_aload_n hx hb dX11_take_18 rfl (lv_at hl 0 rfl) ?_
      refine j_getR hx hb (C := RX11) (T := TX11) (N := 12) hts inX11_take_X11 hown hK hS hW h0 rfl 3 rfl rfl (by decide) (hts _ flX11_take_35) dX11_take_19 ?_
      have h_6 : τ (G a0 3) = 9 := gty hS h0 (k := 3) rfl rfl
      refine j_getR hx hb (C := RX8) (T := TX8) (N := 3) hts inX11_take_X8 hown hK hS hW h_6 rfl 0 rfl rfl (by decide) (hts _ flX11_take_58) dX11_take_22 ?_
      have h_7 : τ (G (G a0 3) 0) = 11 := gty hS h_6 (k := 0) rfl rfl
      refine lv_aload_n hx hb dX11_take_25 rfl (lv_at hl 0 rfl) ?_
      refine j_getR hx hb (C := RX11) (T := TX11) (N := 12) hts inX11_take_X11 hown hK hS hW h0 rfl 2 rfl rfl (by decide) (hts _ flX11_take_28) dX11_take_26 ?_
      have h_8 : τ (G a0 2) = 3 := gty hS h0 (k := 2) rfl rfl
      refine j_cI (j_runV (As := [.ref (G a0 2)]) (rest := []) hx hb hml hown hts hK hS hW (kX10_removeKey l hS σ_4 (a0 := G (G a0 3) 0) (h0 := h_7) (a1 := G a0 2) (h1 := h_8)) 1 gX11_take_X10_removeKey rfl hvX10_removeKey ⟨Nat.le_of_ble_eq_true rfl, Nat.le_of_ble_eq_true rfl⟩ rfl rfl h_7 rfl rfl rfl rfl hl.1 rfl (Nat.le_of_ble_eq_true rfl) dX11_take_29 ⟨Nat.le_of_ble_eq_true rfl, Nat.le_of_ble_eq_true rfl⟩) hA hF (fun v_9 σ_10 H locs hW hF rv_9 pv_9 => ?_)
      try dsimp only at pv_9
      obtain ⟨pv_9, fpv_9⟩ := pv_9
      have hR := fr_call hR fpv_9 (by decide)
      refine lv_goto (tgt := 37) hx hb dX11_take_32 (by decide) ?_
      exact hRet 37 _ _ _ v_9 _ dX11_take_37 hW hF (by omega) ⟨trivial, hR⟩
  · refine j_const hx hb dX11_take_8 ?_
    exact hRet 9 _ _ _ (-1) _ dX11_take_9 hW hF (by decide) ⟨trivial, hR⟩
abbrev wr_X11_orders : List Nat := [3001, 4003, 6004, 8001, 8002, 8003, 10001, 11005, 11006, 11007, 11008, 20000, 22000, 23000, 24000, 25000, 26000, 27000]
theorem flX11_orders_21 : Cond.fieldLink RX11 21 "PageTrie" "reader" "LPageTrie$Reader;" ∈ wsX11_orders := List.mem_of_getElem? (i := 4) rfl
theorem flX11_orders_35 : Cond.fieldLink RX11 35 "PageTrie" "now" "LPageTrie$State;" ∈ wsX11_orders := List.mem_of_getElem? (i := 2) rfl
theorem flX11_orders_58 : Cond.fieldLink RX11 58 "PageTrie$State" "trie" "LPageTrie$Trie;" ∈ wsX11_orders := List.mem_of_getElem? (i := 3) rfl
theorem flX11_orders_71 : Cond.fieldLink RX11 71 "PageTrie" "items" "LPageTrie$Orders;" ∈ wsX11_orders := List.mem_of_getElem? (i := 1) rfl
theorem flX11_orders_147 : Cond.fieldLink RX11 147 "PageTrie$Reader" "fault" "I" ∈ wsX11_orders := List.mem_of_getElem? (i := 5) rfl
theorem inX11_orders_X11 : ∀ w ∈ u_ws RX11 TX11 12, w ∈ wsX11_orders := mem_r _ [277, 278, 279, 280, 281, 282, 283, 284, 285, 286, 287, 288] rfl
theorem inX11_orders_X7 : ∀ w ∈ u_ws RX7 TX7 4, w ∈ wsX11_orders := mem_r _ [292, 293, 294, 295] rfl
theorem inX11_orders_X8 : ∀ w ∈ u_ws RX8 TX8 3, w ∈ wsX11_orders := mem_r _ [289, 290, 291] rfl
theorem hvX11_orders : yX11_orders.cls = RX11 ∧ yX11_orders.cls ≠ "java/lang/invoke/MethodHandle" ∧ yX11_orders.cls ≠ "java/lang/invoke/VarHandle" ∧ (parseMethodDescriptor yX11_orders.desc).map (fun d => d.parameters.length) = some 1 := by decide +kernel
set_option maxHeartbeats 4000000 in
set_option maxRecDepth 100000 in
theorem kX11_orders (l : Launch) {D : va_G} {cA : Nat → ClassId} {τ : Nat → Nat} {G : Nat → Nat → Nat} {L : List Nat} (hS : SW τ G L) (σ : Nat → Nat → Int) {a0 : Nat} (h0 : τ a0 = 12) {x1 : Int} (r1 : rg x1) : Met l yX11_orders wsX11_orders ({ frames := 6, cells := 0, slots := 0, locals := 147 }) (jP D cA τ G L σ [.ref a0, .int (jI x1)]) (jQI D cA τ G L (fun r σ' => (True) ∧ fr wr_X11_orders τ σ σ')) 0 0 (fun q => q ∈ L) := by
  refine j_metI (by decide +kernel) rfl (Nat.le_of_ble_eq_true rfl) ?_
  intro p e s m args below meth c Q hx hb hml hown hts hK hW hRet ls hl
  have hl : lv_has ls 2 [(0, .ref a0), (1, .int (jI x1))] := hl
  have hA : ∀ q ∈ L, (fun q => q ∈ L) q := fun _ h => h
  have hF : va_S (fun q => q ∈ L) s.heap s.heap [] := va_S.rf
  have hR : fr wr_X11_orders τ σ σ := fr_rf
  refine lv_aload_n hx hb dX11_orders_0 rfl (lv_at hl 0 rfl) ?_
  refine lv_iload_n hx hb dX11_orders_1 rfl (lv_at hl 1 rfl) ?_
  refine j_const hx hb dX11_orders_2 ?_
  refine j_si hx hb dX11_orders_3 (by decide) ?_
  refine j_cR (j_runV (As := [.int (jI x1), .int (jI 1), .int (jI 200)]) (rest := []) hx hb hml hown hts hK hS hW (kX11_isTextTold l hS σ (a0 := a0) (h0 := h0) (x1 := x1) (r1 := (by omega)) (x2 := 1) (r2 := (by decide)) (x3 := 200) (r3 := (by decide))) 3 gX11_orders_X11_isTextTold rfl hvX11_isTextTold ⟨Nat.le_of_ble_eq_true rfl, Nat.le_of_ble_eq_true rfl⟩ rfl rfl h0 rfl rfl rfl rfl hl.1 rfl (Nat.le_of_ble_eq_true rfl) dX11_orders_6 ⟨Nat.le_of_ble_eq_true rfl, Nat.le_of_ble_eq_true rfl⟩) (fun v_1 rv_1 pv_1 => ?_)
  try dsimp only at pv_1
  refine j_if_ne (tgt := 14) hx hb (by omega) dX11_orders_9 (by decide) (fun c_2 => ?_) (fun c_2 => ?_)
  · refine lv_aload_n hx hb dX11_orders_14 rfl (lv_at hl 0 rfl) ?_
    refine lv_iload_n hx hb dX11_orders_15 rfl (lv_at hl 1 rfl) ?_
    refine j_cI (j_runV (As := [.int (jI x1)]) (rest := []) hx hb hml hown hts hK hS hW (kX11_readItems l hS σ (a0 := a0) (h0 := h0) (x1 := x1) (r1 := (by omega))) 1 gX11_orders_X11_readItems rfl hvX11_readItems ⟨Nat.le_of_ble_eq_true rfl, Nat.le_of_ble_eq_true rfl⟩ rfl rfl h0 rfl rfl rfl rfl hl.1 rfl (Nat.le_of_ble_eq_true rfl) dX11_orders_16 ⟨Nat.le_of_ble_eq_true rfl, Nat.le_of_ble_eq_true rfl⟩) hA hF (fun v_3 σ_4 H locs hW hF rv_3 pv_3 => ?_)
    try dsimp only at pv_3
    obtain ⟨bpv_3, pv_3, fpv_3⟩ := pv_3
    have hR := fr_call hR fpv_3 (by decide)
    refine j_if_eq (tgt := 39) hx hb (by omega) dX11_orders_19 (by decide) (fun c_5 => ?_) (fun c_5 => ?_)
    · refine lv_aload_n hx hb dX11_orders_39 rfl (lv_at hl 0 rfl) ?_
      refine j_getR hx hb (C := RX11) (T := TX11) (N := 12) hts inX11_orders_X11 hown hK hS hW h0 rfl 1 rfl rfl (by decide) (hts _ flX11_orders_21) dX11_orders_40 ?_
      have h_6 : τ (G a0 1) = 8 := gty hS h0 (k := 1) rfl rfl
      refine j_getI hx hb (C := RX7) (T := TX7) (N := 4) hts inX11_orders_X7 hown hK hS hW h_6 rfl 3 rfl rfl (by decide) (hts _ flX11_orders_147) dX11_orders_43 ?_
      have := fbd hW h_6 (k := 3) (lo := -2147483648) (hi := 2147483647) rfl rfl
      exact hRet 46 _ _ _ (σ_4 (G a0 1) 3) _ dX11_orders_46 hW hF (by omega) ⟨trivial, hR⟩
    · refine lv_aload_n hx hb dX11_orders_22 rfl (lv_at hl 0 rfl) ?_
      refine j_getR hx hb (C := RX11) (T := TX11) (N := 12) hts inX11_orders_X11 hown hK hS hW h0 rfl 9 rfl rfl (by decide) (hts _ flX11_orders_71) dX11_orders_23 ?_
      have h_7 : τ (G a0 9) = 6 := gty hS h0 (k := 9) rfl rfl
      refine lv_aload_n hx hb dX11_orders_26 rfl (lv_at hl 0 rfl) ?_
      refine j_getR hx hb (C := RX11) (T := TX11) (N := 12) hts inX11_orders_X11 hown hK hS hW h0 rfl 3 rfl rfl (by decide) (hts _ flX11_orders_35) dX11_orders_27 ?_
      have h_8 : τ (G a0 3) = 9 := gty hS h0 (k := 3) rfl rfl
      refine j_getR hx hb (C := RX8) (T := TX8) (N := 3) hts inX11_orders_X8 hown hK hS hW h_8 rfl 0 rfl rfl (by decide) (hts _ flX11_orders_58) dX11_orders_30 ?_
      have h_9 : τ (G (G a0 3) 0) = 11 := gty hS h_8 (k := 0) rfl rfl
      refine j_cI (j_runV (As := [.ref (G (G a0 3) 0)]) (rest := []) hx hb hml hown hts hK hS hW (kX5_doOn l hS σ_4 (a0 := G a0 9) (h0 := h_7) (a1 := G (G a0 3) 0) (h1 := h_9)) 1 gX11_orders_X5_doOn rfl hvX5_doOn ⟨Nat.le_of_ble_eq_true rfl, Nat.le_of_ble_eq_true rfl⟩ rfl rfl h_7 rfl rfl rfl rfl hl.1 rfl (Nat.le_of_ble_eq_true rfl) dX11_orders_33 ⟨Nat.le_of_ble_eq_true rfl, Nat.le_of_ble_eq_true rfl⟩) hA hF (fun v_10 σ_11 H locs hW hF rv_10 pv_10 => ?_)
      try dsimp only at pv_10
      obtain ⟨pv_10, fpv_10⟩ := pv_10
      have hR := fr_call hR fpv_10 (by decide)
      refine lv_goto (tgt := 46) hx hb dX11_orders_36 (by decide) ?_
      exact hRet 46 _ _ _ v_10 _ dX11_orders_46 hW hF (by omega) ⟨trivial, hR⟩
  · refine j_const hx hb dX11_orders_12 ?_
    exact hRet 13 _ _ _ (-1) _ dX11_orders_13 hW hF (by decide) ⟨trivial, hR⟩
abbrev wr_X11_batch : List Nat := [3001, 4003, 6004, 8001, 8002, 8003, 10001, 11001, 11002, 11005, 11006, 11007, 11008, 20000, 22000, 23000, 24000, 25000, 26000, 27000]
theorem flX11_batch_21 : Cond.fieldLink RX11 21 "PageTrie" "reader" "LPageTrie$Reader;" ∈ wsX11_batch := List.mem_of_getElem? (i := 1) rfl
theorem flX11_batch_35 : Cond.fieldLink RX11 35 "PageTrie" "now" "LPageTrie$State;" ∈ wsX11_batch := List.mem_of_getElem? (i := 4) rfl
theorem flX11_batch_49 : Cond.fieldLink RX11 49 "PageTrie" "ahead" "LPageTrie$Trie;" ∈ wsX11_batch := List.mem_of_getElem? (i := 3) rfl
theorem flX11_batch_58 : Cond.fieldLink RX11 58 "PageTrie$State" "trie" "LPageTrie$Trie;" ∈ wsX11_batch := List.mem_of_getElem? (i := 5) rfl
theorem flX11_batch_71 : Cond.fieldLink RX11 71 "PageTrie" "items" "LPageTrie$Orders;" ∈ wsX11_batch := List.mem_of_getElem? (i := 6) rfl
theorem flX11_batch_147 : Cond.fieldLink RX11 147 "PageTrie$Reader" "fault" "I" ∈ wsX11_batch := List.mem_of_getElem? (i := 2) rfl
theorem flX11_batch_153 : Cond.fieldLink RX11 153 "PageTrie$Orders" "size" "I" ∈ wsX11_batch := List.mem_of_getElem? (i := 7) rfl
theorem inX11_batch_X11 : ∀ w ∈ u_ws RX11 TX11 12, w ∈ wsX11_batch := mem_r _ [287, 288, 289, 290, 291, 292, 293, 294, 295, 296, 297, 298] rfl
theorem inX11_batch_X5 : ∀ w ∈ u_ws RX5 TX5 5, w ∈ wsX11_batch := mem_r _ [306, 307, 308, 309, 310] rfl
theorem inX11_batch_X7 : ∀ w ∈ u_ws RX7 TX7 4, w ∈ wsX11_batch := mem_r _ [299, 300, 301, 302] rfl
theorem inX11_batch_X8 : ∀ w ∈ u_ws RX8 TX8 3, w ∈ wsX11_batch := mem_r _ [303, 304, 305] rfl
theorem hvX11_batch : yX11_batch.cls = RX11 ∧ yX11_batch.cls ≠ "java/lang/invoke/MethodHandle" ∧ yX11_batch.cls ≠ "java/lang/invoke/VarHandle" ∧ (parseMethodDescriptor yX11_batch.desc).map (fun d => d.parameters.length) = some 1 := by decide +kernel
set_option maxHeartbeats 4000000 in
set_option maxRecDepth 100000 in
theorem kX11_batch (l : Launch) {D : va_G} {cA : Nat → ClassId} {τ : Nat → Nat} {G : Nat → Nat → Nat} {L : List Nat} (hS : SW τ G L) (σ : Nat → Nat → Int) {a0 : Nat} (h0 : τ a0 = 12) {x1 : Int} (r1 : rg x1) : Met l yX11_batch wsX11_batch ({ frames := 6, cells := 0, slots := 0, locals := 147 }) (jP D cA τ G L σ [.ref a0, .int (jI x1)]) (jQI D cA τ G L (fun r σ' => (True) ∧ fr wr_X11_batch τ σ σ')) 0 0 (fun q => q ∈ L) := by
  refine j_metI (by decide +kernel) rfl (Nat.le_of_ble_eq_true rfl) ?_
  intro p e s m args below meth c Q hx hb hml hown hts hK hW hRet ls hl
  have hl : lv_has ls 3 [(0, .ref a0), (1, .int (jI x1))] := hl
  have hA : ∀ q ∈ L, (fun q => q ∈ L) q := fun _ h => h
  have hF : va_S (fun q => q ∈ L) s.heap s.heap [] := va_S.rf
  have hR : fr wr_X11_batch τ σ σ := fr_rf
  refine lv_aload_n hx hb dX11_batch_0 rfl (lv_at hl 0 rfl) ?_
  refine lv_iload_n hx hb dX11_batch_1 rfl (lv_at hl 1 rfl) ?_
  refine j_const hx hb dX11_batch_2 ?_
  refine j_si hx hb dX11_batch_3 (by decide) ?_
  refine j_cR (j_runV (As := [.int (jI x1), .int (jI 1), .int (jI 200)]) (rest := []) hx hb hml hown hts hK hS hW (kX11_isTextTold l hS σ (a0 := a0) (h0 := h0) (x1 := x1) (r1 := (by omega)) (x2 := 1) (r2 := (by decide)) (x3 := 200) (r3 := (by decide))) 3 gX11_batch_X11_isTextTold rfl hvX11_isTextTold ⟨Nat.le_of_ble_eq_true rfl, Nat.le_of_ble_eq_true rfl⟩ rfl rfl h0 rfl rfl rfl rfl hl.1 rfl (Nat.le_of_ble_eq_true rfl) dX11_batch_6 ⟨Nat.le_of_ble_eq_true rfl, Nat.le_of_ble_eq_true rfl⟩) (fun v_1 rv_1 pv_1 => ?_)
  try dsimp only at pv_1
  refine j_if_ne (tgt := 14) hx hb (by omega) dX11_batch_9 (by decide) (fun c_2 => ?_) (fun c_2 => ?_)
  · refine lv_aload_n hx hb dX11_batch_14 rfl (lv_at hl 0 rfl) ?_
    refine lv_iload_n hx hb dX11_batch_15 rfl (lv_at hl 1 rfl) ?_
    refine j_cI (j_runV (As := [.int (jI x1)]) (rest := []) hx hb hml hown hts hK hS hW (kX11_readItems l hS σ (a0 := a0) (h0 := h0) (x1 := x1) (r1 := (by omega))) 1 gX11_batch_X11_readItems rfl hvX11_readItems ⟨Nat.le_of_ble_eq_true rfl, Nat.le_of_ble_eq_true rfl⟩ rfl rfl h0 rfl rfl rfl rfl hl.1 rfl (Nat.le_of_ble_eq_true rfl) dX11_batch_16 ⟨Nat.le_of_ble_eq_true rfl, Nat.le_of_ble_eq_true rfl⟩) hA hF (fun v_3 σ_4 H locs hW hF rv_3 pv_3 => ?_)
    try dsimp only at pv_3
    obtain ⟨bpv_3, pv_3, fpv_3⟩ := pv_3
    have hR := fr_call hR fpv_3 (by decide)
    refine j_if_ne (tgt := 30) hx hb (by omega) dX11_batch_19 (by decide) (fun c_5 => ?_) (fun c_5 => ?_)
    · refine lv_aload_n hx hb dX11_batch_30 rfl (lv_at hl 0 rfl) ?_
      refine j_getR hx hb (C := RX11) (T := TX11) (N := 12) hts inX11_batch_X11 hown hK hS hW h0 rfl 6 rfl rfl (by decide) (hts _ flX11_batch_49) dX11_batch_31 ?_
      have h_6 : τ (G a0 6) = 11 := gty hS h0 (k := 6) rfl rfl
      refine lv_aload_n hx hb dX11_batch_34 rfl (lv_at hl 0 rfl) ?_
      refine j_getR hx hb (C := RX11) (T := TX11) (N := 12) hts inX11_batch_X11 hown hK hS hW h0 rfl 3 rfl rfl (by decide) (hts _ flX11_batch_35) dX11_batch_35 ?_
      have h_7 : τ (G a0 3) = 9 := gty hS h0 (k := 3) rfl rfl
      refine j_getR hx hb (C := RX8) (T := TX8) (N := 3) hts inX11_batch_X8 hown hK hS hW h_7 rfl 0 rfl rfl (by decide) (hts _ flX11_batch_58) dX11_batch_38 ?_
      have h_8 : τ (G (G a0 3) 0) = 11 := gty hS h_7 (k := 0) rfl rfl
      refine j_cV (j_runV (As := [.ref (G (G a0 3) 0)]) (rest := []) hx hb hml hown hts hK hS hW (kX10_copyFrom l hS σ_4 (a0 := G a0 6) (h0 := h_6) (a1 := G (G a0 3) 0) (h1 := h_8)) 1 gX11_batch_X10_copyFrom rfl hvX10_copyFrom ⟨Nat.le_of_ble_eq_true rfl, Nat.le_of_ble_eq_true rfl⟩ rfl rfl h_6 rfl rfl rfl rfl hl.1 rfl (Nat.le_of_ble_eq_true rfl) dX11_batch_41 ⟨Nat.le_of_ble_eq_true rfl, Nat.le_of_ble_eq_true rfl⟩) hA hF (fun σ_9 H locs hW hF pσ_9 => ?_)
      try dsimp only at pσ_9
      obtain ⟨pσ_9, fpσ_9⟩ := pσ_9
      have hR := fr_call hR fpσ_9 (by decide)
      refine lv_aload_n hx hb dX11_batch_44 rfl (lv_at hl 0 rfl) ?_
      refine j_getR hx hb (C := RX11) (T := TX11) (N := 12) hts inX11_batch_X11 hown hK hS hW h0 rfl 9 rfl rfl (by decide) (hts _ flX11_batch_71) dX11_batch_45 ?_
      have h_10 : τ (G a0 9) = 6 := gty hS h0 (k := 9) rfl rfl
      refine lv_aload_n hx hb dX11_batch_48 rfl (lv_at hl 0 rfl) ?_
      refine j_getR hx hb (C := RX11) (T := TX11) (N := 12) hts inX11_batch_X11 hown hK hS hW h0 rfl 3 rfl rfl (by decide) (hts _ flX11_batch_35) dX11_batch_49 ?_
      refine j_getR hx hb (C := RX8) (T := TX8) (N := 3) hts inX11_batch_X8 hown hK hS hW h_7 rfl 0 rfl rfl (by decide) (hts _ flX11_batch_58) dX11_batch_52 ?_
      refine j_cI (j_runV (As := [.ref (G (G a0 3) 0)]) (rest := []) hx hb hml hown hts hK hS hW (kX5_doOn l hS σ_9 (a0 := G a0 9) (h0 := h_10) (a1 := G (G a0 3) 0) (h1 := h_8)) 1 gX11_batch_X5_doOn rfl hvX5_doOn ⟨Nat.le_of_ble_eq_true rfl, Nat.le_of_ble_eq_true rfl⟩ rfl rfl h_10 rfl rfl rfl rfl hl.1 rfl (Nat.le_of_ble_eq_true rfl) dX11_batch_55 ⟨Nat.le_of_ble_eq_true rfl, Nat.le_of_ble_eq_true rfl⟩) hA hF (fun v_11 σ_12 H locs hW hF rv_11 pv_11 => ?_)
      try dsimp only at pv_11
      obtain ⟨pv_11, fpv_11⟩ := pv_11
      have hR := fr_call hR fpv_11 (by decide)
      refine lv_istore_n (lv' := [(2, .int (jI v_11)), (0, .ref a0), (1, .int (jI x1))]) hx hb dX11_batch_58 rfl hl (by decide) rfl (fun ls hl => ?_)
      refine lv_iload_n hx hb dX11_batch_59 rfl (lv_at hl 0 rfl) ?_
      refine lv_aload_n hx hb dX11_batch_60 rfl (lv_at hl 1 rfl) ?_
      refine j_getR hx hb (C := RX11) (T := TX11) (N := 12) hts inX11_batch_X11 hown hK hS hW h0 rfl 9 rfl rfl (by decide) (hts _ flX11_batch_71) dX11_batch_61 ?_
      refine j_getI hx hb (C := RX5) (T := TX5) (N := 5) hts inX11_batch_X5 hown hK hS hW h_10 rfl 4 rfl rfl (by decide) (hts _ flX11_batch_153) dX11_batch_64 ?_
      have := fbd hW h_10 (k := 4) (lo := -2147483648) (hi := 2147483647) rfl rfl
      refine j_icmp_ne (tgt := 72) hx hb (by omega) (by omega) dX11_batch_67 (by decide) (fun c_13 => ?_) (fun c_13 => ?_)
      · refine lv_aload_n hx hb dX11_batch_72 rfl (lv_at hl 1 rfl) ?_
        refine j_getR hx hb (C := RX11) (T := TX11) (N := 12) hts inX11_batch_X11 hown hK hS hW h0 rfl 3 rfl rfl (by decide) (hts _ flX11_batch_35) dX11_batch_73 ?_
        refine j_getR hx hb (C := RX8) (T := TX8) (N := 3) hts inX11_batch_X8 hown hK hS hW h_7 rfl 0 rfl rfl (by decide) (hts _ flX11_batch_58) dX11_batch_76 ?_
        refine lv_aload_n hx hb dX11_batch_79 rfl (lv_at hl 1 rfl) ?_
        refine j_getR hx hb (C := RX11) (T := TX11) (N := 12) hts inX11_batch_X11 hown hK hS hW h0 rfl 6 rfl rfl (by decide) (hts _ flX11_batch_49) dX11_batch_80 ?_
        refine j_cV (j_runV (As := [.ref (G a0 6)]) (rest := []) hx hb hml hown hts hK hS hW (kX10_copyFrom l hS σ_12 (a0 := G (G a0 3) 0) (h0 := h_8) (a1 := G a0 6) (h1 := h_6)) 1 gX11_batch_X10_copyFrom rfl hvX10_copyFrom ⟨Nat.le_of_ble_eq_true rfl, Nat.le_of_ble_eq_true rfl⟩ rfl rfl h_8 rfl rfl rfl rfl hl.1 rfl (Nat.le_of_ble_eq_true rfl) dX11_batch_83 ⟨Nat.le_of_ble_eq_true rfl, Nat.le_of_ble_eq_true rfl⟩) hA hF (fun σ_14 H locs hW hF pσ_14 => ?_)
        try dsimp only at pσ_14
        obtain ⟨pσ_14, fpσ_14⟩ := pσ_14
        have hR := fr_call hR fpσ_14 (by decide)
        refine j_bi hx hb dX11_batch_86 (by decide) ?_
        refine lv_iload_n hx hb dX11_batch_88 rfl (lv_at hl 0 rfl) ?_
        refine j_sub hx hb dX11_batch_89 ?_
        refine j_wrap (fun z_15 rz_15 ez_15 => ?_)
        exact hRet 90 _ _ _ z_15 _ dX11_batch_90 hW hF (by omega) ⟨trivial, hR⟩
      · refine lv_iload_n hx hb dX11_batch_70 rfl (lv_at hl 0 rfl) ?_
        exact hRet 71 _ _ _ v_11 _ dX11_batch_71 hW hF (by omega) ⟨trivial, hR⟩
    · refine lv_aload_n hx hb dX11_batch_22 rfl (lv_at hl 0 rfl) ?_
      refine j_getR hx hb (C := RX11) (T := TX11) (N := 12) hts inX11_batch_X11 hown hK hS hW h0 rfl 1 rfl rfl (by decide) (hts _ flX11_batch_21) dX11_batch_23 ?_
      have h_16 : τ (G a0 1) = 8 := gty hS h0 (k := 1) rfl rfl
      refine j_getI hx hb (C := RX7) (T := TX7) (N := 4) hts inX11_batch_X7 hown hK hS hW h_16 rfl 3 rfl rfl (by decide) (hts _ flX11_batch_147) dX11_batch_26 ?_
      have := fbd hW h_16 (k := 3) (lo := -2147483648) (hi := 2147483647) rfl rfl
      exact hRet 29 _ _ _ (σ_4 (G a0 1) 3) _ dX11_batch_29 hW hF (by omega) ⟨trivial, hR⟩
  · refine j_const hx hb dX11_batch_12 ?_
    exact hRet 13 _ _ _ (-1) _ dX11_batch_13 hW hF (by decide) ⟨trivial, hR⟩
theorem flX11_count_10 : Cond.fieldLink RX11 10 "PageTrie" "tape" "LPageTrie$Tape;" ∈ wsX11_count := List.mem_of_getElem? (i := 1) rfl
theorem flX11_count_35 : Cond.fieldLink RX11 35 "PageTrie" "now" "LPageTrie$State;" ∈ wsX11_count := List.mem_of_getElem? (i := 3) rfl
theorem flX11_count_58 : Cond.fieldLink RX11 58 "PageTrie$State" "trie" "LPageTrie$Trie;" ∈ wsX11_count := List.mem_of_getElem? (i := 4) rfl
theorem flX11_count_95 : Cond.fieldLink RX11 95 "PageTrie$Tape" "length" "I" ∈ wsX11_count := List.mem_of_getElem? (i := 2) rfl
theorem inX11_count_X11 : ∀ w ∈ u_ws RX11 TX11 12, w ∈ wsX11_count := mem_r _ [76, 77, 78, 79, 80, 81, 82, 83, 84, 85, 86, 87] rfl
theorem inX11_count_X8 : ∀ w ∈ u_ws RX8 TX8 3, w ∈ wsX11_count := mem_r _ [90, 91, 92] rfl
theorem inX11_count_X9 : ∀ w ∈ u_ws RX9 TX9 2, w ∈ wsX11_count := mem_r _ [88, 89] rfl
theorem hvX11_count : yX11_count.cls = RX11 ∧ yX11_count.cls ≠ "java/lang/invoke/MethodHandle" ∧ yX11_count.cls ≠ "java/lang/invoke/VarHandle" ∧ (parseMethodDescriptor yX11_count.desc).map (fun d => d.parameters.length) = some 1 := by decide +kernel
set_option maxHeartbeats 4000000 in
set_option maxRecDepth 100000 in
theorem kX11_count (l : Launch) {D : va_G} {cA : Nat → ClassId} {τ : Nat → Nat} {G : Nat → Nat → Nat} {L : List Nat} (hS : SW τ G L) (σ : Nat → Nat → Int) {a0 : Nat} (h0 : τ a0 = 12) {x1 : Int} (r1 : rg x1) : Met l yX11_count wsX11_count ({ frames := 5, cells := 0, slots := 0, locals := 111 }) (jP D cA τ G L σ [.ref a0, .int (jI x1)]) (jQR (fun r => True)) 0 0 (fun _ => False) := by
  refine j_metR (by decide +kernel) rfl (Nat.le_of_ble_eq_true rfl) ?_
  intro p e s m args below meth c Q hx hb hml hown hts hK hW hRet ls hl
  have hl : lv_has ls 2 [(0, .ref a0), (1, .int (jI x1))] := hl
  refine lv_iload_n hx hb dX11_count_0 rfl (lv_at hl 1 rfl) ?_
  refine j_bi hx hb dX11_count_1 (by decide) ?_
  refine j_icmp_ne (tgt := 16) hx hb (by omega) (by decide) dX11_count_3 (by decide) (fun c_1 => ?_) (fun c_1 => ?_)
  · refine lv_aload_n hx hb dX11_count_16 rfl (lv_at hl 0 rfl) ?_
    refine j_getR hx hb (C := RX11) (T := TX11) (N := 12) hts inX11_count_X11 hown hK hS hW h0 rfl 3 rfl rfl (by decide) (hts _ flX11_count_35) dX11_count_17 ?_
    have h_2 : τ (G a0 3) = 9 := gty hS h0 (k := 3) rfl rfl
    refine j_getR hx hb (C := RX8) (T := TX8) (N := 3) hts inX11_count_X8 hown hK hS hW h_2 rfl 0 rfl rfl (by decide) (hts _ flX11_count_58) dX11_count_20 ?_
    have h_3 : τ (G (G a0 3) 0) = 11 := gty hS h_2 (k := 0) rfl rfl
    refine lv_iload_n hx hb dX11_count_23 rfl (lv_at hl 1 rfl) ?_
    refine j_cR (j_runV (As := [.int (jI x1)]) (rest := []) hx hb hml hown hts hK hS hW (kX10_measure l hS σ (a0 := G (G a0 3) 0) (h0 := h_3) (x1 := x1) (r1 := (by omega))) 1 gX11_count_X10_measure rfl hvX10_measure ⟨Nat.le_of_ble_eq_true rfl, Nat.le_of_ble_eq_true rfl⟩ rfl rfl h_3 rfl rfl rfl rfl hl.1 rfl (Nat.le_of_ble_eq_true rfl) dX11_count_24 ⟨Nat.le_of_ble_eq_true rfl, Nat.le_of_ble_eq_true rfl⟩) (fun v_4 rv_4 pv_4 => ?_)
    try dsimp only at pv_4
    exact hRet 27 _ v_4 dX11_count_27 (by omega) trivial
  · refine lv_aload_n hx hb dX11_count_6 rfl (lv_at hl 0 rfl) ?_
    refine j_getR hx hb (C := RX11) (T := TX11) (N := 12) hts inX11_count_X11 hown hK hS hW h0 rfl 0 rfl rfl (by decide) (hts _ flX11_count_10) dX11_count_7 ?_
    have h_5 : τ (G a0 0) = 10 := gty hS h0 (k := 0) rfl rfl
    refine j_getI hx hb (C := RX9) (T := TX9) (N := 2) hts inX11_count_X9 hown hK hS hW h_5 rfl 1 rfl rfl (by decide) (hts _ flX11_count_95) dX11_count_10 ?_
    have := fbd hW h_5 (k := 1) (lo := 0) (hi := 240) rfl rfl
    refine lv_goto (tgt := 27) hx hb dX11_count_13 (by decide) ?_
    exact hRet 27 _ (σ (G a0 0) 1) dX11_count_27 (by omega) trivial
abbrev wr_X11_value : List Nat := [3001, 10001, 20000]
theorem flX11_value_28 : Cond.fieldLink RX11 28 "PageTrie" "told" "LPageTrie$Key;" ∈ wsX11_value := List.mem_of_getElem? (i := 4) rfl
theorem flX11_value_35 : Cond.fieldLink RX11 35 "PageTrie" "now" "LPageTrie$State;" ∈ wsX11_value := List.mem_of_getElem? (i := 1) rfl
theorem flX11_value_58 : Cond.fieldLink RX11 58 "PageTrie$State" "trie" "LPageTrie$Trie;" ∈ wsX11_value := List.mem_of_getElem? (i := 2) rfl
theorem flX11_value_84 : Cond.fieldLink RX11 84 "PageTrie$Trie" "keys" "LPageTrie$Keys;" ∈ wsX11_value := List.mem_of_getElem? (i := 3) rfl
theorem inX11_value_X10 : ∀ w ∈ u_ws RX10 TX10 9, w ∈ wsX11_value := mem_r _ [106, 107, 108, 109, 110, 111, 112, 113, 114] rfl
theorem inX11_value_X11 : ∀ w ∈ u_ws RX11 TX11 12, w ∈ wsX11_value := mem_r _ [91, 92, 93, 94, 95, 96, 97, 98, 99, 100, 101, 102] rfl
theorem inX11_value_X8 : ∀ w ∈ u_ws RX8 TX8 3, w ∈ wsX11_value := mem_r _ [103, 104, 105] rfl
theorem hvX11_value : yX11_value.cls = RX11 ∧ yX11_value.cls ≠ "java/lang/invoke/MethodHandle" ∧ yX11_value.cls ≠ "java/lang/invoke/VarHandle" ∧ (parseMethodDescriptor yX11_value.desc).map (fun d => d.parameters.length) = some 1 := by decide +kernel
set_option maxHeartbeats 4000000 in
set_option maxRecDepth 100000 in
theorem kX11_value (l : Launch) {D : va_G} {cA : Nat → ClassId} {τ : Nat → Nat} {G : Nat → Nat → Nat} {L : List Nat} (hS : SW τ G L) (σ : Nat → Nat → Int) {a0 : Nat} (h0 : τ a0 = 12) {x1 : Int} (r1 : rg x1) : Met l yX11_value wsX11_value ({ frames := 4, cells := 0, slots := 0, locals := 96 }) (jP D cA τ G L σ [.ref a0, .int (jI x1)]) (jQI D cA τ G L (fun r σ' => (True) ∧ fr wr_X11_value τ σ σ')) 0 0 (fun q => q ∈ L) := by
  refine j_metI (by decide +kernel) rfl (Nat.le_of_ble_eq_true rfl) ?_
  intro p e s m args below meth c Q hx hb hml hown hts hK hW hRet ls hl
  have hl : lv_has ls 3 [(0, .ref a0), (1, .int (jI x1))] := hl
  have hA : ∀ q ∈ L, (fun q => q ∈ L) q := fun _ h => h
  have hF : va_S (fun q => q ∈ L) s.heap s.heap [] := va_S.rf
  have hR : fr wr_X11_value τ σ σ := fr_rf
  refine lv_aload_n hx hb dX11_value_0 rfl (lv_at hl 0 rfl) ?_
  refine lv_iload_n hx hb dX11_value_1 rfl (lv_at hl 1 rfl) ?_
  refine j_cR (j_runV (As := [.int (jI x1)]) (rest := []) hx hb hml hown hts hK hS hW (kX11_isKeyTold l hS σ (a0 := a0) (h0 := h0) (x1 := x1) (r1 := (by omega))) 1 gX11_value_X11_isKeyTold rfl hvX11_isKeyTold ⟨Nat.le_of_ble_eq_true rfl, Nat.le_of_ble_eq_true rfl⟩ rfl rfl h0 rfl rfl rfl rfl hl.1 rfl (Nat.le_of_ble_eq_true rfl) dX11_value_2 ⟨Nat.le_of_ble_eq_true rfl, Nat.le_of_ble_eq_true rfl⟩) (fun v_1 rv_1 pv_1 => ?_)
  try dsimp only at pv_1
  refine j_if_ne (tgt := 10) hx hb (by omega) dX11_value_5 (by decide) (fun c_2 => ?_) (fun c_2 => ?_)
  · refine lv_aload_n hx hb dX11_value_10 rfl (lv_at hl 0 rfl) ?_
    refine lv_iload_n hx hb dX11_value_11 rfl (lv_at hl 1 rfl) ?_
    refine j_cI (j_runV (As := [.int (jI x1)]) (rest := []) hx hb hml hown hts hK hS hW (kX11_readTold l hS σ (a0 := a0) (h0 := h0) (x1 := x1) (r1 := (by omega))) 1 gX11_value_X11_readTold rfl hvX11_readTold ⟨Nat.le_of_ble_eq_true rfl, Nat.le_of_ble_eq_true rfl⟩ rfl rfl h0 rfl rfl rfl rfl hl.1 rfl (Nat.le_of_ble_eq_true rfl) dX11_value_12 ⟨Nat.le_of_ble_eq_true rfl, Nat.le_of_ble_eq_true rfl⟩) hA hF (fun v_3 σ_4 H locs hW hF rv_3 pv_3 => ?_)
    try dsimp only at pv_3
    obtain ⟨bpv_3, pv_3, fpv_3⟩ := pv_3
    have hR := fr_call hR fpv_3 (by decide)
    refine j_if_ne (tgt := 21) hx hb (by omega) dX11_value_15 (by decide) (fun c_5 => ?_) (fun c_5 => ?_)
    · refine lv_aload_n hx hb dX11_value_21 rfl (lv_at hl 0 rfl) ?_
      refine j_getR hx hb (C := RX11) (T := TX11) (N := 12) hts inX11_value_X11 hown hK hS hW h0 rfl 3 rfl rfl (by decide) (hts _ flX11_value_35) dX11_value_22 ?_
      have h_6 : τ (G a0 3) = 9 := gty hS h0 (k := 3) rfl rfl
      refine j_getR hx hb (C := RX8) (T := TX8) (N := 3) hts inX11_value_X8 hown hK hS hW h_6 rfl 0 rfl rfl (by decide) (hts _ flX11_value_58) dX11_value_25 ?_
      have h_7 : τ (G (G a0 3) 0) = 11 := gty hS h_6 (k := 0) rfl rfl
      refine j_getR hx hb (C := RX10) (T := TX10) (N := 9) hts inX11_value_X10 hown hK hS hW h_7 rfl 0 rfl rfl (by decide) (hts _ flX11_value_84) dX11_value_28 ?_
      have h_8 : τ (G (G (G a0 3) 0) 0) = 4 := gty hS h_7 (k := 0) rfl rfl
      refine lv_aload_n hx hb dX11_value_31 rfl (lv_at hl 0 rfl) ?_
      refine j_getR hx hb (C := RX11) (T := TX11) (N := 12) hts inX11_value_X11 hown hK hS hW h0 rfl 2 rfl rfl (by decide) (hts _ flX11_value_28) dX11_value_32 ?_
      have h_9 : τ (G a0 2) = 3 := gty hS h0 (k := 2) rfl rfl
      refine j_cR (j_runV (As := [.ref (G a0 2)]) (rest := []) hx hb hml hown hts hK hS hW (kX3_find l hS σ_4 (a0 := G (G (G a0 3) 0) 0) (h0 := h_8) (a1 := G a0 2) (h1 := h_9)) 1 gX11_value_X3_find rfl hvX3_find ⟨Nat.le_of_ble_eq_true rfl, Nat.le_of_ble_eq_true rfl⟩ rfl rfl h_8 rfl rfl rfl rfl hl.1 rfl (Nat.le_of_ble_eq_true rfl) dX11_value_35 ⟨Nat.le_of_ble_eq_true rfl, Nat.le_of_ble_eq_true rfl⟩) (fun v_10 rv_10 pv_10 => ?_)
      try dsimp only at pv_10
      refine lv_istore_n (lv' := [(2, .int (jI v_10)), (0, .ref a0), (1, .int (jI x1))]) hx hb dX11_value_38 rfl hl (by decide) rfl (fun ls hl => ?_)
      refine lv_iload_n hx hb dX11_value_39 rfl (lv_at hl 0 rfl) ?_
      refine j_if_ge (tgt := 48) hx hb (by omega) dX11_value_40 (by decide) (fun c_11 => ?_) (fun c_11 => ?_)
      · refine lv_aload_n hx hb dX11_value_48 rfl (lv_at hl 1 rfl) ?_
        refine j_getR hx hb (C := RX11) (T := TX11) (N := 12) hts inX11_value_X11 hown hK hS hW h0 rfl 3 rfl rfl (by decide) (hts _ flX11_value_35) dX11_value_49 ?_
        refine j_getR hx hb (C := RX8) (T := TX8) (N := 3) hts inX11_value_X8 hown hK hS hW h_6 rfl 0 rfl rfl (by decide) (hts _ flX11_value_58) dX11_value_52 ?_
        refine j_getR hx hb (C := RX10) (T := TX10) (N := 9) hts inX11_value_X10 hown hK hS hW h_7 rfl 0 rfl rfl (by decide) (hts _ flX11_value_84) dX11_value_55 ?_
        refine lv_iload_n hx hb dX11_value_58 rfl (lv_at hl 0 rfl) ?_
        refine j_cR (j_runV (As := [.int (jI v_10)]) (rest := []) hx hb hml hown hts hK hS hW (kX3_valueOf l hS σ_4 (a0 := G (G (G a0 3) 0) 0) (h0 := h_8) (x1 := v_10) (r1 := (by omega))) 1 gX11_value_X3_valueOf rfl hvX3_valueOf ⟨Nat.le_of_ble_eq_true rfl, Nat.le_of_ble_eq_true rfl⟩ rfl rfl h_8 rfl rfl rfl rfl hl.1 rfl (Nat.le_of_ble_eq_true rfl) dX11_value_59 ⟨Nat.le_of_ble_eq_true rfl, Nat.le_of_ble_eq_true rfl⟩) (fun v_12 rv_12 pv_12 => ?_)
        try dsimp only at pv_12
        exact hRet 62 _ _ _ v_12 _ dX11_value_62 hW hF (by omega) ⟨trivial, hR⟩
      · refine j_bi hx hb dX11_value_43 (by decide) ?_
        refine lv_goto (tgt := 62) hx hb dX11_value_45 (by decide) ?_
        exact hRet 62 _ _ _ (-3) _ dX11_value_62 hW hF (by decide) ⟨trivial, hR⟩
    · refine j_bi hx hb dX11_value_18 (by decide) ?_
      exact hRet 20 _ _ _ (-2) _ dX11_value_20 hW hF (by decide) ⟨trivial, hR⟩
  · refine j_const hx hb dX11_value_8 ?_
    exact hRet 9 _ _ _ (-1) _ dX11_value_9 hW hF (by decide) ⟨trivial, hR⟩
abbrev wr_X11_rank : List Nat := [3001, 10001, 20000]
theorem flX11_rank_28 : Cond.fieldLink RX11 28 "PageTrie" "told" "LPageTrie$Key;" ∈ wsX11_rank := List.mem_of_getElem? (i := 4) rfl
theorem flX11_rank_35 : Cond.fieldLink RX11 35 "PageTrie" "now" "LPageTrie$State;" ∈ wsX11_rank := List.mem_of_getElem? (i := 1) rfl
theorem flX11_rank_58 : Cond.fieldLink RX11 58 "PageTrie$State" "trie" "LPageTrie$Trie;" ∈ wsX11_rank := List.mem_of_getElem? (i := 2) rfl
theorem flX11_rank_84 : Cond.fieldLink RX11 84 "PageTrie$Trie" "keys" "LPageTrie$Keys;" ∈ wsX11_rank := List.mem_of_getElem? (i := 3) rfl
theorem inX11_rank_X10 : ∀ w ∈ u_ws RX10 TX10 9, w ∈ wsX11_rank := mem_r _ [89, 90, 91, 92, 93, 94, 95, 96, 97] rfl
theorem inX11_rank_X11 : ∀ w ∈ u_ws RX11 TX11 12, w ∈ wsX11_rank := mem_r _ [74, 75, 76, 77, 78, 79, 80, 81, 82, 83, 84, 85] rfl
theorem inX11_rank_X8 : ∀ w ∈ u_ws RX8 TX8 3, w ∈ wsX11_rank := mem_r _ [86, 87, 88] rfl
theorem hvX11_rank : yX11_rank.cls = RX11 ∧ yX11_rank.cls ≠ "java/lang/invoke/MethodHandle" ∧ yX11_rank.cls ≠ "java/lang/invoke/VarHandle" ∧ (parseMethodDescriptor yX11_rank.desc).map (fun d => d.parameters.length) = some 1 := by decide +kernel
set_option maxHeartbeats 4000000 in
set_option maxRecDepth 100000 in
theorem kX11_rank (l : Launch) {D : va_G} {cA : Nat → ClassId} {τ : Nat → Nat} {G : Nat → Nat → Nat} {L : List Nat} (hS : SW τ G L) (σ : Nat → Nat → Int) {a0 : Nat} (h0 : τ a0 = 12) {x1 : Int} (r1 : rg x1) : Met l yX11_rank wsX11_rank ({ frames := 3, cells := 0, slots := 0, locals := 74 }) (jP D cA τ G L σ [.ref a0, .int (jI x1)]) (jQI D cA τ G L (fun r σ' => (True) ∧ fr wr_X11_rank τ σ σ')) 0 0 (fun q => q ∈ L) := by
  refine j_metI (by decide +kernel) rfl (Nat.le_of_ble_eq_true rfl) ?_
  intro p e s m args below meth c Q hx hb hml hown hts hK hW hRet ls hl
  have hl : lv_has ls 2 [(0, .ref a0), (1, .int (jI x1))] := hl
  have hA : ∀ q ∈ L, (fun q => q ∈ L) q := fun _ h => h
  have hF : va_S (fun q => q ∈ L) s.heap s.heap [] := va_S.rf
  have hR : fr wr_X11_rank τ σ σ := fr_rf
  refine lv_aload_n hx hb dX11_rank_0 rfl (lv_at hl 0 rfl) ?_
  refine lv_iload_n hx hb dX11_rank_1 rfl (lv_at hl 1 rfl) ?_
  refine j_cR (j_runV (As := [.int (jI x1)]) (rest := []) hx hb hml hown hts hK hS hW (kX11_isKeyTold l hS σ (a0 := a0) (h0 := h0) (x1 := x1) (r1 := (by omega))) 1 gX11_rank_X11_isKeyTold rfl hvX11_isKeyTold ⟨Nat.le_of_ble_eq_true rfl, Nat.le_of_ble_eq_true rfl⟩ rfl rfl h0 rfl rfl rfl rfl hl.1 rfl (Nat.le_of_ble_eq_true rfl) dX11_rank_2 ⟨Nat.le_of_ble_eq_true rfl, Nat.le_of_ble_eq_true rfl⟩) (fun v_1 rv_1 pv_1 => ?_)
  try dsimp only at pv_1
  refine j_if_ne (tgt := 10) hx hb (by omega) dX11_rank_5 (by decide) (fun c_2 => ?_) (fun c_2 => ?_)
  · refine lv_aload_n hx hb dX11_rank_10 rfl (lv_at hl 0 rfl) ?_
    refine lv_iload_n hx hb dX11_rank_11 rfl (lv_at hl 1 rfl) ?_
    refine j_cI (j_runV (As := [.int (jI x1)]) (rest := []) hx hb hml hown hts hK hS hW (kX11_readTold l hS σ (a0 := a0) (h0 := h0) (x1 := x1) (r1 := (by omega))) 1 gX11_rank_X11_readTold rfl hvX11_readTold ⟨Nat.le_of_ble_eq_true rfl, Nat.le_of_ble_eq_true rfl⟩ rfl rfl h0 rfl rfl rfl rfl hl.1 rfl (Nat.le_of_ble_eq_true rfl) dX11_rank_12 ⟨Nat.le_of_ble_eq_true rfl, Nat.le_of_ble_eq_true rfl⟩) hA hF (fun v_3 σ_4 H locs hW hF rv_3 pv_3 => ?_)
    try dsimp only at pv_3
    obtain ⟨bpv_3, pv_3, fpv_3⟩ := pv_3
    have hR := fr_call hR fpv_3 (by decide)
    refine j_if_eq (tgt := 38) hx hb (by omega) dX11_rank_15 (by decide) (fun c_5 => ?_) (fun c_5 => ?_)
    · refine j_bi hx hb dX11_rank_38 (by decide) ?_
      exact hRet 40 _ _ _ (-2) _ dX11_rank_40 hW hF (by decide) ⟨trivial, hR⟩
    · refine lv_aload_n hx hb dX11_rank_18 rfl (lv_at hl 0 rfl) ?_
      refine j_getR hx hb (C := RX11) (T := TX11) (N := 12) hts inX11_rank_X11 hown hK hS hW h0 rfl 3 rfl rfl (by decide) (hts _ flX11_rank_35) dX11_rank_19 ?_
      have h_6 : τ (G a0 3) = 9 := gty hS h0 (k := 3) rfl rfl
      refine j_getR hx hb (C := RX8) (T := TX8) (N := 3) hts inX11_rank_X8 hown hK hS hW h_6 rfl 0 rfl rfl (by decide) (hts _ flX11_rank_58) dX11_rank_22 ?_
      have h_7 : τ (G (G a0 3) 0) = 11 := gty hS h_6 (k := 0) rfl rfl
      refine j_getR hx hb (C := RX10) (T := TX10) (N := 9) hts inX11_rank_X10 hown hK hS hW h_7 rfl 0 rfl rfl (by decide) (hts _ flX11_rank_84) dX11_rank_25 ?_
      have h_8 : τ (G (G (G a0 3) 0) 0) = 4 := gty hS h_7 (k := 0) rfl rfl
      refine lv_aload_n hx hb dX11_rank_28 rfl (lv_at hl 0 rfl) ?_
      refine j_getR hx hb (C := RX11) (T := TX11) (N := 12) hts inX11_rank_X11 hown hK hS hW h0 rfl 2 rfl rfl (by decide) (hts _ flX11_rank_28) dX11_rank_29 ?_
      have h_9 : τ (G a0 2) = 3 := gty hS h0 (k := 2) rfl rfl
      refine j_cR (j_runV (As := [.ref (G a0 2)]) (rest := []) hx hb hml hown hts hK hS hW (kX3_placeOf l hS σ_4 (a0 := G (G (G a0 3) 0) 0) (h0 := h_8) (a1 := G a0 2) (h1 := h_9)) 1 gX11_rank_X3_placeOf rfl hvX3_placeOf ⟨Nat.le_of_ble_eq_true rfl, Nat.le_of_ble_eq_true rfl⟩ rfl rfl h_8 rfl rfl rfl rfl hl.1 rfl (Nat.le_of_ble_eq_true rfl) dX11_rank_32 ⟨Nat.le_of_ble_eq_true rfl, Nat.le_of_ble_eq_true rfl⟩) (fun v_10 rv_10 pv_10 => ?_)
      try dsimp only at pv_10
      refine lv_goto (tgt := 40) hx hb dX11_rank_35 (by decide) ?_
      exact hRet 40 _ _ _ v_10 _ dX11_rank_40 hW hF (by omega) ⟨trivial, hR⟩
  · refine j_const hx hb dX11_rank_8 ?_
    exact hRet 9 _ _ _ (-1) _ dX11_rank_9 hW hF (by decide) ⟨trivial, hR⟩
theorem flX11_key_35 : Cond.fieldLink RX11 35 "PageTrie" "now" "LPageTrie$State;" ∈ wsX11_key := List.mem_of_getElem? (i := 1) rfl
theorem flX11_key_58 : Cond.fieldLink RX11 58 "PageTrie$State" "trie" "LPageTrie$Trie;" ∈ wsX11_key := List.mem_of_getElem? (i := 2) rfl
theorem flX11_key_84 : Cond.fieldLink RX11 84 "PageTrie$Trie" "keys" "LPageTrie$Keys;" ∈ wsX11_key := List.mem_of_getElem? (i := 3) rfl
theorem inX11_key_X10 : ∀ w ∈ u_ws RX10 TX10 9, w ∈ wsX11_key := mem_r _ [65, 66, 67, 68, 69, 70, 71, 72, 73] rfl
theorem inX11_key_X11 : ∀ w ∈ u_ws RX11 TX11 12, w ∈ wsX11_key := mem_r _ [50, 51, 52, 53, 54, 55, 56, 57, 58, 59, 60, 61] rfl
theorem inX11_key_X8 : ∀ w ∈ u_ws RX8 TX8 3, w ∈ wsX11_key := mem_r _ [62, 63, 64] rfl
theorem hvX11_key : yX11_key.cls = RX11 ∧ yX11_key.cls ≠ "java/lang/invoke/MethodHandle" ∧ yX11_key.cls ≠ "java/lang/invoke/VarHandle" ∧ (parseMethodDescriptor yX11_key.desc).map (fun d => d.parameters.length) = some 2 := by decide +kernel
set_option maxHeartbeats 4000000 in
set_option maxRecDepth 100000 in
theorem kX11_key (l : Launch) {D : va_G} {cA : Nat → ClassId} {τ : Nat → Nat} {G : Nat → Nat → Nat} {L : List Nat} (hS : SW τ G L) (σ : Nat → Nat → Int) {a0 : Nat} (h0 : τ a0 = 12) {x1 : Int} (r1 : rg x1) {x2 : Int} (r2 : rg x2) : Met l yX11_key wsX11_key ({ frames := 3, cells := 0, slots := 0, locals := 69 }) (jP D cA τ G L σ [.ref a0, .int (jI x1), .int (jI x2)]) (jQR (fun r => True)) 0 0 (fun _ => False) := by
  refine j_metR (by decide +kernel) rfl (Nat.le_of_ble_eq_true rfl) ?_
  intro p e s m args below meth c Q hx hb hml hown hts hK hW hRet ls hl
  have hl : lv_has ls 4 [(0, .ref a0), (1, .int (jI x1)), (2, .int (jI x2))] := hl
  refine lv_aload_n hx hb dX11_key_0 rfl (lv_at hl 0 rfl) ?_
  refine j_getR hx hb (C := RX11) (T := TX11) (N := 12) hts inX11_key_X11 hown hK hS hW h0 rfl 3 rfl rfl (by decide) (hts _ flX11_key_35) dX11_key_1 ?_
  have h_1 : τ (G a0 3) = 9 := gty hS h0 (k := 3) rfl rfl
  refine j_getR hx hb (C := RX8) (T := TX8) (N := 3) hts inX11_key_X8 hown hK hS hW h_1 rfl 0 rfl rfl (by decide) (hts _ flX11_key_58) dX11_key_4 ?_
  have h_2 : τ (G (G a0 3) 0) = 11 := gty hS h_1 (k := 0) rfl rfl
  refine j_getR hx hb (C := RX10) (T := TX10) (N := 9) hts inX11_key_X10 hown hK hS hW h_2 rfl 0 rfl rfl (by decide) (hts _ flX11_key_84) dX11_key_7 ?_
  have h_3 : τ (G (G (G a0 3) 0) 0) = 4 := gty hS h_2 (k := 0) rfl rfl
  refine lv_astore_n (lv' := [(3, .ref (G (G (G a0 3) 0) 0)), (0, .ref a0), (1, .int (jI x1)), (2, .int (jI x2))]) hx hb dX11_key_10 rfl hl (by decide) rfl (fun ls hl => ?_)
  refine lv_aload_n hx hb dX11_key_11 rfl (lv_at hl 0 rfl) ?_
  refine lv_iload_n hx hb dX11_key_12 rfl (lv_at hl 2 rfl) ?_
  refine j_cR (j_runV (As := [.int (jI x1)]) (rest := []) hx hb hml hown hts hK hS hW (kX3_has l hS σ (a0 := G (G (G a0 3) 0) 0) (h0 := h_3) (x1 := x1) (r1 := (by omega))) 1 gX11_key_X3_has rfl hvX3_has ⟨Nat.le_of_ble_eq_true rfl, Nat.le_of_ble_eq_true rfl⟩ rfl rfl h_3 rfl rfl rfl rfl hl.1 rfl (Nat.le_of_ble_eq_true rfl) dX11_key_13 ⟨Nat.le_of_ble_eq_true rfl, Nat.le_of_ble_eq_true rfl⟩) (fun v_4 rv_4 pv_4 => ?_)
  try dsimp only at pv_4
  refine j_if_eq (tgt := 25) hx hb (by omega) dX11_key_16 (by decide) (fun c_5 => ?_) (fun c_5 => ?_)
  · refine j_const hx hb dX11_key_25 ?_
    exact hRet 26 _ (-1) dX11_key_26 (by decide) trivial
  · refine lv_iload_n hx hb dX11_key_19 rfl (lv_at hl 3 rfl) ?_
    refine j_bi hx hb dX11_key_20 (by decide) ?_
    refine j_icmp_ge (tgt := 27) hx hb (by omega) (by decide) dX11_key_22 (by decide) (fun c_6 => ?_) (fun c_6 => ?_)
    · refine lv_iload_n hx hb dX11_key_27 rfl (lv_at hl 3 rfl) ?_
      have hrc_7 : rg x2 := by omega
      by_cases c_7_m3 : x2 = -3
      · refine lv_tableIn (tgt := 68) (off := 40) hx hb dX11_key_28 (by rw [jI_toInt hrc_7]; omega) (by rw [jI_toInt hrc_7]; omega) (by rw [jI_toInt hrc_7, c_7_m3]; rfl) (by decide) ?_
        refine lv_aload_n hx hb dX11_key_68 rfl (lv_at hl 1 rfl) ?_
        refine j_getR hx hb (C := RX11) (T := TX11) (N := 12) hts inX11_key_X11 hown hK hS hW h0 rfl 3 rfl rfl (by decide) (hts _ flX11_key_35) dX11_key_69 ?_
        refine j_getR hx hb (C := RX8) (T := TX8) (N := 3) hts inX11_key_X8 hown hK hS hW h_1 rfl 0 rfl rfl (by decide) (hts _ flX11_key_58) dX11_key_72 ?_
        refine lv_iload_n hx hb dX11_key_75 rfl (lv_at hl 2 rfl) ?_
        refine j_cR (j_runV (As := [.int (jI x1)]) (rest := []) hx hb hml hown hts hK hS hW (kX10_away l hS σ (a0 := G (G a0 3) 0) (h0 := h_2) (x1 := x1) (r1 := (by omega))) 1 gX11_key_X10_away rfl hvX10_away ⟨Nat.le_of_ble_eq_true rfl, Nat.le_of_ble_eq_true rfl⟩ rfl rfl h_2 rfl rfl rfl rfl hl.1 rfl (Nat.le_of_ble_eq_true rfl) dX11_key_76 ⟨Nat.le_of_ble_eq_true rfl, Nat.le_of_ble_eq_true rfl⟩) (fun v_8 rv_8 pv_8 => ?_)
        try dsimp only at pv_8
        exact hRet 79 _ v_8 dX11_key_79 (by omega) trivial
      by_cases c_7_m2 : x2 = -2
      · refine lv_tableIn (tgt := 62) (off := 34) hx hb dX11_key_28 (by rw [jI_toInt hrc_7]; omega) (by rw [jI_toInt hrc_7]; omega) (by rw [jI_toInt hrc_7, c_7_m2]; rfl) (by decide) ?_
        refine lv_aload_n hx hb dX11_key_62 rfl (lv_at hl 0 rfl) ?_
        refine lv_iload_n hx hb dX11_key_63 rfl (lv_at hl 2 rfl) ?_
        refine j_cR (j_runV (As := [.int (jI x1)]) (rest := []) hx hb hml hown hts hK hS hW (kX3_valueOf l hS σ (a0 := G (G (G a0 3) 0) 0) (h0 := h_3) (x1 := x1) (r1 := (by omega))) 1 gX11_key_X3_valueOf rfl hvX3_valueOf ⟨Nat.le_of_ble_eq_true rfl, Nat.le_of_ble_eq_true rfl⟩ rfl rfl h_3 rfl rfl rfl rfl hl.1 rfl (Nat.le_of_ble_eq_true rfl) dX11_key_64 ⟨Nat.le_of_ble_eq_true rfl, Nat.le_of_ble_eq_true rfl⟩) (fun v_9 rv_9 pv_9 => ?_)
        try dsimp only at pv_9
        exact hRet 67 _ v_9 dX11_key_67 (by omega) trivial
      by_cases c_7_m1 : x2 = -1
      · refine lv_tableIn (tgt := 56) (off := 28) hx hb dX11_key_28 (by rw [jI_toInt hrc_7]; omega) (by rw [jI_toInt hrc_7]; omega) (by rw [jI_toInt hrc_7, c_7_m1]; rfl) (by decide) ?_
        refine lv_aload_n hx hb dX11_key_56 rfl (lv_at hl 0 rfl) ?_
        refine lv_iload_n hx hb dX11_key_57 rfl (lv_at hl 2 rfl) ?_
        refine j_cR (j_runV (As := [.int (jI x1)]) (rest := []) hx hb hml hown hts hK hS hW (kX3_lengthOf l hS σ (a0 := G (G (G a0 3) 0) 0) (h0 := h_3) (x1 := x1) (r1 := (by omega))) 1 gX11_key_X3_lengthOf rfl hvX3_lengthOf ⟨Nat.le_of_ble_eq_true rfl, Nat.le_of_ble_eq_true rfl⟩ rfl rfl h_3 rfl rfl rfl rfl hl.1 rfl (Nat.le_of_ble_eq_true rfl) dX11_key_58 ⟨Nat.le_of_ble_eq_true rfl, Nat.le_of_ble_eq_true rfl⟩) (fun v_10 rv_10 pv_10 => ?_)
        try dsimp only at pv_10
        exact hRet 61 _ v_10 dX11_key_61 (by omega) trivial
      refine lv_tableOut (tgt := 80) hx hb dX11_key_28 (by rw [jI_toInt hrc_7]; omega) (by decide) ?_
      refine lv_iload_n hx hb dX11_key_80 rfl (lv_at hl 3 rfl) ?_
      refine lv_aload_n hx hb dX11_key_81 rfl (lv_at hl 0 rfl) ?_
      refine lv_iload_n hx hb dX11_key_82 rfl (lv_at hl 2 rfl) ?_
      refine j_cR (j_runV (As := [.int (jI x1)]) (rest := [.int (jI x2)]) hx hb hml hown hts hK hS hW (kX3_lengthOf l hS σ (a0 := G (G (G a0 3) 0) 0) (h0 := h_3) (x1 := x1) (r1 := (by omega))) 1 gX11_key_X3_lengthOf rfl hvX3_lengthOf ⟨Nat.le_of_ble_eq_true rfl, Nat.le_of_ble_eq_true rfl⟩ rfl rfl h_3 rfl rfl rfl rfl hl.1 rfl (Nat.le_of_ble_eq_true rfl) dX11_key_83 ⟨Nat.le_of_ble_eq_true rfl, Nat.le_of_ble_eq_true rfl⟩) (fun v_11 rv_11 pv_11 => ?_)
      try dsimp only at pv_11
      refine j_icmp_ge (tgt := 98) hx hb (by omega) (by omega) dX11_key_86 (by decide) (fun c_12 => ?_) (fun c_12 => ?_)
      · refine j_bi hx hb dX11_key_98 (by decide) ?_
        exact hRet 100 _ (-4) dX11_key_100 (by decide) trivial
      · refine lv_aload_n hx hb dX11_key_89 rfl (lv_at hl 0 rfl) ?_
        refine lv_iload_n hx hb dX11_key_90 rfl (lv_at hl 2 rfl) ?_
        refine lv_iload_n hx hb dX11_key_91 rfl (lv_at hl 3 rfl) ?_
        refine j_cR (j_runV (As := [.int (jI x1), .int (jI x2)]) (rest := []) hx hb hml hown hts hK hS hW (kX3_byteOf l hS σ (a0 := G (G (G a0 3) 0) 0) (h0 := h_3) (x1 := x1) (r1 := (by omega)) (x2 := x2) (r2 := (by omega))) 2 gX11_key_X3_byteOf rfl hvX3_byteOf ⟨Nat.le_of_ble_eq_true rfl, Nat.le_of_ble_eq_true rfl⟩ rfl rfl h_3 rfl rfl rfl rfl hl.1 rfl (Nat.le_of_ble_eq_true rfl) dX11_key_92 ⟨Nat.le_of_ble_eq_true rfl, Nat.le_of_ble_eq_true rfl⟩) (fun v_13 rv_13 pv_13 => ?_)
        try dsimp only at pv_13
        refine lv_goto (tgt := 100) hx hb dX11_key_95 (by decide) ?_
        exact hRet 100 _ v_13 dX11_key_100 (by omega) trivial
    · refine j_const hx hb dX11_key_25 ?_
      exact hRet 26 _ (-1) dX11_key_26 (by decide) trivial
abbrev wr_X11_near : List Nat := [3001, 10001, 20000]
theorem flX11_near_28 : Cond.fieldLink RX11 28 "PageTrie" "told" "LPageTrie$Key;" ∈ wsX11_near := List.mem_of_getElem? (i := 4) rfl
theorem flX11_near_35 : Cond.fieldLink RX11 35 "PageTrie" "now" "LPageTrie$State;" ∈ wsX11_near := List.mem_of_getElem? (i := 1) rfl
theorem flX11_near_58 : Cond.fieldLink RX11 58 "PageTrie$State" "trie" "LPageTrie$Trie;" ∈ wsX11_near := List.mem_of_getElem? (i := 2) rfl
theorem flX11_near_84 : Cond.fieldLink RX11 84 "PageTrie$Trie" "keys" "LPageTrie$Keys;" ∈ wsX11_near := List.mem_of_getElem? (i := 3) rfl
theorem inX11_near_X10 : ∀ w ∈ u_ws RX10 TX10 9, w ∈ wsX11_near := mem_r _ [102, 103, 104, 105, 106, 107, 108, 109, 110] rfl
theorem inX11_near_X11 : ∀ w ∈ u_ws RX11 TX11 12, w ∈ wsX11_near := mem_r _ [87, 88, 89, 90, 91, 92, 93, 94, 95, 96, 97, 98] rfl
theorem inX11_near_X8 : ∀ w ∈ u_ws RX8 TX8 3, w ∈ wsX11_near := mem_r _ [99, 100, 101] rfl
theorem hvX11_near : yX11_near.cls = RX11 ∧ yX11_near.cls ≠ "java/lang/invoke/MethodHandle" ∧ yX11_near.cls ≠ "java/lang/invoke/VarHandle" ∧ (parseMethodDescriptor yX11_near.desc).map (fun d => d.parameters.length) = some 2 := by decide +kernel
set_option maxHeartbeats 4000000 in
set_option maxRecDepth 100000 in
theorem kX11_near (l : Launch) {D : va_G} {cA : Nat → ClassId} {τ : Nat → Nat} {G : Nat → Nat → Nat} {L : List Nat} (hS : SW τ G L) (σ : Nat → Nat → Int) {a0 : Nat} (h0 : τ a0 = 12) {x1 : Int} (r1 : rg x1) {x2 : Int} (r2 : rg x2) : Met l yX11_near wsX11_near ({ frames := 3, cells := 0, slots := 0, locals := 74 }) (jP D cA τ G L σ [.ref a0, .int (jI x1), .int (jI x2)]) (jQI D cA τ G L (fun r σ' => (True) ∧ fr wr_X11_near τ σ σ')) 0 0 (fun q => q ∈ L) := by
  refine j_metI (by decide +kernel) rfl (Nat.le_of_ble_eq_true rfl) ?_
  intro p e s m args below meth c Q hx hb hml hown hts hK hW hRet ls hl
  have hl : lv_has ls 9 [(0, .ref a0), (1, .int (jI x1)), (2, .int (jI x2))] := hl
  have hA : ∀ q ∈ L, (fun q => q ∈ L) q := fun _ h => h
  have hF : va_S (fun q => q ∈ L) s.heap s.heap [] := va_S.rf
  have hR : fr wr_X11_near τ σ σ := fr_rf
  refine lv_iload_n hx hb dX11_near_0 rfl (lv_at hl 2 rfl) ?_
  refine j_if_lt (tgt := 17) hx hb (by omega) dX11_near_1 (by decide) (fun c_1 => ?_) (fun c_1 => ?_)
  · refine j_const hx hb dX11_near_17 ?_
    exact hRet 18 _ _ _ (-1) _ dX11_near_18 hW hF (by decide) ⟨trivial, hR⟩
  · refine lv_iload_n hx hb dX11_near_4 rfl (lv_at hl 2 rfl) ?_
    refine j_const hx hb dX11_near_5 ?_
    refine j_icmp_gt (tgt := 17) hx hb (by omega) (by decide) dX11_near_6 (by decide) (fun c_2 => ?_) (fun c_2 => ?_)
    · refine j_const hx hb dX11_near_17 ?_
      exact hRet 18 _ _ _ (-1) _ dX11_near_18 hW hF (by decide) ⟨trivial, hR⟩
    · refine lv_aload_n hx hb dX11_near_9 rfl (lv_at hl 0 rfl) ?_
      refine lv_iload_n hx hb dX11_near_10 rfl (lv_at hl 1 rfl) ?_
      refine j_cR (j_runV (As := [.int (jI x1)]) (rest := []) hx hb hml hown hts hK hS hW (kX11_isKeyTold l hS σ (a0 := a0) (h0 := h0) (x1 := x1) (r1 := (by omega))) 1 gX11_near_X11_isKeyTold rfl hvX11_isKeyTold ⟨Nat.le_of_ble_eq_true rfl, Nat.le_of_ble_eq_true rfl⟩ rfl rfl h0 rfl rfl rfl rfl hl.1 rfl (Nat.le_of_ble_eq_true rfl) dX11_near_11 ⟨Nat.le_of_ble_eq_true rfl, Nat.le_of_ble_eq_true rfl⟩) (fun v_3 rv_3 pv_3 => ?_)
      try dsimp only at pv_3
      refine j_if_ne (tgt := 19) hx hb (by omega) dX11_near_14 (by decide) (fun c_4 => ?_) (fun c_4 => ?_)
      · refine lv_aload_n hx hb dX11_near_19 rfl (lv_at hl 0 rfl) ?_
        refine lv_iload_n hx hb dX11_near_20 rfl (lv_at hl 1 rfl) ?_
        refine j_cI (j_runV (As := [.int (jI x1)]) (rest := []) hx hb hml hown hts hK hS hW (kX11_readTold l hS σ (a0 := a0) (h0 := h0) (x1 := x1) (r1 := (by omega))) 1 gX11_near_X11_readTold rfl hvX11_readTold ⟨Nat.le_of_ble_eq_true rfl, Nat.le_of_ble_eq_true rfl⟩ rfl rfl h0 rfl rfl rfl rfl hl.1 rfl (Nat.le_of_ble_eq_true rfl) dX11_near_21 ⟨Nat.le_of_ble_eq_true rfl, Nat.le_of_ble_eq_true rfl⟩) hA hF (fun v_5 σ_6 H locs hW hF rv_5 pv_5 => ?_)
        try dsimp only at pv_5
        obtain ⟨bpv_5, pv_5, fpv_5⟩ := pv_5
        have hR := fr_call hR fpv_5 (by decide)
        refine j_if_ne (tgt := 30) hx hb (by omega) dX11_near_24 (by decide) (fun c_7 => ?_) (fun c_7 => ?_)
        · refine lv_aload_n hx hb dX11_near_30 rfl (lv_at hl 0 rfl) ?_
          refine j_getR hx hb (C := RX11) (T := TX11) (N := 12) hts inX11_near_X11 hown hK hS hW h0 rfl 3 rfl rfl (by decide) (hts _ flX11_near_35) dX11_near_31 ?_
          have h_8 : τ (G a0 3) = 9 := gty hS h0 (k := 3) rfl rfl
          refine j_getR hx hb (C := RX8) (T := TX8) (N := 3) hts inX11_near_X8 hown hK hS hW h_8 rfl 0 rfl rfl (by decide) (hts _ flX11_near_58) dX11_near_34 ?_
          have h_9 : τ (G (G a0 3) 0) = 11 := gty hS h_8 (k := 0) rfl rfl
          refine j_getR hx hb (C := RX10) (T := TX10) (N := 9) hts inX11_near_X10 hown hK hS hW h_9 rfl 0 rfl rfl (by decide) (hts _ flX11_near_84) dX11_near_37 ?_
          have h_10 : τ (G (G (G a0 3) 0) 0) = 4 := gty hS h_9 (k := 0) rfl rfl
          refine lv_astore_n (lv' := [(3, .ref (G (G (G a0 3) 0) 0)), (0, .ref a0), (1, .int (jI x1)), (2, .int (jI x2))]) hx hb dX11_near_40 rfl hl (by decide) rfl (fun ls hl => ?_)
          refine lv_aload_n hx hb dX11_near_41 rfl (lv_at hl 0 rfl) ?_
          refine lv_aload_n hx hb dX11_near_42 rfl (lv_at hl 1 rfl) ?_
          refine j_getR hx hb (C := RX11) (T := TX11) (N := 12) hts inX11_near_X11 hown hK hS hW h0 rfl 2 rfl rfl (by decide) (hts _ flX11_near_28) dX11_near_43 ?_
          have h_11 : τ (G a0 2) = 3 := gty hS h0 (k := 2) rfl rfl
          refine j_cR (j_runV (As := [.ref (G a0 2)]) (rest := []) hx hb hml hown hts hK hS hW (kX3_placeOf l hS σ_6 (a0 := G (G (G a0 3) 0) 0) (h0 := h_10) (a1 := G a0 2) (h1 := h_11)) 1 gX11_near_X3_placeOf rfl hvX3_placeOf ⟨Nat.le_of_ble_eq_true rfl, Nat.le_of_ble_eq_true rfl⟩ rfl rfl h_10 rfl rfl rfl rfl hl.1 rfl (Nat.le_of_ble_eq_true rfl) dX11_near_46 ⟨Nat.le_of_ble_eq_true rfl, Nat.le_of_ble_eq_true rfl⟩) (fun v_12 rv_12 pv_12 => ?_)
          try dsimp only at pv_12
          refine lv_istore (lv' := [(4, .int (jI v_12)), (3, .ref (G (G (G a0 3) 0) 0)), (0, .ref a0), (1, .int (jI x1)), (2, .int (jI x2))]) hx hb dX11_near_49 hl (by decide) rfl (fun ls hl => ?_)
          refine lv_aload_n hx hb dX11_near_51 rfl (lv_at hl 1 rfl) ?_
          refine lv_iload hx hb dX11_near_52 (lv_at hl 0 rfl) ?_
          refine lv_aload_n hx hb dX11_near_54 rfl (lv_at hl 2 rfl) ?_
          refine j_getR hx hb (C := RX11) (T := TX11) (N := 12) hts inX11_near_X11 hown hK hS hW h0 rfl 2 rfl rfl (by decide) (hts _ flX11_near_28) dX11_near_55 ?_
          refine j_cR (j_runV (As := [.int (jI v_12), .ref (G a0 2)]) (rest := []) hx hb hml hown hts hK hS hW (kX3_isAt l hS σ_6 (a0 := G (G (G a0 3) 0) 0) (h0 := h_10) (x1 := v_12) (r1 := (by omega)) (a2 := G a0 2) (h2 := h_11)) 2 gX11_near_X3_isAt rfl hvX3_isAt ⟨Nat.le_of_ble_eq_true rfl, Nat.le_of_ble_eq_true rfl⟩ rfl rfl h_10 rfl rfl rfl rfl hl.1 rfl (Nat.le_of_ble_eq_true rfl) dX11_near_58 ⟨Nat.le_of_ble_eq_true rfl, Nat.le_of_ble_eq_true rfl⟩) (fun v_13 rv_13 pv_13 => ?_)
          try dsimp only at pv_13
          refine lv_istore (lv' := [(5, .int (jI v_13)), (4, .int (jI v_12)), (3, .ref (G (G (G a0 3) 0) 0)), (0, .ref a0), (1, .int (jI x1)), (2, .int (jI x2))]) hx hb dX11_near_61 hl (by decide) rfl (fun ls hl => ?_)
          refine lv_iload_n hx hb dX11_near_63 rfl (lv_at hl 5 rfl) ?_
          refine j_const hx hb dX11_near_64 ?_
          refine j_icmp_eq (tgt := 73) hx hb (by omega) (by decide) dX11_near_65 (by decide) (fun c_14 => ?_) (fun c_14 => ?_)
          · refine j_const hx hb dX11_near_73 ?_
            refine lv_goto (tgt := 78) hx hb dX11_near_74 (by decide) ?_
            refine lv_istore (lv' := [(6, .int (jI 1)), (5, .int (jI v_13)), (4, .int (jI v_12)), (3, .ref (G (G (G a0 3) 0) 0)), (0, .ref a0), (1, .int (jI x1)), (2, .int (jI x2))]) hx hb dX11_near_78 hl (by decide) rfl (fun ls hl => ?_)
            refine lv_iload_n hx hb dX11_near_80 rfl (lv_at hl 6 rfl) ?_
            refine j_if_eq (tgt := 89) hx hb (by omega) dX11_near_81 (by decide) (fun c_15 => ?_) (fun c_15 => ?_)
            · refine j_const hx hb dX11_near_89 ?_
              refine lv_goto (tgt := 94) hx hb dX11_near_90 (by decide) ?_
              refine lv_istore (lv' := [(7, .int (jI 1)), (6, .int (jI 1)), (5, .int (jI v_13)), (4, .int (jI v_12)), (3, .ref (G (G (G a0 3) 0) 0)), (0, .ref a0), (1, .int (jI x1)), (2, .int (jI x2))]) hx hb dX11_near_94 hl (by decide) rfl (fun ls hl => ?_)
              refine lv_iload hx hb dX11_near_96 (lv_at hl 0 rfl) ?_
              refine j_if_eq (tgt := 111) hx hb (by decide) dX11_near_98 (by decide) (fun h => absurd h (by decide)) (fun _ => ?_)
              refine lv_iload hx hb dX11_near_101 (lv_at hl 2 rfl) ?_
              refine j_if_eq (tgt := 111) hx hb (by omega) dX11_near_103 (by decide) (fun c_17 => ?_) (fun c_17 => ?_)
              · refine lv_aload_n hx hb dX11_near_111 rfl (lv_at hl 4 rfl) ?_
                refine lv_iload hx hb dX11_near_112 (lv_at hl 3 rfl) ?_
                refine lv_iload hx hb dX11_near_114 (lv_at hl 2 rfl) ?_
                refine lv_iload hx hb dX11_near_116 (lv_at hl 1 rfl) ?_
                refine j_cR (j_runV (As := [.int (jI v_12), .int (jI v_13), .int (jI 1)]) (rest := []) hx hb hml hown hts hK hS hW (kX3_beside l hS σ_6 (a0 := G (G (G a0 3) 0) 0) (h0 := h_10) (x1 := v_12) (r1 := (by omega)) (x2 := v_13) (r2 := (by omega)) (x3 := 1) (r3 := (by decide))) 3 gX11_near_X3_beside rfl hvX3_beside ⟨Nat.le_of_ble_eq_true rfl, Nat.le_of_ble_eq_true rfl⟩ rfl rfl h_10 rfl rfl rfl rfl hl.1 rfl (Nat.le_of_ble_eq_true rfl) dX11_near_118 ⟨Nat.le_of_ble_eq_true rfl, Nat.le_of_ble_eq_true rfl⟩) (fun v_18 rv_18 pv_18 => ?_)
                try dsimp only at pv_18
                refine lv_istore (lv' := [(8, .int (jI v_18)), (7, .int (jI 1)), (6, .int (jI 1)), (5, .int (jI v_13)), (4, .int (jI v_12)), (3, .ref (G (G (G a0 3) 0) 0)), (0, .ref a0), (1, .int (jI x1)), (2, .int (jI x2))]) hx hb dX11_near_121 hl (by decide) rfl (fun ls hl => ?_)
                refine lv_aload_n hx hb dX11_near_123 rfl (lv_at hl 5 rfl) ?_
                refine lv_iload hx hb dX11_near_124 (lv_at hl 0 rfl) ?_
                refine j_cR (j_runV (As := [.int (jI v_18)]) (rest := []) hx hb hml hown hts hK hS hW (kX3_has l hS σ_6 (a0 := G (G (G a0 3) 0) 0) (h0 := h_10) (x1 := v_18) (r1 := (by omega))) 1 gX11_near_X3_has rfl hvX3_has ⟨Nat.le_of_ble_eq_true rfl, Nat.le_of_ble_eq_true rfl⟩ rfl rfl h_10 rfl rfl rfl rfl hl.1 rfl (Nat.le_of_ble_eq_true rfl) dX11_near_126 ⟨Nat.le_of_ble_eq_true rfl, Nat.le_of_ble_eq_true rfl⟩) (fun v_19 rv_19 pv_19 => ?_)
                try dsimp only at pv_19
                refine j_if_eq (tgt := 137) hx hb (by omega) dX11_near_129 (by decide) (fun c_20 => ?_) (fun c_20 => ?_)
                · refine j_bi hx hb dX11_near_137 (by decide) ?_
                  exact hRet 139 _ _ _ (-3) _ dX11_near_139 hW hF (by decide) ⟨trivial, hR⟩
                · refine lv_iload hx hb dX11_near_132 (lv_at hl 0 rfl) ?_
                  refine lv_goto (tgt := 139) hx hb dX11_near_134 (by decide) ?_
                  exact hRet 139 _ _ _ v_18 _ dX11_near_139 hW hF (by omega) ⟨trivial, hR⟩
              · refine lv_iload hx hb dX11_near_106 (lv_at hl 3 rfl) ?_
                refine lv_goto (tgt := 121) hx hb dX11_near_108 (by decide) ?_
                refine lv_istore (lv' := [(8, .int (jI v_12)), (7, .int (jI 1)), (6, .int (jI 1)), (5, .int (jI v_13)), (4, .int (jI v_12)), (3, .ref (G (G (G a0 3) 0) 0)), (0, .ref a0), (1, .int (jI x1)), (2, .int (jI x2))]) hx hb dX11_near_121 hl (by decide) rfl (fun ls hl => ?_)
                refine lv_aload_n hx hb dX11_near_123 rfl (lv_at hl 5 rfl) ?_
                refine lv_iload hx hb dX11_near_124 (lv_at hl 0 rfl) ?_
                refine j_cR (j_runV (As := [.int (jI v_12)]) (rest := []) hx hb hml hown hts hK hS hW (kX3_has l hS σ_6 (a0 := G (G (G a0 3) 0) 0) (h0 := h_10) (x1 := v_12) (r1 := (by omega))) 1 gX11_near_X3_has rfl hvX3_has ⟨Nat.le_of_ble_eq_true rfl, Nat.le_of_ble_eq_true rfl⟩ rfl rfl h_10 rfl rfl rfl rfl hl.1 rfl (Nat.le_of_ble_eq_true rfl) dX11_near_126 ⟨Nat.le_of_ble_eq_true rfl, Nat.le_of_ble_eq_true rfl⟩) (fun v_21 rv_21 pv_21 => ?_)
                try dsimp only at pv_21
                refine j_if_eq (tgt := 137) hx hb (by omega) dX11_near_129 (by decide) (fun c_22 => ?_) (fun c_22 => ?_)
                · refine j_bi hx hb dX11_near_137 (by decide) ?_
                  exact hRet 139 _ _ _ (-3) _ dX11_near_139 hW hF (by decide) ⟨trivial, hR⟩
                · refine lv_iload hx hb dX11_near_132 (lv_at hl 0 rfl) ?_
                  refine lv_goto (tgt := 139) hx hb dX11_near_134 (by decide) ?_
                  exact hRet 139 _ _ _ v_12 _ dX11_near_139 hW hF (by omega) ⟨trivial, hR⟩
            · refine lv_iload_n hx hb dX11_near_84 rfl (lv_at hl 6 rfl) ?_
              refine j_const hx hb dX11_near_85 ?_
              refine j_icmp_ne (tgt := 93) hx hb (by omega) (by decide) dX11_near_86 (by decide) (fun c_23 => ?_) (fun c_23 => ?_)
              · refine j_const hx hb dX11_near_93 ?_
                refine lv_istore (lv' := [(7, .int (jI 0)), (6, .int (jI 1)), (5, .int (jI v_13)), (4, .int (jI v_12)), (3, .ref (G (G (G a0 3) 0) 0)), (0, .ref a0), (1, .int (jI x1)), (2, .int (jI x2))]) hx hb dX11_near_94 hl (by decide) rfl (fun ls hl => ?_)
                refine lv_iload hx hb dX11_near_96 (lv_at hl 0 rfl) ?_
                refine j_if_eq (tgt := 111) hx hb (by decide) dX11_near_98 (by decide) (fun _ => ?_) (fun h => absurd h (by decide))
                refine lv_aload_n hx hb dX11_near_111 rfl (lv_at hl 4 rfl) ?_
                refine lv_iload hx hb dX11_near_112 (lv_at hl 3 rfl) ?_
                refine lv_iload hx hb dX11_near_114 (lv_at hl 2 rfl) ?_
                refine lv_iload hx hb dX11_near_116 (lv_at hl 1 rfl) ?_
                refine j_cR (j_runV (As := [.int (jI v_12), .int (jI v_13), .int (jI 1)]) (rest := []) hx hb hml hown hts hK hS hW (kX3_beside l hS σ_6 (a0 := G (G (G a0 3) 0) 0) (h0 := h_10) (x1 := v_12) (r1 := (by omega)) (x2 := v_13) (r2 := (by omega)) (x3 := 1) (r3 := (by decide))) 3 gX11_near_X3_beside rfl hvX3_beside ⟨Nat.le_of_ble_eq_true rfl, Nat.le_of_ble_eq_true rfl⟩ rfl rfl h_10 rfl rfl rfl rfl hl.1 rfl (Nat.le_of_ble_eq_true rfl) dX11_near_118 ⟨Nat.le_of_ble_eq_true rfl, Nat.le_of_ble_eq_true rfl⟩) (fun v_25 rv_25 pv_25 => ?_)
                try dsimp only at pv_25
                refine lv_istore (lv' := [(8, .int (jI v_25)), (7, .int (jI 0)), (6, .int (jI 1)), (5, .int (jI v_13)), (4, .int (jI v_12)), (3, .ref (G (G (G a0 3) 0) 0)), (0, .ref a0), (1, .int (jI x1)), (2, .int (jI x2))]) hx hb dX11_near_121 hl (by decide) rfl (fun ls hl => ?_)
                refine lv_aload_n hx hb dX11_near_123 rfl (lv_at hl 5 rfl) ?_
                refine lv_iload hx hb dX11_near_124 (lv_at hl 0 rfl) ?_
                refine j_cR (j_runV (As := [.int (jI v_25)]) (rest := []) hx hb hml hown hts hK hS hW (kX3_has l hS σ_6 (a0 := G (G (G a0 3) 0) 0) (h0 := h_10) (x1 := v_25) (r1 := (by omega))) 1 gX11_near_X3_has rfl hvX3_has ⟨Nat.le_of_ble_eq_true rfl, Nat.le_of_ble_eq_true rfl⟩ rfl rfl h_10 rfl rfl rfl rfl hl.1 rfl (Nat.le_of_ble_eq_true rfl) dX11_near_126 ⟨Nat.le_of_ble_eq_true rfl, Nat.le_of_ble_eq_true rfl⟩) (fun v_26 rv_26 pv_26 => ?_)
                try dsimp only at pv_26
                refine j_if_eq (tgt := 137) hx hb (by omega) dX11_near_129 (by decide) (fun c_27 => ?_) (fun c_27 => ?_)
                · refine j_bi hx hb dX11_near_137 (by decide) ?_
                  exact hRet 139 _ _ _ (-3) _ dX11_near_139 hW hF (by decide) ⟨trivial, hR⟩
                · refine lv_iload hx hb dX11_near_132 (lv_at hl 0 rfl) ?_
                  refine lv_goto (tgt := 139) hx hb dX11_near_134 (by decide) ?_
                  exact hRet 139 _ _ _ v_25 _ dX11_near_139 hW hF (by omega) ⟨trivial, hR⟩
              · refine j_const hx hb dX11_near_89 ?_
                refine lv_goto (tgt := 94) hx hb dX11_near_90 (by decide) ?_
                refine lv_istore (lv' := [(7, .int (jI 1)), (6, .int (jI 1)), (5, .int (jI v_13)), (4, .int (jI v_12)), (3, .ref (G (G (G a0 3) 0) 0)), (0, .ref a0), (1, .int (jI x1)), (2, .int (jI x2))]) hx hb dX11_near_94 hl (by decide) rfl (fun ls hl => ?_)
                refine lv_iload hx hb dX11_near_96 (lv_at hl 0 rfl) ?_
                refine j_if_eq (tgt := 111) hx hb (by decide) dX11_near_98 (by decide) (fun h => absurd h (by decide)) (fun _ => ?_)
                refine lv_iload hx hb dX11_near_101 (lv_at hl 2 rfl) ?_
                refine j_if_eq (tgt := 111) hx hb (by omega) dX11_near_103 (by decide) (fun c_29 => ?_) (fun c_29 => ?_)
                · refine lv_aload_n hx hb dX11_near_111 rfl (lv_at hl 4 rfl) ?_
                  refine lv_iload hx hb dX11_near_112 (lv_at hl 3 rfl) ?_
                  refine lv_iload hx hb dX11_near_114 (lv_at hl 2 rfl) ?_
                  refine lv_iload hx hb dX11_near_116 (lv_at hl 1 rfl) ?_
                  refine j_cR (j_runV (As := [.int (jI v_12), .int (jI v_13), .int (jI 1)]) (rest := []) hx hb hml hown hts hK hS hW (kX3_beside l hS σ_6 (a0 := G (G (G a0 3) 0) 0) (h0 := h_10) (x1 := v_12) (r1 := (by omega)) (x2 := v_13) (r2 := (by omega)) (x3 := 1) (r3 := (by decide))) 3 gX11_near_X3_beside rfl hvX3_beside ⟨Nat.le_of_ble_eq_true rfl, Nat.le_of_ble_eq_true rfl⟩ rfl rfl h_10 rfl rfl rfl rfl hl.1 rfl (Nat.le_of_ble_eq_true rfl) dX11_near_118 ⟨Nat.le_of_ble_eq_true rfl, Nat.le_of_ble_eq_true rfl⟩) (fun v_30 rv_30 pv_30 => ?_)
                  try dsimp only at pv_30
                  refine lv_istore (lv' := [(8, .int (jI v_30)), (7, .int (jI 1)), (6, .int (jI 1)), (5, .int (jI v_13)), (4, .int (jI v_12)), (3, .ref (G (G (G a0 3) 0) 0)), (0, .ref a0), (1, .int (jI x1)), (2, .int (jI x2))]) hx hb dX11_near_121 hl (by decide) rfl (fun ls hl => ?_)
                  refine lv_aload_n hx hb dX11_near_123 rfl (lv_at hl 5 rfl) ?_
                  refine lv_iload hx hb dX11_near_124 (lv_at hl 0 rfl) ?_
                  refine j_cR (j_runV (As := [.int (jI v_30)]) (rest := []) hx hb hml hown hts hK hS hW (kX3_has l hS σ_6 (a0 := G (G (G a0 3) 0) 0) (h0 := h_10) (x1 := v_30) (r1 := (by omega))) 1 gX11_near_X3_has rfl hvX3_has ⟨Nat.le_of_ble_eq_true rfl, Nat.le_of_ble_eq_true rfl⟩ rfl rfl h_10 rfl rfl rfl rfl hl.1 rfl (Nat.le_of_ble_eq_true rfl) dX11_near_126 ⟨Nat.le_of_ble_eq_true rfl, Nat.le_of_ble_eq_true rfl⟩) (fun v_31 rv_31 pv_31 => ?_)
                  try dsimp only at pv_31
                  refine j_if_eq (tgt := 137) hx hb (by omega) dX11_near_129 (by decide) (fun c_32 => ?_) (fun c_32 => ?_)
                  · refine j_bi hx hb dX11_near_137 (by decide) ?_
                    exact hRet 139 _ _ _ (-3) _ dX11_near_139 hW hF (by decide) ⟨trivial, hR⟩
                  · refine lv_iload hx hb dX11_near_132 (lv_at hl 0 rfl) ?_
                    refine lv_goto (tgt := 139) hx hb dX11_near_134 (by decide) ?_
                    exact hRet 139 _ _ _ v_30 _ dX11_near_139 hW hF (by omega) ⟨trivial, hR⟩
                · refine lv_iload hx hb dX11_near_106 (lv_at hl 3 rfl) ?_
                  refine lv_goto (tgt := 121) hx hb dX11_near_108 (by decide) ?_
                  refine lv_istore (lv' := [(8, .int (jI v_12)), (7, .int (jI 1)), (6, .int (jI 1)), (5, .int (jI v_13)), (4, .int (jI v_12)), (3, .ref (G (G (G a0 3) 0) 0)), (0, .ref a0), (1, .int (jI x1)), (2, .int (jI x2))]) hx hb dX11_near_121 hl (by decide) rfl (fun ls hl => ?_)
                  refine lv_aload_n hx hb dX11_near_123 rfl (lv_at hl 5 rfl) ?_
                  refine lv_iload hx hb dX11_near_124 (lv_at hl 0 rfl) ?_
                  refine j_cR (j_runV (As := [.int (jI v_12)]) (rest := []) hx hb hml hown hts hK hS hW (kX3_has l hS σ_6 (a0 := G (G (G a0 3) 0) 0) (h0 := h_10) (x1 := v_12) (r1 := (by omega))) 1 gX11_near_X3_has rfl hvX3_has ⟨Nat.le_of_ble_eq_true rfl, Nat.le_of_ble_eq_true rfl⟩ rfl rfl h_10 rfl rfl rfl rfl hl.1 rfl (Nat.le_of_ble_eq_true rfl) dX11_near_126 ⟨Nat.le_of_ble_eq_true rfl, Nat.le_of_ble_eq_true rfl⟩) (fun v_33 rv_33 pv_33 => ?_)
                  try dsimp only at pv_33
                  refine j_if_eq (tgt := 137) hx hb (by omega) dX11_near_129 (by decide) (fun c_34 => ?_) (fun c_34 => ?_)
                  · refine j_bi hx hb dX11_near_137 (by decide) ?_
                    exact hRet 139 _ _ _ (-3) _ dX11_near_139 hW hF (by decide) ⟨trivial, hR⟩
                  · refine lv_iload hx hb dX11_near_132 (lv_at hl 0 rfl) ?_
                    refine lv_goto (tgt := 139) hx hb dX11_near_134 (by decide) ?_
                    exact hRet 139 _ _ _ v_12 _ dX11_near_139 hW hF (by omega) ⟨trivial, hR⟩
          · refine lv_iload_n hx hb dX11_near_68 rfl (lv_at hl 5 rfl) ?_
            refine j_const hx hb dX11_near_69 ?_
            refine j_icmp_ne (tgt := 77) hx hb (by omega) (by decide) dX11_near_70 (by decide) (fun c_35 => ?_) (fun c_35 => ?_)
            · refine j_const hx hb dX11_near_77 ?_
              refine lv_istore (lv' := [(6, .int (jI 0)), (5, .int (jI v_13)), (4, .int (jI v_12)), (3, .ref (G (G (G a0 3) 0) 0)), (0, .ref a0), (1, .int (jI x1)), (2, .int (jI x2))]) hx hb dX11_near_78 hl (by decide) rfl (fun ls hl => ?_)
              refine lv_iload_n hx hb dX11_near_80 rfl (lv_at hl 6 rfl) ?_
              refine j_if_eq (tgt := 89) hx hb (by omega) dX11_near_81 (by decide) (fun c_36 => ?_) (fun c_36 => ?_)
              · refine j_const hx hb dX11_near_89 ?_
                refine lv_goto (tgt := 94) hx hb dX11_near_90 (by decide) ?_
                refine lv_istore (lv' := [(7, .int (jI 1)), (6, .int (jI 0)), (5, .int (jI v_13)), (4, .int (jI v_12)), (3, .ref (G (G (G a0 3) 0) 0)), (0, .ref a0), (1, .int (jI x1)), (2, .int (jI x2))]) hx hb dX11_near_94 hl (by decide) rfl (fun ls hl => ?_)
                refine lv_iload hx hb dX11_near_96 (lv_at hl 0 rfl) ?_
                refine j_if_eq (tgt := 111) hx hb (by decide) dX11_near_98 (by decide) (fun h => absurd h (by decide)) (fun _ => ?_)
                refine lv_iload hx hb dX11_near_101 (lv_at hl 2 rfl) ?_
                refine j_if_eq (tgt := 111) hx hb (by omega) dX11_near_103 (by decide) (fun c_38 => ?_) (fun c_38 => ?_)
                · refine lv_aload_n hx hb dX11_near_111 rfl (lv_at hl 4 rfl) ?_
                  refine lv_iload hx hb dX11_near_112 (lv_at hl 3 rfl) ?_
                  refine lv_iload hx hb dX11_near_114 (lv_at hl 2 rfl) ?_
                  refine lv_iload hx hb dX11_near_116 (lv_at hl 1 rfl) ?_
                  refine j_cR (j_runV (As := [.int (jI v_12), .int (jI v_13), .int (jI 0)]) (rest := []) hx hb hml hown hts hK hS hW (kX3_beside l hS σ_6 (a0 := G (G (G a0 3) 0) 0) (h0 := h_10) (x1 := v_12) (r1 := (by omega)) (x2 := v_13) (r2 := (by omega)) (x3 := 0) (r3 := (by decide))) 3 gX11_near_X3_beside rfl hvX3_beside ⟨Nat.le_of_ble_eq_true rfl, Nat.le_of_ble_eq_true rfl⟩ rfl rfl h_10 rfl rfl rfl rfl hl.1 rfl (Nat.le_of_ble_eq_true rfl) dX11_near_118 ⟨Nat.le_of_ble_eq_true rfl, Nat.le_of_ble_eq_true rfl⟩) (fun v_39 rv_39 pv_39 => ?_)
                  try dsimp only at pv_39
                  refine lv_istore (lv' := [(8, .int (jI v_39)), (7, .int (jI 1)), (6, .int (jI 0)), (5, .int (jI v_13)), (4, .int (jI v_12)), (3, .ref (G (G (G a0 3) 0) 0)), (0, .ref a0), (1, .int (jI x1)), (2, .int (jI x2))]) hx hb dX11_near_121 hl (by decide) rfl (fun ls hl => ?_)
                  refine lv_aload_n hx hb dX11_near_123 rfl (lv_at hl 5 rfl) ?_
                  refine lv_iload hx hb dX11_near_124 (lv_at hl 0 rfl) ?_
                  refine j_cR (j_runV (As := [.int (jI v_39)]) (rest := []) hx hb hml hown hts hK hS hW (kX3_has l hS σ_6 (a0 := G (G (G a0 3) 0) 0) (h0 := h_10) (x1 := v_39) (r1 := (by omega))) 1 gX11_near_X3_has rfl hvX3_has ⟨Nat.le_of_ble_eq_true rfl, Nat.le_of_ble_eq_true rfl⟩ rfl rfl h_10 rfl rfl rfl rfl hl.1 rfl (Nat.le_of_ble_eq_true rfl) dX11_near_126 ⟨Nat.le_of_ble_eq_true rfl, Nat.le_of_ble_eq_true rfl⟩) (fun v_40 rv_40 pv_40 => ?_)
                  try dsimp only at pv_40
                  refine j_if_eq (tgt := 137) hx hb (by omega) dX11_near_129 (by decide) (fun c_41 => ?_) (fun c_41 => ?_)
                  · refine j_bi hx hb dX11_near_137 (by decide) ?_
                    exact hRet 139 _ _ _ (-3) _ dX11_near_139 hW hF (by decide) ⟨trivial, hR⟩
                  · refine lv_iload hx hb dX11_near_132 (lv_at hl 0 rfl) ?_
                    refine lv_goto (tgt := 139) hx hb dX11_near_134 (by decide) ?_
                    exact hRet 139 _ _ _ v_39 _ dX11_near_139 hW hF (by omega) ⟨trivial, hR⟩
                · refine lv_iload hx hb dX11_near_106 (lv_at hl 3 rfl) ?_
                  refine lv_goto (tgt := 121) hx hb dX11_near_108 (by decide) ?_
                  refine lv_istore (lv' := [(8, .int (jI v_12)), (7, .int (jI 1)), (6, .int (jI 0)), (5, .int (jI v_13)), (4, .int (jI v_12)), (3, .ref (G (G (G a0 3) 0) 0)), (0, .ref a0), (1, .int (jI x1)), (2, .int (jI x2))]) hx hb dX11_near_121 hl (by decide) rfl (fun ls hl => ?_)
                  refine lv_aload_n hx hb dX11_near_123 rfl (lv_at hl 5 rfl) ?_
                  refine lv_iload hx hb dX11_near_124 (lv_at hl 0 rfl) ?_
                  refine j_cR (j_runV (As := [.int (jI v_12)]) (rest := []) hx hb hml hown hts hK hS hW (kX3_has l hS σ_6 (a0 := G (G (G a0 3) 0) 0) (h0 := h_10) (x1 := v_12) (r1 := (by omega))) 1 gX11_near_X3_has rfl hvX3_has ⟨Nat.le_of_ble_eq_true rfl, Nat.le_of_ble_eq_true rfl⟩ rfl rfl h_10 rfl rfl rfl rfl hl.1 rfl (Nat.le_of_ble_eq_true rfl) dX11_near_126 ⟨Nat.le_of_ble_eq_true rfl, Nat.le_of_ble_eq_true rfl⟩) (fun v_42 rv_42 pv_42 => ?_)
                  try dsimp only at pv_42
                  refine j_if_eq (tgt := 137) hx hb (by omega) dX11_near_129 (by decide) (fun c_43 => ?_) (fun c_43 => ?_)
                  · refine j_bi hx hb dX11_near_137 (by decide) ?_
                    exact hRet 139 _ _ _ (-3) _ dX11_near_139 hW hF (by decide) ⟨trivial, hR⟩
                  · refine lv_iload hx hb dX11_near_132 (lv_at hl 0 rfl) ?_
                    refine lv_goto (tgt := 139) hx hb dX11_near_134 (by decide) ?_
                    exact hRet 139 _ _ _ v_12 _ dX11_near_139 hW hF (by omega) ⟨trivial, hR⟩
              · refine lv_iload_n hx hb dX11_near_84 rfl (lv_at hl 6 rfl) ?_
                refine j_const hx hb dX11_near_85 ?_
                refine j_icmp_ne (tgt := 93) hx hb (by omega) (by decide) dX11_near_86 (by decide) (fun c_44 => ?_) (fun c_44 => ?_)
                · refine j_const hx hb dX11_near_93 ?_
                  refine lv_istore (lv' := [(7, .int (jI 0)), (6, .int (jI 0)), (5, .int (jI v_13)), (4, .int (jI v_12)), (3, .ref (G (G (G a0 3) 0) 0)), (0, .ref a0), (1, .int (jI x1)), (2, .int (jI x2))]) hx hb dX11_near_94 hl (by decide) rfl (fun ls hl => ?_)
                  refine lv_iload hx hb dX11_near_96 (lv_at hl 0 rfl) ?_
                  refine j_if_eq (tgt := 111) hx hb (by decide) dX11_near_98 (by decide) (fun _ => ?_) (fun h => absurd h (by decide))
                  refine lv_aload_n hx hb dX11_near_111 rfl (lv_at hl 4 rfl) ?_
                  refine lv_iload hx hb dX11_near_112 (lv_at hl 3 rfl) ?_
                  refine lv_iload hx hb dX11_near_114 (lv_at hl 2 rfl) ?_
                  refine lv_iload hx hb dX11_near_116 (lv_at hl 1 rfl) ?_
                  refine j_cR (j_runV (As := [.int (jI v_12), .int (jI v_13), .int (jI 0)]) (rest := []) hx hb hml hown hts hK hS hW (kX3_beside l hS σ_6 (a0 := G (G (G a0 3) 0) 0) (h0 := h_10) (x1 := v_12) (r1 := (by omega)) (x2 := v_13) (r2 := (by omega)) (x3 := 0) (r3 := (by decide))) 3 gX11_near_X3_beside rfl hvX3_beside ⟨Nat.le_of_ble_eq_true rfl, Nat.le_of_ble_eq_true rfl⟩ rfl rfl h_10 rfl rfl rfl rfl hl.1 rfl (Nat.le_of_ble_eq_true rfl) dX11_near_118 ⟨Nat.le_of_ble_eq_true rfl, Nat.le_of_ble_eq_true rfl⟩) (fun v_46 rv_46 pv_46 => ?_)
                  try dsimp only at pv_46
                  refine lv_istore (lv' := [(8, .int (jI v_46)), (7, .int (jI 0)), (6, .int (jI 0)), (5, .int (jI v_13)), (4, .int (jI v_12)), (3, .ref (G (G (G a0 3) 0) 0)), (0, .ref a0), (1, .int (jI x1)), (2, .int (jI x2))]) hx hb dX11_near_121 hl (by decide) rfl (fun ls hl => ?_)
                  refine lv_aload_n hx hb dX11_near_123 rfl (lv_at hl 5 rfl) ?_
                  refine lv_iload hx hb dX11_near_124 (lv_at hl 0 rfl) ?_
                  refine j_cR (j_runV (As := [.int (jI v_46)]) (rest := []) hx hb hml hown hts hK hS hW (kX3_has l hS σ_6 (a0 := G (G (G a0 3) 0) 0) (h0 := h_10) (x1 := v_46) (r1 := (by omega))) 1 gX11_near_X3_has rfl hvX3_has ⟨Nat.le_of_ble_eq_true rfl, Nat.le_of_ble_eq_true rfl⟩ rfl rfl h_10 rfl rfl rfl rfl hl.1 rfl (Nat.le_of_ble_eq_true rfl) dX11_near_126 ⟨Nat.le_of_ble_eq_true rfl, Nat.le_of_ble_eq_true rfl⟩) (fun v_47 rv_47 pv_47 => ?_)
                  try dsimp only at pv_47
                  refine j_if_eq (tgt := 137) hx hb (by omega) dX11_near_129 (by decide) (fun c_48 => ?_) (fun c_48 => ?_)
                  · refine j_bi hx hb dX11_near_137 (by decide) ?_
                    exact hRet 139 _ _ _ (-3) _ dX11_near_139 hW hF (by decide) ⟨trivial, hR⟩
                  · refine lv_iload hx hb dX11_near_132 (lv_at hl 0 rfl) ?_
                    refine lv_goto (tgt := 139) hx hb dX11_near_134 (by decide) ?_
                    exact hRet 139 _ _ _ v_46 _ dX11_near_139 hW hF (by omega) ⟨trivial, hR⟩
                · refine j_const hx hb dX11_near_89 ?_
                  refine lv_goto (tgt := 94) hx hb dX11_near_90 (by decide) ?_
                  refine lv_istore (lv' := [(7, .int (jI 1)), (6, .int (jI 0)), (5, .int (jI v_13)), (4, .int (jI v_12)), (3, .ref (G (G (G a0 3) 0) 0)), (0, .ref a0), (1, .int (jI x1)), (2, .int (jI x2))]) hx hb dX11_near_94 hl (by decide) rfl (fun ls hl => ?_)
                  refine lv_iload hx hb dX11_near_96 (lv_at hl 0 rfl) ?_
                  refine j_if_eq (tgt := 111) hx hb (by decide) dX11_near_98 (by decide) (fun h => absurd h (by decide)) (fun _ => ?_)
                  refine lv_iload hx hb dX11_near_101 (lv_at hl 2 rfl) ?_
                  refine j_if_eq (tgt := 111) hx hb (by omega) dX11_near_103 (by decide) (fun c_50 => ?_) (fun c_50 => ?_)
                  · refine lv_aload_n hx hb dX11_near_111 rfl (lv_at hl 4 rfl) ?_
                    refine lv_iload hx hb dX11_near_112 (lv_at hl 3 rfl) ?_
                    refine lv_iload hx hb dX11_near_114 (lv_at hl 2 rfl) ?_
                    refine lv_iload hx hb dX11_near_116 (lv_at hl 1 rfl) ?_
                    refine j_cR (j_runV (As := [.int (jI v_12), .int (jI v_13), .int (jI 0)]) (rest := []) hx hb hml hown hts hK hS hW (kX3_beside l hS σ_6 (a0 := G (G (G a0 3) 0) 0) (h0 := h_10) (x1 := v_12) (r1 := (by omega)) (x2 := v_13) (r2 := (by omega)) (x3 := 0) (r3 := (by decide))) 3 gX11_near_X3_beside rfl hvX3_beside ⟨Nat.le_of_ble_eq_true rfl, Nat.le_of_ble_eq_true rfl⟩ rfl rfl h_10 rfl rfl rfl rfl hl.1 rfl (Nat.le_of_ble_eq_true rfl) dX11_near_118 ⟨Nat.le_of_ble_eq_true rfl, Nat.le_of_ble_eq_true rfl⟩) (fun v_51 rv_51 pv_51 => ?_)
                    try dsimp only at pv_51
                    refine lv_istore (lv' := [(8, .int (jI v_51)), (7, .int (jI 1)), (6, .int (jI 0)), (5, .int (jI v_13)), (4, .int (jI v_12)), (3, .ref (G (G (G a0 3) 0) 0)), (0, .ref a0), (1, .int (jI x1)), (2, .int (jI x2))]) hx hb dX11_near_121 hl (by decide) rfl (fun ls hl => ?_)
                    refine lv_aload_n hx hb dX11_near_123 rfl (lv_at hl 5 rfl) ?_
                    refine lv_iload hx hb dX11_near_124 (lv_at hl 0 rfl) ?_
                    refine j_cR (j_runV (As := [.int (jI v_51)]) (rest := []) hx hb hml hown hts hK hS hW (kX3_has l hS σ_6 (a0 := G (G (G a0 3) 0) 0) (h0 := h_10) (x1 := v_51) (r1 := (by omega))) 1 gX11_near_X3_has rfl hvX3_has ⟨Nat.le_of_ble_eq_true rfl, Nat.le_of_ble_eq_true rfl⟩ rfl rfl h_10 rfl rfl rfl rfl hl.1 rfl (Nat.le_of_ble_eq_true rfl) dX11_near_126 ⟨Nat.le_of_ble_eq_true rfl, Nat.le_of_ble_eq_true rfl⟩) (fun v_52 rv_52 pv_52 => ?_)
                    try dsimp only at pv_52
                    refine j_if_eq (tgt := 137) hx hb (by omega) dX11_near_129 (by decide) (fun c_53 => ?_) (fun c_53 => ?_)
                    · refine j_bi hx hb dX11_near_137 (by decide) ?_
                      exact hRet 139 _ _ _ (-3) _ dX11_near_139 hW hF (by decide) ⟨trivial, hR⟩
                    · refine lv_iload hx hb dX11_near_132 (lv_at hl 0 rfl) ?_
                      refine lv_goto (tgt := 139) hx hb dX11_near_134 (by decide) ?_
                      exact hRet 139 _ _ _ v_51 _ dX11_near_139 hW hF (by omega) ⟨trivial, hR⟩
                  · refine lv_iload hx hb dX11_near_106 (lv_at hl 3 rfl) ?_
                    refine lv_goto (tgt := 121) hx hb dX11_near_108 (by decide) ?_
                    refine lv_istore (lv' := [(8, .int (jI v_12)), (7, .int (jI 1)), (6, .int (jI 0)), (5, .int (jI v_13)), (4, .int (jI v_12)), (3, .ref (G (G (G a0 3) 0) 0)), (0, .ref a0), (1, .int (jI x1)), (2, .int (jI x2))]) hx hb dX11_near_121 hl (by decide) rfl (fun ls hl => ?_)
                    refine lv_aload_n hx hb dX11_near_123 rfl (lv_at hl 5 rfl) ?_
                    refine lv_iload hx hb dX11_near_124 (lv_at hl 0 rfl) ?_
                    refine j_cR (j_runV (As := [.int (jI v_12)]) (rest := []) hx hb hml hown hts hK hS hW (kX3_has l hS σ_6 (a0 := G (G (G a0 3) 0) 0) (h0 := h_10) (x1 := v_12) (r1 := (by omega))) 1 gX11_near_X3_has rfl hvX3_has ⟨Nat.le_of_ble_eq_true rfl, Nat.le_of_ble_eq_true rfl⟩ rfl rfl h_10 rfl rfl rfl rfl hl.1 rfl (Nat.le_of_ble_eq_true rfl) dX11_near_126 ⟨Nat.le_of_ble_eq_true rfl, Nat.le_of_ble_eq_true rfl⟩) (fun v_54 rv_54 pv_54 => ?_)
                    try dsimp only at pv_54
                    refine j_if_eq (tgt := 137) hx hb (by omega) dX11_near_129 (by decide) (fun c_55 => ?_) (fun c_55 => ?_)
                    · refine j_bi hx hb dX11_near_137 (by decide) ?_
                      exact hRet 139 _ _ _ (-3) _ dX11_near_139 hW hF (by decide) ⟨trivial, hR⟩
                    · refine lv_iload hx hb dX11_near_132 (lv_at hl 0 rfl) ?_
                      refine lv_goto (tgt := 139) hx hb dX11_near_134 (by decide) ?_
                      exact hRet 139 _ _ _ v_12 _ dX11_near_139 hW hF (by omega) ⟨trivial, hR⟩
            · refine j_const hx hb dX11_near_73 ?_
              refine lv_goto (tgt := 78) hx hb dX11_near_74 (by decide) ?_
              refine lv_istore (lv' := [(6, .int (jI 1)), (5, .int (jI v_13)), (4, .int (jI v_12)), (3, .ref (G (G (G a0 3) 0) 0)), (0, .ref a0), (1, .int (jI x1)), (2, .int (jI x2))]) hx hb dX11_near_78 hl (by decide) rfl (fun ls hl => ?_)
              refine lv_iload_n hx hb dX11_near_80 rfl (lv_at hl 6 rfl) ?_
              refine j_if_eq (tgt := 89) hx hb (by omega) dX11_near_81 (by decide) (fun c_56 => ?_) (fun c_56 => ?_)
              · refine j_const hx hb dX11_near_89 ?_
                refine lv_goto (tgt := 94) hx hb dX11_near_90 (by decide) ?_
                refine lv_istore (lv' := [(7, .int (jI 1)), (6, .int (jI 1)), (5, .int (jI v_13)), (4, .int (jI v_12)), (3, .ref (G (G (G a0 3) 0) 0)), (0, .ref a0), (1, .int (jI x1)), (2, .int (jI x2))]) hx hb dX11_near_94 hl (by decide) rfl (fun ls hl => ?_)
                refine lv_iload hx hb dX11_near_96 (lv_at hl 0 rfl) ?_
                refine j_if_eq (tgt := 111) hx hb (by decide) dX11_near_98 (by decide) (fun h => absurd h (by decide)) (fun _ => ?_)
                refine lv_iload hx hb dX11_near_101 (lv_at hl 2 rfl) ?_
                refine j_if_eq (tgt := 111) hx hb (by omega) dX11_near_103 (by decide) (fun c_58 => ?_) (fun c_58 => ?_)
                · refine lv_aload_n hx hb dX11_near_111 rfl (lv_at hl 4 rfl) ?_
                  refine lv_iload hx hb dX11_near_112 (lv_at hl 3 rfl) ?_
                  refine lv_iload hx hb dX11_near_114 (lv_at hl 2 rfl) ?_
                  refine lv_iload hx hb dX11_near_116 (lv_at hl 1 rfl) ?_
                  refine j_cR (j_runV (As := [.int (jI v_12), .int (jI v_13), .int (jI 1)]) (rest := []) hx hb hml hown hts hK hS hW (kX3_beside l hS σ_6 (a0 := G (G (G a0 3) 0) 0) (h0 := h_10) (x1 := v_12) (r1 := (by omega)) (x2 := v_13) (r2 := (by omega)) (x3 := 1) (r3 := (by decide))) 3 gX11_near_X3_beside rfl hvX3_beside ⟨Nat.le_of_ble_eq_true rfl, Nat.le_of_ble_eq_true rfl⟩ rfl rfl h_10 rfl rfl rfl rfl hl.1 rfl (Nat.le_of_ble_eq_true rfl) dX11_near_118 ⟨Nat.le_of_ble_eq_true rfl, Nat.le_of_ble_eq_true rfl⟩) (fun v_59 rv_59 pv_59 => ?_)
                  try dsimp only at pv_59
                  refine lv_istore (lv' := [(8, .int (jI v_59)), (7, .int (jI 1)), (6, .int (jI 1)), (5, .int (jI v_13)), (4, .int (jI v_12)), (3, .ref (G (G (G a0 3) 0) 0)), (0, .ref a0), (1, .int (jI x1)), (2, .int (jI x2))]) hx hb dX11_near_121 hl (by decide) rfl (fun ls hl => ?_)
                  refine lv_aload_n hx hb dX11_near_123 rfl (lv_at hl 5 rfl) ?_
                  refine lv_iload hx hb dX11_near_124 (lv_at hl 0 rfl) ?_
                  refine j_cR (j_runV (As := [.int (jI v_59)]) (rest := []) hx hb hml hown hts hK hS hW (kX3_has l hS σ_6 (a0 := G (G (G a0 3) 0) 0) (h0 := h_10) (x1 := v_59) (r1 := (by omega))) 1 gX11_near_X3_has rfl hvX3_has ⟨Nat.le_of_ble_eq_true rfl, Nat.le_of_ble_eq_true rfl⟩ rfl rfl h_10 rfl rfl rfl rfl hl.1 rfl (Nat.le_of_ble_eq_true rfl) dX11_near_126 ⟨Nat.le_of_ble_eq_true rfl, Nat.le_of_ble_eq_true rfl⟩) (fun v_60 rv_60 pv_60 => ?_)
                  try dsimp only at pv_60
                  refine j_if_eq (tgt := 137) hx hb (by omega) dX11_near_129 (by decide) (fun c_61 => ?_) (fun c_61 => ?_)
                  · refine j_bi hx hb dX11_near_137 (by decide) ?_
                    exact hRet 139 _ _ _ (-3) _ dX11_near_139 hW hF (by decide) ⟨trivial, hR⟩
                  · refine lv_iload hx hb dX11_near_132 (lv_at hl 0 rfl) ?_
                    refine lv_goto (tgt := 139) hx hb dX11_near_134 (by decide) ?_
                    exact hRet 139 _ _ _ v_59 _ dX11_near_139 hW hF (by omega) ⟨trivial, hR⟩
                · refine lv_iload hx hb dX11_near_106 (lv_at hl 3 rfl) ?_
                  refine lv_goto (tgt := 121) hx hb dX11_near_108 (by decide) ?_
                  refine lv_istore (lv' := [(8, .int (jI v_12)), (7, .int (jI 1)), (6, .int (jI 1)), (5, .int (jI v_13)), (4, .int (jI v_12)), (3, .ref (G (G (G a0 3) 0) 0)), (0, .ref a0), (1, .int (jI x1)), (2, .int (jI x2))]) hx hb dX11_near_121 hl (by decide) rfl (fun ls hl => ?_)
                  refine lv_aload_n hx hb dX11_near_123 rfl (lv_at hl 5 rfl) ?_
                  refine lv_iload hx hb dX11_near_124 (lv_at hl 0 rfl) ?_
                  refine j_cR (j_runV (As := [.int (jI v_12)]) (rest := []) hx hb hml hown hts hK hS hW (kX3_has l hS σ_6 (a0 := G (G (G a0 3) 0) 0) (h0 := h_10) (x1 := v_12) (r1 := (by omega))) 1 gX11_near_X3_has rfl hvX3_has ⟨Nat.le_of_ble_eq_true rfl, Nat.le_of_ble_eq_true rfl⟩ rfl rfl h_10 rfl rfl rfl rfl hl.1 rfl (Nat.le_of_ble_eq_true rfl) dX11_near_126 ⟨Nat.le_of_ble_eq_true rfl, Nat.le_of_ble_eq_true rfl⟩) (fun v_62 rv_62 pv_62 => ?_)
                  try dsimp only at pv_62
                  refine j_if_eq (tgt := 137) hx hb (by omega) dX11_near_129 (by decide) (fun c_63 => ?_) (fun c_63 => ?_)
                  · refine j_bi hx hb dX11_near_137 (by decide) ?_
                    exact hRet 139 _ _ _ (-3) _ dX11_near_139 hW hF (by decide) ⟨trivial, hR⟩
                  · refine lv_iload hx hb dX11_near_132 (lv_at hl 0 rfl) ?_
                    refine lv_goto (tgt := 139) hx hb dX11_near_134 (by decide) ?_
                    exact hRet 139 _ _ _ v_12 _ dX11_near_139 hW hF (by omega) ⟨trivial, hR⟩
              · refine lv_iload_n hx hb dX11_near_84 rfl (lv_at hl 6 rfl) ?_
                refine j_const hx hb dX11_near_85 ?_
                refine j_icmp_ne (tgt := 93) hx hb (by omega) (by decide) dX11_near_86 (by decide) (fun c_64 => ?_) (fun c_64 => ?_)
                · refine j_const hx hb dX11_near_93 ?_
                  refine lv_istore (lv' := [(7, .int (jI 0)), (6, .int (jI 1)), (5, .int (jI v_13)), (4, .int (jI v_12)), (3, .ref (G (G (G a0 3) 0) 0)), (0, .ref a0), (1, .int (jI x1)), (2, .int (jI x2))]) hx hb dX11_near_94 hl (by decide) rfl (fun ls hl => ?_)
                  refine lv_iload hx hb dX11_near_96 (lv_at hl 0 rfl) ?_
                  refine j_if_eq (tgt := 111) hx hb (by decide) dX11_near_98 (by decide) (fun _ => ?_) (fun h => absurd h (by decide))
                  refine lv_aload_n hx hb dX11_near_111 rfl (lv_at hl 4 rfl) ?_
                  refine lv_iload hx hb dX11_near_112 (lv_at hl 3 rfl) ?_
                  refine lv_iload hx hb dX11_near_114 (lv_at hl 2 rfl) ?_
                  refine lv_iload hx hb dX11_near_116 (lv_at hl 1 rfl) ?_
                  refine j_cR (j_runV (As := [.int (jI v_12), .int (jI v_13), .int (jI 1)]) (rest := []) hx hb hml hown hts hK hS hW (kX3_beside l hS σ_6 (a0 := G (G (G a0 3) 0) 0) (h0 := h_10) (x1 := v_12) (r1 := (by omega)) (x2 := v_13) (r2 := (by omega)) (x3 := 1) (r3 := (by decide))) 3 gX11_near_X3_beside rfl hvX3_beside ⟨Nat.le_of_ble_eq_true rfl, Nat.le_of_ble_eq_true rfl⟩ rfl rfl h_10 rfl rfl rfl rfl hl.1 rfl (Nat.le_of_ble_eq_true rfl) dX11_near_118 ⟨Nat.le_of_ble_eq_true rfl, Nat.le_of_ble_eq_true rfl⟩) (fun v_66 rv_66 pv_66 => ?_)
                  try dsimp only at pv_66
                  refine lv_istore (lv' := [(8, .int (jI v_66)), (7, .int (jI 0)), (6, .int (jI 1)), (5, .int (jI v_13)), (4, .int (jI v_12)), (3, .ref (G (G (G a0 3) 0) 0)), (0, .ref a0), (1, .int (jI x1)), (2, .int (jI x2))]) hx hb dX11_near_121 hl (by decide) rfl (fun ls hl => ?_)
                  refine lv_aload_n hx hb dX11_near_123 rfl (lv_at hl 5 rfl) ?_
                  refine lv_iload hx hb dX11_near_124 (lv_at hl 0 rfl) ?_
                  refine j_cR (j_runV (As := [.int (jI v_66)]) (rest := []) hx hb hml hown hts hK hS hW (kX3_has l hS σ_6 (a0 := G (G (G a0 3) 0) 0) (h0 := h_10) (x1 := v_66) (r1 := (by omega))) 1 gX11_near_X3_has rfl hvX3_has ⟨Nat.le_of_ble_eq_true rfl, Nat.le_of_ble_eq_true rfl⟩ rfl rfl h_10 rfl rfl rfl rfl hl.1 rfl (Nat.le_of_ble_eq_true rfl) dX11_near_126 ⟨Nat.le_of_ble_eq_true rfl, Nat.le_of_ble_eq_true rfl⟩) (fun v_67 rv_67 pv_67 => ?_)
                  try dsimp only at pv_67
                  refine j_if_eq (tgt := 137) hx hb (by omega) dX11_near_129 (by decide) (fun c_68 => ?_) (fun c_68 => ?_)
                  · refine j_bi hx hb dX11_near_137 (by decide) ?_
                    exact hRet 139 _ _ _ (-3) _ dX11_near_139 hW hF (by decide) ⟨trivial, hR⟩
                  · refine lv_iload hx hb dX11_near_132 (lv_at hl 0 rfl) ?_
                    refine lv_goto (tgt := 139) hx hb dX11_near_134 (by decide) ?_
                    exact hRet 139 _ _ _ v_66 _ dX11_near_139 hW hF (by omega) ⟨trivial, hR⟩
                · refine j_const hx hb dX11_near_89 ?_
                  refine lv_goto (tgt := 94) hx hb dX11_near_90 (by decide) ?_
                  refine lv_istore (lv' := [(7, .int (jI 1)), (6, .int (jI 1)), (5, .int (jI v_13)), (4, .int (jI v_12)), (3, .ref (G (G (G a0 3) 0) 0)), (0, .ref a0), (1, .int (jI x1)), (2, .int (jI x2))]) hx hb dX11_near_94 hl (by decide) rfl (fun ls hl => ?_)
                  refine lv_iload hx hb dX11_near_96 (lv_at hl 0 rfl) ?_
                  refine j_if_eq (tgt := 111) hx hb (by decide) dX11_near_98 (by decide) (fun h => absurd h (by decide)) (fun _ => ?_)
                  refine lv_iload hx hb dX11_near_101 (lv_at hl 2 rfl) ?_
                  refine j_if_eq (tgt := 111) hx hb (by omega) dX11_near_103 (by decide) (fun c_70 => ?_) (fun c_70 => ?_)
                  · refine lv_aload_n hx hb dX11_near_111 rfl (lv_at hl 4 rfl) ?_
                    refine lv_iload hx hb dX11_near_112 (lv_at hl 3 rfl) ?_
                    refine lv_iload hx hb dX11_near_114 (lv_at hl 2 rfl) ?_
                    refine lv_iload hx hb dX11_near_116 (lv_at hl 1 rfl) ?_
                    refine j_cR (j_runV (As := [.int (jI v_12), .int (jI v_13), .int (jI 1)]) (rest := []) hx hb hml hown hts hK hS hW (kX3_beside l hS σ_6 (a0 := G (G (G a0 3) 0) 0) (h0 := h_10) (x1 := v_12) (r1 := (by omega)) (x2 := v_13) (r2 := (by omega)) (x3 := 1) (r3 := (by decide))) 3 gX11_near_X3_beside rfl hvX3_beside ⟨Nat.le_of_ble_eq_true rfl, Nat.le_of_ble_eq_true rfl⟩ rfl rfl h_10 rfl rfl rfl rfl hl.1 rfl (Nat.le_of_ble_eq_true rfl) dX11_near_118 ⟨Nat.le_of_ble_eq_true rfl, Nat.le_of_ble_eq_true rfl⟩) (fun v_71 rv_71 pv_71 => ?_)
                    try dsimp only at pv_71
                    refine lv_istore (lv' := [(8, .int (jI v_71)), (7, .int (jI 1)), (6, .int (jI 1)), (5, .int (jI v_13)), (4, .int (jI v_12)), (3, .ref (G (G (G a0 3) 0) 0)), (0, .ref a0), (1, .int (jI x1)), (2, .int (jI x2))]) hx hb dX11_near_121 hl (by decide) rfl (fun ls hl => ?_)
                    refine lv_aload_n hx hb dX11_near_123 rfl (lv_at hl 5 rfl) ?_
                    refine lv_iload hx hb dX11_near_124 (lv_at hl 0 rfl) ?_
                    refine j_cR (j_runV (As := [.int (jI v_71)]) (rest := []) hx hb hml hown hts hK hS hW (kX3_has l hS σ_6 (a0 := G (G (G a0 3) 0) 0) (h0 := h_10) (x1 := v_71) (r1 := (by omega))) 1 gX11_near_X3_has rfl hvX3_has ⟨Nat.le_of_ble_eq_true rfl, Nat.le_of_ble_eq_true rfl⟩ rfl rfl h_10 rfl rfl rfl rfl hl.1 rfl (Nat.le_of_ble_eq_true rfl) dX11_near_126 ⟨Nat.le_of_ble_eq_true rfl, Nat.le_of_ble_eq_true rfl⟩) (fun v_72 rv_72 pv_72 => ?_)
                    try dsimp only at pv_72
                    refine j_if_eq (tgt := 137) hx hb (by omega) dX11_near_129 (by decide) (fun c_73 => ?_) (fun c_73 => ?_)
                    · refine j_bi hx hb dX11_near_137 (by decide) ?_
                      exact hRet 139 _ _ _ (-3) _ dX11_near_139 hW hF (by decide) ⟨trivial, hR⟩
                    · refine lv_iload hx hb dX11_near_132 (lv_at hl 0 rfl) ?_
                      refine lv_goto (tgt := 139) hx hb dX11_near_134 (by decide) ?_
                      exact hRet 139 _ _ _ v_71 _ dX11_near_139 hW hF (by omega) ⟨trivial, hR⟩
                  · refine lv_iload hx hb dX11_near_106 (lv_at hl 3 rfl) ?_
                    refine lv_goto (tgt := 121) hx hb dX11_near_108 (by decide) ?_
                    refine lv_istore (lv' := [(8, .int (jI v_12)), (7, .int (jI 1)), (6, .int (jI 1)), (5, .int (jI v_13)), (4, .int (jI v_12)), (3, .ref (G (G (G a0 3) 0) 0)), (0, .ref a0), (1, .int (jI x1)), (2, .int (jI x2))]) hx hb dX11_near_121 hl (by decide) rfl (fun ls hl => ?_)
                    refine lv_aload_n hx hb dX11_near_123 rfl (lv_at hl 5 rfl) ?_
                    refine lv_iload hx hb dX11_near_124 (lv_at hl 0 rfl) ?_
                    refine j_cR (j_runV (As := [.int (jI v_12)]) (rest := []) hx hb hml hown hts hK hS hW (kX3_has l hS σ_6 (a0 := G (G (G a0 3) 0) 0) (h0 := h_10) (x1 := v_12) (r1 := (by omega))) 1 gX11_near_X3_has rfl hvX3_has ⟨Nat.le_of_ble_eq_true rfl, Nat.le_of_ble_eq_true rfl⟩ rfl rfl h_10 rfl rfl rfl rfl hl.1 rfl (Nat.le_of_ble_eq_true rfl) dX11_near_126 ⟨Nat.le_of_ble_eq_true rfl, Nat.le_of_ble_eq_true rfl⟩) (fun v_74 rv_74 pv_74 => ?_)
                    try dsimp only at pv_74
                    refine j_if_eq (tgt := 137) hx hb (by omega) dX11_near_129 (by decide) (fun c_75 => ?_) (fun c_75 => ?_)
                    · refine j_bi hx hb dX11_near_137 (by decide) ?_
                      exact hRet 139 _ _ _ (-3) _ dX11_near_139 hW hF (by decide) ⟨trivial, hR⟩
                    · refine lv_iload hx hb dX11_near_132 (lv_at hl 0 rfl) ?_
                      refine lv_goto (tgt := 139) hx hb dX11_near_134 (by decide) ?_
                      exact hRet 139 _ _ _ v_12 _ dX11_near_139 hW hF (by omega) ⟨trivial, hR⟩
        · refine j_bi hx hb dX11_near_27 (by decide) ?_
          exact hRet 29 _ _ _ (-2) _ dX11_near_29 hW hF (by decide) ⟨trivial, hR⟩
      · refine j_const hx hb dX11_near_17 ?_
        exact hRet 18 _ _ _ (-1) _ dX11_near_18 hW hF (by decide) ⟨trivial, hR⟩
abbrev wr_X11_begins : List Nat := [3001, 10001, 20000]
theorem flX11_begins_28 : Cond.fieldLink RX11 28 "PageTrie" "told" "LPageTrie$Key;" ∈ wsX11_begins := List.mem_of_getElem? (i := 4) rfl
theorem flX11_begins_35 : Cond.fieldLink RX11 35 "PageTrie" "now" "LPageTrie$State;" ∈ wsX11_begins := List.mem_of_getElem? (i := 1) rfl
theorem flX11_begins_58 : Cond.fieldLink RX11 58 "PageTrie$State" "trie" "LPageTrie$Trie;" ∈ wsX11_begins := List.mem_of_getElem? (i := 2) rfl
theorem flX11_begins_84 : Cond.fieldLink RX11 84 "PageTrie$Trie" "keys" "LPageTrie$Keys;" ∈ wsX11_begins := List.mem_of_getElem? (i := 3) rfl
theorem inX11_begins_X10 : ∀ w ∈ u_ws RX10 TX10 9, w ∈ wsX11_begins := mem_r _ [106, 107, 108, 109, 110, 111, 112, 113, 114] rfl
theorem inX11_begins_X11 : ∀ w ∈ u_ws RX11 TX11 12, w ∈ wsX11_begins := mem_r _ [91, 92, 93, 94, 95, 96, 97, 98, 99, 100, 101, 102] rfl
theorem inX11_begins_X8 : ∀ w ∈ u_ws RX8 TX8 3, w ∈ wsX11_begins := mem_r _ [103, 104, 105] rfl
theorem hvX11_begins : yX11_begins.cls = RX11 ∧ yX11_begins.cls ≠ "java/lang/invoke/MethodHandle" ∧ yX11_begins.cls ≠ "java/lang/invoke/VarHandle" ∧ (parseMethodDescriptor yX11_begins.desc).map (fun d => d.parameters.length) = some 2 := by decide +kernel
set_option maxHeartbeats 4000000 in
set_option maxRecDepth 100000 in
theorem kX11_begins (l : Launch) {D : va_G} {cA : Nat → ClassId} {τ : Nat → Nat} {G : Nat → Nat → Nat} {L : List Nat} (hS : SW τ G L) (σ : Nat → Nat → Int) {a0 : Nat} (h0 : τ a0 = 12) {x1 : Int} (r1 : rg x1) {x2 : Int} (r2 : rg x2) : Met l yX11_begins wsX11_begins ({ frames := 3, cells := 0, slots := 0, locals := 74 }) (jP D cA τ G L σ [.ref a0, .int (jI x1), .int (jI x2)]) (jQI D cA τ G L (fun r σ' => (True) ∧ fr wr_X11_begins τ σ σ')) 0 0 (fun q => q ∈ L) := by
  refine j_metI (by decide +kernel) rfl (Nat.le_of_ble_eq_true rfl) ?_
  intro p e s m args below meth c Q hx hb hml hown hts hK hW hRet ls hl
  have hl : lv_has ls 6 [(0, .ref a0), (1, .int (jI x1)), (2, .int (jI x2))] := hl
  have hA : ∀ q ∈ L, (fun q => q ∈ L) q := fun _ h => h
  have hF : va_S (fun q => q ∈ L) s.heap s.heap [] := va_S.rf
  have hR : fr wr_X11_begins τ σ σ := fr_rf
  refine lv_iload_n hx hb dX11_begins_0 rfl (lv_at hl 2 rfl) ?_
  refine j_if_lt (tgt := 17) hx hb (by omega) dX11_begins_1 (by decide) (fun c_1 => ?_) (fun c_1 => ?_)
  · refine j_const hx hb dX11_begins_17 ?_
    exact hRet 18 _ _ _ (-1) _ dX11_begins_18 hW hF (by decide) ⟨trivial, hR⟩
  · refine lv_iload_n hx hb dX11_begins_4 rfl (lv_at hl 2 rfl) ?_
    refine j_const hx hb dX11_begins_5 ?_
    refine j_icmp_gt (tgt := 17) hx hb (by omega) (by decide) dX11_begins_6 (by decide) (fun c_2 => ?_) (fun c_2 => ?_)
    · refine j_const hx hb dX11_begins_17 ?_
      exact hRet 18 _ _ _ (-1) _ dX11_begins_18 hW hF (by decide) ⟨trivial, hR⟩
    · refine lv_aload_n hx hb dX11_begins_9 rfl (lv_at hl 0 rfl) ?_
      refine lv_iload_n hx hb dX11_begins_10 rfl (lv_at hl 1 rfl) ?_
      refine j_cR (j_runV (As := [.int (jI x1)]) (rest := []) hx hb hml hown hts hK hS hW (kX11_isKeyTold l hS σ (a0 := a0) (h0 := h0) (x1 := x1) (r1 := (by omega))) 1 gX11_begins_X11_isKeyTold rfl hvX11_isKeyTold ⟨Nat.le_of_ble_eq_true rfl, Nat.le_of_ble_eq_true rfl⟩ rfl rfl h0 rfl rfl rfl rfl hl.1 rfl (Nat.le_of_ble_eq_true rfl) dX11_begins_11 ⟨Nat.le_of_ble_eq_true rfl, Nat.le_of_ble_eq_true rfl⟩) (fun v_3 rv_3 pv_3 => ?_)
      try dsimp only at pv_3
      refine j_if_ne (tgt := 19) hx hb (by omega) dX11_begins_14 (by decide) (fun c_4 => ?_) (fun c_4 => ?_)
      · refine lv_aload_n hx hb dX11_begins_19 rfl (lv_at hl 0 rfl) ?_
        refine lv_iload_n hx hb dX11_begins_20 rfl (lv_at hl 1 rfl) ?_
        refine j_cI (j_runV (As := [.int (jI x1)]) (rest := []) hx hb hml hown hts hK hS hW (kX11_readTold l hS σ (a0 := a0) (h0 := h0) (x1 := x1) (r1 := (by omega))) 1 gX11_begins_X11_readTold rfl hvX11_readTold ⟨Nat.le_of_ble_eq_true rfl, Nat.le_of_ble_eq_true rfl⟩ rfl rfl h0 rfl rfl rfl rfl hl.1 rfl (Nat.le_of_ble_eq_true rfl) dX11_begins_21 ⟨Nat.le_of_ble_eq_true rfl, Nat.le_of_ble_eq_true rfl⟩) hA hF (fun v_5 σ_6 H locs hW hF rv_5 pv_5 => ?_)
        try dsimp only at pv_5
        obtain ⟨bpv_5, pv_5, fpv_5⟩ := pv_5
        have hR := fr_call hR fpv_5 (by decide)
        refine j_if_ne (tgt := 30) hx hb (by omega) dX11_begins_24 (by decide) (fun c_7 => ?_) (fun c_7 => ?_)
        · refine lv_aload_n hx hb dX11_begins_30 rfl (lv_at hl 0 rfl) ?_
          refine j_getR hx hb (C := RX11) (T := TX11) (N := 12) hts inX11_begins_X11 hown hK hS hW h0 rfl 3 rfl rfl (by decide) (hts _ flX11_begins_35) dX11_begins_31 ?_
          have h_8 : τ (G a0 3) = 9 := gty hS h0 (k := 3) rfl rfl
          refine j_getR hx hb (C := RX8) (T := TX8) (N := 3) hts inX11_begins_X8 hown hK hS hW h_8 rfl 0 rfl rfl (by decide) (hts _ flX11_begins_58) dX11_begins_34 ?_
          have h_9 : τ (G (G a0 3) 0) = 11 := gty hS h_8 (k := 0) rfl rfl
          refine j_getR hx hb (C := RX10) (T := TX10) (N := 9) hts inX11_begins_X10 hown hK hS hW h_9 rfl 0 rfl rfl (by decide) (hts _ flX11_begins_84) dX11_begins_37 ?_
          have h_10 : τ (G (G (G a0 3) 0) 0) = 4 := gty hS h_9 (k := 0) rfl rfl
          refine lv_astore_n (lv' := [(3, .ref (G (G (G a0 3) 0) 0)), (0, .ref a0), (1, .int (jI x1)), (2, .int (jI x2))]) hx hb dX11_begins_40 rfl hl (by decide) rfl (fun ls hl => ?_)
          refine lv_aload_n hx hb dX11_begins_41 rfl (lv_at hl 0 rfl) ?_
          refine lv_aload_n hx hb dX11_begins_42 rfl (lv_at hl 1 rfl) ?_
          refine j_getR hx hb (C := RX11) (T := TX11) (N := 12) hts inX11_begins_X11 hown hK hS hW h0 rfl 2 rfl rfl (by decide) (hts _ flX11_begins_28) dX11_begins_43 ?_
          have h_11 : τ (G a0 2) = 3 := gty hS h0 (k := 2) rfl rfl
          refine j_cR (j_runV (As := [.ref (G a0 2)]) (rest := []) hx hb hml hown hts hK hS hW (kX3_placeOf l hS σ_6 (a0 := G (G (G a0 3) 0) 0) (h0 := h_10) (a1 := G a0 2) (h1 := h_11)) 1 gX11_begins_X3_placeOf rfl hvX3_placeOf ⟨Nat.le_of_ble_eq_true rfl, Nat.le_of_ble_eq_true rfl⟩ rfl rfl h_10 rfl rfl rfl rfl hl.1 rfl (Nat.le_of_ble_eq_true rfl) dX11_begins_46 ⟨Nat.le_of_ble_eq_true rfl, Nat.le_of_ble_eq_true rfl⟩) (fun v_12 rv_12 pv_12 => ?_)
          try dsimp only at pv_12
          refine lv_istore (lv' := [(4, .int (jI v_12)), (3, .ref (G (G (G a0 3) 0) 0)), (0, .ref a0), (1, .int (jI x1)), (2, .int (jI x2))]) hx hb dX11_begins_49 hl (by decide) rfl (fun ls hl => ?_)
          refine lv_aload_n hx hb dX11_begins_51 rfl (lv_at hl 1 rfl) ?_
          refine lv_iload hx hb dX11_begins_52 (lv_at hl 0 rfl) ?_
          refine lv_aload_n hx hb dX11_begins_54 rfl (lv_at hl 2 rfl) ?_
          refine j_getR hx hb (C := RX11) (T := TX11) (N := 12) hts inX11_begins_X11 hown hK hS hW h0 rfl 2 rfl rfl (by decide) (hts _ flX11_begins_28) dX11_begins_55 ?_
          refine j_cR (j_runV (As := [.int (jI v_12), .ref (G a0 2)]) (rest := []) hx hb hml hown hts hK hS hW (kX3_endOfBeginning l hS σ_6 (a0 := G (G (G a0 3) 0) 0) (h0 := h_10) (x1 := v_12) (r1 := (by omega)) (a2 := G a0 2) (h2 := h_11)) 2 gX11_begins_X3_endOfBeginning rfl hvX3_endOfBeginning ⟨Nat.le_of_ble_eq_true rfl, Nat.le_of_ble_eq_true rfl⟩ rfl rfl h_10 rfl rfl rfl rfl hl.1 rfl (Nat.le_of_ble_eq_true rfl) dX11_begins_58 ⟨Nat.le_of_ble_eq_true rfl, Nat.le_of_ble_eq_true rfl⟩) (fun v_13 rv_13 pv_13 => ?_)
          try dsimp only at pv_13
          refine lv_istore (lv' := [(5, .int (jI v_13)), (4, .int (jI v_12)), (3, .ref (G (G (G a0 3) 0) 0)), (0, .ref a0), (1, .int (jI x1)), (2, .int (jI x2))]) hx hb dX11_begins_61 hl (by decide) rfl (fun ls hl => ?_)
          refine lv_iload_n hx hb dX11_begins_63 rfl (lv_at hl 5 rfl) ?_
          have hrc_14 : rg x2 := by omega
          by_cases c_14_0 : x2 = 0
          · refine lv_lookup (tgt := 92) (off := 28) hx hb dX11_begins_64 (by decide) (by rw [jI_toInt hrc_14, c_14_0]; decide) (by decide) ?_
            refine lv_iload hx hb dX11_begins_92 (lv_at hl 0 rfl) ?_
            refine lv_iload hx hb dX11_begins_94 (lv_at hl 1 rfl) ?_
            refine j_sub hx hb dX11_begins_96 ?_
            refine j_wrap (fun z_15 rz_15 ez_15 => ?_)
            exact hRet 97 _ _ _ z_15 _ dX11_begins_97 hW hF (by omega) ⟨trivial, hR⟩
          by_cases c_14_1 : x2 = 1
          · refine lv_lookup (tgt := 98) (off := 34) hx hb dX11_begins_64 (by decide) (by rw [jI_toInt hrc_14, c_14_1]; decide) (by decide) ?_
            refine lv_iload hx hb dX11_begins_98 (lv_at hl 0 rfl) ?_
            refine lv_iload hx hb dX11_begins_100 (lv_at hl 1 rfl) ?_
            refine j_icmp_le (tgt := 110) hx hb (by omega) (by omega) dX11_begins_102 (by decide) (fun c_16 => ?_) (fun c_16 => ?_)
            · refine j_bi hx hb dX11_begins_110 (by decide) ?_
              exact hRet 112 _ _ _ (-3) _ dX11_begins_112 hW hF (by decide) ⟨trivial, hR⟩
            · refine lv_iload hx hb dX11_begins_105 (lv_at hl 1 rfl) ?_
              refine lv_goto (tgt := 112) hx hb dX11_begins_107 (by decide) ?_
              exact hRet 112 _ _ _ v_12 _ dX11_begins_112 hW hF (by omega) ⟨trivial, hR⟩
          refine lv_lookup (tgt := 113) (off := 49) hx hb dX11_begins_64 (by decide) (by rw [jI_toInt hrc_14]; simp [Op.lookupswitch.offset, Ne.symm c_14_0, Ne.symm c_14_1]) (by decide) ?_
          refine lv_aload_n hx hb dX11_begins_113 rfl (lv_at hl 2 rfl) ?_
          refine lv_iload hx hb dX11_begins_114 (lv_at hl 1 rfl) ?_
          refine lv_iload hx hb dX11_begins_116 (lv_at hl 0 rfl) ?_
          refine j_cR (j_runV (As := [.int (jI v_12), .int (jI v_13)]) (rest := []) hx hb hml hown hts hK hS hW (kX3_valuesTogether l hS σ_6 (a0 := G (G (G a0 3) 0) 0) (h0 := h_10) (x1 := v_12) (r1 := (by omega)) (x2 := v_13) (r2 := (by omega))) 2 gX11_begins_X3_valuesTogether rfl hvX3_valuesTogether ⟨Nat.le_of_ble_eq_true rfl, Nat.le_of_ble_eq_true rfl⟩ rfl rfl h_10 rfl rfl rfl rfl hl.1 rfl (Nat.le_of_ble_eq_true rfl) dX11_begins_118 ⟨Nat.le_of_ble_eq_true rfl, Nat.le_of_ble_eq_true rfl⟩) (fun v_17 rv_17 pv_17 => ?_)
          try dsimp only at pv_17
          exact hRet 121 _ _ _ v_17 _ dX11_begins_121 hW hF (by omega) ⟨trivial, hR⟩
        · refine j_bi hx hb dX11_begins_27 (by decide) ?_
          exact hRet 29 _ _ _ (-2) _ dX11_begins_29 hW hF (by decide) ⟨trivial, hR⟩
      · refine j_const hx hb dX11_begins_17 ?_
        exact hRet 18 _ _ _ (-1) _ dX11_begins_18 hW hF (by decide) ⟨trivial, hR⟩
theorem flX11_alike_35 : Cond.fieldLink RX11 35 "PageTrie" "now" "LPageTrie$State;" ∈ wsX11_alike := List.mem_of_getElem? (i := 1) rfl
theorem flX11_alike_58 : Cond.fieldLink RX11 58 "PageTrie$State" "trie" "LPageTrie$Trie;" ∈ wsX11_alike := List.mem_of_getElem? (i := 2) rfl
theorem flX11_alike_84 : Cond.fieldLink RX11 84 "PageTrie$Trie" "keys" "LPageTrie$Keys;" ∈ wsX11_alike := List.mem_of_getElem? (i := 3) rfl
theorem inX11_alike_X10 : ∀ w ∈ u_ws RX10 TX10 9, w ∈ wsX11_alike := mem_r _ [43, 44, 45, 46, 47, 48, 49, 50, 51] rfl
theorem inX11_alike_X11 : ∀ w ∈ u_ws RX11 TX11 12, w ∈ wsX11_alike := mem_r _ [28, 29, 30, 31, 32, 33, 34, 35, 36, 37, 38, 39] rfl
theorem inX11_alike_X8 : ∀ w ∈ u_ws RX8 TX8 3, w ∈ wsX11_alike := mem_r _ [40, 41, 42] rfl
theorem hvX11_alike : yX11_alike.cls = RX11 ∧ yX11_alike.cls ≠ "java/lang/invoke/MethodHandle" ∧ yX11_alike.cls ≠ "java/lang/invoke/VarHandle" ∧ (parseMethodDescriptor yX11_alike.desc).map (fun d => d.parameters.length) = some 2 := by decide +kernel
set_option maxHeartbeats 4000000 in
set_option maxRecDepth 100000 in
theorem kX11_alike (l : Launch) {D : va_G} {cA : Nat → ClassId} {τ : Nat → Nat} {G : Nat → Nat → Nat} {L : List Nat} (hS : SW τ G L) (σ : Nat → Nat → Int) {a0 : Nat} (h0 : τ a0 = 12) {x1 : Int} (r1 : rg x1) {x2 : Int} (r2 : rg x2) : Met l yX11_alike wsX11_alike ({ frames := 2, cells := 0, slots := 0, locals := 48 }) (jP D cA τ G L σ [.ref a0, .int (jI x1), .int (jI x2)]) (jQR (fun r => True)) 0 0 (fun _ => False) := by
  refine j_metR (by decide +kernel) rfl (Nat.le_of_ble_eq_true rfl) ?_
  intro p e s m args below meth c Q hx hb hml hown hts hK hW hRet ls hl
  have hl : lv_has ls 4 [(0, .ref a0), (1, .int (jI x1)), (2, .int (jI x2))] := hl
  refine lv_aload_n hx hb dX11_alike_0 rfl (lv_at hl 0 rfl) ?_
  refine j_getR hx hb (C := RX11) (T := TX11) (N := 12) hts inX11_alike_X11 hown hK hS hW h0 rfl 3 rfl rfl (by decide) (hts _ flX11_alike_35) dX11_alike_1 ?_
  have h_1 : τ (G a0 3) = 9 := gty hS h0 (k := 3) rfl rfl
  refine j_getR hx hb (C := RX8) (T := TX8) (N := 3) hts inX11_alike_X8 hown hK hS hW h_1 rfl 0 rfl rfl (by decide) (hts _ flX11_alike_58) dX11_alike_4 ?_
  have h_2 : τ (G (G a0 3) 0) = 11 := gty hS h_1 (k := 0) rfl rfl
  refine j_getR hx hb (C := RX10) (T := TX10) (N := 9) hts inX11_alike_X10 hown hK hS hW h_2 rfl 0 rfl rfl (by decide) (hts _ flX11_alike_84) dX11_alike_7 ?_
  have h_3 : τ (G (G (G a0 3) 0) 0) = 4 := gty hS h_2 (k := 0) rfl rfl
  refine lv_astore_n (lv' := [(3, .ref (G (G (G a0 3) 0) 0)), (0, .ref a0), (1, .int (jI x1)), (2, .int (jI x2))]) hx hb dX11_alike_10 rfl hl (by decide) rfl (fun ls hl => ?_)
  refine lv_aload_n hx hb dX11_alike_11 rfl (lv_at hl 0 rfl) ?_
  refine lv_iload_n hx hb dX11_alike_12 rfl (lv_at hl 2 rfl) ?_
  refine j_cR (j_runV (As := [.int (jI x1)]) (rest := []) hx hb hml hown hts hK hS hW (kX3_has l hS σ (a0 := G (G (G a0 3) 0) 0) (h0 := h_3) (x1 := x1) (r1 := (by omega))) 1 gX11_alike_X3_has rfl hvX3_has ⟨Nat.le_of_ble_eq_true rfl, Nat.le_of_ble_eq_true rfl⟩ rfl rfl h_3 rfl rfl rfl rfl hl.1 rfl (Nat.le_of_ble_eq_true rfl) dX11_alike_13 ⟨Nat.le_of_ble_eq_true rfl, Nat.le_of_ble_eq_true rfl⟩) (fun v_4 rv_4 pv_4 => ?_)
  try dsimp only at pv_4
  refine j_if_eq (tgt := 36) hx hb (by omega) dX11_alike_16 (by decide) (fun c_5 => ?_) (fun c_5 => ?_)
  · refine j_const hx hb dX11_alike_36 ?_
    exact hRet 37 _ (-1) dX11_alike_37 (by decide) trivial
  · refine lv_aload_n hx hb dX11_alike_19 rfl (lv_at hl 0 rfl) ?_
    refine lv_iload_n hx hb dX11_alike_20 rfl (lv_at hl 3 rfl) ?_
    refine j_cR (j_runV (As := [.int (jI x2)]) (rest := []) hx hb hml hown hts hK hS hW (kX3_has l hS σ (a0 := G (G (G a0 3) 0) 0) (h0 := h_3) (x1 := x2) (r1 := (by omega))) 1 gX11_alike_X3_has rfl hvX3_has ⟨Nat.le_of_ble_eq_true rfl, Nat.le_of_ble_eq_true rfl⟩ rfl rfl h_3 rfl rfl rfl rfl hl.1 rfl (Nat.le_of_ble_eq_true rfl) dX11_alike_21 ⟨Nat.le_of_ble_eq_true rfl, Nat.le_of_ble_eq_true rfl⟩) (fun v_6 rv_6 pv_6 => ?_)
    try dsimp only at pv_6
    refine j_if_eq (tgt := 36) hx hb (by omega) dX11_alike_24 (by decide) (fun c_7 => ?_) (fun c_7 => ?_)
    · refine j_const hx hb dX11_alike_36 ?_
      exact hRet 37 _ (-1) dX11_alike_37 (by decide) trivial
    · refine lv_aload_n hx hb dX11_alike_27 rfl (lv_at hl 0 rfl) ?_
      refine lv_iload_n hx hb dX11_alike_28 rfl (lv_at hl 2 rfl) ?_
      refine lv_iload_n hx hb dX11_alike_29 rfl (lv_at hl 3 rfl) ?_
      refine j_cR (j_runV (As := [.int (jI x1), .int (jI x2)]) (rest := []) hx hb hml hown hts hK hS hW (kX3_alikeBytes l hS σ (a0 := G (G (G a0 3) 0) 0) (h0 := h_3) (x1 := x1) (r1 := (by omega)) (x2 := x2) (r2 := (by omega))) 2 gX11_alike_X3_alikeBytes rfl hvX3_alikeBytes ⟨Nat.le_of_ble_eq_true rfl, Nat.le_of_ble_eq_true rfl⟩ rfl rfl h_3 rfl rfl rfl rfl hl.1 rfl (Nat.le_of_ble_eq_true rfl) dX11_alike_30 ⟨Nat.le_of_ble_eq_true rfl, Nat.le_of_ble_eq_true rfl⟩) (fun v_8 rv_8 pv_8 => ?_)
      try dsimp only at pv_8
      refine lv_goto (tgt := 37) hx hb dX11_alike_33 (by decide) ?_
      exact hRet 37 _ v_8 dX11_alike_37 (by omega) trivial
abbrev wr_X11_cursor : List Nat := [1001, 1002, 1003, 1004, 3001, 10001, 20000]
theorem flX11_cursor_28 : Cond.fieldLink RX11 28 "PageTrie" "told" "LPageTrie$Key;" ∈ wsX11_cursor := List.mem_of_getElem? (i := 3) rfl
theorem flX11_cursor_35 : Cond.fieldLink RX11 35 "PageTrie" "now" "LPageTrie$State;" ∈ wsX11_cursor := List.mem_of_getElem? (i := 1) rfl
theorem flX11_cursor_205 : Cond.fieldLink RX11 205 "PageTrie$State" "cursors" "[LPageTrie$Cursor;" ∈ wsX11_cursor := List.mem_of_getElem? (i := 2) rfl
theorem inX11_cursor_X11 : ∀ w ∈ u_ws RX11 TX11 12, w ∈ wsX11_cursor := mem_r _ [65, 66, 67, 68, 69, 70, 71, 72, 73, 74, 75, 76] rfl
theorem inX11_cursor_X8 : ∀ w ∈ u_ws RX8 TX8 3, w ∈ wsX11_cursor := mem_r _ [77, 78, 79] rfl
theorem hvX11_cursor : yX11_cursor.cls = RX11 ∧ yX11_cursor.cls ≠ "java/lang/invoke/MethodHandle" ∧ yX11_cursor.cls ≠ "java/lang/invoke/VarHandle" ∧ (parseMethodDescriptor yX11_cursor.desc).map (fun d => d.parameters.length) = some 2 := by decide +kernel
set_option maxHeartbeats 4000000 in
set_option maxRecDepth 100000 in
theorem kX11_cursor (l : Launch) {D : va_G} {cA : Nat → ClassId} {τ : Nat → Nat} {G : Nat → Nat → Nat} {L : List Nat} (hS : SW τ G L) (σ : Nat → Nat → Int) {a0 : Nat} (h0 : τ a0 = 12) {x1 : Int} (r1 : rg x1) {x2 : Int} (r2 : rg x2) : Met l yX11_cursor wsX11_cursor ({ frames := 3, cells := 0, slots := 0, locals := 82 }) (jP D cA τ G L σ [.ref a0, .int (jI x1), .int (jI x2)]) (jQI D cA τ G L (fun r σ' => (True) ∧ fr wr_X11_cursor τ σ σ')) 0 0 (fun q => q ∈ L) := by
  refine j_metI (by decide +kernel) rfl (Nat.le_of_ble_eq_true rfl) ?_
  intro p e s m args below meth c Q hx hb hml hown hts hK hW hRet ls hl
  have hl : lv_has ls 3 [(0, .ref a0), (1, .int (jI x1)), (2, .int (jI x2))] := hl
  have hA : ∀ q ∈ L, (fun q => q ∈ L) q := fun _ h => h
  have hF : va_S (fun q => q ∈ L) s.heap s.heap [] := va_S.rf
  have hR : fr wr_X11_cursor τ σ σ := fr_rf
  refine lv_iload_n hx hb dX11_cursor_0 rfl (lv_at hl 1 rfl) ?_
  refine j_cR (j_runS (As := [.int (jI x1)]) (rest := []) hx hb hml hown hts hK hW (kX11_isCursor l hS σ (x0 := x1) (r0 := (by omega))) 1 gX11_cursor_X11_isCursor rfl hsX11_isCursor ⟨Nat.le_of_ble_eq_true rfl, Nat.le_of_ble_eq_true rfl⟩ rfl rfl rfl hl.1 rfl (Nat.le_of_ble_eq_true rfl) dX11_cursor_1 ⟨Nat.le_of_ble_eq_true rfl, Nat.le_of_ble_eq_true rfl⟩) (fun v_1 rv_1 pv_1 => ?_)
  try dsimp only at pv_1
  refine j_if_eq (tgt := 15) hx hb (by omega) dX11_cursor_4 (by decide) (fun c_2 => ?_) (fun c_2 => ?_)
  · refine j_const hx hb dX11_cursor_15 ?_
    exact hRet 16 _ _ _ (-1) _ dX11_cursor_16 hW hF (by decide) ⟨trivial, hR⟩
  · refine lv_aload_n hx hb dX11_cursor_7 rfl (lv_at hl 0 rfl) ?_
    refine lv_iload_n hx hb dX11_cursor_8 rfl (lv_at hl 2 rfl) ?_
    refine j_cR (j_runV (As := [.int (jI x2)]) (rest := []) hx hb hml hown hts hK hS hW (kX11_isKeyTold l hS σ (a0 := a0) (h0 := h0) (x1 := x2) (r1 := (by omega))) 1 gX11_cursor_X11_isKeyTold rfl hvX11_isKeyTold ⟨Nat.le_of_ble_eq_true rfl, Nat.le_of_ble_eq_true rfl⟩ rfl rfl h0 rfl rfl rfl rfl hl.1 rfl (Nat.le_of_ble_eq_true rfl) dX11_cursor_9 ⟨Nat.le_of_ble_eq_true rfl, Nat.le_of_ble_eq_true rfl⟩) (fun v_3 rv_3 pv_3 => ?_)
    try dsimp only at pv_3
    refine j_if_ne (tgt := 17) hx hb (by omega) dX11_cursor_12 (by decide) (fun c_4 => ?_) (fun c_4 => ?_)
    · refine lv_aload_n hx hb dX11_cursor_17 rfl (lv_at hl 0 rfl) ?_
      refine lv_iload_n hx hb dX11_cursor_18 rfl (lv_at hl 2 rfl) ?_
      refine j_cI (j_runV (As := [.int (jI x2)]) (rest := []) hx hb hml hown hts hK hS hW (kX11_readTold l hS σ (a0 := a0) (h0 := h0) (x1 := x2) (r1 := (by omega))) 1 gX11_cursor_X11_readTold rfl hvX11_readTold ⟨Nat.le_of_ble_eq_true rfl, Nat.le_of_ble_eq_true rfl⟩ rfl rfl h0 rfl rfl rfl rfl hl.1 rfl (Nat.le_of_ble_eq_true rfl) dX11_cursor_19 ⟨Nat.le_of_ble_eq_true rfl, Nat.le_of_ble_eq_true rfl⟩) hA hF (fun v_5 σ_6 H locs hW hF rv_5 pv_5 => ?_)
      try dsimp only at pv_5
      obtain ⟨bpv_5, pv_5, fpv_5⟩ := pv_5
      have hR := fr_call hR fpv_5 (by decide)
      refine j_if_ne (tgt := 28) hx hb (by omega) dX11_cursor_22 (by decide) (fun c_7 => ?_) (fun c_7 => ?_)
      · refine lv_aload_n hx hb dX11_cursor_28 rfl (lv_at hl 0 rfl) ?_
        refine j_getR hx hb (C := RX11) (T := TX11) (N := 12) hts inX11_cursor_X11 hown hK hS hW h0 rfl 3 rfl rfl (by decide) (hts _ flX11_cursor_35) dX11_cursor_29 ?_
        have h_8 : τ (G a0 3) = 9 := gty hS h0 (k := 3) rfl rfl
        refine j_getR hx hb (C := RX8) (T := TX8) (N := 3) hts inX11_cursor_X8 hown hK hS hW h_8 rfl 1 rfl rfl (by decide) (hts _ flX11_cursor_205) dX11_cursor_32 ?_
        have h_9 : τ (G (G a0 3) 1) = 32 := gty hS h_8 (k := 1) rfl rfl
        refine lv_iload_n hx hb dX11_cursor_35 rfl (lv_at hl 1 rfl) ?_
        refine j_aald hx hb hK hS hW h_9 (n := 4) rfl rfl (by omega) (by omega) (by decide) dX11_cursor_36 ?_
        have h_10 : τ (G (G (G a0 3) 1) (x1).toNat) = 1 := gtyR hS h_9 (n := 4) rfl (by omega) (by omega)
        refine lv_aload_n hx hb dX11_cursor_37 rfl (lv_at hl 0 rfl) ?_
        refine j_getR hx hb (C := RX11) (T := TX11) (N := 12) hts inX11_cursor_X11 hown hK hS hW h0 rfl 2 rfl rfl (by decide) (hts _ flX11_cursor_28) dX11_cursor_38 ?_
        have h_11 : τ (G a0 2) = 3 := gty hS h0 (k := 2) rfl rfl
        refine j_cV (j_runV (As := [.ref (G a0 2)]) (rest := []) hx hb hml hown hts hK hS hW (kX0_tell l hS σ_6 (a0 := G (G (G a0 3) 1) (x1).toNat) (h0 := h_10) (a1 := G a0 2) (h1 := h_11)) 1 gX11_cursor_X0_tell rfl hvX0_tell ⟨Nat.le_of_ble_eq_true rfl, Nat.le_of_ble_eq_true rfl⟩ rfl rfl h_10 rfl rfl rfl rfl hl.1 rfl (Nat.le_of_ble_eq_true rfl) dX11_cursor_41 ⟨Nat.le_of_ble_eq_true rfl, Nat.le_of_ble_eq_true rfl⟩) hA hF (fun σ_12 H locs hW hF pσ_12 => ?_)
        try dsimp only at pσ_12
        obtain ⟨pσ_12, fpσ_12⟩ := pσ_12
        have hR := fr_call hR fpσ_12 (by decide)
        refine j_const hx hb dX11_cursor_44 ?_
        exact hRet 45 _ _ _ 0 _ dX11_cursor_45 hW hF (by decide) ⟨trivial, hR⟩
      · refine j_bi hx hb dX11_cursor_25 (by decide) ?_
        exact hRet 27 _ _ _ (-2) _ dX11_cursor_27 hW hF (by decide) ⟨trivial, hR⟩
    · refine j_const hx hb dX11_cursor_15 ?_
      exact hRet 16 _ _ _ (-1) _ dX11_cursor_16 hW hF (by decide) ⟨trivial, hR⟩
abbrev wr_X11_step : List Nat := [1002, 1003, 1004, 3001, 20000]
theorem flX11_step_35 : Cond.fieldLink RX11 35 "PageTrie" "now" "LPageTrie$State;" ∈ wsX11_step := List.mem_of_getElem? (i := 1) rfl
theorem flX11_step_58 : Cond.fieldLink RX11 58 "PageTrie$State" "trie" "LPageTrie$Trie;" ∈ wsX11_step := List.mem_of_getElem? (i := 4) rfl
theorem flX11_step_205 : Cond.fieldLink RX11 205 "PageTrie$State" "cursors" "[LPageTrie$Cursor;" ∈ wsX11_step := List.mem_of_getElem? (i := 2) rfl
theorem flX11_step_215 : Cond.fieldLink RX11 215 "PageTrie$Cursor" "isTold" "Z" ∈ wsX11_step := List.mem_of_getElem? (i := 3) rfl
theorem inX11_step_X0 : ∀ w ∈ u_ws RX0 TX0 5, w ∈ wsX11_step := mem_r _ [113, 114, 115, 116, 117] rfl
theorem inX11_step_X11 : ∀ w ∈ u_ws RX11 TX11 12, w ∈ wsX11_step := mem_r _ [98, 99, 100, 101, 102, 103, 104, 105, 106, 107, 108, 109] rfl
theorem inX11_step_X8 : ∀ w ∈ u_ws RX8 TX8 3, w ∈ wsX11_step := mem_r _ [110, 111, 112] rfl
theorem hvX11_step : yX11_step.cls = RX11 ∧ yX11_step.cls ≠ "java/lang/invoke/MethodHandle" ∧ yX11_step.cls ≠ "java/lang/invoke/VarHandle" ∧ (parseMethodDescriptor yX11_step.desc).map (fun d => d.parameters.length) = some 2 := by decide +kernel
set_option maxHeartbeats 4000000 in
set_option maxRecDepth 100000 in
theorem kX11_step (l : Launch) {D : va_G} {cA : Nat → ClassId} {τ : Nat → Nat} {G : Nat → Nat → Nat} {L : List Nat} (hS : SW τ G L) (σ : Nat → Nat → Int) {a0 : Nat} (h0 : τ a0 = 12) {x1 : Int} (r1 : rg x1) {x2 : Int} (r2 : rg x2) : Met l yX11_step wsX11_step ({ frames := 4, cells := 0, slots := 0, locals := 99 }) (jP D cA τ G L σ [.ref a0, .int (jI x1), .int (jI x2)]) (jQI D cA τ G L (fun r σ' => (True) ∧ fr wr_X11_step τ σ σ')) 0 0 (fun q => q ∈ L) := by
  refine j_metI (by decide +kernel) rfl (Nat.le_of_ble_eq_true rfl) ?_
  intro p e s m args below meth c Q hx hb hml hown hts hK hW hRet ls hl
  have hl : lv_has ls 4 [(0, .ref a0), (1, .int (jI x1)), (2, .int (jI x2))] := hl
  have hA : ∀ q ∈ L, (fun q => q ∈ L) q := fun _ h => h
  have hF : va_S (fun q => q ∈ L) s.heap s.heap [] := va_S.rf
  have hR : fr wr_X11_step τ σ σ := fr_rf
  refine lv_iload_n hx hb dX11_step_0 rfl (lv_at hl 1 rfl) ?_
  refine j_cR (j_runS (As := [.int (jI x1)]) (rest := []) hx hb hml hown hts hK hW (kX11_isCursor l hS σ (x0 := x1) (r0 := (by omega))) 1 gX11_step_X11_isCursor rfl hsX11_isCursor ⟨Nat.le_of_ble_eq_true rfl, Nat.le_of_ble_eq_true rfl⟩ rfl rfl rfl hl.1 rfl (Nat.le_of_ble_eq_true rfl) dX11_step_1 ⟨Nat.le_of_ble_eq_true rfl, Nat.le_of_ble_eq_true rfl⟩) (fun v_1 rv_1 pv_1 => ?_)
  try dsimp only at pv_1
  refine j_if_ne (tgt := 9) hx hb (by omega) dX11_step_4 (by decide) (fun c_2 => ?_) (fun c_2 => ?_)
  · refine lv_aload_n hx hb dX11_step_9 rfl (lv_at hl 0 rfl) ?_
    refine j_getR hx hb (C := RX11) (T := TX11) (N := 12) hts inX11_step_X11 hown hK hS hW h0 rfl 3 rfl rfl (by decide) (hts _ flX11_step_35) dX11_step_10 ?_
    have h_3 : τ (G a0 3) = 9 := gty hS h0 (k := 3) rfl rfl
    refine j_getR hx hb (C := RX8) (T := TX8) (N := 3) hts inX11_step_X8 hown hK hS hW h_3 rfl 1 rfl rfl (by decide) (hts _ flX11_step_205) dX11_step_13 ?_
    have h_4 : τ (G (G a0 3) 1) = 32 := gty hS h_3 (k := 1) rfl rfl
    refine lv_iload_n hx hb dX11_step_16 rfl (lv_at hl 1 rfl) ?_
    refine j_aald hx hb hK hS hW h_4 (n := 4) rfl rfl (by omega) (by omega) (by decide) dX11_step_17 ?_
    have h_5 : τ (G (G (G a0 3) 1) (x1).toNat) = 1 := gtyR hS h_4 (n := 4) rfl (by omega) (by omega)
    refine lv_astore_n (lv' := [(3, .ref (G (G (G a0 3) 1) (x1).toNat)), (0, .ref a0), (1, .int (jI x1)), (2, .int (jI x2))]) hx hb dX11_step_18 rfl hl (by decide) rfl (fun ls hl => ?_)
    refine lv_aload_n hx hb dX11_step_19 rfl (lv_at hl 0 rfl) ?_
    refine j_getI hx hb (C := RX0) (T := TX0) (N := 5) hts inX11_step_X0 hown hK hS hW h_5 rfl 1 rfl rfl (by decide) (hts _ flX11_step_215) dX11_step_20 ?_
    have := fbd hW h_5 (k := 1) (lo := 0) (hi := 1) rfl rfl
    refine j_if_eq (tgt := 41) hx hb (by omega) dX11_step_23 (by decide) (fun c_6 => ?_) (fun c_6 => ?_)
    · refine j_bi hx hb dX11_step_41 (by decide) ?_
      exact hRet 43 _ _ _ (-4) _ dX11_step_43 hW hF (by decide) ⟨trivial, hR⟩
    · refine lv_aload_n hx hb dX11_step_26 rfl (lv_at hl 0 rfl) ?_
      refine lv_aload_n hx hb dX11_step_27 rfl (lv_at hl 1 rfl) ?_
      refine j_getR hx hb (C := RX11) (T := TX11) (N := 12) hts inX11_step_X11 hown hK hS hW h0 rfl 3 rfl rfl (by decide) (hts _ flX11_step_35) dX11_step_28 ?_
      refine j_getR hx hb (C := RX8) (T := TX8) (N := 3) hts inX11_step_X8 hown hK hS hW h_3 rfl 0 rfl rfl (by decide) (hts _ flX11_step_58) dX11_step_31 ?_
      have h_7 : τ (G (G a0 3) 0) = 11 := gty hS h_3 (k := 0) rfl rfl
      refine lv_iload_n hx hb dX11_step_34 rfl (lv_at hl 3 rfl) ?_
      refine j_cI (j_runV (As := [.ref (G (G a0 3) 0), .int (jI x2)]) (rest := []) hx hb hml hown hts hK hS hW (kX0_go l hS σ (a0 := G (G (G a0 3) 1) (x1).toNat) (h0 := h_5) (a1 := G (G a0 3) 0) (h1 := h_7) (x2 := x2) (r2 := (by omega))) 2 gX11_step_X0_go rfl hvX0_go ⟨Nat.le_of_ble_eq_true rfl, Nat.le_of_ble_eq_true rfl⟩ rfl rfl h_5 rfl rfl rfl rfl hl.1 rfl (Nat.le_of_ble_eq_true rfl) dX11_step_35 ⟨Nat.le_of_ble_eq_true rfl, Nat.le_of_ble_eq_true rfl⟩) hA hF (fun v_8 σ_9 H locs hW hF rv_8 pv_8 => ?_)
      try dsimp only at pv_8
      obtain ⟨pv_8, fpv_8⟩ := pv_8
      have hR := fr_call hR fpv_8 (by decide)
      refine lv_goto (tgt := 43) hx hb dX11_step_38 (by decide) ?_
      exact hRet 43 _ _ _ v_8 _ dX11_step_43 hW hF (by omega) ⟨trivial, hR⟩
  · refine j_const hx hb dX11_step_7 ?_
    exact hRet 8 _ _ _ (-1) _ dX11_step_8 hW hF (by decide) ⟨trivial, hR⟩
theorem flX11_cursorIs_35 : Cond.fieldLink RX11 35 "PageTrie" "now" "LPageTrie$State;" ∈ wsX11_cursorIs := List.mem_of_getElem? (i := 1) rfl
theorem flX11_cursorIs_58 : Cond.fieldLink RX11 58 "PageTrie$State" "trie" "LPageTrie$Trie;" ∈ wsX11_cursorIs := List.mem_of_getElem? (i := 4) rfl
theorem flX11_cursorIs_84 : Cond.fieldLink RX11 84 "PageTrie$Trie" "keys" "LPageTrie$Keys;" ∈ wsX11_cursorIs := List.mem_of_getElem? (i := 5) rfl
theorem flX11_cursorIs_205 : Cond.fieldLink RX11 205 "PageTrie$State" "cursors" "[LPageTrie$Cursor;" ∈ wsX11_cursorIs := List.mem_of_getElem? (i := 2) rfl
theorem flX11_cursorIs_215 : Cond.fieldLink RX11 215 "PageTrie$Cursor" "isTold" "Z" ∈ wsX11_cursorIs := List.mem_of_getElem? (i := 3) rfl
theorem flX11_cursorIs_222 : Cond.fieldLink RX11 222 "PageTrie$Cursor" "key" "LPageTrie$Key;" ∈ wsX11_cursorIs := List.mem_of_getElem? (i := 6) rfl
theorem flX11_cursorIs_225 : Cond.fieldLink RX11 225 "PageTrie$Cursor" "nearSteps" "I" ∈ wsX11_cursorIs := List.mem_of_getElem? (i := 7) rfl
theorem flX11_cursorIs_228 : Cond.fieldLink RX11 228 "PageTrie$Cursor" "farSteps" "I" ∈ wsX11_cursorIs := List.mem_of_getElem? (i := 8) rfl
theorem flX11_cursorIs_231 : Cond.fieldLink RX11 231 "PageTrie$Cursor" "lostSteps" "I" ∈ wsX11_cursorIs := List.mem_of_getElem? (i := 9) rfl
theorem flX11_cursorIs_234 : Cond.fieldLink RX11 234 "PageTrie$Key" "length" "I" ∈ wsX11_cursorIs := List.mem_of_getElem? (i := 10) rfl
theorem inX11_cursorIs_X0 : ∀ w ∈ u_ws RX0 TX0 5, w ∈ wsX11_cursorIs := mem_r _ [75, 76, 77, 78, 79] rfl
theorem inX11_cursorIs_X10 : ∀ w ∈ u_ws RX10 TX10 9, w ∈ wsX11_cursorIs := mem_r _ [80, 81, 82, 83, 84, 85, 86, 87, 88] rfl
theorem inX11_cursorIs_X11 : ∀ w ∈ u_ws RX11 TX11 12, w ∈ wsX11_cursorIs := mem_r _ [60, 61, 62, 63, 64, 65, 66, 67, 68, 69, 70, 71] rfl
theorem inX11_cursorIs_X2 : ∀ w ∈ u_ws RX2 TX2 2, w ∈ wsX11_cursorIs := mem_r _ [89, 90] rfl
theorem inX11_cursorIs_X8 : ∀ w ∈ u_ws RX8 TX8 3, w ∈ wsX11_cursorIs := mem_r _ [72, 73, 74] rfl
theorem hvX11_cursorIs : yX11_cursorIs.cls = RX11 ∧ yX11_cursorIs.cls ≠ "java/lang/invoke/MethodHandle" ∧ yX11_cursorIs.cls ≠ "java/lang/invoke/VarHandle" ∧ (parseMethodDescriptor yX11_cursorIs.desc).map (fun d => d.parameters.length) = some 2 := by decide +kernel
set_option maxHeartbeats 4000000 in
set_option maxRecDepth 100000 in
theorem kX11_cursorIs (l : Launch) {D : va_G} {cA : Nat → ClassId} {τ : Nat → Nat} {G : Nat → Nat → Nat} {L : List Nat} (hS : SW τ G L) (σ : Nat → Nat → Int) {a0 : Nat} (h0 : τ a0 = 12) {x1 : Int} (r1 : rg x1) {x2 : Int} (r2 : rg x2) : Met l yX11_cursorIs wsX11_cursorIs ({ frames := 4, cells := 0, slots := 0, locals := 96 }) (jP D cA τ G L σ [.ref a0, .int (jI x1), .int (jI x2)]) (jQR (fun r => True)) 0 0 (fun _ => False) := by
  refine j_metR (by decide +kernel) rfl (Nat.le_of_ble_eq_true rfl) ?_
  intro p e s m args below meth c Q hx hb hml hown hts hK hW hRet ls hl
  have hl : lv_has ls 4 [(0, .ref a0), (1, .int (jI x1)), (2, .int (jI x2))] := hl
  refine lv_iload_n hx hb dX11_cursorIs_0 rfl (lv_at hl 1 rfl) ?_
  refine j_cR (j_runS (As := [.int (jI x1)]) (rest := []) hx hb hml hown hts hK hW (kX11_isCursor l hS σ (x0 := x1) (r0 := (by omega))) 1 gX11_cursorIs_X11_isCursor rfl hsX11_isCursor ⟨Nat.le_of_ble_eq_true rfl, Nat.le_of_ble_eq_true rfl⟩ rfl rfl rfl hl.1 rfl (Nat.le_of_ble_eq_true rfl) dX11_cursorIs_1 ⟨Nat.le_of_ble_eq_true rfl, Nat.le_of_ble_eq_true rfl⟩) (fun v_1 rv_1 pv_1 => ?_)
  try dsimp only at pv_1
  refine j_if_eq (tgt := 22) hx hb (by omega) dX11_cursorIs_4 (by decide) (fun c_2 => ?_) (fun c_2 => ?_)
  · refine j_const hx hb dX11_cursorIs_22 ?_
    exact hRet 23 _ (-1) dX11_cursorIs_23 (by decide) trivial
  · refine lv_aload_n hx hb dX11_cursorIs_7 rfl (lv_at hl 0 rfl) ?_
    refine j_getR hx hb (C := RX11) (T := TX11) (N := 12) hts inX11_cursorIs_X11 hown hK hS hW h0 rfl 3 rfl rfl (by decide) (hts _ flX11_cursorIs_35) dX11_cursorIs_8 ?_
    have h_3 : τ (G a0 3) = 9 := gty hS h0 (k := 3) rfl rfl
    refine j_getR hx hb (C := RX8) (T := TX8) (N := 3) hts inX11_cursorIs_X8 hown hK hS hW h_3 rfl 1 rfl rfl (by decide) (hts _ flX11_cursorIs_205) dX11_cursorIs_11 ?_
    have h_4 : τ (G (G a0 3) 1) = 32 := gty hS h_3 (k := 1) rfl rfl
    refine lv_iload_n hx hb dX11_cursorIs_14 rfl (lv_at hl 1 rfl) ?_
    refine j_aald hx hb hK hS hW h_4 (n := 4) rfl rfl (by omega) (by omega) (by decide) dX11_cursorIs_15 ?_
    have h_5 : τ (G (G (G a0 3) 1) (x1).toNat) = 1 := gtyR hS h_4 (n := 4) rfl (by omega) (by omega)
    refine j_getI hx hb (C := RX0) (T := TX0) (N := 5) hts inX11_cursorIs_X0 hown hK hS hW h_5 rfl 1 rfl rfl (by decide) (hts _ flX11_cursorIs_215) dX11_cursorIs_16 ?_
    have := fbd hW h_5 (k := 1) (lo := 0) (hi := 1) rfl rfl
    refine j_if_ne (tgt := 24) hx hb (by omega) dX11_cursorIs_19 (by decide) (fun c_6 => ?_) (fun c_6 => ?_)
    · refine lv_aload_n hx hb dX11_cursorIs_24 rfl (lv_at hl 0 rfl) ?_
      refine j_getR hx hb (C := RX11) (T := TX11) (N := 12) hts inX11_cursorIs_X11 hown hK hS hW h0 rfl 3 rfl rfl (by decide) (hts _ flX11_cursorIs_35) dX11_cursorIs_25 ?_
      refine j_getR hx hb (C := RX8) (T := TX8) (N := 3) hts inX11_cursorIs_X8 hown hK hS hW h_3 rfl 1 rfl rfl (by decide) (hts _ flX11_cursorIs_205) dX11_cursorIs_28 ?_
      refine lv_iload_n hx hb dX11_cursorIs_31 rfl (lv_at hl 1 rfl) ?_
      refine j_aald hx hb hK hS hW h_4 (n := 4) rfl rfl (by omega) (by omega) (by decide) dX11_cursorIs_32 ?_
      refine lv_astore_n (lv' := [(3, .ref (G (G (G a0 3) 1) (x1).toNat)), (0, .ref a0), (1, .int (jI x1)), (2, .int (jI x2))]) hx hb dX11_cursorIs_33 rfl hl (by decide) rfl (fun ls hl => ?_)
      refine lv_iload_n hx hb dX11_cursorIs_34 rfl (lv_at hl 3 rfl) ?_
      have hrc_7 : rg x2 := by omega
      by_cases c_7_0 : x2 = 0
      · refine lv_tableIn (tgt := 64) (off := 29) hx hb dX11_cursorIs_35 (by rw [jI_toInt hrc_7]; omega) (by rw [jI_toInt hrc_7]; omega) (by rw [jI_toInt hrc_7, c_7_0]; rfl) (by decide) ?_
        refine lv_aload_n hx hb dX11_cursorIs_64 rfl (lv_at hl 1 rfl) ?_
        refine j_getR hx hb (C := RX11) (T := TX11) (N := 12) hts inX11_cursorIs_X11 hown hK hS hW h0 rfl 3 rfl rfl (by decide) (hts _ flX11_cursorIs_35) dX11_cursorIs_65 ?_
        refine j_getR hx hb (C := RX8) (T := TX8) (N := 3) hts inX11_cursorIs_X8 hown hK hS hW h_3 rfl 0 rfl rfl (by decide) (hts _ flX11_cursorIs_58) dX11_cursorIs_68 ?_
        have h_8 : τ (G (G a0 3) 0) = 11 := gty hS h_3 (k := 0) rfl rfl
        refine j_getR hx hb (C := RX10) (T := TX10) (N := 9) hts inX11_cursorIs_X10 hown hK hS hW h_8 rfl 0 rfl rfl (by decide) (hts _ flX11_cursorIs_84) dX11_cursorIs_71 ?_
        have h_9 : τ (G (G (G a0 3) 0) 0) = 4 := gty hS h_8 (k := 0) rfl rfl
        refine lv_aload_n hx hb dX11_cursorIs_74 rfl (lv_at hl 0 rfl) ?_
        refine j_getR hx hb (C := RX0) (T := TX0) (N := 5) hts inX11_cursorIs_X0 hown hK hS hW h_5 rfl 0 rfl rfl (by decide) (hts _ flX11_cursorIs_222) dX11_cursorIs_75 ?_
        have h_10 : τ (G (G (G (G a0 3) 1) (x1).toNat) 0) = 3 := gty hS h_5 (k := 0) rfl rfl
        refine j_cR (j_runV (As := [.ref (G (G (G (G a0 3) 1) (x1).toNat) 0)]) (rest := []) hx hb hml hown hts hK hS hW (kX3_find l hS σ (a0 := G (G (G a0 3) 0) 0) (h0 := h_9) (a1 := G (G (G (G a0 3) 1) (x1).toNat) 0) (h1 := h_10)) 1 gX11_cursorIs_X3_find rfl hvX3_find ⟨Nat.le_of_ble_eq_true rfl, Nat.le_of_ble_eq_true rfl⟩ rfl rfl h_9 rfl rfl rfl rfl hl.1 rfl (Nat.le_of_ble_eq_true rfl) dX11_cursorIs_78 ⟨Nat.le_of_ble_eq_true rfl, Nat.le_of_ble_eq_true rfl⟩) (fun v_11 rv_11 pv_11 => ?_)
        try dsimp only at pv_11
        exact hRet 81 _ v_11 dX11_cursorIs_81 (by omega) trivial
      by_cases c_7_1 : x2 = 1
      · refine lv_tableIn (tgt := 82) (off := 47) hx hb dX11_cursorIs_35 (by rw [jI_toInt hrc_7]; omega) (by rw [jI_toInt hrc_7]; omega) (by rw [jI_toInt hrc_7, c_7_1]; rfl) (by decide) ?_
        refine lv_aload_n hx hb dX11_cursorIs_82 rfl (lv_at hl 0 rfl) ?_
        refine j_getI hx hb (C := RX0) (T := TX0) (N := 5) hts inX11_cursorIs_X0 hown hK hS hW h_5 rfl 2 rfl rfl (by decide) (hts _ flX11_cursorIs_225) dX11_cursorIs_83 ?_
        have := fbd hW h_5 (k := 2) (lo := -2147483648) (hi := 2147483647) rfl rfl
        exact hRet 86 _ (σ (G (G (G a0 3) 1) (x1).toNat) 2) dX11_cursorIs_86 (by omega) trivial
      by_cases c_7_2 : x2 = 2
      · refine lv_tableIn (tgt := 87) (off := 52) hx hb dX11_cursorIs_35 (by rw [jI_toInt hrc_7]; omega) (by rw [jI_toInt hrc_7]; omega) (by rw [jI_toInt hrc_7, c_7_2]; rfl) (by decide) ?_
        refine lv_aload_n hx hb dX11_cursorIs_87 rfl (lv_at hl 0 rfl) ?_
        refine j_getI hx hb (C := RX0) (T := TX0) (N := 5) hts inX11_cursorIs_X0 hown hK hS hW h_5 rfl 3 rfl rfl (by decide) (hts _ flX11_cursorIs_228) dX11_cursorIs_88 ?_
        have := fbd hW h_5 (k := 3) (lo := -2147483648) (hi := 2147483647) rfl rfl
        exact hRet 91 _ (σ (G (G (G a0 3) 1) (x1).toNat) 3) dX11_cursorIs_91 (by omega) trivial
      by_cases c_7_3 : x2 = 3
      · refine lv_tableIn (tgt := 92) (off := 57) hx hb dX11_cursorIs_35 (by rw [jI_toInt hrc_7]; omega) (by rw [jI_toInt hrc_7]; omega) (by rw [jI_toInt hrc_7, c_7_3]; rfl) (by decide) ?_
        refine lv_aload_n hx hb dX11_cursorIs_92 rfl (lv_at hl 0 rfl) ?_
        refine j_getI hx hb (C := RX0) (T := TX0) (N := 5) hts inX11_cursorIs_X0 hown hK hS hW h_5 rfl 4 rfl rfl (by decide) (hts _ flX11_cursorIs_231) dX11_cursorIs_93 ?_
        have := fbd hW h_5 (k := 4) (lo := -2147483648) (hi := 2147483647) rfl rfl
        exact hRet 96 _ (σ (G (G (G a0 3) 1) (x1).toNat) 4) dX11_cursorIs_96 (by omega) trivial
      refine lv_tableOut (tgt := 97) hx hb dX11_cursorIs_35 (by rw [jI_toInt hrc_7]; omega) (by decide) ?_
      refine lv_iload_n hx hb dX11_cursorIs_97 rfl (lv_at hl 3 rfl) ?_
      refine j_bi hx hb dX11_cursorIs_98 (by decide) ?_
      refine j_icmp_lt (tgt := 109) hx hb (by omega) (by decide) dX11_cursorIs_100 (by decide) (fun c_12 => ?_) (fun c_12 => ?_)
      · refine j_const hx hb dX11_cursorIs_109 ?_
        exact hRet 110 _ (-1) dX11_cursorIs_110 (by decide) trivial
      · refine lv_iload_n hx hb dX11_cursorIs_103 rfl (lv_at hl 3 rfl) ?_
        refine j_bi hx hb dX11_cursorIs_104 (by decide) ?_
        refine j_icmp_lt (tgt := 111) hx hb (by omega) (by decide) dX11_cursorIs_106 (by decide) (fun c_13 => ?_) (fun c_13 => ?_)
        · refine lv_iload_n hx hb dX11_cursorIs_111 rfl (lv_at hl 3 rfl) ?_
          refine j_bi hx hb dX11_cursorIs_112 (by decide) ?_
          refine j_sub hx hb dX11_cursorIs_114 ?_
          refine lv_aload_n hx hb dX11_cursorIs_115 rfl (lv_at hl 0 rfl) ?_
          refine j_getR hx hb (C := RX0) (T := TX0) (N := 5) hts inX11_cursorIs_X0 hown hK hS hW h_5 rfl 0 rfl rfl (by decide) (hts _ flX11_cursorIs_222) dX11_cursorIs_116 ?_
          have h_14 : τ (G (G (G (G a0 3) 1) (x1).toNat) 0) = 3 := gty hS h_5 (k := 0) rfl rfl
          refine j_getI hx hb (C := RX2) (T := TX2) (N := 2) hts inX11_cursorIs_X2 hown hK hS hW h_14 rfl 1 rfl rfl (by decide) (hts _ flX11_cursorIs_234) dX11_cursorIs_119 ?_
          have := fbd hW h_14 (k := 1) (lo := 0) (hi := 24) rfl rfl
          refine j_icmp_ge (tgt := 139) hx hb (by omega) (by omega) dX11_cursorIs_122 (by decide) (fun c_15 => ?_) (fun c_15 => ?_)
          · refine j_bi hx hb dX11_cursorIs_139 (by decide) ?_
            exact hRet 141 _ (-4) dX11_cursorIs_141 (by decide) trivial
          · refine lv_aload_n hx hb dX11_cursorIs_125 rfl (lv_at hl 0 rfl) ?_
            refine j_getR hx hb (C := RX0) (T := TX0) (N := 5) hts inX11_cursorIs_X0 hown hK hS hW h_5 rfl 0 rfl rfl (by decide) (hts _ flX11_cursorIs_222) dX11_cursorIs_126 ?_
            refine lv_iload_n hx hb dX11_cursorIs_129 rfl (lv_at hl 3 rfl) ?_
            refine j_bi hx hb dX11_cursorIs_130 (by decide) ?_
            refine j_sub hx hb dX11_cursorIs_132 ?_
            refine j_cR (j_runV (As := [.int (jI (x2 - 10))]) (rest := []) hx hb hml hown hts hK hS hW (kX2_byteOf l hS σ (a0 := G (G (G (G a0 3) 1) (x1).toNat) 0) (h0 := h_14) (x1 := x2 - 10) (r1 := (by omega))) 1 gX11_cursorIs_X2_byteOf rfl hvX2_byteOf ⟨Nat.le_of_ble_eq_true rfl, Nat.le_of_ble_eq_true rfl⟩ rfl rfl h_14 rfl rfl rfl rfl hl.1 rfl (Nat.le_of_ble_eq_true rfl) dX11_cursorIs_133 ⟨Nat.le_of_ble_eq_true rfl, Nat.le_of_ble_eq_true rfl⟩) (fun v_16 rv_16 pv_16 => ?_)
            try dsimp only at pv_16
            refine lv_goto (tgt := 141) hx hb dX11_cursorIs_136 (by decide) ?_
            exact hRet 141 _ v_16 dX11_cursorIs_141 (by omega) trivial
        · refine j_const hx hb dX11_cursorIs_109 ?_
          exact hRet 110 _ (-1) dX11_cursorIs_110 (by decide) trivial
    · refine j_const hx hb dX11_cursorIs_22 ?_
      exact hRet 23 _ (-1) dX11_cursorIs_23 (by decide) trivial
theorem flX11_full_35 : Cond.fieldLink RX11 35 "PageTrie" "now" "LPageTrie$State;" ∈ wsX11_full := List.mem_of_getElem? (i := 1) rfl
theorem flX11_full_58 : Cond.fieldLink RX11 58 "PageTrie$State" "trie" "LPageTrie$Trie;" ∈ wsX11_full := List.mem_of_getElem? (i := 2) rfl
theorem inX11_full_X11 : ∀ w ∈ u_ws RX11 TX11 12, w ∈ wsX11_full := mem_r _ [36, 37, 38, 39, 40, 41, 42, 43, 44, 45, 46, 47] rfl
theorem inX11_full_X8 : ∀ w ∈ u_ws RX8 TX8 3, w ∈ wsX11_full := mem_r _ [48, 49, 50] rfl
theorem hvX11_full : yX11_full.cls = RX11 ∧ yX11_full.cls ≠ "java/lang/invoke/MethodHandle" ∧ yX11_full.cls ≠ "java/lang/invoke/VarHandle" ∧ (parseMethodDescriptor yX11_full.desc).map (fun d => d.parameters.length) = some 1 := by decide +kernel
set_option maxHeartbeats 4000000 in
set_option maxRecDepth 100000 in
theorem kX11_full (l : Launch) {D : va_G} {cA : Nat → ClassId} {τ : Nat → Nat} {G : Nat → Nat → Nat} {L : List Nat} (hS : SW τ G L) (σ : Nat → Nat → Int) {a0 : Nat} (h0 : τ a0 = 12) {x1 : Int} (r1 : rg x1) : Met l yX11_full wsX11_full ({ frames := 3, cells := 0, slots := 0, locals := 71 }) (jP D cA τ G L σ [.ref a0, .int (jI x1)]) (jQR (fun r => True)) 0 0 (fun _ => False) := by
  refine j_metR (by decide +kernel) rfl (Nat.le_of_ble_eq_true rfl) ?_
  intro p e s m args below meth c Q hx hb hml hown hts hK hW hRet ls hl
  have hl : lv_has ls 2 [(0, .ref a0), (1, .int (jI x1))] := hl
  refine lv_iload_n hx hb dX11_full_0 rfl (lv_at hl 1 rfl) ?_
  refine j_const hx hb dX11_full_1 ?_
  refine j_icmp_lt (tgt := 11) hx hb (by omega) (by decide) dX11_full_2 (by decide) (fun c_1 => ?_) (fun c_1 => ?_)
  · refine j_const hx hb dX11_full_11 ?_
    refine lv_goto (tgt := 26) hx hb dX11_full_12 (by decide) ?_
    exact hRet 26 _ (-1) dX11_full_26 (by decide) trivial
  · refine lv_iload_n hx hb dX11_full_5 rfl (lv_at hl 1 rfl) ?_
    refine j_bi hx hb dX11_full_6 (by decide) ?_
    refine j_icmp_le (tgt := 15) hx hb (by omega) (by decide) dX11_full_8 (by decide) (fun c_2 => ?_) (fun c_2 => ?_)
    · refine lv_aload_n hx hb dX11_full_15 rfl (lv_at hl 0 rfl) ?_
      refine j_getR hx hb (C := RX11) (T := TX11) (N := 12) hts inX11_full_X11 hown hK hS hW h0 rfl 3 rfl rfl (by decide) (hts _ flX11_full_35) dX11_full_16 ?_
      have h_3 : τ (G a0 3) = 9 := gty hS h0 (k := 3) rfl rfl
      refine j_getR hx hb (C := RX8) (T := TX8) (N := 3) hts inX11_full_X8 hown hK hS hW h_3 rfl 0 rfl rfl (by decide) (hts _ flX11_full_58) dX11_full_19 ?_
      have h_4 : τ (G (G a0 3) 0) = 11 := gty hS h_3 (k := 0) rfl rfl
      refine lv_iload_n hx hb dX11_full_22 rfl (lv_at hl 1 rfl) ?_
      refine j_cR (j_runV (As := [.int (jI x1)]) (rest := []) hx hb hml hown hts hK hS hW (kX10_pagesWith l hS σ (a0 := G (G a0 3) 0) (h0 := h_4) (x1 := x1) (r1 := (by omega))) 1 gX11_full_X10_pagesWith rfl hvX10_pagesWith ⟨Nat.le_of_ble_eq_true rfl, Nat.le_of_ble_eq_true rfl⟩ rfl rfl h_4 rfl rfl rfl rfl hl.1 rfl (Nat.le_of_ble_eq_true rfl) dX11_full_23 ⟨Nat.le_of_ble_eq_true rfl, Nat.le_of_ble_eq_true rfl⟩) (fun v_5 rv_5 pv_5 => ?_)
      try dsimp only at pv_5
      exact hRet 26 _ v_5 dX11_full_26 (by omega) trivial
    · refine j_const hx hb dX11_full_11 ?_
      refine lv_goto (tgt := 26) hx hb dX11_full_12 (by decide) ?_
      exact hRet 26 _ (-1) dX11_full_26 (by decide) trivial
theorem flX11_closest_35 : Cond.fieldLink RX11 35 "PageTrie" "now" "LPageTrie$State;" ∈ wsX11_closest := List.mem_of_getElem? (i := 1) rfl
theorem flX11_closest_58 : Cond.fieldLink RX11 58 "PageTrie$State" "trie" "LPageTrie$Trie;" ∈ wsX11_closest := List.mem_of_getElem? (i := 2) rfl
theorem flX11_closest_84 : Cond.fieldLink RX11 84 "PageTrie$Trie" "keys" "LPageTrie$Keys;" ∈ wsX11_closest := List.mem_of_getElem? (i := 3) rfl
theorem flX11_closest_240 : Cond.fieldLink RX11 240 "PageTrie$Keys" "size" "I" ∈ wsX11_closest := List.mem_of_getElem? (i := 4) rfl
theorem inX11_closest_X10 : ∀ w ∈ u_ws RX10 TX10 9, w ∈ wsX11_closest := mem_r _ [45, 46, 47, 48, 49, 50, 51, 52, 53] rfl
theorem inX11_closest_X11 : ∀ w ∈ u_ws RX11 TX11 12, w ∈ wsX11_closest := mem_r _ [30, 31, 32, 33, 34, 35, 36, 37, 38, 39, 40, 41] rfl
theorem inX11_closest_X3 : ∀ w ∈ u_ws RX3 TX3 4, w ∈ wsX11_closest := mem_r _ [54, 55, 56, 57] rfl
theorem inX11_closest_X8 : ∀ w ∈ u_ws RX8 TX8 3, w ∈ wsX11_closest := mem_r _ [42, 43, 44] rfl
theorem hvX11_closest : yX11_closest.cls = RX11 ∧ yX11_closest.cls ≠ "java/lang/invoke/MethodHandle" ∧ yX11_closest.cls ≠ "java/lang/invoke/VarHandle" ∧ (parseMethodDescriptor yX11_closest.desc).map (fun d => d.parameters.length) = some 1 := by decide +kernel
set_option maxHeartbeats 4000000 in
set_option maxRecDepth 100000 in
theorem kX11_closest (l : Launch) {D : va_G} {cA : Nat → ClassId} {τ : Nat → Nat} {G : Nat → Nat → Nat} {L : List Nat} (hS : SW τ G L) (σ : Nat → Nat → Int) {a0 : Nat} (h0 : τ a0 = 12) {x1 : Int} (r1 : rg x1) : Met l yX11_closest wsX11_closest ({ frames := 3, cells := 0, slots := 0, locals := 72 }) (jP D cA τ G L σ [.ref a0, .int (jI x1)]) (jQR (fun r => True)) 0 0 (fun _ => False) := by
  refine j_metR (by decide +kernel) rfl (Nat.le_of_ble_eq_true rfl) ?_
  intro p e s m args below meth c Q hx hb hml hown hts hK hW hRet ls hl
  have hl : lv_has ls 4 [(0, .ref a0), (1, .int (jI x1))] := hl
  refine lv_iload_n hx hb dX11_closest_0 rfl (lv_at hl 1 rfl) ?_
  refine j_if_lt (tgt := 9) hx hb (by omega) dX11_closest_1 (by decide) (fun c_1 => ?_) (fun c_1 => ?_)
  · refine j_const hx hb dX11_closest_9 ?_
    exact hRet 10 _ (-1) dX11_closest_10 (by decide) trivial
  · refine lv_iload_n hx hb dX11_closest_4 rfl (lv_at hl 1 rfl) ?_
    refine j_const hx hb dX11_closest_5 ?_
    refine j_icmp_le (tgt := 11) hx hb (by omega) (by decide) dX11_closest_6 (by decide) (fun c_2 => ?_) (fun c_2 => ?_)
    · refine lv_aload_n hx hb dX11_closest_11 rfl (lv_at hl 0 rfl) ?_
      refine j_getR hx hb (C := RX11) (T := TX11) (N := 12) hts inX11_closest_X11 hown hK hS hW h0 rfl 3 rfl rfl (by decide) (hts _ flX11_closest_35) dX11_closest_12 ?_
      have h_3 : τ (G a0 3) = 9 := gty hS h0 (k := 3) rfl rfl
      refine j_getR hx hb (C := RX8) (T := TX8) (N := 3) hts inX11_closest_X8 hown hK hS hW h_3 rfl 0 rfl rfl (by decide) (hts _ flX11_closest_58) dX11_closest_15 ?_
      have h_4 : τ (G (G a0 3) 0) = 11 := gty hS h_3 (k := 0) rfl rfl
      refine j_getR hx hb (C := RX10) (T := TX10) (N := 9) hts inX11_closest_X10 hown hK hS hW h_4 rfl 0 rfl rfl (by decide) (hts _ flX11_closest_84) dX11_closest_18 ?_
      have h_5 : τ (G (G (G a0 3) 0) 0) = 4 := gty hS h_4 (k := 0) rfl rfl
      refine lv_astore_n (lv' := [(2, .ref (G (G (G a0 3) 0) 0)), (0, .ref a0), (1, .int (jI x1))]) hx hb dX11_closest_21 rfl hl (by decide) rfl (fun ls hl => ?_)
      refine lv_aload_n hx hb dX11_closest_22 rfl (lv_at hl 0 rfl) ?_
      refine j_getI hx hb (C := RX3) (T := TX3) (N := 4) hts inX11_closest_X3 hown hK hS hW h_5 rfl 3 rfl rfl (by decide) (hts _ flX11_closest_240) dX11_closest_23 ?_
      have := fbd hW h_5 (k := 3) (lo := 0) (hi := 150) rfl rfl
      refine j_const hx hb dX11_closest_26 ?_
      refine j_icmp_ge (tgt := 33) hx hb (by omega) (by decide) dX11_closest_27 (by decide) (fun c_6 => ?_) (fun c_6 => ?_)
      · refine lv_aload_n hx hb dX11_closest_33 rfl (lv_at hl 0 rfl) ?_
        refine j_cR (j_runV (As := []) (rest := []) hx hb hml hown hts hK hS hW (kX3_closestPair l hS σ (a0 := G (G (G a0 3) 0) 0) (h0 := h_5)) 0 gX11_closest_X3_closestPair rfl hvX3_closestPair ⟨Nat.le_of_ble_eq_true rfl, Nat.le_of_ble_eq_true rfl⟩ rfl rfl h_5 rfl rfl rfl rfl hl.1 rfl (Nat.le_of_ble_eq_true rfl) dX11_closest_34 ⟨Nat.le_of_ble_eq_true rfl, Nat.le_of_ble_eq_true rfl⟩) (fun v_7 rv_7 pv_7 => ?_)
        try dsimp only at pv_7
        refine lv_istore_n (lv' := [(3, .int (jI v_7)), (2, .ref (G (G (G a0 3) 0) 0)), (0, .ref a0), (1, .int (jI x1))]) hx hb dX11_closest_37 rfl hl (by decide) rfl (fun ls hl => ?_)
        refine lv_iload_n hx hb dX11_closest_38 rfl (lv_at hl 3 rfl) ?_
        refine j_if_ne (tgt := 53) hx hb (by omega) dX11_closest_39 (by decide) (fun c_8 => ?_) (fun c_8 => ?_)
        · refine lv_iload_n hx hb dX11_closest_53 rfl (lv_at hl 0 rfl) ?_
          exact hRet 54 _ v_7 dX11_closest_54 (by omega) trivial
        · refine lv_aload_n hx hb dX11_closest_42 rfl (lv_at hl 1 rfl) ?_
          refine lv_iload_n hx hb dX11_closest_43 rfl (lv_at hl 0 rfl) ?_
          refine lv_iload_n hx hb dX11_closest_44 rfl (lv_at hl 0 rfl) ?_
          refine j_const hx hb dX11_closest_45 ?_
          refine j_add hx hb dX11_closest_46 ?_
          refine j_wrap (fun z_9 rz_9 ez_9 => ?_)
          refine j_cR (j_runV (As := [.int (jI v_7), .int (jI z_9)]) (rest := []) hx hb hml hown hts hK hS hW (kX3_alikeBytes l hS σ (a0 := G (G (G a0 3) 0) 0) (h0 := h_5) (x1 := v_7) (r1 := (by omega)) (x2 := z_9) (r2 := (by omega))) 2 gX11_closest_X3_alikeBytes rfl hvX3_alikeBytes ⟨Nat.le_of_ble_eq_true rfl, Nat.le_of_ble_eq_true rfl⟩ rfl rfl h_5 rfl rfl rfl rfl hl.1 rfl (Nat.le_of_ble_eq_true rfl) dX11_closest_47 ⟨Nat.le_of_ble_eq_true rfl, Nat.le_of_ble_eq_true rfl⟩) (fun v_10 rv_10 pv_10 => ?_)
          try dsimp only at pv_10
          refine lv_goto (tgt := 54) hx hb dX11_closest_50 (by decide) ?_
          exact hRet 54 _ v_10 dX11_closest_54 (by omega) trivial
      · refine j_bi hx hb dX11_closest_30 (by decide) ?_
        exact hRet 32 _ (-2) dX11_closest_32 (by decide) trivial
    · refine j_const hx hb dX11_closest_9 ?_
      exact hRet 10 _ (-1) dX11_closest_10 (by decide) trivial
abbrev wr_X11_layer : List Nat := [5001, 5002, 5003]
theorem flX11_layer_64 : Cond.fieldLink RX11 64 "PageTrie" "view" "LPageTrie$LayerView;" ∈ wsX11_layer := List.mem_of_getElem? (i := 1) rfl
theorem inX11_layer_X11 : ∀ w ∈ u_ws RX11 TX11 12, w ∈ wsX11_layer := mem_r _ [83, 84, 85, 86, 87, 88, 89, 90, 91, 92, 93, 94] rfl
theorem hvX11_layer : yX11_layer.cls = RX11 ∧ yX11_layer.cls ≠ "java/lang/invoke/MethodHandle" ∧ yX11_layer.cls ≠ "java/lang/invoke/VarHandle" ∧ (parseMethodDescriptor yX11_layer.desc).map (fun d => d.parameters.length) = some 2 := by decide +kernel
set_option maxHeartbeats 4000000 in
set_option maxRecDepth 100000 in
theorem kX11_layer (l : Launch) {D : va_G} {cA : Nat → ClassId} {τ : Nat → Nat} {G : Nat → Nat → Nat} {L : List Nat} (hS : SW τ G L) (σ : Nat → Nat → Int) {a0 : Nat} (h0 : τ a0 = 12) {x1 : Int} (r1 : rg x1) {x2 : Int} (r2 : rg x2) : Met l yX11_layer wsX11_layer ({ frames := 4, cells := 0, slots := 0, locals := 85 }) (jP D cA τ G L σ [.ref a0, .int (jI x1), .int (jI x2)]) (jQI D cA τ G L (fun r σ' => (True) ∧ fr wr_X11_layer τ σ σ')) 0 0 (fun q => q ∈ L) := by
  refine j_metI (by decide +kernel) rfl (Nat.le_of_ble_eq_true rfl) ?_
  intro p e s m args below meth c Q hx hb hml hown hts hK hW hRet ls hl
  have hl : lv_has ls 3 [(0, .ref a0), (1, .int (jI x1)), (2, .int (jI x2))] := hl
  have hA : ∀ q ∈ L, (fun q => q ∈ L) q := fun _ h => h
  have hF : va_S (fun q => q ∈ L) s.heap s.heap [] := va_S.rf
  have hR : fr wr_X11_layer τ σ σ := fr_rf
  refine lv_iload_n hx hb dX11_layer_0 rfl (lv_at hl 2 rfl) ?_
  refine j_if_lt (tgt := 26) hx hb (by omega) dX11_layer_1 (by decide) (fun c_1 => ?_) (fun c_1 => ?_)
  · refine j_const hx hb dX11_layer_26 ?_
    exact hRet 27 _ _ _ (-1) _ dX11_layer_27 hW hF (by decide) ⟨trivial, hR⟩
  · refine lv_iload_n hx hb dX11_layer_4 rfl (lv_at hl 2 rfl) ?_
    refine j_const hx hb dX11_layer_5 ?_
    refine j_icmp_le (tgt := 15) hx hb (by omega) (by decide) dX11_layer_6 (by decide) (fun c_2 => ?_) (fun c_2 => ?_)
    · refine lv_aload_n hx hb dX11_layer_15 rfl (lv_at hl 0 rfl) ?_
      refine j_getR hx hb (C := RX11) (T := TX11) (N := 12) hts inX11_layer_X11 hown hK hS hW h0 rfl 8 rfl rfl (by decide) (hts _ flX11_layer_64) dX11_layer_16 ?_
      have h_3 : τ (G a0 8) = 5 := gty hS h0 (k := 8) rfl rfl
      refine lv_iload_n hx hb dX11_layer_19 rfl (lv_at hl 1 rfl) ?_
      refine j_cI (j_runV (As := [.int (jI x1)]) (rest := []) hx hb hml hown hts hK hS hW (kX4_goTo l hS σ (a0 := G a0 8) (h0 := h_3) (x1 := x1) (r1 := (by omega))) 1 gX11_layer_X4_goTo rfl hvX4_goTo ⟨Nat.le_of_ble_eq_true rfl, Nat.le_of_ble_eq_true rfl⟩ rfl rfl h_3 rfl rfl rfl rfl hl.1 rfl (Nat.le_of_ble_eq_true rfl) dX11_layer_20 ⟨Nat.le_of_ble_eq_true rfl, Nat.le_of_ble_eq_true rfl⟩) hA hF (fun v_4 σ_5 H locs hW hF rv_4 pv_4 => ?_)
      try dsimp only at pv_4
      obtain ⟨bpv_4, pv_4, fpv_4⟩ := pv_4
      have hR := fr_call hR fpv_4 (by decide)
      refine j_if_ne (tgt := 28) hx hb (by omega) dX11_layer_23 (by decide) (fun c_6 => ?_) (fun c_6 => ?_)
      · refine lv_iload_n hx hb dX11_layer_28 rfl (lv_at hl 2 rfl) ?_
        have hrc_7 : rg x2 := by omega
        by_cases c_7_0 : x2 = 0
        · refine lv_tableIn (tgt := 60) (off := 31) hx hb dX11_layer_29 (by rw [jI_toInt hrc_7]; omega) (by rw [jI_toInt hrc_7]; omega) (by rw [jI_toInt hrc_7, c_7_0]; rfl) (by decide) ?_
          refine lv_aload_n hx hb dX11_layer_60 rfl (lv_at hl 0 rfl) ?_
          refine j_getR hx hb (C := RX11) (T := TX11) (N := 12) hts inX11_layer_X11 hown hK hS hW h0 rfl 8 rfl rfl (by decide) (hts _ flX11_layer_64) dX11_layer_61 ?_
          refine j_cR (j_runV (As := []) (rest := []) hx hb hml hown hts hK hS hW (kX4_beginningBytes l hS σ_5 (a0 := G a0 8) (h0 := h_3)) 0 gX11_layer_X4_beginningBytes rfl hvX4_beginningBytes ⟨Nat.le_of_ble_eq_true rfl, Nat.le_of_ble_eq_true rfl⟩ rfl rfl h_3 rfl rfl rfl rfl hl.1 rfl (Nat.le_of_ble_eq_true rfl) dX11_layer_64 ⟨Nat.le_of_ble_eq_true rfl, Nat.le_of_ble_eq_true rfl⟩) (fun v_8 rv_8 pv_8 => ?_)
          try dsimp only at pv_8
          exact hRet 67 _ _ _ v_8 _ dX11_layer_67 hW hF (by omega) ⟨trivial, hR⟩
        by_cases c_7_1 : x2 = 1
        · refine lv_tableIn (tgt := 68) (off := 39) hx hb dX11_layer_29 (by rw [jI_toInt hrc_7]; omega) (by rw [jI_toInt hrc_7]; omega) (by rw [jI_toInt hrc_7, c_7_1]; rfl) (by decide) ?_
          refine lv_aload_n hx hb dX11_layer_68 rfl (lv_at hl 0 rfl) ?_
          refine j_getR hx hb (C := RX11) (T := TX11) (N := 12) hts inX11_layer_X11 hown hK hS hW h0 rfl 8 rfl rfl (by decide) (hts _ flX11_layer_64) dX11_layer_69 ?_
          refine j_cR (j_runV (As := []) (rest := []) hx hb hml hown hts hK hS hW (kX4_entries l hS σ_5 (a0 := G a0 8) (h0 := h_3)) 0 gX11_layer_X4_entries rfl hvX4_entries ⟨Nat.le_of_ble_eq_true rfl, Nat.le_of_ble_eq_true rfl⟩ rfl rfl h_3 rfl rfl rfl rfl hl.1 rfl (Nat.le_of_ble_eq_true rfl) dX11_layer_72 ⟨Nat.le_of_ble_eq_true rfl, Nat.le_of_ble_eq_true rfl⟩) (fun v_9 rv_9 pv_9 => ?_)
          try dsimp only at pv_9
          exact hRet 75 _ _ _ v_9 _ dX11_layer_75 hW hF (by omega) ⟨trivial, hR⟩
        by_cases c_7_2 : x2 = 2
        · refine lv_tableIn (tgt := 76) (off := 47) hx hb dX11_layer_29 (by rw [jI_toInt hrc_7]; omega) (by rw [jI_toInt hrc_7]; omega) (by rw [jI_toInt hrc_7, c_7_2]; rfl) (by decide) ?_
          refine lv_aload_n hx hb dX11_layer_76 rfl (lv_at hl 0 rfl) ?_
          refine j_getR hx hb (C := RX11) (T := TX11) (N := 12) hts inX11_layer_X11 hown hK hS hW h0 rfl 8 rfl rfl (by decide) (hts _ flX11_layer_64) dX11_layer_77 ?_
          refine j_cR (j_runV (As := []) (rest := []) hx hb hml hown hts hK hS hW (kX4_pages l hS σ_5 (a0 := G a0 8) (h0 := h_3)) 0 gX11_layer_X4_pages rfl hvX4_pages ⟨Nat.le_of_ble_eq_true rfl, Nat.le_of_ble_eq_true rfl⟩ rfl rfl h_3 rfl rfl rfl rfl hl.1 rfl (Nat.le_of_ble_eq_true rfl) dX11_layer_80 ⟨Nat.le_of_ble_eq_true rfl, Nat.le_of_ble_eq_true rfl⟩) (fun v_10 rv_10 pv_10 => ?_)
          try dsimp only at pv_10
          exact hRet 83 _ _ _ v_10 _ dX11_layer_83 hW hF (by omega) ⟨trivial, hR⟩
        by_cases c_7_3 : x2 = 3
        · refine lv_tableIn (tgt := 84) (off := 55) hx hb dX11_layer_29 (by rw [jI_toInt hrc_7]; omega) (by rw [jI_toInt hrc_7]; omega) (by rw [jI_toInt hrc_7, c_7_3]; rfl) (by decide) ?_
          refine lv_aload_n hx hb dX11_layer_84 rfl (lv_at hl 0 rfl) ?_
          refine j_getR hx hb (C := RX11) (T := TX11) (N := 12) hts inX11_layer_X11 hown hK hS hW h0 rfl 8 rfl rfl (by decide) (hts _ flX11_layer_64) dX11_layer_85 ?_
          refine j_cR (j_runV (As := []) (rest := []) hx hb hml hown hts hK hS hW (kX4_keys l hS σ_5 (a0 := G a0 8) (h0 := h_3)) 0 gX11_layer_X4_keys rfl hvX4_keys ⟨Nat.le_of_ble_eq_true rfl, Nat.le_of_ble_eq_true rfl⟩ rfl rfl h_3 rfl rfl rfl rfl hl.1 rfl (Nat.le_of_ble_eq_true rfl) dX11_layer_88 ⟨Nat.le_of_ble_eq_true rfl, Nat.le_of_ble_eq_true rfl⟩) (fun v_11 rv_11 pv_11 => ?_)
          try dsimp only at pv_11
          exact hRet 91 _ _ _ v_11 _ dX11_layer_91 hW hF (by omega) ⟨trivial, hR⟩
        refine lv_tableOut (tgt := 92) hx hb dX11_layer_29 (by rw [jI_toInt hrc_7]; omega) (by decide) ?_
        refine lv_aload_n hx hb dX11_layer_92 rfl (lv_at hl 0 rfl) ?_
        refine j_getR hx hb (C := RX11) (T := TX11) (N := 12) hts inX11_layer_X11 hown hK hS hW h0 rfl 8 rfl rfl (by decide) (hts _ flX11_layer_64) dX11_layer_93 ?_
        refine lv_iload_n hx hb dX11_layer_96 rfl (lv_at hl 2 rfl) ?_
        refine j_bi hx hb dX11_layer_97 (by decide) ?_
        refine j_sub hx hb dX11_layer_99 ?_
        refine j_cR (j_runV (As := [.int (jI (x2 - 10))]) (rest := []) hx hb hml hown hts hK hS hW (kX4_entriesOfPage l hS σ_5 (a0 := G a0 8) (h0 := h_3) (x1 := x2 - 10) (r1 := (by omega))) 1 gX11_layer_X4_entriesOfPage rfl hvX4_entriesOfPage ⟨Nat.le_of_ble_eq_true rfl, Nat.le_of_ble_eq_true rfl⟩ rfl rfl h_3 rfl rfl rfl rfl hl.1 rfl (Nat.le_of_ble_eq_true rfl) dX11_layer_100 ⟨Nat.le_of_ble_eq_true rfl, Nat.le_of_ble_eq_true rfl⟩) (fun v_12 rv_12 pv_12 => ?_)
        try dsimp only at pv_12
        exact hRet 103 _ _ _ v_12 _ dX11_layer_103 hW hF (by omega) ⟨trivial, hR⟩
      · refine j_const hx hb dX11_layer_26 ?_
        exact hRet 27 _ _ _ (-1) _ dX11_layer_27 hW hF (by decide) ⟨trivial, hR⟩
    · refine lv_iload_n hx hb dX11_layer_9 rfl (lv_at hl 2 rfl) ?_
      refine j_bi hx hb dX11_layer_10 (by decide) ?_
      refine j_icmp_lt (tgt := 26) hx hb (by omega) (by decide) dX11_layer_12 (by decide) (fun c_13 => ?_) (fun c_13 => ?_)
      · refine j_const hx hb dX11_layer_26 ?_
        exact hRet 27 _ _ _ (-1) _ dX11_layer_27 hW hF (by decide) ⟨trivial, hR⟩
      · refine lv_aload_n hx hb dX11_layer_15 rfl (lv_at hl 0 rfl) ?_
        refine j_getR hx hb (C := RX11) (T := TX11) (N := 12) hts inX11_layer_X11 hown hK hS hW h0 rfl 8 rfl rfl (by decide) (hts _ flX11_layer_64) dX11_layer_16 ?_
        have h_14 : τ (G a0 8) = 5 := gty hS h0 (k := 8) rfl rfl
        refine lv_iload_n hx hb dX11_layer_19 rfl (lv_at hl 1 rfl) ?_
        refine j_cI (j_runV (As := [.int (jI x1)]) (rest := []) hx hb hml hown hts hK hS hW (kX4_goTo l hS σ (a0 := G a0 8) (h0 := h_14) (x1 := x1) (r1 := (by omega))) 1 gX11_layer_X4_goTo rfl hvX4_goTo ⟨Nat.le_of_ble_eq_true rfl, Nat.le_of_ble_eq_true rfl⟩ rfl rfl h_14 rfl rfl rfl rfl hl.1 rfl (Nat.le_of_ble_eq_true rfl) dX11_layer_20 ⟨Nat.le_of_ble_eq_true rfl, Nat.le_of_ble_eq_true rfl⟩) hA hF (fun v_15 σ_16 H locs hW hF rv_15 pv_15 => ?_)
        try dsimp only at pv_15
        obtain ⟨bpv_15, pv_15, fpv_15⟩ := pv_15
        have hR := fr_call hR fpv_15 (by decide)
        refine j_if_ne (tgt := 28) hx hb (by omega) dX11_layer_23 (by decide) (fun c_17 => ?_) (fun c_17 => ?_)
        · refine lv_iload_n hx hb dX11_layer_28 rfl (lv_at hl 2 rfl) ?_
          have hrc_18 : rg x2 := by omega
          by_cases c_18_0 : x2 = 0
          · refine lv_tableIn (tgt := 60) (off := 31) hx hb dX11_layer_29 (by rw [jI_toInt hrc_18]; omega) (by rw [jI_toInt hrc_18]; omega) (by rw [jI_toInt hrc_18, c_18_0]; rfl) (by decide) ?_
            refine lv_aload_n hx hb dX11_layer_60 rfl (lv_at hl 0 rfl) ?_
            refine j_getR hx hb (C := RX11) (T := TX11) (N := 12) hts inX11_layer_X11 hown hK hS hW h0 rfl 8 rfl rfl (by decide) (hts _ flX11_layer_64) dX11_layer_61 ?_
            refine j_cR (j_runV (As := []) (rest := []) hx hb hml hown hts hK hS hW (kX4_beginningBytes l hS σ_16 (a0 := G a0 8) (h0 := h_14)) 0 gX11_layer_X4_beginningBytes rfl hvX4_beginningBytes ⟨Nat.le_of_ble_eq_true rfl, Nat.le_of_ble_eq_true rfl⟩ rfl rfl h_14 rfl rfl rfl rfl hl.1 rfl (Nat.le_of_ble_eq_true rfl) dX11_layer_64 ⟨Nat.le_of_ble_eq_true rfl, Nat.le_of_ble_eq_true rfl⟩) (fun v_19 rv_19 pv_19 => ?_)
            try dsimp only at pv_19
            exact hRet 67 _ _ _ v_19 _ dX11_layer_67 hW hF (by omega) ⟨trivial, hR⟩
          by_cases c_18_1 : x2 = 1
          · refine lv_tableIn (tgt := 68) (off := 39) hx hb dX11_layer_29 (by rw [jI_toInt hrc_18]; omega) (by rw [jI_toInt hrc_18]; omega) (by rw [jI_toInt hrc_18, c_18_1]; rfl) (by decide) ?_
            refine lv_aload_n hx hb dX11_layer_68 rfl (lv_at hl 0 rfl) ?_
            refine j_getR hx hb (C := RX11) (T := TX11) (N := 12) hts inX11_layer_X11 hown hK hS hW h0 rfl 8 rfl rfl (by decide) (hts _ flX11_layer_64) dX11_layer_69 ?_
            refine j_cR (j_runV (As := []) (rest := []) hx hb hml hown hts hK hS hW (kX4_entries l hS σ_16 (a0 := G a0 8) (h0 := h_14)) 0 gX11_layer_X4_entries rfl hvX4_entries ⟨Nat.le_of_ble_eq_true rfl, Nat.le_of_ble_eq_true rfl⟩ rfl rfl h_14 rfl rfl rfl rfl hl.1 rfl (Nat.le_of_ble_eq_true rfl) dX11_layer_72 ⟨Nat.le_of_ble_eq_true rfl, Nat.le_of_ble_eq_true rfl⟩) (fun v_20 rv_20 pv_20 => ?_)
            try dsimp only at pv_20
            exact hRet 75 _ _ _ v_20 _ dX11_layer_75 hW hF (by omega) ⟨trivial, hR⟩
          by_cases c_18_2 : x2 = 2
          · refine lv_tableIn (tgt := 76) (off := 47) hx hb dX11_layer_29 (by rw [jI_toInt hrc_18]; omega) (by rw [jI_toInt hrc_18]; omega) (by rw [jI_toInt hrc_18, c_18_2]; rfl) (by decide) ?_
            refine lv_aload_n hx hb dX11_layer_76 rfl (lv_at hl 0 rfl) ?_
            refine j_getR hx hb (C := RX11) (T := TX11) (N := 12) hts inX11_layer_X11 hown hK hS hW h0 rfl 8 rfl rfl (by decide) (hts _ flX11_layer_64) dX11_layer_77 ?_
            refine j_cR (j_runV (As := []) (rest := []) hx hb hml hown hts hK hS hW (kX4_pages l hS σ_16 (a0 := G a0 8) (h0 := h_14)) 0 gX11_layer_X4_pages rfl hvX4_pages ⟨Nat.le_of_ble_eq_true rfl, Nat.le_of_ble_eq_true rfl⟩ rfl rfl h_14 rfl rfl rfl rfl hl.1 rfl (Nat.le_of_ble_eq_true rfl) dX11_layer_80 ⟨Nat.le_of_ble_eq_true rfl, Nat.le_of_ble_eq_true rfl⟩) (fun v_21 rv_21 pv_21 => ?_)
            try dsimp only at pv_21
            exact hRet 83 _ _ _ v_21 _ dX11_layer_83 hW hF (by omega) ⟨trivial, hR⟩
          by_cases c_18_3 : x2 = 3
          · refine lv_tableIn (tgt := 84) (off := 55) hx hb dX11_layer_29 (by rw [jI_toInt hrc_18]; omega) (by rw [jI_toInt hrc_18]; omega) (by rw [jI_toInt hrc_18, c_18_3]; rfl) (by decide) ?_
            refine lv_aload_n hx hb dX11_layer_84 rfl (lv_at hl 0 rfl) ?_
            refine j_getR hx hb (C := RX11) (T := TX11) (N := 12) hts inX11_layer_X11 hown hK hS hW h0 rfl 8 rfl rfl (by decide) (hts _ flX11_layer_64) dX11_layer_85 ?_
            refine j_cR (j_runV (As := []) (rest := []) hx hb hml hown hts hK hS hW (kX4_keys l hS σ_16 (a0 := G a0 8) (h0 := h_14)) 0 gX11_layer_X4_keys rfl hvX4_keys ⟨Nat.le_of_ble_eq_true rfl, Nat.le_of_ble_eq_true rfl⟩ rfl rfl h_14 rfl rfl rfl rfl hl.1 rfl (Nat.le_of_ble_eq_true rfl) dX11_layer_88 ⟨Nat.le_of_ble_eq_true rfl, Nat.le_of_ble_eq_true rfl⟩) (fun v_22 rv_22 pv_22 => ?_)
            try dsimp only at pv_22
            exact hRet 91 _ _ _ v_22 _ dX11_layer_91 hW hF (by omega) ⟨trivial, hR⟩
          refine lv_tableOut (tgt := 92) hx hb dX11_layer_29 (by rw [jI_toInt hrc_18]; omega) (by decide) ?_
          refine lv_aload_n hx hb dX11_layer_92 rfl (lv_at hl 0 rfl) ?_
          refine j_getR hx hb (C := RX11) (T := TX11) (N := 12) hts inX11_layer_X11 hown hK hS hW h0 rfl 8 rfl rfl (by decide) (hts _ flX11_layer_64) dX11_layer_93 ?_
          refine lv_iload_n hx hb dX11_layer_96 rfl (lv_at hl 2 rfl) ?_
          refine j_bi hx hb dX11_layer_97 (by decide) ?_
          refine j_sub hx hb dX11_layer_99 ?_
          refine j_cR (j_runV (As := [.int (jI (x2 - 10))]) (rest := []) hx hb hml hown hts hK hS hW (kX4_entriesOfPage l hS σ_16 (a0 := G a0 8) (h0 := h_14) (x1 := x2 - 10) (r1 := (by omega))) 1 gX11_layer_X4_entriesOfPage rfl hvX4_entriesOfPage ⟨Nat.le_of_ble_eq_true rfl, Nat.le_of_ble_eq_true rfl⟩ rfl rfl h_14 rfl rfl rfl rfl hl.1 rfl (Nat.le_of_ble_eq_true rfl) dX11_layer_100 ⟨Nat.le_of_ble_eq_true rfl, Nat.le_of_ble_eq_true rfl⟩) (fun v_23 rv_23 pv_23 => ?_)
          try dsimp only at pv_23
          exact hRet 103 _ _ _ v_23 _ dX11_layer_103 hW hF (by omega) ⟨trivial, hR⟩
        · refine j_const hx hb dX11_layer_26 ?_
          exact hRet 27 _ _ _ (-1) _ dX11_layer_27 hW hF (by decide) ⟨trivial, hR⟩
abbrev wr_X11_entry : List Nat := [5001, 5002, 5003]
theorem flX11_entry_64 : Cond.fieldLink RX11 64 "PageTrie" "view" "LPageTrie$LayerView;" ∈ wsX11_entry := List.mem_of_getElem? (i := 1) rfl
theorem inX11_entry_X11 : ∀ w ∈ u_ws RX11 TX11 12, w ∈ wsX11_entry := mem_r _ [116, 117, 118, 119, 120, 121, 122, 123, 124, 125, 126, 127] rfl
theorem hvX11_entry : yX11_entry.cls = RX11 ∧ yX11_entry.cls ≠ "java/lang/invoke/MethodHandle" ∧ yX11_entry.cls ≠ "java/lang/invoke/VarHandle" ∧ (parseMethodDescriptor yX11_entry.desc).map (fun d => d.parameters.length) = some 3 := by decide +kernel
set_option maxHeartbeats 4000000 in
set_option maxRecDepth 100000 in
theorem kX11_entry (l : Launch) {D : va_G} {cA : Nat → ClassId} {τ : Nat → Nat} {G : Nat → Nat → Nat} {L : List Nat} (hS : SW τ G L) (σ : Nat → Nat → Int) {a0 : Nat} (h0 : τ a0 = 12) {x1 : Int} (r1 : rg x1) {x2 : Int} (r2 : rg x2) {x3 : Int} (r3 : rg x3) : Met l yX11_entry wsX11_entry ({ frames := 6, cells := 0, slots := 0, locals := 131 }) (jP D cA τ G L σ [.ref a0, .int (jI x1), .int (jI x2), .int (jI x3)]) (jQI D cA τ G L (fun r σ' => (True) ∧ fr wr_X11_entry τ σ σ')) 0 0 (fun q => q ∈ L) := by
  refine j_metI (by decide +kernel) rfl (Nat.le_of_ble_eq_true rfl) ?_
  intro p e s m args below meth c Q hx hb hml hown hts hK hW hRet ls hl
  have hl : lv_has ls 5 [(0, .ref a0), (1, .int (jI x1)), (2, .int (jI x2)), (3, .int (jI x3))] := hl
  have hA : ∀ q ∈ L, (fun q => q ∈ L) q := fun _ h => h
  have hF : va_S (fun q => q ∈ L) s.heap s.heap [] := va_S.rf
  have hR : fr wr_X11_entry τ σ σ := fr_rf
  refine lv_iload_n hx hb dX11_entry_0 rfl (lv_at hl 3 rfl) ?_
  refine j_cR (j_runS (As := [.int (jI x3)]) (rest := []) hx hb hml hown hts hK hW (kX11_isEntryWhat l hS σ (x0 := x3) (r0 := (by omega))) 1 gX11_entry_X11_isEntryWhat rfl hsX11_isEntryWhat ⟨Nat.le_of_ble_eq_true rfl, Nat.le_of_ble_eq_true rfl⟩ rfl rfl rfl hl.1 rfl (Nat.le_of_ble_eq_true rfl) dX11_entry_1 ⟨Nat.le_of_ble_eq_true rfl, Nat.le_of_ble_eq_true rfl⟩) (fun v_1 rv_1 pv_1 => ?_)
  try dsimp only at pv_1
  refine j_if_eq (tgt := 22) hx hb (by omega) dX11_entry_4 (by decide) (fun c_2 => ?_) (fun c_2 => ?_)
  · refine j_const hx hb dX11_entry_22 ?_
    exact hRet 23 _ _ _ (-1) _ dX11_entry_23 hW hF (by decide) ⟨trivial, hR⟩
  · refine lv_iload_n hx hb dX11_entry_7 rfl (lv_at hl 2 rfl) ?_
    refine j_if_lt (tgt := 22) hx hb (by omega) dX11_entry_8 (by decide) (fun c_3 => ?_) (fun c_3 => ?_)
    · refine j_const hx hb dX11_entry_22 ?_
      exact hRet 23 _ _ _ (-1) _ dX11_entry_23 hW hF (by decide) ⟨trivial, hR⟩
    · refine lv_aload_n hx hb dX11_entry_11 rfl (lv_at hl 0 rfl) ?_
      refine j_getR hx hb (C := RX11) (T := TX11) (N := 12) hts inX11_entry_X11 hown hK hS hW h0 rfl 8 rfl rfl (by decide) (hts _ flX11_entry_64) dX11_entry_12 ?_
      have h_4 : τ (G a0 8) = 5 := gty hS h0 (k := 8) rfl rfl
      refine lv_iload_n hx hb dX11_entry_15 rfl (lv_at hl 1 rfl) ?_
      refine j_cI (j_runV (As := [.int (jI x1)]) (rest := []) hx hb hml hown hts hK hS hW (kX4_goTo l hS σ (a0 := G a0 8) (h0 := h_4) (x1 := x1) (r1 := (by omega))) 1 gX11_entry_X4_goTo rfl hvX4_goTo ⟨Nat.le_of_ble_eq_true rfl, Nat.le_of_ble_eq_true rfl⟩ rfl rfl h_4 rfl rfl rfl rfl hl.1 rfl (Nat.le_of_ble_eq_true rfl) dX11_entry_16 ⟨Nat.le_of_ble_eq_true rfl, Nat.le_of_ble_eq_true rfl⟩) hA hF (fun v_5 σ_6 H locs hW hF rv_5 pv_5 => ?_)
      try dsimp only at pv_5
      obtain ⟨bpv_5, pv_5, fpv_5⟩ := pv_5
      have hR := fr_call hR fpv_5 (by decide)
      refine j_if_ne (tgt := 24) hx hb (by omega) dX11_entry_19 (by decide) (fun c_7 => ?_) (fun c_7 => ?_)
      · refine lv_aload_n hx hb dX11_entry_24 rfl (lv_at hl 0 rfl) ?_
        refine j_getR hx hb (C := RX11) (T := TX11) (N := 12) hts inX11_entry_X11 hown hK hS hW h0 rfl 8 rfl rfl (by decide) (hts _ flX11_entry_64) dX11_entry_25 ?_
        refine lv_iload_n hx hb dX11_entry_28 rfl (lv_at hl 2 rfl) ?_
        refine j_cR (j_runV (As := [.int (jI x2)]) (rest := []) hx hb hml hown hts hK hS hW (kX4_entryAt l hS σ_6 (a0 := G a0 8) (h0 := h_4) (x1 := x2) (r1 := (by omega))) 1 gX11_entry_X4_entryAt rfl hvX4_entryAt ⟨Nat.le_of_ble_eq_true rfl, Nat.le_of_ble_eq_true rfl⟩ rfl rfl h_4 rfl rfl rfl rfl hl.1 rfl (Nat.le_of_ble_eq_true rfl) dX11_entry_29 ⟨Nat.le_of_ble_eq_true rfl, Nat.le_of_ble_eq_true rfl⟩) (fun v_8 rv_8 pv_8 => ?_)
        try dsimp only at pv_8
        refine lv_istore (lv' := [(4, .int (jI v_8)), (0, .ref a0), (1, .int (jI x1)), (2, .int (jI x2)), (3, .int (jI x3))]) hx hb dX11_entry_32 hl (by decide) rfl (fun ls hl => ?_)
        refine lv_iload hx hb dX11_entry_34 (lv_at hl 0 rfl) ?_
        refine j_if_ge (tgt := 41) hx hb (by omega) dX11_entry_36 (by decide) (fun c_9 => ?_) (fun c_9 => ?_)
        · refine lv_iload_n hx hb dX11_entry_41 rfl (lv_at hl 4 rfl) ?_
          refine j_bi hx hb dX11_entry_42 (by decide) ?_
          refine j_icmp_ge (tgt := 58) hx hb (by omega) (by decide) dX11_entry_44 (by decide) (fun c_10 => ?_) (fun c_10 => ?_)
          · refine lv_iload_n hx hb dX11_entry_58 rfl (lv_at hl 4 rfl) ?_
            refine j_bi hx hb dX11_entry_59 (by decide) ?_
            refine j_icmp_ge (tgt := 80) hx hb (by omega) (by decide) dX11_entry_61 (by decide) (fun c_11 => ?_) (fun c_11 => ?_)
            · refine lv_aload_n hx hb dX11_entry_80 rfl (lv_at hl 1 rfl) ?_
              refine j_getR hx hb (C := RX11) (T := TX11) (N := 12) hts inX11_entry_X11 hown hK hS hW h0 rfl 8 rfl rfl (by decide) (hts _ flX11_entry_64) dX11_entry_81 ?_
              refine lv_iload hx hb dX11_entry_84 (lv_at hl 0 rfl) ?_
              refine lv_iload_n hx hb dX11_entry_86 rfl (lv_at hl 4 rfl) ?_
              refine j_bi hx hb dX11_entry_87 (by decide) ?_
              refine j_sub hx hb dX11_entry_89 ?_
              refine j_cR (j_runV (As := [.int (jI v_8), .int (jI (x3 - 20))]) (rest := []) hx hb hml hown hts hK hS hW (kX4_restByte l hS σ_6 (a0 := G a0 8) (h0 := h_4) (x1 := v_8) (r1 := (by omega)) (x2 := x3 - 20) (r2 := (by omega))) 2 gX11_entry_X4_restByte rfl hvX4_restByte ⟨Nat.le_of_ble_eq_true rfl, Nat.le_of_ble_eq_true rfl⟩ rfl rfl h_4 rfl rfl rfl rfl hl.1 rfl (Nat.le_of_ble_eq_true rfl) dX11_entry_90 ⟨Nat.le_of_ble_eq_true rfl, Nat.le_of_ble_eq_true rfl⟩) (fun v_12 rv_12 pv_12 => ?_)
              try dsimp only at pv_12
              exact hRet 93 _ _ _ v_12 _ dX11_entry_93 hW hF (by omega) ⟨trivial, hR⟩
            · refine lv_aload_n hx hb dX11_entry_64 rfl (lv_at hl 1 rfl) ?_
              refine j_getR hx hb (C := RX11) (T := TX11) (N := 12) hts inX11_entry_X11 hown hK hS hW h0 rfl 8 rfl rfl (by decide) (hts _ flX11_entry_64) dX11_entry_65 ?_
              refine lv_iload hx hb dX11_entry_68 (lv_at hl 0 rfl) ?_
              refine lv_iload_n hx hb dX11_entry_70 rfl (lv_at hl 4 rfl) ?_
              refine j_bi hx hb dX11_entry_71 (by decide) ?_
              refine j_sub hx hb dX11_entry_73 ?_
              refine j_cR (j_runV (As := [.int (jI v_8), .int (jI (x3 - 10))]) (rest := []) hx hb hml hown hts hK hS hW (kX4_partByte l hS σ_6 (a0 := G a0 8) (h0 := h_4) (x1 := v_8) (r1 := (by omega)) (x2 := x3 - 10) (r2 := (by omega))) 2 gX11_entry_X4_partByte rfl hvX4_partByte ⟨Nat.le_of_ble_eq_true rfl, Nat.le_of_ble_eq_true rfl⟩ rfl rfl h_4 rfl rfl rfl rfl hl.1 rfl (Nat.le_of_ble_eq_true rfl) dX11_entry_74 ⟨Nat.le_of_ble_eq_true rfl, Nat.le_of_ble_eq_true rfl⟩) (fun v_13 rv_13 pv_13 => ?_)
              try dsimp only at pv_13
              refine lv_goto (tgt := 93) hx hb dX11_entry_77 (by decide) ?_
              exact hRet 93 _ _ _ v_13 _ dX11_entry_93 hW hF (by omega) ⟨trivial, hR⟩
          · refine lv_aload_n hx hb dX11_entry_47 rfl (lv_at hl 1 rfl) ?_
            refine j_getR hx hb (C := RX11) (T := TX11) (N := 12) hts inX11_entry_X11 hown hK hS hW h0 rfl 8 rfl rfl (by decide) (hts _ flX11_entry_64) dX11_entry_48 ?_
            refine lv_iload hx hb dX11_entry_51 (lv_at hl 0 rfl) ?_
            refine lv_iload_n hx hb dX11_entry_53 rfl (lv_at hl 4 rfl) ?_
            refine j_cR (j_runV (As := [.int (jI v_8), .int (jI x3)]) (rest := []) hx hb hml hown hts hK hS hW (kX4_entryIs l hS σ_6 (a0 := G a0 8) (h0 := h_4) (x1 := v_8) (r1 := (by omega)) (x2 := x3) (r2 := (by omega)) (q0 := (by omega))) 2 gX11_entry_X4_entryIs rfl hvX4_entryIs ⟨Nat.le_of_ble_eq_true rfl, Nat.le_of_ble_eq_true rfl⟩ rfl rfl h_4 rfl rfl rfl rfl hl.1 rfl (Nat.le_of_ble_eq_true rfl) dX11_entry_54 ⟨Nat.le_of_ble_eq_true rfl, Nat.le_of_ble_eq_true rfl⟩) (fun v_14 rv_14 pv_14 => ?_)
            try dsimp only at pv_14
            exact hRet 57 _ _ _ v_14 _ dX11_entry_57 hW hF (by omega) ⟨trivial, hR⟩
        · refine j_const hx hb dX11_entry_39 ?_
          exact hRet 40 _ _ _ (-1) _ dX11_entry_40 hW hF (by decide) ⟨trivial, hR⟩
      · refine j_const hx hb dX11_entry_22 ?_
        exact hRet 23 _ _ _ (-1) _ dX11_entry_23 hW hF (by decide) ⟨trivial, hR⟩
abbrev wr_X11_query : List Nat := [2002, 3001, 7003, 8001, 8002, 8003, 10001, 20000, 28000, 29000]
theorem flX11_query_10 : Cond.fieldLink RX11 10 "PageTrie" "tape" "LPageTrie$Tape;" ∈ wsX11_query := List.mem_of_getElem? (i := 3) rfl
theorem flX11_query_21 : Cond.fieldLink RX11 21 "PageTrie" "reader" "LPageTrie$Reader;" ∈ wsX11_query := List.mem_of_getElem? (i := 1) rfl
theorem flX11_query_35 : Cond.fieldLink RX11 35 "PageTrie" "now" "LPageTrie$State;" ∈ wsX11_query := List.mem_of_getElem? (i := 5) rfl
theorem flX11_query_78 : Cond.fieldLink RX11 78 "PageTrie" "asked" "LPageTrie$Query;" ∈ wsX11_query := List.mem_of_getElem? (i := 2) rfl
theorem flX11_query_91 : Cond.fieldLink RX11 91 "PageTrie" "left" "LPageTrie$Found;" ∈ wsX11_query := List.mem_of_getElem? (i := 7) rfl
theorem flX11_query_147 : Cond.fieldLink RX11 147 "PageTrie$Reader" "fault" "I" ∈ wsX11_query := List.mem_of_getElem? (i := 4) rfl
theorem flX11_query_284 : Cond.fieldLink RX11 284 "PageTrie$State" "query" "LPageTrie$Query;" ∈ wsX11_query := List.mem_of_getElem? (i := 6) rfl
theorem flX11_query_293 : Cond.fieldLink RX11 293 "PageTrie$Found" "size" "I" ∈ wsX11_query := List.mem_of_getElem? (i := 8) rfl
theorem inX11_query_X1 : ∀ w ∈ u_ws RX1 TX1 3, w ∈ wsX11_query := mem_r _ [193, 194, 195] rfl
theorem inX11_query_X11 : ∀ w ∈ u_ws RX11 TX11 12, w ∈ wsX11_query := mem_r _ [174, 175, 176, 177, 178, 179, 180, 181, 182, 183, 184, 185] rfl
theorem inX11_query_X7 : ∀ w ∈ u_ws RX7 TX7 4, w ∈ wsX11_query := mem_r _ [186, 187, 188, 189] rfl
theorem inX11_query_X8 : ∀ w ∈ u_ws RX8 TX8 3, w ∈ wsX11_query := mem_r _ [190, 191, 192] rfl
theorem hvX11_query : yX11_query.cls = RX11 ∧ yX11_query.cls ≠ "java/lang/invoke/MethodHandle" ∧ yX11_query.cls ≠ "java/lang/invoke/VarHandle" ∧ (parseMethodDescriptor yX11_query.desc).map (fun d => d.parameters.length) = some 1 := by decide +kernel
set_option maxHeartbeats 4000000 in
set_option maxRecDepth 100000 in
theorem kX11_query (l : Launch) {D : va_G} {cA : Nat → ClassId} {τ : Nat → Nat} {G : Nat → Nat → Nat} {L : List Nat} (hS : SW τ G L) (σ : Nat → Nat → Int) {a0 : Nat} (h0 : τ a0 = 12) {x1 : Int} (r1 : rg x1) : Met l yX11_query wsX11_query ({ frames := 6, cells := 0, slots := 0, locals := 134 }) (jP D cA τ G L σ [.ref a0, .int (jI x1)]) (jQI D cA τ G L (fun r σ' => (True) ∧ fr wr_X11_query τ σ σ')) 0 0 (fun q => q ∈ L) := by
  refine j_metI (by decide +kernel) rfl (Nat.le_of_ble_eq_true rfl) ?_
  intro p e s m args below meth c Q hx hb hml hown hts hK hW hRet ls hl
  have hl : lv_has ls 2 [(0, .ref a0), (1, .int (jI x1))] := hl
  have hA : ∀ q ∈ L, (fun q => q ∈ L) q := fun _ h => h
  have hF : va_S (fun q => q ∈ L) s.heap s.heap [] := va_S.rf
  have hR : fr wr_X11_query τ σ σ := fr_rf
  refine lv_aload_n hx hb dX11_query_0 rfl (lv_at hl 0 rfl) ?_
  refine lv_iload_n hx hb dX11_query_1 rfl (lv_at hl 1 rfl) ?_
  refine j_const hx hb dX11_query_2 ?_
  refine j_bi hx hb dX11_query_3 (by decide) ?_
  refine j_cR (j_runV (As := [.int (jI x1), .int (jI 0), .int (jI 60)]) (rest := []) hx hb hml hown hts hK hS hW (kX11_isTextTold l hS σ (a0 := a0) (h0 := h0) (x1 := x1) (r1 := (by omega)) (x2 := 0) (r2 := (by decide)) (x3 := 60) (r3 := (by decide))) 3 gX11_query_X11_isTextTold rfl hvX11_isTextTold ⟨Nat.le_of_ble_eq_true rfl, Nat.le_of_ble_eq_true rfl⟩ rfl rfl h0 rfl rfl rfl rfl hl.1 rfl (Nat.le_of_ble_eq_true rfl) dX11_query_5 ⟨Nat.le_of_ble_eq_true rfl, Nat.le_of_ble_eq_true rfl⟩) (fun v_1 rv_1 pv_1 => ?_)
  try dsimp only at pv_1
  refine j_if_ne (tgt := 13) hx hb (by omega) dX11_query_8 (by decide) (fun c_2 => ?_) (fun c_2 => ?_)
  · refine lv_aload_n hx hb dX11_query_13 rfl (lv_at hl 0 rfl) ?_
    refine j_getR hx hb (C := RX11) (T := TX11) (N := 12) hts inX11_query_X11 hown hK hS hW h0 rfl 1 rfl rfl (by decide) (hts _ flX11_query_21) dX11_query_14 ?_
    have h_3 : τ (G a0 1) = 8 := gty hS h0 (k := 1) rfl rfl
    refine lv_iload_n hx hb dX11_query_17 rfl (lv_at hl 1 rfl) ?_
    refine j_cV (j_runV (As := [.int (jI x1)]) (rest := []) hx hb hml hown hts hK hS hW (kX7_open l hS σ (a0 := G a0 1) (h0 := h_3) (x1 := x1) (r1 := (by omega))) 1 gX11_query_X7_open rfl hvX7_open ⟨Nat.le_of_ble_eq_true rfl, Nat.le_of_ble_eq_true rfl⟩ rfl rfl h_3 rfl rfl rfl rfl hl.1 rfl (Nat.le_of_ble_eq_true rfl) dX11_query_18 ⟨Nat.le_of_ble_eq_true rfl, Nat.le_of_ble_eq_true rfl⟩) hA hF (fun σ_4 H locs hW hF pσ_4 => ?_)
    try dsimp only at pσ_4
    obtain ⟨pσ_4, fpσ_4⟩ := pσ_4
    have hR := fr_call hR fpσ_4 (by decide)
    refine lv_aload_n hx hb dX11_query_21 rfl (lv_at hl 0 rfl) ?_
    refine j_getR hx hb (C := RX11) (T := TX11) (N := 12) hts inX11_query_X11 hown hK hS hW h0 rfl 10 rfl rfl (by decide) (hts _ flX11_query_78) dX11_query_22 ?_
    have h_5 : τ (G a0 10) = 7 := gty hS h0 (k := 10) rfl rfl
    refine lv_aload_n hx hb dX11_query_25 rfl (lv_at hl 0 rfl) ?_
    refine j_getR hx hb (C := RX11) (T := TX11) (N := 12) hts inX11_query_X11 hown hK hS hW h0 rfl 1 rfl rfl (by decide) (hts _ flX11_query_21) dX11_query_26 ?_
    refine j_cV (j_runV (As := [.ref (G a0 1)]) (rest := []) hx hb hml hown hts hK hS hW (kX6_readFrom l hS σ_4 (a0 := G a0 10) (h0 := h_5) (a1 := G a0 1) (h1 := h_3)) 1 gX11_query_X6_readFrom rfl hvX6_readFrom ⟨Nat.le_of_ble_eq_true rfl, Nat.le_of_ble_eq_true rfl⟩ rfl rfl h_5 rfl rfl rfl rfl hl.1 rfl (Nat.le_of_ble_eq_true rfl) dX11_query_29 ⟨Nat.le_of_ble_eq_true rfl, Nat.le_of_ble_eq_true rfl⟩) hA hF (fun σ_6 H locs hW hF pσ_6 => ?_)
    try dsimp only at pσ_6
    obtain ⟨pσ_6, fpσ_6⟩ := pσ_6
    have hR := fr_call hR fpσ_6 (by decide)
    refine lv_aload_n hx hb dX11_query_32 rfl (lv_at hl 0 rfl) ?_
    refine j_getR hx hb (C := RX11) (T := TX11) (N := 12) hts inX11_query_X11 hown hK hS hW h0 rfl 0 rfl rfl (by decide) (hts _ flX11_query_10) dX11_query_33 ?_
    have h_7 : τ (G a0 0) = 10 := gty hS h0 (k := 0) rfl rfl
    refine j_cV (j_runV (As := []) (rest := []) hx hb hml hown hts hK hS hW (kX9_clear l hS σ_6 (a0 := G a0 0) (h0 := h_7)) 0 gX11_query_X9_clear rfl hvX9_clear ⟨Nat.le_of_ble_eq_true rfl, Nat.le_of_ble_eq_true rfl⟩ rfl rfl h_7 rfl rfl rfl rfl hl.1 rfl (Nat.le_of_ble_eq_true rfl) dX11_query_36 ⟨Nat.le_of_ble_eq_true rfl, Nat.le_of_ble_eq_true rfl⟩) hA hF (fun σ_8 H locs hW hF pσ_8 => ?_)
    try dsimp only at pσ_8
    obtain ⟨pσ_8, fpσ_8⟩ := pσ_8
    have hR := fr_call hR fpσ_8 (by decide)
    refine lv_aload_n hx hb dX11_query_39 rfl (lv_at hl 0 rfl) ?_
    refine j_getR hx hb (C := RX11) (T := TX11) (N := 12) hts inX11_query_X11 hown hK hS hW h0 rfl 1 rfl rfl (by decide) (hts _ flX11_query_21) dX11_query_40 ?_
    refine j_getI hx hb (C := RX7) (T := TX7) (N := 4) hts inX11_query_X7 hown hK hS hW h_3 rfl 3 rfl rfl (by decide) (hts _ flX11_query_147) dX11_query_43 ?_
    have := fbd hW h_3 (k := 3) (lo := -2147483648) (hi := 2147483647) rfl rfl
    refine j_if_eq (tgt := 57) hx hb (by omega) dX11_query_46 (by decide) (fun c_9 => ?_) (fun c_9 => ?_)
    · refine lv_aload_n hx hb dX11_query_57 rfl (lv_at hl 0 rfl) ?_
      refine j_getR hx hb (C := RX11) (T := TX11) (N := 12) hts inX11_query_X11 hown hK hS hW h0 rfl 3 rfl rfl (by decide) (hts _ flX11_query_35) dX11_query_58 ?_
      have h_10 : τ (G a0 3) = 9 := gty hS h0 (k := 3) rfl rfl
      refine j_getR hx hb (C := RX8) (T := TX8) (N := 3) hts inX11_query_X8 hown hK hS hW h_10 rfl 2 rfl rfl (by decide) (hts _ flX11_query_284) dX11_query_61 ?_
      have h_11 : τ (G (G a0 3) 2) = 7 := gty hS h_10 (k := 2) rfl rfl
      refine lv_aload_n hx hb dX11_query_64 rfl (lv_at hl 0 rfl) ?_
      refine j_getR hx hb (C := RX11) (T := TX11) (N := 12) hts inX11_query_X11 hown hK hS hW h0 rfl 10 rfl rfl (by decide) (hts _ flX11_query_78) dX11_query_65 ?_
      refine j_cV (j_runV (As := [.ref (G a0 10)]) (rest := []) hx hb hml hown hts hK hS hW (kX6_copyFrom l hS σ_8 (a0 := G (G a0 3) 2) (h0 := h_11) (a1 := G a0 10) (h1 := h_5)) 1 gX11_query_X6_copyFrom rfl hvX6_copyFrom ⟨Nat.le_of_ble_eq_true rfl, Nat.le_of_ble_eq_true rfl⟩ rfl rfl h_11 rfl rfl rfl rfl hl.1 rfl (Nat.le_of_ble_eq_true rfl) dX11_query_68 ⟨Nat.le_of_ble_eq_true rfl, Nat.le_of_ble_eq_true rfl⟩) hA hF (fun σ_12 H locs hW hF pσ_12 => ?_)
      try dsimp only at pσ_12
      obtain ⟨pσ_12, fpσ_12⟩ := pσ_12
      have hR := fr_call hR fpσ_12 (by decide)
      refine lv_aload_n hx hb dX11_query_71 rfl (lv_at hl 0 rfl) ?_
      refine j_getR hx hb (C := RX11) (T := TX11) (N := 12) hts inX11_query_X11 hown hK hS hW h0 rfl 11 rfl rfl (by decide) (hts _ flX11_query_91) dX11_query_72 ?_
      have h_13 : τ (G a0 11) = 2 := gty hS h0 (k := 11) rfl rfl
      refine lv_aload_n hx hb dX11_query_75 rfl (lv_at hl 0 rfl) ?_
      refine j_getR hx hb (C := RX11) (T := TX11) (N := 12) hts inX11_query_X11 hown hK hS hW h0 rfl 3 rfl rfl (by decide) (hts _ flX11_query_35) dX11_query_76 ?_
      refine j_getR hx hb (C := RX8) (T := TX8) (N := 3) hts inX11_query_X8 hown hK hS hW h_10 rfl 2 rfl rfl (by decide) (hts _ flX11_query_284) dX11_query_79 ?_
      refine j_cV (j_runV (As := [.ref (G (G a0 3) 2)]) (rest := []) hx hb hml hown hts hK hS hW (kX1_goThrough l hS σ_12 (a0 := G a0 11) (h0 := h_13) (a1 := G (G a0 3) 2) (h1 := h_11)) 1 gX11_query_X1_goThrough rfl hvX1_goThrough ⟨Nat.le_of_ble_eq_true rfl, Nat.le_of_ble_eq_true rfl⟩ rfl rfl h_13 rfl rfl rfl rfl hl.1 rfl (Nat.le_of_ble_eq_true rfl) dX11_query_82 ⟨Nat.le_of_ble_eq_true rfl, Nat.le_of_ble_eq_true rfl⟩) hA hF (fun σ_14 H locs hW hF pσ_14 => ?_)
      try dsimp only at pσ_14
      obtain ⟨pσ_14, fpσ_14⟩ := pσ_14
      have hR := fr_call hR fpσ_14 (by decide)
      refine lv_aload_n hx hb dX11_query_85 rfl (lv_at hl 0 rfl) ?_
      refine j_getR hx hb (C := RX11) (T := TX11) (N := 12) hts inX11_query_X11 hown hK hS hW h0 rfl 11 rfl rfl (by decide) (hts _ flX11_query_91) dX11_query_86 ?_
      refine j_getI hx hb (C := RX1) (T := TX1) (N := 3) hts inX11_query_X1 hown hK hS hW h_13 rfl 2 rfl rfl (by decide) (hts _ flX11_query_293) dX11_query_89 ?_
      have := fbd hW h_13 (k := 2) (lo := 0) (hi := 150) rfl rfl
      exact hRet 92 _ _ _ (σ_14 (G a0 11) 2) _ dX11_query_92 hW hF (by omega) ⟨trivial, hR⟩
    · refine lv_aload_n hx hb dX11_query_49 rfl (lv_at hl 0 rfl) ?_
      refine j_getR hx hb (C := RX11) (T := TX11) (N := 12) hts inX11_query_X11 hown hK hS hW h0 rfl 1 rfl rfl (by decide) (hts _ flX11_query_21) dX11_query_50 ?_
      refine j_getI hx hb (C := RX7) (T := TX7) (N := 4) hts inX11_query_X7 hown hK hS hW h_3 rfl 3 rfl rfl (by decide) (hts _ flX11_query_147) dX11_query_53 ?_
      exact hRet 56 _ _ _ (σ_8 (G a0 1) 3) _ dX11_query_56 hW hF (by omega) ⟨trivial, hR⟩
  · refine j_const hx hb dX11_query_11 ?_
    exact hRet 12 _ _ _ (-1) _ dX11_query_12 hW hF (by decide) ⟨trivial, hR⟩
abbrev wr_X11_found : List Nat := [2002, 29000]
theorem flX11_found_35 : Cond.fieldLink RX11 35 "PageTrie" "now" "LPageTrie$State;" ∈ wsX11_found := List.mem_of_getElem? (i := 2) rfl
theorem flX11_found_91 : Cond.fieldLink RX11 91 "PageTrie" "left" "LPageTrie$Found;" ∈ wsX11_found := List.mem_of_getElem? (i := 1) rfl
theorem flX11_found_284 : Cond.fieldLink RX11 284 "PageTrie$State" "query" "LPageTrie$Query;" ∈ wsX11_found := List.mem_of_getElem? (i := 3) rfl
theorem flX11_found_293 : Cond.fieldLink RX11 293 "PageTrie$Found" "size" "I" ∈ wsX11_found := List.mem_of_getElem? (i := 4) rfl
theorem inX11_found_X1 : ∀ w ∈ u_ws RX1 TX1 3, w ∈ wsX11_found := mem_r _ [115, 116, 117] rfl
theorem inX11_found_X11 : ∀ w ∈ u_ws RX11 TX11 12, w ∈ wsX11_found := mem_r _ [100, 101, 102, 103, 104, 105, 106, 107, 108, 109, 110, 111] rfl
theorem inX11_found_X8 : ∀ w ∈ u_ws RX8 TX8 3, w ∈ wsX11_found := mem_r _ [112, 113, 114] rfl
theorem hvX11_found : yX11_found.cls = RX11 ∧ yX11_found.cls ≠ "java/lang/invoke/MethodHandle" ∧ yX11_found.cls ≠ "java/lang/invoke/VarHandle" ∧ (parseMethodDescriptor yX11_found.desc).map (fun d => d.parameters.length) = some 1 := by decide +kernel
set_option maxHeartbeats 4000000 in
set_option maxRecDepth 100000 in
theorem kX11_found (l : Launch) {D : va_G} {cA : Nat → ClassId} {τ : Nat → Nat} {G : Nat → Nat → Nat} {L : List Nat} (hS : SW τ G L) (σ : Nat → Nat → Int) {a0 : Nat} (h0 : τ a0 = 12) {x1 : Int} (r1 : rg x1) : Met l yX11_found wsX11_found ({ frames := 5, cells := 0, slots := 0, locals := 117 }) (jP D cA τ G L σ [.ref a0, .int (jI x1)]) (jQI D cA τ G L (fun r σ' => (True) ∧ fr wr_X11_found τ σ σ')) 0 0 (fun q => q ∈ L) := by
  refine j_metI (by decide +kernel) rfl (Nat.le_of_ble_eq_true rfl) ?_
  intro p e s m args below meth c Q hx hb hml hown hts hK hW hRet ls hl
  have hl : lv_has ls 2 [(0, .ref a0), (1, .int (jI x1))] := hl
  have hA : ∀ q ∈ L, (fun q => q ∈ L) q := fun _ h => h
  have hF : va_S (fun q => q ∈ L) s.heap s.heap [] := va_S.rf
  have hR : fr wr_X11_found τ σ σ := fr_rf
  refine lv_iload_n hx hb dX11_found_0 rfl (lv_at hl 1 rfl) ?_
  refine j_if_lt (tgt := 9) hx hb (by omega) dX11_found_1 (by decide) (fun c_1 => ?_) (fun c_1 => ?_)
  · refine j_const hx hb dX11_found_9 ?_
    exact hRet 10 _ _ _ (-1) _ dX11_found_10 hW hF (by decide) ⟨trivial, hR⟩
  · refine lv_iload_n hx hb dX11_found_4 rfl (lv_at hl 1 rfl) ?_
    refine j_const hx hb dX11_found_5 ?_
    refine j_icmp_le (tgt := 11) hx hb (by omega) (by decide) dX11_found_6 (by decide) (fun c_2 => ?_) (fun c_2 => ?_)
    · refine lv_aload_n hx hb dX11_found_11 rfl (lv_at hl 0 rfl) ?_
      refine j_getR hx hb (C := RX11) (T := TX11) (N := 12) hts inX11_found_X11 hown hK hS hW h0 rfl 11 rfl rfl (by decide) (hts _ flX11_found_91) dX11_found_12 ?_
      have h_3 : τ (G a0 11) = 2 := gty hS h0 (k := 11) rfl rfl
      refine lv_aload_n hx hb dX11_found_15 rfl (lv_at hl 0 rfl) ?_
      refine j_getR hx hb (C := RX11) (T := TX11) (N := 12) hts inX11_found_X11 hown hK hS hW h0 rfl 3 rfl rfl (by decide) (hts _ flX11_found_35) dX11_found_16 ?_
      have h_4 : τ (G a0 3) = 9 := gty hS h0 (k := 3) rfl rfl
      refine j_getR hx hb (C := RX8) (T := TX8) (N := 3) hts inX11_found_X8 hown hK hS hW h_4 rfl 2 rfl rfl (by decide) (hts _ flX11_found_284) dX11_found_19 ?_
      have h_5 : τ (G (G a0 3) 2) = 7 := gty hS h_4 (k := 2) rfl rfl
      refine j_cV (j_runV (As := [.ref (G (G a0 3) 2)]) (rest := []) hx hb hml hown hts hK hS hW (kX1_goThrough l hS σ (a0 := G a0 11) (h0 := h_3) (a1 := G (G a0 3) 2) (h1 := h_5)) 1 gX11_found_X1_goThrough rfl hvX1_goThrough ⟨Nat.le_of_ble_eq_true rfl, Nat.le_of_ble_eq_true rfl⟩ rfl rfl h_3 rfl rfl rfl rfl hl.1 rfl (Nat.le_of_ble_eq_true rfl) dX11_found_22 ⟨Nat.le_of_ble_eq_true rfl, Nat.le_of_ble_eq_true rfl⟩) hA hF (fun σ_6 H locs hW hF pσ_6 => ?_)
      try dsimp only at pσ_6
      obtain ⟨pσ_6, fpσ_6⟩ := pσ_6
      have hR := fr_call hR fpσ_6 (by decide)
      refine lv_iload_n hx hb dX11_found_25 rfl (lv_at hl 1 rfl) ?_
      have hrc_7 : rg x1 := by omega
      by_cases c_7_0 : x1 = 0
      · refine lv_tableIn (tgt := 60) (off := 34) hx hb dX11_found_26 (by rw [jI_toInt hrc_7]; omega) (by rw [jI_toInt hrc_7]; omega) (by rw [jI_toInt hrc_7, c_7_0]; rfl) (by decide) ?_
        refine lv_aload_n hx hb dX11_found_60 rfl (lv_at hl 0 rfl) ?_
        refine j_getR hx hb (C := RX11) (T := TX11) (N := 12) hts inX11_found_X11 hown hK hS hW h0 rfl 11 rfl rfl (by decide) (hts _ flX11_found_91) dX11_found_61 ?_
        refine j_getI hx hb (C := RX1) (T := TX1) (N := 3) hts inX11_found_X1 hown hK hS hW h_3 rfl 2 rfl rfl (by decide) (hts _ flX11_found_293) dX11_found_64 ?_
        have := fbd hW h_3 (k := 2) (lo := 0) (hi := 150) rfl rfl
        exact hRet 67 _ _ _ (σ_6 (G a0 11) 2) _ dX11_found_67 hW hF (by omega) ⟨trivial, hR⟩
      by_cases c_7_1 : x1 = 1
      · refine lv_tableIn (tgt := 68) (off := 42) hx hb dX11_found_26 (by rw [jI_toInt hrc_7]; omega) (by rw [jI_toInt hrc_7]; omega) (by rw [jI_toInt hrc_7, c_7_1]; rfl) (by decide) ?_
        refine lv_aload_n hx hb dX11_found_68 rfl (lv_at hl 0 rfl) ?_
        refine j_getR hx hb (C := RX11) (T := TX11) (N := 12) hts inX11_found_X11 hown hK hS hW h0 rfl 11 rfl rfl (by decide) (hts _ flX11_found_91) dX11_found_69 ?_
        refine j_cR (j_runV (As := []) (rest := []) hx hb hml hown hts hK hS hW (kX1_valuesTogether l hS σ_6 (a0 := G a0 11) (h0 := h_3)) 0 gX11_found_X1_valuesTogether rfl hvX1_valuesTogether ⟨Nat.le_of_ble_eq_true rfl, Nat.le_of_ble_eq_true rfl⟩ rfl rfl h_3 rfl rfl rfl rfl hl.1 rfl (Nat.le_of_ble_eq_true rfl) dX11_found_72 ⟨Nat.le_of_ble_eq_true rfl, Nat.le_of_ble_eq_true rfl⟩) (fun v_8 rv_8 pv_8 => ?_)
        try dsimp only at pv_8
        exact hRet 75 _ _ _ v_8 _ dX11_found_75 hW hF (by omega) ⟨trivial, hR⟩
      by_cases c_7_2 : x1 = 2
      · refine lv_tableIn (tgt := 76) (off := 50) hx hb dX11_found_26 (by rw [jI_toInt hrc_7]; omega) (by rw [jI_toInt hrc_7]; omega) (by rw [jI_toInt hrc_7, c_7_2]; rfl) (by decide) ?_
        refine lv_aload_n hx hb dX11_found_76 rfl (lv_at hl 0 rfl) ?_
        refine j_getR hx hb (C := RX11) (T := TX11) (N := 12) hts inX11_found_X11 hown hK hS hW h0 rfl 11 rfl rfl (by decide) (hts _ flX11_found_91) dX11_found_77 ?_
        refine j_cR (j_runV (As := []) (rest := []) hx hb hml hown hts hK hS hW (kX1_greatest l hS σ_6 (a0 := G a0 11) (h0 := h_3)) 0 gX11_found_X1_greatest rfl hvX1_greatest ⟨Nat.le_of_ble_eq_true rfl, Nat.le_of_ble_eq_true rfl⟩ rfl rfl h_3 rfl rfl rfl rfl hl.1 rfl (Nat.le_of_ble_eq_true rfl) dX11_found_80 ⟨Nat.le_of_ble_eq_true rfl, Nat.le_of_ble_eq_true rfl⟩) (fun v_9 rv_9 pv_9 => ?_)
        try dsimp only at pv_9
        exact hRet 83 _ _ _ v_9 _ dX11_found_83 hW hF (by omega) ⟨trivial, hR⟩
      by_cases c_7_3 : x1 = 3
      · refine lv_tableIn (tgt := 84) (off := 58) hx hb dX11_found_26 (by rw [jI_toInt hrc_7]; omega) (by rw [jI_toInt hrc_7]; omega) (by rw [jI_toInt hrc_7, c_7_3]; rfl) (by decide) ?_
        refine lv_aload_n hx hb dX11_found_84 rfl (lv_at hl 0 rfl) ?_
        refine j_getR hx hb (C := RX11) (T := TX11) (N := 12) hts inX11_found_X11 hown hK hS hW h0 rfl 11 rfl rfl (by decide) (hts _ flX11_found_91) dX11_found_85 ?_
        refine j_cR (j_runV (As := []) (rest := []) hx hb hml hown hts hK hS hW (kX1_least l hS σ_6 (a0 := G a0 11) (h0 := h_3)) 0 gX11_found_X1_least rfl hvX1_least ⟨Nat.le_of_ble_eq_true rfl, Nat.le_of_ble_eq_true rfl⟩ rfl rfl h_3 rfl rfl rfl rfl hl.1 rfl (Nat.le_of_ble_eq_true rfl) dX11_found_88 ⟨Nat.le_of_ble_eq_true rfl, Nat.le_of_ble_eq_true rfl⟩) (fun v_10 rv_10 pv_10 => ?_)
        try dsimp only at pv_10
        exact hRet 91 _ _ _ v_10 _ dX11_found_91 hW hF (by omega) ⟨trivial, hR⟩
      by_cases c_7_4 : x1 = 4
      · refine lv_tableIn (tgt := 92) (off := 66) hx hb dX11_found_26 (by rw [jI_toInt hrc_7]; omega) (by rw [jI_toInt hrc_7]; omega) (by rw [jI_toInt hrc_7, c_7_4]; rfl) (by decide) ?_
        refine lv_aload_n hx hb dX11_found_92 rfl (lv_at hl 0 rfl) ?_
        refine j_getR hx hb (C := RX11) (T := TX11) (N := 12) hts inX11_found_X11 hown hK hS hW h0 rfl 11 rfl rfl (by decide) (hts _ flX11_found_91) dX11_found_93 ?_
        refine j_cR (j_runV (As := []) (rest := []) hx hb hml hown hts hK hS hW (kX1_bytesTogether l hS σ_6 (a0 := G a0 11) (h0 := h_3)) 0 gX11_found_X1_bytesTogether rfl hvX1_bytesTogether ⟨Nat.le_of_ble_eq_true rfl, Nat.le_of_ble_eq_true rfl⟩ rfl rfl h_3 rfl rfl rfl rfl hl.1 rfl (Nat.le_of_ble_eq_true rfl) dX11_found_96 ⟨Nat.le_of_ble_eq_true rfl, Nat.le_of_ble_eq_true rfl⟩) (fun v_11 rv_11 pv_11 => ?_)
        try dsimp only at pv_11
        exact hRet 99 _ _ _ v_11 _ dX11_found_99 hW hF (by omega) ⟨trivial, hR⟩
      refine lv_tableOut (tgt := 100) hx hb dX11_found_26 (by rw [jI_toInt hrc_7]; omega) (by decide) ?_
      refine lv_aload_n hx hb dX11_found_100 rfl (lv_at hl 0 rfl) ?_
      refine j_getR hx hb (C := RX11) (T := TX11) (N := 12) hts inX11_found_X11 hown hK hS hW h0 rfl 11 rfl rfl (by decide) (hts _ flX11_found_91) dX11_found_101 ?_
      refine j_cR (j_runV (As := []) (rest := []) hx hb hml hown hts hK hS hW (kX1_unlikeValues l hS σ_6 (a0 := G a0 11) (h0 := h_3)) 0 gX11_found_X1_unlikeValues rfl hvX1_unlikeValues ⟨Nat.le_of_ble_eq_true rfl, Nat.le_of_ble_eq_true rfl⟩ rfl rfl h_3 rfl rfl rfl rfl hl.1 rfl (Nat.le_of_ble_eq_true rfl) dX11_found_104 ⟨Nat.le_of_ble_eq_true rfl, Nat.le_of_ble_eq_true rfl⟩) (fun v_12 rv_12 pv_12 => ?_)
      try dsimp only at pv_12
      exact hRet 107 _ _ _ v_12 _ dX11_found_107 hW hF (by omega) ⟨trivial, hR⟩
    · refine j_const hx hb dX11_found_9 ?_
      exact hRet 10 _ _ _ (-1) _ dX11_found_10 hW hF (by decide) ⟨trivial, hR⟩
abbrev wr_X11_foundAt : List Nat := [2002, 29000]
theorem flX11_foundAt_35 : Cond.fieldLink RX11 35 "PageTrie" "now" "LPageTrie$State;" ∈ wsX11_foundAt := List.mem_of_getElem? (i := 2) rfl
theorem flX11_foundAt_91 : Cond.fieldLink RX11 91 "PageTrie" "left" "LPageTrie$Found;" ∈ wsX11_foundAt := List.mem_of_getElem? (i := 1) rfl
theorem flX11_foundAt_284 : Cond.fieldLink RX11 284 "PageTrie$State" "query" "LPageTrie$Query;" ∈ wsX11_foundAt := List.mem_of_getElem? (i := 3) rfl
theorem flX11_foundAt_293 : Cond.fieldLink RX11 293 "PageTrie$Found" "size" "I" ∈ wsX11_foundAt := List.mem_of_getElem? (i := 4) rfl
theorem inX11_foundAt_X1 : ∀ w ∈ u_ws RX1 TX1 3, w ∈ wsX11_foundAt := mem_r _ [85, 86, 87] rfl
theorem inX11_foundAt_X11 : ∀ w ∈ u_ws RX11 TX11 12, w ∈ wsX11_foundAt := mem_r _ [70, 71, 72, 73, 74, 75, 76, 77, 78, 79, 80, 81] rfl
theorem inX11_foundAt_X8 : ∀ w ∈ u_ws RX8 TX8 3, w ∈ wsX11_foundAt := mem_r _ [82, 83, 84] rfl
theorem hvX11_foundAt : yX11_foundAt.cls = RX11 ∧ yX11_foundAt.cls ≠ "java/lang/invoke/MethodHandle" ∧ yX11_foundAt.cls ≠ "java/lang/invoke/VarHandle" ∧ (parseMethodDescriptor yX11_foundAt.desc).map (fun d => d.parameters.length) = some 1 := by decide +kernel
set_option maxHeartbeats 4000000 in
set_option maxRecDepth 100000 in
theorem kX11_foundAt (l : Launch) {D : va_G} {cA : Nat → ClassId} {τ : Nat → Nat} {G : Nat → Nat → Nat} {L : List Nat} (hS : SW τ G L) (σ : Nat → Nat → Int) {a0 : Nat} (h0 : τ a0 = 12) {x1 : Int} (r1 : rg x1) : Met l yX11_foundAt wsX11_foundAt ({ frames := 5, cells := 0, slots := 0, locals := 117 }) (jP D cA τ G L σ [.ref a0, .int (jI x1)]) (jQI D cA τ G L (fun r σ' => (True) ∧ fr wr_X11_foundAt τ σ σ')) 0 0 (fun q => q ∈ L) := by
  refine j_metI (by decide +kernel) rfl (Nat.le_of_ble_eq_true rfl) ?_
  intro p e s m args below meth c Q hx hb hml hown hts hK hW hRet ls hl
  have hl : lv_has ls 2 [(0, .ref a0), (1, .int (jI x1))] := hl
  have hA : ∀ q ∈ L, (fun q => q ∈ L) q := fun _ h => h
  have hF : va_S (fun q => q ∈ L) s.heap s.heap [] := va_S.rf
  have hR : fr wr_X11_foundAt τ σ σ := fr_rf
  refine lv_iload_n hx hb dX11_foundAt_0 rfl (lv_at hl 1 rfl) ?_
  refine j_if_ge (tgt := 6) hx hb (by omega) dX11_foundAt_1 (by decide) (fun c_1 => ?_) (fun c_1 => ?_)
  · refine lv_aload_n hx hb dX11_foundAt_6 rfl (lv_at hl 0 rfl) ?_
    refine j_getR hx hb (C := RX11) (T := TX11) (N := 12) hts inX11_foundAt_X11 hown hK hS hW h0 rfl 11 rfl rfl (by decide) (hts _ flX11_foundAt_91) dX11_foundAt_7 ?_
    have h_2 : τ (G a0 11) = 2 := gty hS h0 (k := 11) rfl rfl
    refine lv_aload_n hx hb dX11_foundAt_10 rfl (lv_at hl 0 rfl) ?_
    refine j_getR hx hb (C := RX11) (T := TX11) (N := 12) hts inX11_foundAt_X11 hown hK hS hW h0 rfl 3 rfl rfl (by decide) (hts _ flX11_foundAt_35) dX11_foundAt_11 ?_
    have h_3 : τ (G a0 3) = 9 := gty hS h0 (k := 3) rfl rfl
    refine j_getR hx hb (C := RX8) (T := TX8) (N := 3) hts inX11_foundAt_X8 hown hK hS hW h_3 rfl 2 rfl rfl (by decide) (hts _ flX11_foundAt_284) dX11_foundAt_14 ?_
    have h_4 : τ (G (G a0 3) 2) = 7 := gty hS h_3 (k := 2) rfl rfl
    refine j_cV (j_runV (As := [.ref (G (G a0 3) 2)]) (rest := []) hx hb hml hown hts hK hS hW (kX1_goThrough l hS σ (a0 := G a0 11) (h0 := h_2) (a1 := G (G a0 3) 2) (h1 := h_4)) 1 gX11_foundAt_X1_goThrough rfl hvX1_goThrough ⟨Nat.le_of_ble_eq_true rfl, Nat.le_of_ble_eq_true rfl⟩ rfl rfl h_2 rfl rfl rfl rfl hl.1 rfl (Nat.le_of_ble_eq_true rfl) dX11_foundAt_17 ⟨Nat.le_of_ble_eq_true rfl, Nat.le_of_ble_eq_true rfl⟩) hA hF (fun σ_5 H locs hW hF pσ_5 => ?_)
    try dsimp only at pσ_5
    obtain ⟨pσ_5, fpσ_5⟩ := pσ_5
    have hR := fr_call hR fpσ_5 (by decide)
    refine lv_iload_n hx hb dX11_foundAt_20 rfl (lv_at hl 1 rfl) ?_
    refine lv_aload_n hx hb dX11_foundAt_21 rfl (lv_at hl 0 rfl) ?_
    refine j_getR hx hb (C := RX11) (T := TX11) (N := 12) hts inX11_foundAt_X11 hown hK hS hW h0 rfl 11 rfl rfl (by decide) (hts _ flX11_foundAt_91) dX11_foundAt_22 ?_
    refine j_getI hx hb (C := RX1) (T := TX1) (N := 3) hts inX11_foundAt_X1 hown hK hS hW h_2 rfl 2 rfl rfl (by decide) (hts _ flX11_foundAt_293) dX11_foundAt_25 ?_
    have := fbd hW h_2 (k := 2) (lo := 0) (hi := 150) rfl rfl
    refine j_icmp_ge (tgt := 42) hx hb (by omega) (by omega) dX11_foundAt_28 (by decide) (fun c_6 => ?_) (fun c_6 => ?_)
    · refine j_bi hx hb dX11_foundAt_42 (by decide) ?_
      exact hRet 44 _ _ _ (-4) _ dX11_foundAt_44 hW hF (by decide) ⟨trivial, hR⟩
    · refine lv_aload_n hx hb dX11_foundAt_31 rfl (lv_at hl 0 rfl) ?_
      refine j_getR hx hb (C := RX11) (T := TX11) (N := 12) hts inX11_foundAt_X11 hown hK hS hW h0 rfl 11 rfl rfl (by decide) (hts _ flX11_foundAt_91) dX11_foundAt_32 ?_
      refine lv_iload_n hx hb dX11_foundAt_35 rfl (lv_at hl 1 rfl) ?_
      refine j_cR (j_runV (As := [.int (jI x1)]) (rest := []) hx hb hml hown hts hK hS hW (kX1_numberAt l hS σ_5 (a0 := G a0 11) (h0 := h_2) (x1 := x1) (r1 := (by omega))) 1 gX11_foundAt_X1_numberAt rfl hvX1_numberAt ⟨Nat.le_of_ble_eq_true rfl, Nat.le_of_ble_eq_true rfl⟩ rfl rfl h_2 rfl rfl rfl rfl hl.1 rfl (Nat.le_of_ble_eq_true rfl) dX11_foundAt_36 ⟨Nat.le_of_ble_eq_true rfl, Nat.le_of_ble_eq_true rfl⟩) (fun v_7 rv_7 pv_7 => ?_)
      try dsimp only at pv_7
      refine lv_goto (tgt := 44) hx hb dX11_foundAt_39 (by decide) ?_
      exact hRet 44 _ _ _ v_7 _ dX11_foundAt_44 hW hF (by omega) ⟨trivial, hR⟩
  · refine j_const hx hb dX11_foundAt_4 ?_
    exact hRet 5 _ _ _ (-1) _ dX11_foundAt_5 hW hF (by decide) ⟨trivial, hR⟩
abbrev wr_X11_takeFound : List Nat := [2002, 4003, 11006, 11008, 22000, 23000, 24000, 25000, 26000, 29000]
theorem flX11_takeFound_35 : Cond.fieldLink RX11 35 "PageTrie" "now" "LPageTrie$State;" ∈ wsX11_takeFound := List.mem_of_getElem? (i := 2) rfl
theorem flX11_takeFound_58 : Cond.fieldLink RX11 58 "PageTrie$State" "trie" "LPageTrie$Trie;" ∈ wsX11_takeFound := List.mem_of_getElem? (i := 5) rfl
theorem flX11_takeFound_91 : Cond.fieldLink RX11 91 "PageTrie" "left" "LPageTrie$Found;" ∈ wsX11_takeFound := List.mem_of_getElem? (i := 1) rfl
theorem flX11_takeFound_284 : Cond.fieldLink RX11 284 "PageTrie$State" "query" "LPageTrie$Query;" ∈ wsX11_takeFound := List.mem_of_getElem? (i := 3) rfl
theorem flX11_takeFound_293 : Cond.fieldLink RX11 293 "PageTrie$Found" "size" "I" ∈ wsX11_takeFound := List.mem_of_getElem? (i := 4) rfl
theorem inX11_takeFound_X1 : ∀ w ∈ u_ws RX1 TX1 3, w ∈ wsX11_takeFound := mem_r _ [168, 169, 170] rfl
theorem inX11_takeFound_X11 : ∀ w ∈ u_ws RX11 TX11 12, w ∈ wsX11_takeFound := mem_r _ [153, 154, 155, 156, 157, 158, 159, 160, 161, 162, 163, 164] rfl
theorem inX11_takeFound_X8 : ∀ w ∈ u_ws RX8 TX8 3, w ∈ wsX11_takeFound := mem_r _ [165, 166, 167] rfl
theorem hvX11_takeFound : yX11_takeFound.cls = RX11 ∧ yX11_takeFound.cls ≠ "java/lang/invoke/MethodHandle" ∧ yX11_takeFound.cls ≠ "java/lang/invoke/VarHandle" ∧ (parseMethodDescriptor yX11_takeFound.desc).map (fun d => d.parameters.length) = some 0 := by decide +kernel
set_option maxHeartbeats 4000000 in
set_option maxRecDepth 100000 in
theorem kX11_takeFound (l : Launch) {D : va_G} {cA : Nat → ClassId} {τ : Nat → Nat} {G : Nat → Nat → Nat} {L : List Nat} (hS : SW τ G L) (σ : Nat → Nat → Int) {a0 : Nat} (h0 : τ a0 = 12) : Met l yX11_takeFound wsX11_takeFound ({ frames := 5, cells := 0, slots := 0, locals := 117 }) (jP D cA τ G L σ [.ref a0]) (jQI D cA τ G L (fun r σ' => (True) ∧ fr wr_X11_takeFound τ σ σ')) 0 0 (fun q => q ∈ L) := by
  refine j_metI (by decide +kernel) rfl (Nat.le_of_ble_eq_true rfl) ?_
  intro p e s m args below meth c Q hx hb hml hown hts hK hW hRet ls hl
  have hl : lv_has ls 4 [(0, .ref a0)] := hl
  have hA : ∀ q ∈ L, (fun q => q ∈ L) q := fun _ h => h
  have hF : va_S (fun q => q ∈ L) s.heap s.heap [] := va_S.rf
  have hR : fr wr_X11_takeFound τ σ σ := fr_rf
  refine lv_aload_n hx hb dX11_takeFound_0 rfl (lv_at hl 0 rfl) ?_
  refine j_getR hx hb (C := RX11) (T := TX11) (N := 12) hts inX11_takeFound_X11 hown hK hS hW h0 rfl 11 rfl rfl (by decide) (hts _ flX11_takeFound_91) dX11_takeFound_1 ?_
  have h_1 : τ (G a0 11) = 2 := gty hS h0 (k := 11) rfl rfl
  refine lv_aload_n hx hb dX11_takeFound_4 rfl (lv_at hl 0 rfl) ?_
  refine j_getR hx hb (C := RX11) (T := TX11) (N := 12) hts inX11_takeFound_X11 hown hK hS hW h0 rfl 3 rfl rfl (by decide) (hts _ flX11_takeFound_35) dX11_takeFound_5 ?_
  have h_2 : τ (G a0 3) = 9 := gty hS h0 (k := 3) rfl rfl
  refine j_getR hx hb (C := RX8) (T := TX8) (N := 3) hts inX11_takeFound_X8 hown hK hS hW h_2 rfl 2 rfl rfl (by decide) (hts _ flX11_takeFound_284) dX11_takeFound_8 ?_
  have h_3 : τ (G (G a0 3) 2) = 7 := gty hS h_2 (k := 2) rfl rfl
  refine j_cV (j_runV (As := [.ref (G (G a0 3) 2)]) (rest := []) hx hb hml hown hts hK hS hW (kX1_goThrough l hS σ (a0 := G a0 11) (h0 := h_1) (a1 := G (G a0 3) 2) (h1 := h_3)) 1 gX11_takeFound_X1_goThrough rfl hvX1_goThrough ⟨Nat.le_of_ble_eq_true rfl, Nat.le_of_ble_eq_true rfl⟩ rfl rfl h_1 rfl rfl rfl rfl hl.1 rfl (Nat.le_of_ble_eq_true rfl) dX11_takeFound_11 ⟨Nat.le_of_ble_eq_true rfl, Nat.le_of_ble_eq_true rfl⟩) hA hF (fun σ_4 H locs hW hF pσ_4 => ?_)
  try dsimp only at pσ_4
  obtain ⟨pσ_4, fpσ_4⟩ := pσ_4
  have hR := fr_call hR fpσ_4 (by decide)
  refine lv_aload_n hx hb dX11_takeFound_14 rfl (lv_at hl 0 rfl) ?_
  refine j_getR hx hb (C := RX11) (T := TX11) (N := 12) hts inX11_takeFound_X11 hown hK hS hW h0 rfl 11 rfl rfl (by decide) (hts _ flX11_takeFound_91) dX11_takeFound_15 ?_
  refine j_getI hx hb (C := RX1) (T := TX1) (N := 3) hts inX11_takeFound_X1 hown hK hS hW h_1 rfl 2 rfl rfl (by decide) (hts _ flX11_takeFound_293) dX11_takeFound_18 ?_
  have := fbd hW h_1 (k := 2) (lo := 0) (hi := 150) rfl rfl
  refine lv_istore_n (lv' := [(1, .int (jI (σ_4 (G a0 11) 2))), (0, .ref a0)]) hx hb dX11_takeFound_21 rfl hl (by decide) rfl (fun ls hl => ?_)
  refine j_const hx hb dX11_takeFound_22 ?_
  refine lv_istore_n (lv' := [(2, .int (jI 0)), (1, .int (jI (σ_4 (G a0 11) 2))), (0, .ref a0)]) hx hb dX11_takeFound_23 rfl hl (by decide) rfl (fun ls hl => ?_)
  have L_24 : ∀ (N : Nat) (v2_24 : Int) (σ_24 : Nat → Nat → Int) (H : Heap) (locs : List Loc) (ls : Array Slot), N = (2147483647 - v2_24 : Int).toNat → (0 ≤ v2_24) → rg v2_24 → PW D cA τ G L σ_24 H → va_S (fun q => q ∈ L) s.heap H locs → fr wr_X11_takeFound τ σ σ_24 → lv_has ls 4 [(0, .ref a0), (1, .int (jI (σ_4 (G a0 11) 2))), (2, .int (jI v2_24))] → W p l e ({ frames := 5, cells := 0, slots := 0, locals := 117 }) s m args below meth c H locs 0 0 Q (F0 m 24 ls []) := by
    intro N
    induction N using Nat.strongRecOn with
    | ind N ih_24 =>
      intro v2_24 σ_24 H locs ls hN i0_24 rv2_24 hW hF hR hl
      refine lv_iload_n hx hb dX11_takeFound_24 rfl (lv_at hl 2 rfl) ?_
      refine lv_iload_n hx hb dX11_takeFound_25 rfl (lv_at hl 1 rfl) ?_
      refine j_icmp_ge (tgt := 66) hx hb (by omega) (by omega) dX11_takeFound_26 (by decide) (fun c_5 => ?_) (fun c_5 => ?_)
      · refine lv_iload_n hx hb dX11_takeFound_66 rfl (lv_at hl 1 rfl) ?_
        exact hRet 67 _ _ _ (σ_4 (G a0 11) 2) _ dX11_takeFound_67 hW hF (by omega) ⟨trivial, hR⟩
      · refine lv_aload_n hx hb dX11_takeFound_29 rfl (lv_at hl 0 rfl) ?_
        refine j_getR hx hb (C := RX11) (T := TX11) (N := 12) hts inX11_takeFound_X11 hown hK hS hW h0 rfl 11 rfl rfl (by decide) (hts _ flX11_takeFound_91) dX11_takeFound_30 ?_
        refine lv_iload_n hx hb dX11_takeFound_33 rfl (lv_at hl 2 rfl) ?_
        refine j_cR (j_runV (As := [.int (jI v2_24)]) (rest := []) hx hb hml hown hts hK hS hW (kX1_numberAt l hS σ_24 (a0 := G a0 11) (h0 := h_1) (x1 := v2_24) (r1 := (by omega))) 1 gX11_takeFound_X1_numberAt rfl hvX1_numberAt ⟨Nat.le_of_ble_eq_true rfl, Nat.le_of_ble_eq_true rfl⟩ rfl rfl h_1 rfl rfl rfl rfl hl.1 rfl (Nat.le_of_ble_eq_true rfl) dX11_takeFound_34 ⟨Nat.le_of_ble_eq_true rfl, Nat.le_of_ble_eq_true rfl⟩) (fun v_6 rv_6 pv_6 => ?_)
        try dsimp only at pv_6
        refine lv_istore_n (lv' := [(3, .int (jI v_6)), (0, .ref a0), (1, .int (jI (σ_4 (G a0 11) 2))), (2, .int (jI v2_24))]) hx hb dX11_takeFound_37 rfl hl (by decide) rfl (fun ls hl => ?_)
        refine lv_aload_n hx hb dX11_takeFound_38 rfl (lv_at hl 1 rfl) ?_
        refine j_getR hx hb (C := RX11) (T := TX11) (N := 12) hts inX11_takeFound_X11 hown hK hS hW h0 rfl 3 rfl rfl (by decide) (hts _ flX11_takeFound_35) dX11_takeFound_39 ?_
        refine j_getR hx hb (C := RX8) (T := TX8) (N := 3) hts inX11_takeFound_X8 hown hK hS hW h_2 rfl 0 rfl rfl (by decide) (hts _ flX11_takeFound_58) dX11_takeFound_42 ?_
        have h_7 : τ (G (G a0 3) 0) = 11 := gty hS h_2 (k := 0) rfl rfl
        refine lv_iload_n hx hb dX11_takeFound_45 rfl (lv_at hl 0 rfl) ?_
        refine j_cV (j_runV (As := [.int (jI v_6)]) (rest := []) hx hb hml hown hts hK hS hW (kX10_removeAt l hS σ_24 (a0 := G (G a0 3) 0) (h0 := h_7) (x1 := v_6) (r1 := (by omega))) 1 gX11_takeFound_X10_removeAt rfl hvX10_removeAt ⟨Nat.le_of_ble_eq_true rfl, Nat.le_of_ble_eq_true rfl⟩ rfl rfl h_7 rfl rfl rfl rfl hl.1 rfl (Nat.le_of_ble_eq_true rfl) dX11_takeFound_46 ⟨Nat.le_of_ble_eq_true rfl, Nat.le_of_ble_eq_true rfl⟩) hA hF (fun σ_8 H locs hW hF pσ_8 => ?_)
        try dsimp only at pσ_8
        obtain ⟨pσ_8, fpσ_8⟩ := pσ_8
        have hR := fr_call hR fpσ_8 (by decide)
        refine lv_aload_n hx hb dX11_takeFound_49 rfl (lv_at hl 1 rfl) ?_
        refine j_getR hx hb (C := RX11) (T := TX11) (N := 12) hts inX11_takeFound_X11 hown hK hS hW h0 rfl 11 rfl rfl (by decide) (hts _ flX11_takeFound_91) dX11_takeFound_50 ?_
        refine lv_iload_n hx hb dX11_takeFound_53 rfl (lv_at hl 3 rfl) ?_
        refine j_const hx hb dX11_takeFound_54 ?_
        refine j_add hx hb dX11_takeFound_55 ?_
        refine lv_iload_n hx hb dX11_takeFound_56 rfl (lv_at hl 0 rfl) ?_
        refine j_cV (j_runV (As := [.int (jI (v2_24 + 1)), .int (jI v_6)]) (rest := []) hx hb hml hown hts hK hS hW (kX1_closeGap l hS σ_8 (a0 := G a0 11) (h0 := h_1) (x1 := v2_24 + 1) (r1 := (by omega)) (x2 := v_6) (r2 := (by omega)) (q0 := (by omega))) 2 gX11_takeFound_X1_closeGap rfl hvX1_closeGap ⟨Nat.le_of_ble_eq_true rfl, Nat.le_of_ble_eq_true rfl⟩ rfl rfl h_1 rfl rfl rfl rfl hl.1 rfl (Nat.le_of_ble_eq_true rfl) dX11_takeFound_57 ⟨Nat.le_of_ble_eq_true rfl, Nat.le_of_ble_eq_true rfl⟩) hA hF (fun σ_9 H locs hW hF pσ_9 => ?_)
        try dsimp only at pσ_9
        obtain ⟨pσ_9, fpσ_9⟩ := pσ_9
        have hR := fr_call hR fpσ_9 (by decide)
        refine j_iinc (lv' := [(2, .int (jI (v2_24 + 1))), (3, .int (jI v_6)), (0, .ref a0), (1, .int (jI (σ_4 (G a0 11) 2)))]) hx hb dX11_takeFound_60 hl (k := 3) rfl (by decide) rfl (fun ls hl => ?_)
        refine lv_goto (tgt := 24) hx hb dX11_takeFound_63 (by decide) ?_
        exact ih_24 ((2147483647 - (v2_24 + 1) : Int).toNat) (by omega) (v2_24 + 1) σ_9 _ _ _ rfl (by omega) (by omega) hW hF hR (lv_sub hl [2, 3, 0] rfl)
  exact L_24 ((2147483647 - 0 : Int).toNat) 0 σ_4 _ _ _ rfl (by omega) (by decide) hW hF hR (lv_sub hl [2, 1, 0] rfl)
abbrev wr_X11_change : List Nat := [2002, 24000, 29000]
theorem flX11_change_35 : Cond.fieldLink RX11 35 "PageTrie" "now" "LPageTrie$State;" ∈ wsX11_change := List.mem_of_getElem? (i := 2) rfl
theorem flX11_change_58 : Cond.fieldLink RX11 58 "PageTrie$State" "trie" "LPageTrie$Trie;" ∈ wsX11_change := List.mem_of_getElem? (i := 5) rfl
theorem flX11_change_84 : Cond.fieldLink RX11 84 "PageTrie$Trie" "keys" "LPageTrie$Keys;" ∈ wsX11_change := List.mem_of_getElem? (i := 6) rfl
theorem flX11_change_91 : Cond.fieldLink RX11 91 "PageTrie" "left" "LPageTrie$Found;" ∈ wsX11_change := List.mem_of_getElem? (i := 1) rfl
theorem flX11_change_284 : Cond.fieldLink RX11 284 "PageTrie$State" "query" "LPageTrie$Query;" ∈ wsX11_change := List.mem_of_getElem? (i := 3) rfl
theorem flX11_change_293 : Cond.fieldLink RX11 293 "PageTrie$Found" "size" "I" ∈ wsX11_change := List.mem_of_getElem? (i := 4) rfl
theorem inX11_change_X1 : ∀ w ∈ u_ws RX1 TX1 3, w ∈ wsX11_change := mem_r _ [112, 113, 114] rfl
theorem inX11_change_X10 : ∀ w ∈ u_ws RX10 TX10 9, w ∈ wsX11_change := mem_r _ [115, 116, 117, 118, 119, 120, 121, 122, 123] rfl
theorem inX11_change_X11 : ∀ w ∈ u_ws RX11 TX11 12, w ∈ wsX11_change := mem_r _ [97, 98, 99, 100, 101, 102, 103, 104, 105, 106, 107, 108] rfl
theorem inX11_change_X8 : ∀ w ∈ u_ws RX8 TX8 3, w ∈ wsX11_change := mem_r _ [109, 110, 111] rfl
theorem hvX11_change : yX11_change.cls = RX11 ∧ yX11_change.cls ≠ "java/lang/invoke/MethodHandle" ∧ yX11_change.cls ≠ "java/lang/invoke/VarHandle" ∧ (parseMethodDescriptor yX11_change.desc).map (fun d => d.parameters.length) = some 2 := by decide +kernel
set_option maxHeartbeats 4000000 in
set_option maxRecDepth 100000 in
theorem kX11_change (l : Launch) {D : va_G} {cA : Nat → ClassId} {τ : Nat → Nat} {G : Nat → Nat → Nat} {L : List Nat} (hS : SW τ G L) (σ : Nat → Nat → Int) {a0 : Nat} (h0 : τ a0 = 12) {x1 : Int} (r1 : rg x1) {x2 : Int} (r2 : rg x2) : Met l yX11_change wsX11_change ({ frames := 5, cells := 0, slots := 0, locals := 117 }) (jP D cA τ G L σ [.ref a0, .int (jI x1), .int (jI x2)]) (jQI D cA τ G L (fun r σ' => (True) ∧ fr wr_X11_change τ σ σ')) 0 0 (fun q => q ∈ L) := by
  refine j_metI (by decide +kernel) rfl (Nat.le_of_ble_eq_true rfl) ?_
  intro p e s m args below meth c Q hx hb hml hown hts hK hW hRet ls hl
  have hl : lv_has ls 5 [(0, .ref a0), (1, .int (jI x1)), (2, .int (jI x2))] := hl
  have hA : ∀ q ∈ L, (fun q => q ∈ L) q := fun _ h => h
  have hF : va_S (fun q => q ∈ L) s.heap s.heap [] := va_S.rf
  have hR : fr wr_X11_change τ σ σ := fr_rf
  refine lv_iload_n hx hb dX11_change_0 rfl (lv_at hl 1 rfl) ?_
  refine j_if_lt (tgt := 16) hx hb (by omega) dX11_change_1 (by decide) (fun c_1 => ?_) (fun c_1 => ?_)
  · refine j_const hx hb dX11_change_16 ?_
    exact hRet 17 _ _ _ (-1) _ dX11_change_17 hW hF (by decide) ⟨trivial, hR⟩
  · refine lv_iload_n hx hb dX11_change_4 rfl (lv_at hl 1 rfl) ?_
    refine j_const hx hb dX11_change_5 ?_
    refine j_icmp_gt (tgt := 16) hx hb (by omega) (by decide) dX11_change_6 (by decide) (fun c_2 => ?_) (fun c_2 => ?_)
    · refine j_const hx hb dX11_change_16 ?_
      exact hRet 17 _ _ _ (-1) _ dX11_change_17 hW hF (by decide) ⟨trivial, hR⟩
    · refine lv_iload_n hx hb dX11_change_9 rfl (lv_at hl 2 rfl) ?_
      refine j_cR (j_runS (As := [.int (jI x2)]) (rest := []) hx hb hml hown hts hK hW (kX11_isValue l hS σ (x0 := x2) (r0 := (by omega))) 1 gX11_change_X11_isValue rfl hsX11_isValue ⟨Nat.le_of_ble_eq_true rfl, Nat.le_of_ble_eq_true rfl⟩ rfl rfl rfl hl.1 rfl (Nat.le_of_ble_eq_true rfl) dX11_change_10 ⟨Nat.le_of_ble_eq_true rfl, Nat.le_of_ble_eq_true rfl⟩) (fun v_3 rv_3 pv_3 => ?_)
      try dsimp only at pv_3
      refine j_if_ne (tgt := 18) hx hb (by omega) dX11_change_13 (by decide) (fun c_4 => ?_) (fun c_4 => ?_)
      · refine lv_aload_n hx hb dX11_change_18 rfl (lv_at hl 0 rfl) ?_
        refine j_getR hx hb (C := RX11) (T := TX11) (N := 12) hts inX11_change_X11 hown hK hS hW h0 rfl 11 rfl rfl (by decide) (hts _ flX11_change_91) dX11_change_19 ?_
        have h_5 : τ (G a0 11) = 2 := gty hS h0 (k := 11) rfl rfl
        refine lv_aload_n hx hb dX11_change_22 rfl (lv_at hl 0 rfl) ?_
        refine j_getR hx hb (C := RX11) (T := TX11) (N := 12) hts inX11_change_X11 hown hK hS hW h0 rfl 3 rfl rfl (by decide) (hts _ flX11_change_35) dX11_change_23 ?_
        have h_6 : τ (G a0 3) = 9 := gty hS h0 (k := 3) rfl rfl
        refine j_getR hx hb (C := RX8) (T := TX8) (N := 3) hts inX11_change_X8 hown hK hS hW h_6 rfl 2 rfl rfl (by decide) (hts _ flX11_change_284) dX11_change_26 ?_
        have h_7 : τ (G (G a0 3) 2) = 7 := gty hS h_6 (k := 2) rfl rfl
        refine j_cV (j_runV (As := [.ref (G (G a0 3) 2)]) (rest := []) hx hb hml hown hts hK hS hW (kX1_goThrough l hS σ (a0 := G a0 11) (h0 := h_5) (a1 := G (G a0 3) 2) (h1 := h_7)) 1 gX11_change_X1_goThrough rfl hvX1_goThrough ⟨Nat.le_of_ble_eq_true rfl, Nat.le_of_ble_eq_true rfl⟩ rfl rfl h_5 rfl rfl rfl rfl hl.1 rfl (Nat.le_of_ble_eq_true rfl) dX11_change_29 ⟨Nat.le_of_ble_eq_true rfl, Nat.le_of_ble_eq_true rfl⟩) hA hF (fun σ_8 H locs hW hF pσ_8 => ?_)
        try dsimp only at pσ_8
        obtain ⟨pσ_8, fpσ_8⟩ := pσ_8
        have hR := fr_call hR fpσ_8 (by decide)
        refine j_const hx hb dX11_change_32 ?_
        refine lv_istore_n (lv' := [(3, .int (jI 0)), (0, .ref a0), (1, .int (jI x1)), (2, .int (jI x2))]) hx hb dX11_change_33 rfl hl (by decide) rfl (fun ls hl => ?_)
        have L_34 : ∀ (N : Nat) (v3_34 : Int) (σ_34 : Nat → Nat → Int) (H : Heap) (locs : List Loc) (ls : Array Slot), N = (2147483647 - v3_34 : Int).toNat → (0 ≤ v3_34) → rg v3_34 → PW D cA τ G L σ_34 H → va_S (fun q => q ∈ L) s.heap H locs → fr wr_X11_change τ σ σ_34 → lv_has ls 5 [(0, .ref a0), (1, .int (jI x1)), (2, .int (jI x2)), (3, .int (jI v3_34))] → W p l e ({ frames := 5, cells := 0, slots := 0, locals := 117 }) s m args below meth c H locs 0 0 Q (F0 m 34 ls []) := by
          intro N
          induction N using Nat.strongRecOn with
          | ind N ih_34 =>
            intro v3_34 σ_34 H locs ls hN i0_34 rv3_34 hW hF hR hl
            refine lv_iload_n hx hb dX11_change_34 rfl (lv_at hl 3 rfl) ?_
            refine lv_aload_n hx hb dX11_change_35 rfl (lv_at hl 0 rfl) ?_
            refine j_getR hx hb (C := RX11) (T := TX11) (N := 12) hts inX11_change_X11 hown hK hS hW h0 rfl 11 rfl rfl (by decide) (hts _ flX11_change_91) dX11_change_36 ?_
            refine j_getI hx hb (C := RX1) (T := TX1) (N := 3) hts inX11_change_X1 hown hK hS hW h_5 rfl 2 rfl rfl (by decide) (hts _ flX11_change_293) dX11_change_39 ?_
            have := fbd hW h_5 (k := 2) (lo := 0) (hi := 150) rfl rfl
            refine j_icmp_ge (tgt := 96) hx hb (by omega) (by omega) dX11_change_42 (by decide) (fun c_9 => ?_) (fun c_9 => ?_)
            · refine lv_aload_n hx hb dX11_change_96 rfl (lv_at hl 0 rfl) ?_
              refine j_getR hx hb (C := RX11) (T := TX11) (N := 12) hts inX11_change_X11 hown hK hS hW h0 rfl 11 rfl rfl (by decide) (hts _ flX11_change_91) dX11_change_97 ?_
              refine j_getI hx hb (C := RX1) (T := TX1) (N := 3) hts inX11_change_X1 hown hK hS hW h_5 rfl 2 rfl rfl (by decide) (hts _ flX11_change_293) dX11_change_100 ?_
              exact hRet 103 _ _ _ (σ_34 (G a0 11) 2) _ dX11_change_103 hW hF (by omega) ⟨trivial, hR⟩
            · refine lv_aload_n hx hb dX11_change_45 rfl (lv_at hl 0 rfl) ?_
              refine j_getR hx hb (C := RX11) (T := TX11) (N := 12) hts inX11_change_X11 hown hK hS hW h0 rfl 11 rfl rfl (by decide) (hts _ flX11_change_91) dX11_change_46 ?_
              refine lv_iload_n hx hb dX11_change_49 rfl (lv_at hl 3 rfl) ?_
              refine j_cR (j_runV (As := [.int (jI v3_34)]) (rest := []) hx hb hml hown hts hK hS hW (kX1_numberAt l hS σ_34 (a0 := G a0 11) (h0 := h_5) (x1 := v3_34) (r1 := (by omega))) 1 gX11_change_X1_numberAt rfl hvX1_numberAt ⟨Nat.le_of_ble_eq_true rfl, Nat.le_of_ble_eq_true rfl⟩ rfl rfl h_5 rfl rfl rfl rfl hl.1 rfl (Nat.le_of_ble_eq_true rfl) dX11_change_50 ⟨Nat.le_of_ble_eq_true rfl, Nat.le_of_ble_eq_true rfl⟩) (fun v_10 rv_10 pv_10 => ?_)
              try dsimp only at pv_10
              refine lv_istore (lv' := [(4, .int (jI v_10)), (0, .ref a0), (1, .int (jI x1)), (2, .int (jI x2)), (3, .int (jI v3_34))]) hx hb dX11_change_53 hl (by decide) rfl (fun ls hl => ?_)
              refine lv_aload_n hx hb dX11_change_55 rfl (lv_at hl 1 rfl) ?_
              refine j_getR hx hb (C := RX11) (T := TX11) (N := 12) hts inX11_change_X11 hown hK hS hW h0 rfl 3 rfl rfl (by decide) (hts _ flX11_change_35) dX11_change_56 ?_
              refine j_getR hx hb (C := RX8) (T := TX8) (N := 3) hts inX11_change_X8 hown hK hS hW h_6 rfl 0 rfl rfl (by decide) (hts _ flX11_change_58) dX11_change_59 ?_
              have h_11 : τ (G (G a0 3) 0) = 11 := gty hS h_6 (k := 0) rfl rfl
              refine j_getR hx hb (C := RX10) (T := TX10) (N := 9) hts inX11_change_X10 hown hK hS hW h_11 rfl 0 rfl rfl (by decide) (hts _ flX11_change_84) dX11_change_62 ?_
              have h_12 : τ (G (G (G a0 3) 0) 0) = 4 := gty hS h_11 (k := 0) rfl rfl
              refine lv_iload hx hb dX11_change_65 (lv_at hl 0 rfl) ?_
              refine lv_iload_n hx hb dX11_change_67 rfl (lv_at hl 2 rfl) ?_
              refine lv_aload_n hx hb dX11_change_68 rfl (lv_at hl 1 rfl) ?_
              refine j_getR hx hb (C := RX11) (T := TX11) (N := 12) hts inX11_change_X11 hown hK hS hW h0 rfl 3 rfl rfl (by decide) (hts _ flX11_change_35) dX11_change_69 ?_
              refine j_getR hx hb (C := RX8) (T := TX8) (N := 3) hts inX11_change_X8 hown hK hS hW h_6 rfl 0 rfl rfl (by decide) (hts _ flX11_change_58) dX11_change_72 ?_
              refine j_getR hx hb (C := RX10) (T := TX10) (N := 9) hts inX11_change_X10 hown hK hS hW h_11 rfl 0 rfl rfl (by decide) (hts _ flX11_change_84) dX11_change_75 ?_
              refine lv_iload hx hb dX11_change_78 (lv_at hl 0 rfl) ?_
              refine j_cR (j_runV (As := [.int (jI v_10)]) (rest := [.int (jI x1), .int (jI v_10), .ref (G (G (G a0 3) 0) 0)]) hx hb hml hown hts hK hS hW (kX3_valueOf l hS σ_34 (a0 := G (G (G a0 3) 0) 0) (h0 := h_12) (x1 := v_10) (r1 := (by omega))) 1 gX11_change_X3_valueOf rfl hvX3_valueOf ⟨Nat.le_of_ble_eq_true rfl, Nat.le_of_ble_eq_true rfl⟩ rfl rfl h_12 rfl rfl rfl rfl hl.1 rfl (Nat.le_of_ble_eq_true rfl) dX11_change_80 ⟨Nat.le_of_ble_eq_true rfl, Nat.le_of_ble_eq_true rfl⟩) (fun v_13 rv_13 pv_13 => ?_)
              try dsimp only at pv_13
              refine lv_iload_n hx hb dX11_change_83 rfl (lv_at hl 3 rfl) ?_
              refine j_cR (j_runS (As := [.int (jI x1), .int (jI v_13), .int (jI x2)]) (rest := [.int (jI v_10), .ref (G (G (G a0 3) 0) 0)]) hx hb hml hown hts hK hW (kX11_changed l hS σ_34 (x0 := x1) (r0 := (by omega)) (x1 := v_13) (r1 := (by omega)) (x2 := x2) (r2 := (by omega))) 3 gX11_change_X11_changed rfl hsX11_changed ⟨Nat.le_of_ble_eq_true rfl, Nat.le_of_ble_eq_true rfl⟩ rfl rfl rfl hl.1 rfl (Nat.le_of_ble_eq_true rfl) dX11_change_84 ⟨Nat.le_of_ble_eq_true rfl, Nat.le_of_ble_eq_true rfl⟩) (fun v_14 rv_14 pv_14 => ?_)
              try dsimp only at pv_14
              refine j_cV (j_runV (As := [.int (jI v_10), .int (jI v_14)]) (rest := []) hx hb hml hown hts hK hS hW (kX3_setValue l hS σ_34 (a0 := G (G (G a0 3) 0) 0) (h0 := h_12) (x1 := v_10) (r1 := (by omega)) (x2 := v_14) (r2 := (by omega))) 2 gX11_change_X3_setValue rfl hvX3_setValue ⟨Nat.le_of_ble_eq_true rfl, Nat.le_of_ble_eq_true rfl⟩ rfl rfl h_12 rfl rfl rfl rfl hl.1 rfl (Nat.le_of_ble_eq_true rfl) dX11_change_87 ⟨Nat.le_of_ble_eq_true rfl, Nat.le_of_ble_eq_true rfl⟩) hA hF (fun σ_15 H locs hW hF pσ_15 => ?_)
              try dsimp only at pσ_15
              obtain ⟨pσ_15, fpσ_15⟩ := pσ_15
              have hR := fr_call hR fpσ_15 (by decide)
              refine j_iinc (lv' := [(3, .int (jI (v3_34 + 1))), (4, .int (jI v_10)), (0, .ref a0), (1, .int (jI x1)), (2, .int (jI x2))]) hx hb dX11_change_90 hl (k := 4) rfl (by decide) rfl (fun ls hl => ?_)
              refine lv_goto (tgt := 34) hx hb dX11_change_93 (by decide) ?_
              exact ih_34 ((2147483647 - (v3_34 + 1) : Int).toNat) (by omega) (v3_34 + 1) σ_15 _ _ _ rfl (by omega) (by omega) hW hF hR (lv_sub hl [2, 3, 4, 0] rfl)
        exact L_34 ((2147483647 - 0 : Int).toNat) 0 σ_8 _ _ _ rfl (by omega) (by decide) hW hF hR (lv_sub hl [1, 2, 3, 0] rfl)
      · refine j_const hx hb dX11_change_16 ?_
        exact hRet 17 _ _ _ (-1) _ dX11_change_17 hW hF (by decide) ⟨trivial, hR⟩
abbrev wr_X11_tried : List Nat := [4003, 11001, 11002, 11005, 11006, 11007, 11008, 22000, 23000, 24000, 25000, 26000]
theorem flX11_tried_35 : Cond.fieldLink RX11 35 "PageTrie" "now" "LPageTrie$State;" ∈ wsX11_tried := List.mem_of_getElem? (i := 2) rfl
theorem flX11_tried_53 : Cond.fieldLink RX11 53 "PageTrie" "aside" "LPageTrie$Trie;" ∈ wsX11_tried := List.mem_of_getElem? (i := 1) rfl
theorem flX11_tried_58 : Cond.fieldLink RX11 58 "PageTrie$State" "trie" "LPageTrie$Trie;" ∈ wsX11_tried := List.mem_of_getElem? (i := 3) rfl
theorem flX11_tried_84 : Cond.fieldLink RX11 84 "PageTrie$Trie" "keys" "LPageTrie$Keys;" ∈ wsX11_tried := List.mem_of_getElem? (i := 4) rfl
theorem inX11_tried_X10 : ∀ w ∈ u_ws RX10 TX10 9, w ∈ wsX11_tried := mem_r _ [165, 166, 167, 168, 169, 170, 171, 172, 173] rfl
theorem inX11_tried_X11 : ∀ w ∈ u_ws RX11 TX11 12, w ∈ wsX11_tried := mem_r _ [150, 151, 152, 153, 154, 155, 156, 157, 158, 159, 160, 161] rfl
theorem inX11_tried_X8 : ∀ w ∈ u_ws RX8 TX8 3, w ∈ wsX11_tried := mem_r _ [162, 163, 164] rfl
theorem hvX11_tried : yX11_tried.cls = RX11 ∧ yX11_tried.cls ≠ "java/lang/invoke/MethodHandle" ∧ yX11_tried.cls ≠ "java/lang/invoke/VarHandle" ∧ (parseMethodDescriptor yX11_tried.desc).map (fun d => d.parameters.length) = some 3 := by decide +kernel
set_option maxHeartbeats 4000000 in
set_option maxRecDepth 100000 in
theorem kX11_tried (l : Launch) {D : va_G} {cA : Nat → ClassId} {τ : Nat → Nat} {G : Nat → Nat → Nat} {L : List Nat} (hS : SW τ G L) (σ : Nat → Nat → Int) {a0 : Nat} (h0 : τ a0 = 12) {x1 : Int} (r1 : rg x1) {x2 : Int} (r2 : rg x2) {x3 : Int} (r3 : rg x3) : Met l yX11_tried wsX11_tried ({ frames := 5, cells := 0, slots := 0, locals := 124 }) (jP D cA τ G L σ [.ref a0, .int (jI x1), .int (jI x2), .int (jI x3)]) (jQI D cA τ G L (fun r σ' => (True) ∧ fr wr_X11_tried τ σ σ')) 0 0 (fun q => q ∈ L) := by
  refine j_metI (by decide +kernel) rfl (Nat.le_of_ble_eq_true rfl) ?_
  intro p e s m args below meth c Q hx hb hml hown hts hK hW hRet ls hl
  have hl : lv_has ls 4 [(0, .ref a0), (1, .int (jI x1)), (2, .int (jI x2)), (3, .int (jI x3))] := hl
  have hA : ∀ q ∈ L, (fun q => q ∈ L) q := fun _ h => h
  have hF : va_S (fun q => q ∈ L) s.heap s.heap [] := va_S.rf
  have hR : fr wr_X11_tried τ σ σ := fr_rf
  refine lv_iload_n hx hb dX11_tried_0 rfl (lv_at hl 1 rfl) ?_
  refine j_cR (j_runS (As := [.int (jI x1)]) (rest := []) hx hb hml hown hts hK hW (kX11_isWidth l hS σ (x0 := x1) (r0 := (by omega))) 1 gX11_tried_X11_isWidth rfl hsX11_isWidth ⟨Nat.le_of_ble_eq_true rfl, Nat.le_of_ble_eq_true rfl⟩ rfl rfl rfl hl.1 rfl (Nat.le_of_ble_eq_true rfl) dX11_tried_1 ⟨Nat.le_of_ble_eq_true rfl, Nat.le_of_ble_eq_true rfl⟩) (fun v_1 rv_1 pv_1 => ?_)
  try dsimp only at pv_1
  refine j_if_eq (tgt := 25) hx hb (by omega) dX11_tried_4 (by decide) (fun c_2 => ?_) (fun c_2 => ?_)
  · refine j_const hx hb dX11_tried_25 ?_
    exact hRet 26 _ _ _ (-1) _ dX11_tried_26 hW hF (by decide) ⟨trivial, hR⟩
  · refine lv_iload_n hx hb dX11_tried_7 rfl (lv_at hl 2 rfl) ?_
    refine j_cR (j_runS (As := [.int (jI x2)]) (rest := []) hx hb hml hown hts hK hW (kX11_isRoom l hS σ (x0 := x2) (r0 := (by omega))) 1 gX11_tried_X11_isRoom rfl hsX11_isRoom ⟨Nat.le_of_ble_eq_true rfl, Nat.le_of_ble_eq_true rfl⟩ rfl rfl rfl hl.1 rfl (Nat.le_of_ble_eq_true rfl) dX11_tried_8 ⟨Nat.le_of_ble_eq_true rfl, Nat.le_of_ble_eq_true rfl⟩) (fun v_3 rv_3 pv_3 => ?_)
    try dsimp only at pv_3
    refine j_if_eq (tgt := 25) hx hb (by omega) dX11_tried_11 (by decide) (fun c_4 => ?_) (fun c_4 => ?_)
    · refine j_const hx hb dX11_tried_25 ?_
      exact hRet 26 _ _ _ (-1) _ dX11_tried_26 hW hF (by decide) ⟨trivial, hR⟩
    · refine lv_iload_n hx hb dX11_tried_14 rfl (lv_at hl 3 rfl) ?_
      refine j_const hx hb dX11_tried_15 ?_
      refine j_icmp_lt (tgt := 25) hx hb (by omega) (by decide) dX11_tried_16 (by decide) (fun c_5 => ?_) (fun c_5 => ?_)
      · refine j_const hx hb dX11_tried_25 ?_
        exact hRet 26 _ _ _ (-1) _ dX11_tried_26 hW hF (by decide) ⟨trivial, hR⟩
      · refine lv_iload_n hx hb dX11_tried_19 rfl (lv_at hl 3 rfl) ?_
        refine j_bi hx hb dX11_tried_20 (by decide) ?_
        refine j_icmp_le (tgt := 27) hx hb (by omega) (by decide) dX11_tried_22 (by decide) (fun c_6 => ?_) (fun c_6 => ?_)
        · refine lv_aload_n hx hb dX11_tried_27 rfl (lv_at hl 0 rfl) ?_
          refine j_getR hx hb (C := RX11) (T := TX11) (N := 12) hts inX11_tried_X11 hown hK hS hW h0 rfl 7 rfl rfl (by decide) (hts _ flX11_tried_53) dX11_tried_28 ?_
          have h_7 : τ (G a0 7) = 11 := gty hS h0 (k := 7) rfl rfl
          refine lv_aload_n hx hb dX11_tried_31 rfl (lv_at hl 0 rfl) ?_
          refine j_getR hx hb (C := RX11) (T := TX11) (N := 12) hts inX11_tried_X11 hown hK hS hW h0 rfl 3 rfl rfl (by decide) (hts _ flX11_tried_35) dX11_tried_32 ?_
          have h_8 : τ (G a0 3) = 9 := gty hS h0 (k := 3) rfl rfl
          refine j_getR hx hb (C := RX8) (T := TX8) (N := 3) hts inX11_tried_X8 hown hK hS hW h_8 rfl 0 rfl rfl (by decide) (hts _ flX11_tried_58) dX11_tried_35 ?_
          have h_9 : τ (G (G a0 3) 0) = 11 := gty hS h_8 (k := 0) rfl rfl
          refine j_getR hx hb (C := RX10) (T := TX10) (N := 9) hts inX11_tried_X10 hown hK hS hW h_9 rfl 0 rfl rfl (by decide) (hts _ flX11_tried_84) dX11_tried_38 ?_
          have h_10 : τ (G (G (G a0 3) 0) 0) = 4 := gty hS h_9 (k := 0) rfl rfl
          refine lv_iload_n hx hb dX11_tried_41 rfl (lv_at hl 1 rfl) ?_
          refine lv_iload_n hx hb dX11_tried_42 rfl (lv_at hl 2 rfl) ?_
          refine j_cV (j_runV (As := [.ref (G (G (G a0 3) 0) 0), .int (jI x1), .int (jI x2)]) (rest := []) hx hb hml hown hts hK hS hW (kX10_putAllOf l hS σ (a0 := G a0 7) (h0 := h_7) (a1 := G (G (G a0 3) 0) 0) (h1 := h_10) (x2 := x1) (r2 := (by omega)) (x3 := x2) (r3 := (by omega))) 3 gX11_tried_X10_putAllOf rfl hvX10_putAllOf ⟨Nat.le_of_ble_eq_true rfl, Nat.le_of_ble_eq_true rfl⟩ rfl rfl h_7 rfl rfl rfl rfl hl.1 rfl (Nat.le_of_ble_eq_true rfl) dX11_tried_43 ⟨Nat.le_of_ble_eq_true rfl, Nat.le_of_ble_eq_true rfl⟩) hA hF (fun σ_11 H locs hW hF pσ_11 => ?_)
          try dsimp only at pσ_11
          obtain ⟨pσ_11, fpσ_11⟩ := pσ_11
          have hR := fr_call hR fpσ_11 (by decide)
          refine lv_aload_n hx hb dX11_tried_46 rfl (lv_at hl 0 rfl) ?_
          refine j_getR hx hb (C := RX11) (T := TX11) (N := 12) hts inX11_tried_X11 hown hK hS hW h0 rfl 7 rfl rfl (by decide) (hts _ flX11_tried_53) dX11_tried_47 ?_
          refine lv_iload_n hx hb dX11_tried_50 rfl (lv_at hl 3 rfl) ?_
          refine j_cR (j_runV (As := [.int (jI x3)]) (rest := []) hx hb hml hown hts hK hS hW (kX10_measure l hS σ_11 (a0 := G a0 7) (h0 := h_7) (x1 := x3) (r1 := (by omega))) 1 gX11_tried_X10_measure rfl hvX10_measure ⟨Nat.le_of_ble_eq_true rfl, Nat.le_of_ble_eq_true rfl⟩ rfl rfl h_7 rfl rfl rfl rfl hl.1 rfl (Nat.le_of_ble_eq_true rfl) dX11_tried_51 ⟨Nat.le_of_ble_eq_true rfl, Nat.le_of_ble_eq_true rfl⟩) (fun v_12 rv_12 pv_12 => ?_)
          try dsimp only at pv_12
          exact hRet 54 _ _ _ v_12 _ dX11_tried_54 hW hF (by omega) ⟨trivial, hR⟩
        · refine j_const hx hb dX11_tried_25 ?_
          exact hRet 26 _ _ _ (-1) _ dX11_tried_26 hW hF (by decide) ⟨trivial, hR⟩
abbrev wr_X11_best : List Nat := [4003, 11001, 11002, 11005, 11006, 11007, 11008, 22000, 23000, 24000, 25000, 26000]
theorem flX11_best_35 : Cond.fieldLink RX11 35 "PageTrie" "now" "LPageTrie$State;" ∈ wsX11_best := List.mem_of_getElem? (i := 2) rfl
theorem flX11_best_53 : Cond.fieldLink RX11 53 "PageTrie" "aside" "LPageTrie$Trie;" ∈ wsX11_best := List.mem_of_getElem? (i := 1) rfl
theorem flX11_best_58 : Cond.fieldLink RX11 58 "PageTrie$State" "trie" "LPageTrie$Trie;" ∈ wsX11_best := List.mem_of_getElem? (i := 3) rfl
theorem flX11_best_84 : Cond.fieldLink RX11 84 "PageTrie$Trie" "keys" "LPageTrie$Keys;" ∈ wsX11_best := List.mem_of_getElem? (i := 4) rfl
theorem flX11_best_328 : Cond.fieldLink RX11 328 "PageTrie$Trie" "room" "I" ∈ wsX11_best := List.mem_of_getElem? (i := 5) rfl
theorem inX11_best_X10 : ∀ w ∈ u_ws RX10 TX10 9, w ∈ wsX11_best := mem_r _ [135, 136, 137, 138, 139, 140, 141, 142, 143] rfl
theorem inX11_best_X11 : ∀ w ∈ u_ws RX11 TX11 12, w ∈ wsX11_best := mem_r _ [120, 121, 122, 123, 124, 125, 126, 127, 128, 129, 130, 131] rfl
theorem inX11_best_X8 : ∀ w ∈ u_ws RX8 TX8 3, w ∈ wsX11_best := mem_r _ [132, 133, 134] rfl
theorem hvX11_best : yX11_best.cls = RX11 ∧ yX11_best.cls ≠ "java/lang/invoke/MethodHandle" ∧ yX11_best.cls ≠ "java/lang/invoke/VarHandle" ∧ (parseMethodDescriptor yX11_best.desc).map (fun d => d.parameters.length) = some 1 := by decide +kernel
set_option maxHeartbeats 4000000 in
set_option maxRecDepth 100000 in
theorem kX11_best (l : Launch) {D : va_G} {cA : Nat → ClassId} {τ : Nat → Nat} {G : Nat → Nat → Nat} {L : List Nat} (hS : SW τ G L) (σ : Nat → Nat → Int) {a0 : Nat} (h0 : τ a0 = 12) {x1 : Int} (r1 : rg x1) : Met l yX11_best wsX11_best ({ frames := 5, cells := 0, slots := 0, locals := 124 }) (jP D cA τ G L σ [.ref a0, .int (jI x1)]) (jQI D cA τ G L (fun r σ' => (True) ∧ fr wr_X11_best τ σ σ')) 0 0 (fun q => q ∈ L) := by
  refine j_metI (by decide +kernel) rfl (Nat.le_of_ble_eq_true rfl) ?_
  intro p e s m args below meth c Q hx hb hml hown hts hK hW hRet ls hl
  have hl : lv_has ls 6 [(0, .ref a0), (1, .int (jI x1))] := hl
  have hA : ∀ q ∈ L, (fun q => q ∈ L) q := fun _ h => h
  have hF : va_S (fun q => q ∈ L) s.heap s.heap [] := va_S.rf
  have hR : fr wr_X11_best τ σ σ := fr_rf
  refine lv_iload_n hx hb dX11_best_0 rfl (lv_at hl 1 rfl) ?_
  refine j_if_lt (tgt := 9) hx hb (by omega) dX11_best_1 (by decide) (fun c_1 => ?_) (fun c_1 => ?_)
  · refine j_const hx hb dX11_best_9 ?_
    exact hRet 10 _ _ _ (-1) _ dX11_best_10 hW hF (by decide) ⟨trivial, hR⟩
  · refine lv_iload_n hx hb dX11_best_4 rfl (lv_at hl 1 rfl) ?_
    refine j_const hx hb dX11_best_5 ?_
    refine j_icmp_le (tgt := 11) hx hb (by omega) (by decide) dX11_best_6 (by decide) (fun c_2 => ?_) (fun c_2 => ?_)
    · refine j_const hx hb dX11_best_11 ?_
      refine lv_istore_n (lv' := [(2, .int (jI 1)), (0, .ref a0), (1, .int (jI x1))]) hx hb dX11_best_12 rfl hl (by decide) rfl (fun ls hl => ?_)
      refine j_const hx hb dX11_best_13 ?_
      refine lv_istore_n (lv' := [(3, .int (jI (-1))), (2, .int (jI 1)), (0, .ref a0), (1, .int (jI x1))]) hx hb dX11_best_14 rfl hl (by decide) rfl (fun ls hl => ?_)
      refine j_const hx hb dX11_best_15 ?_
      refine lv_istore (lv' := [(4, .int (jI 1)), (3, .int (jI (-1))), (2, .int (jI 1)), (0, .ref a0), (1, .int (jI x1))]) hx hb dX11_best_16 hl (by decide) rfl (fun ls hl => ?_)
      have L_18 : ∀ (N : Nat) (v2_18 v3_18 v4_18 : Int) (σ_18 : Nat → Nat → Int) (H : Heap) (locs : List Loc) (ls : Array Slot), N = (2147483647 - v4_18 : Int).toNat → (1 ≤ v4_18) → (v4_18 ≤ 9) → rg v2_18 → rg v3_18 → rg v4_18 → PW D cA τ G L σ_18 H → va_S (fun q => q ∈ L) s.heap H locs → fr wr_X11_best τ σ σ_18 → lv_has ls 6 [(0, .ref a0), (1, .int (jI x1)), (2, .int (jI v2_18)), (3, .int (jI v3_18)), (4, .int (jI v4_18))] → W p l e ({ frames := 5, cells := 0, slots := 0, locals := 124 }) s m args below meth c H locs 0 0 Q (F0 m 18 ls []) := by
        intro N
        induction N using Nat.strongRecOn with
        | ind N ih_18 =>
          intro v2_18 v3_18 v4_18 σ_18 H locs ls hN i0_18 i1_18 rv2_18 rv3_18 rv4_18 hW hF hR hl
          refine lv_iload hx hb dX11_best_18 (lv_at hl 4 rfl) ?_
          refine j_bi hx hb dX11_best_20 (by decide) ?_
          refine j_icmp_gt (tgt := 86) hx hb (by omega) (by decide) dX11_best_22 (by decide) (fun c_3 => ?_) (fun c_3 => ?_)
          · refine lv_iload_n hx hb dX11_best_86 rfl (lv_at hl 1 rfl) ?_
            refine j_if_ne (tgt := 94) hx hb (by omega) dX11_best_87 (by decide) (fun c_4 => ?_) (fun c_4 => ?_)
            · refine lv_iload_n hx hb dX11_best_94 rfl (lv_at hl 3 rfl) ?_
              exact hRet 95 _ _ _ v3_18 _ dX11_best_95 hW hF (by omega) ⟨trivial, hR⟩
            · refine lv_iload_n hx hb dX11_best_90 rfl (lv_at hl 2 rfl) ?_
              refine lv_goto (tgt := 95) hx hb dX11_best_91 (by decide) ?_
              exact hRet 95 _ _ _ v2_18 _ dX11_best_95 hW hF (by omega) ⟨trivial, hR⟩
          · refine lv_aload_n hx hb dX11_best_25 rfl (lv_at hl 0 rfl) ?_
            refine j_getR hx hb (C := RX11) (T := TX11) (N := 12) hts inX11_best_X11 hown hK hS hW h0 rfl 7 rfl rfl (by decide) (hts _ flX11_best_53) dX11_best_26 ?_
            have h_5 : τ (G a0 7) = 11 := gty hS h0 (k := 7) rfl rfl
            refine lv_aload_n hx hb dX11_best_29 rfl (lv_at hl 0 rfl) ?_
            refine j_getR hx hb (C := RX11) (T := TX11) (N := 12) hts inX11_best_X11 hown hK hS hW h0 rfl 3 rfl rfl (by decide) (hts _ flX11_best_35) dX11_best_30 ?_
            have h_6 : τ (G a0 3) = 9 := gty hS h0 (k := 3) rfl rfl
            refine j_getR hx hb (C := RX8) (T := TX8) (N := 3) hts inX11_best_X8 hown hK hS hW h_6 rfl 0 rfl rfl (by decide) (hts _ flX11_best_58) dX11_best_33 ?_
            have h_7 : τ (G (G a0 3) 0) = 11 := gty hS h_6 (k := 0) rfl rfl
            refine j_getR hx hb (C := RX10) (T := TX10) (N := 9) hts inX11_best_X10 hown hK hS hW h_7 rfl 0 rfl rfl (by decide) (hts _ flX11_best_84) dX11_best_36 ?_
            have h_8 : τ (G (G (G a0 3) 0) 0) = 4 := gty hS h_7 (k := 0) rfl rfl
            refine lv_iload hx hb dX11_best_39 (lv_at hl 4 rfl) ?_
            refine lv_aload_n hx hb dX11_best_41 rfl (lv_at hl 0 rfl) ?_
            refine j_getR hx hb (C := RX11) (T := TX11) (N := 12) hts inX11_best_X11 hown hK hS hW h0 rfl 3 rfl rfl (by decide) (hts _ flX11_best_35) dX11_best_42 ?_
            refine j_getR hx hb (C := RX8) (T := TX8) (N := 3) hts inX11_best_X8 hown hK hS hW h_6 rfl 0 rfl rfl (by decide) (hts _ flX11_best_58) dX11_best_45 ?_
            refine j_getI hx hb (C := RX10) (T := TX10) (N := 9) hts inX11_best_X10 hown hK hS hW h_7 rfl 2 rfl rfl (by decide) (hts _ flX11_best_328) dX11_best_48 ?_
            have := fbd hW h_7 (k := 2) (lo := -2147483648) (hi := 2147483647) rfl rfl
            refine j_cV (j_runV (As := [.ref (G (G (G a0 3) 0) 0), .int (jI v4_18), .int (jI (σ_18 (G (G a0 3) 0) 2))]) (rest := []) hx hb hml hown hts hK hS hW (kX10_putAllOf l hS σ_18 (a0 := G a0 7) (h0 := h_5) (a1 := G (G (G a0 3) 0) 0) (h1 := h_8) (x2 := v4_18) (r2 := (by omega)) (x3 := σ_18 (G (G a0 3) 0) 2) (r3 := (by omega))) 3 gX11_best_X10_putAllOf rfl hvX10_putAllOf ⟨Nat.le_of_ble_eq_true rfl, Nat.le_of_ble_eq_true rfl⟩ rfl rfl h_5 rfl rfl rfl rfl hl.1 rfl (Nat.le_of_ble_eq_true rfl) dX11_best_51 ⟨Nat.le_of_ble_eq_true rfl, Nat.le_of_ble_eq_true rfl⟩) hA hF (fun σ_9 H locs hW hF pσ_9 => ?_)
            try dsimp only at pσ_9
            obtain ⟨pσ_9, fpσ_9⟩ := pσ_9
            have hR := fr_call hR fpσ_9 (by decide)
            refine lv_aload_n hx hb dX11_best_54 rfl (lv_at hl 0 rfl) ?_
            refine j_getR hx hb (C := RX11) (T := TX11) (N := 12) hts inX11_best_X11 hown hK hS hW h0 rfl 7 rfl rfl (by decide) (hts _ flX11_best_53) dX11_best_55 ?_
            refine j_cR (j_runV (As := []) (rest := []) hx hb hml hown hts hK hS hW (kX10_weight l hS σ_9 (a0 := G a0 7) (h0 := h_5)) 0 gX11_best_X10_weight rfl hvX10_weight ⟨Nat.le_of_ble_eq_true rfl, Nat.le_of_ble_eq_true rfl⟩ rfl rfl h_5 rfl rfl rfl rfl hl.1 rfl (Nat.le_of_ble_eq_true rfl) dX11_best_58 ⟨Nat.le_of_ble_eq_true rfl, Nat.le_of_ble_eq_true rfl⟩) (fun v_10 rv_10 pv_10 => ?_)
            try dsimp only at pv_10
            refine lv_istore (lv' := [(5, .int (jI v_10)), (0, .ref a0), (1, .int (jI x1)), (2, .int (jI v2_18)), (3, .int (jI v3_18)), (4, .int (jI v4_18))]) hx hb dX11_best_61 hl (by decide) rfl (fun ls hl => ?_)
            refine lv_iload_n hx hb dX11_best_63 rfl (lv_at hl 4 rfl) ?_
            refine j_const hx hb dX11_best_64 ?_
            refine j_icmp_eq (tgt := 74) hx hb (by omega) (by decide) dX11_best_65 (by decide) (fun c_11 => ?_) (fun c_11 => ?_)
            · refine lv_iload hx hb dX11_best_74 (lv_at hl 0 rfl) ?_
              refine lv_istore_n (lv' := [(3, .int (jI v_10)), (5, .int (jI v_10)), (0, .ref a0), (1, .int (jI x1)), (2, .int (jI v2_18)), (4, .int (jI v4_18))]) hx hb dX11_best_76 rfl hl (by decide) rfl (fun ls hl => ?_)
              refine lv_iload hx hb dX11_best_77 (lv_at hl 5 rfl) ?_
              refine lv_istore_n (lv' := [(2, .int (jI v4_18)), (3, .int (jI v_10)), (5, .int (jI v_10)), (0, .ref a0), (1, .int (jI x1)), (4, .int (jI v4_18))]) hx hb dX11_best_79 rfl hl (by decide) rfl (fun ls hl => ?_)
              refine j_iinc (lv' := [(4, .int (jI (v4_18 + 1))), (2, .int (jI v4_18)), (3, .int (jI v_10)), (5, .int (jI v_10)), (0, .ref a0), (1, .int (jI x1))]) hx hb dX11_best_80 hl (k := 5) rfl (by decide) rfl (fun ls hl => ?_)
              refine lv_goto (tgt := 18) hx hb dX11_best_83 (by decide) ?_
              exact ih_18 ((2147483647 - (v4_18 + 1) : Int).toNat) (by omega) v4_18 v_10 (v4_18 + 1) σ_9 _ _ _ rfl (by omega) (by omega) (by omega) (by omega) (by omega) hW hF hR (lv_sub hl [4, 5, 1, 2, 0] rfl)
            · refine lv_iload hx hb dX11_best_68 (lv_at hl 0 rfl) ?_
              refine lv_iload_n hx hb dX11_best_70 rfl (lv_at hl 4 rfl) ?_
              refine j_icmp_ge (tgt := 80) hx hb (by omega) (by omega) dX11_best_71 (by decide) (fun c_12 => ?_) (fun c_12 => ?_)
              · refine j_iinc (lv' := [(4, .int (jI (v4_18 + 1))), (5, .int (jI v_10)), (0, .ref a0), (1, .int (jI x1)), (2, .int (jI v2_18)), (3, .int (jI v3_18))]) hx hb dX11_best_80 hl (k := 5) rfl (by decide) rfl (fun ls hl => ?_)
                refine lv_goto (tgt := 18) hx hb dX11_best_83 (by decide) ?_
                exact ih_18 ((2147483647 - (v4_18 + 1) : Int).toNat) (by omega) v2_18 v3_18 (v4_18 + 1) σ_9 _ _ _ rfl (by omega) (by omega) (by omega) (by omega) (by omega) hW hF hR (lv_sub hl [2, 3, 4, 5, 0] rfl)
              · refine lv_iload hx hb dX11_best_74 (lv_at hl 0 rfl) ?_
                refine lv_istore_n (lv' := [(3, .int (jI v_10)), (5, .int (jI v_10)), (0, .ref a0), (1, .int (jI x1)), (2, .int (jI v2_18)), (4, .int (jI v4_18))]) hx hb dX11_best_76 rfl hl (by decide) rfl (fun ls hl => ?_)
                refine lv_iload hx hb dX11_best_77 (lv_at hl 5 rfl) ?_
                refine lv_istore_n (lv' := [(2, .int (jI v4_18)), (3, .int (jI v_10)), (5, .int (jI v_10)), (0, .ref a0), (1, .int (jI x1)), (4, .int (jI v4_18))]) hx hb dX11_best_79 rfl hl (by decide) rfl (fun ls hl => ?_)
                refine j_iinc (lv' := [(4, .int (jI (v4_18 + 1))), (2, .int (jI v4_18)), (3, .int (jI v_10)), (5, .int (jI v_10)), (0, .ref a0), (1, .int (jI x1))]) hx hb dX11_best_80 hl (k := 5) rfl (by decide) rfl (fun ls hl => ?_)
                refine lv_goto (tgt := 18) hx hb dX11_best_83 (by decide) ?_
                exact ih_18 ((2147483647 - (v4_18 + 1) : Int).toNat) (by omega) v4_18 v_10 (v4_18 + 1) σ_9 _ _ _ rfl (by omega) (by omega) (by omega) (by omega) (by omega) hW hF hR (lv_sub hl [4, 5, 1, 2, 0] rfl)
      exact L_18 ((2147483647 - 1 : Int).toNat) 1 (-1) 1 σ _ _ _ rfl (by omega) (by omega) (by decide) (by decide) (by decide) hW hF hR (lv_sub hl [3, 4, 2, 1, 0] rfl)
    · refine j_const hx hb dX11_best_9 ?_
      exact hRet 10 _ _ _ (-1) _ dX11_best_10 hW hF (by decide) ⟨trivial, hR⟩
abbrev wr_X11_keep : List Nat := [1001, 1002, 1003, 1004, 3001, 4003, 7003, 11001, 11002, 11005, 11006, 11007, 11008, 12005, 20000, 22000, 23000, 24000, 25000, 26000, 28000]
theorem flX11_keep_35 : Cond.fieldLink RX11 35 "PageTrie" "now" "LPageTrie$State;" ∈ wsX11_keep := List.mem_of_getElem? (i := 2) rfl
theorem flX11_keep_39 : Cond.fieldLink RX11 39 "PageTrie" "kept" "LPageTrie$State;" ∈ wsX11_keep := List.mem_of_getElem? (i := 1) rfl
theorem flX11_keep_42 : Cond.fieldLink RX11 42 "PageTrie" "isKept" "Z" ∈ wsX11_keep := List.mem_of_getElem? (i := 3) rfl
theorem flX11_keep_58 : Cond.fieldLink RX11 58 "PageTrie$State" "trie" "LPageTrie$Trie;" ∈ wsX11_keep := List.mem_of_getElem? (i := 4) rfl
theorem flX11_keep_84 : Cond.fieldLink RX11 84 "PageTrie$Trie" "keys" "LPageTrie$Keys;" ∈ wsX11_keep := List.mem_of_getElem? (i := 5) rfl
theorem flX11_keep_240 : Cond.fieldLink RX11 240 "PageTrie$Keys" "size" "I" ∈ wsX11_keep := List.mem_of_getElem? (i := 6) rfl
theorem inX11_keep_X10 : ∀ w ∈ u_ws RX10 TX10 9, w ∈ wsX11_keep := mem_r _ [87, 88, 89, 90, 91, 92, 93, 94, 95] rfl
theorem inX11_keep_X11 : ∀ w ∈ u_ws RX11 TX11 12, w ∈ wsX11_keep := mem_r _ [72, 73, 74, 75, 76, 77, 78, 79, 80, 81, 82, 83] rfl
theorem inX11_keep_X3 : ∀ w ∈ u_ws RX3 TX3 4, w ∈ wsX11_keep := mem_r _ [96, 97, 98, 99] rfl
theorem inX11_keep_X8 : ∀ w ∈ u_ws RX8 TX8 3, w ∈ wsX11_keep := mem_r _ [84, 85, 86] rfl
theorem hvX11_keep : yX11_keep.cls = RX11 ∧ yX11_keep.cls ≠ "java/lang/invoke/MethodHandle" ∧ yX11_keep.cls ≠ "java/lang/invoke/VarHandle" ∧ (parseMethodDescriptor yX11_keep.desc).map (fun d => d.parameters.length) = some 0 := by decide +kernel
set_option maxHeartbeats 4000000 in
set_option maxRecDepth 100000 in
theorem kX11_keep (l : Launch) {D : va_G} {cA : Nat → ClassId} {τ : Nat → Nat} {G : Nat → Nat → Nat} {L : List Nat} (hS : SW τ G L) (σ : Nat → Nat → Int) {a0 : Nat} (h0 : τ a0 = 12) : Met l yX11_keep wsX11_keep ({ frames := 4, cells := 0, slots := 0, locals := 105 }) (jP D cA τ G L σ [.ref a0]) (jQI D cA τ G L (fun r σ' => ((σ' a0 5 = 1)) ∧ fr wr_X11_keep τ σ σ')) 0 0 (fun q => q ∈ L) := by
  refine j_metI (by decide +kernel) rfl (Nat.le_of_ble_eq_true rfl) ?_
  intro p e s m args below meth c Q hx hb hml hown hts hK hW hRet ls hl
  have hl : lv_has ls 1 [(0, .ref a0)] := hl
  have hA : ∀ q ∈ L, (fun q => q ∈ L) q := fun _ h => h
  have hF : va_S (fun q => q ∈ L) s.heap s.heap [] := va_S.rf
  have hR : fr wr_X11_keep τ σ σ := fr_rf
  refine lv_aload_n hx hb dX11_keep_0 rfl (lv_at hl 0 rfl) ?_
  refine j_getR hx hb (C := RX11) (T := TX11) (N := 12) hts inX11_keep_X11 hown hK hS hW h0 rfl 4 rfl rfl (by decide) (hts _ flX11_keep_39) dX11_keep_1 ?_
  have h_1 : τ (G a0 4) = 9 := gty hS h0 (k := 4) rfl rfl
  refine lv_aload_n hx hb dX11_keep_4 rfl (lv_at hl 0 rfl) ?_
  refine j_getR hx hb (C := RX11) (T := TX11) (N := 12) hts inX11_keep_X11 hown hK hS hW h0 rfl 3 rfl rfl (by decide) (hts _ flX11_keep_35) dX11_keep_5 ?_
  have h_2 : τ (G a0 3) = 9 := gty hS h0 (k := 3) rfl rfl
  refine j_cV (j_runV (As := [.ref (G a0 3)]) (rest := []) hx hb hml hown hts hK hS hW (kX8_copyFrom l hS σ (a0 := G a0 4) (h0 := h_1) (a1 := G a0 3) (h1 := h_2)) 1 gX11_keep_X8_copyFrom rfl hvX8_copyFrom ⟨Nat.le_of_ble_eq_true rfl, Nat.le_of_ble_eq_true rfl⟩ rfl rfl h_1 rfl rfl rfl rfl hl.1 rfl (Nat.le_of_ble_eq_true rfl) dX11_keep_8 ⟨Nat.le_of_ble_eq_true rfl, Nat.le_of_ble_eq_true rfl⟩) hA hF (fun σ_3 H locs hW hF pσ_3 => ?_)
  try dsimp only at pσ_3
  obtain ⟨pσ_3, fpσ_3⟩ := pσ_3
  have hR := fr_call hR fpσ_3 (by decide)
  refine lv_aload_n hx hb dX11_keep_11 rfl (lv_at hl 0 rfl) ?_
  refine j_const hx hb dX11_keep_12 ?_
  refine j_putI hx hb (C := RX11) (T := TX11) (N := 12) hts inX11_keep_X11 tyX11 tyX11_ok nmX11 hown hK hS hA hW hF h0 rfl 5 (lo := 0) (hi := 1) rfl rfl (by decide) (hts _ flX11_keep_42) rfl .boolean rfl (by omega) (nar01 (by omega)) (fit01 (by omega)) dX11_keep_13 (fun σ_4 H locs e_5 hW hF => ?_)
  have hR := fr_up hR e_5 h0 12005 rfl (by decide)
  have : σ_4 a0 5 = 1 := by rw [e_5]; exact up2_at _ _ _ _
  refine lv_aload_n hx hb dX11_keep_16 rfl (lv_at hl 0 rfl) ?_
  refine j_getR hx hb (C := RX11) (T := TX11) (N := 12) hts inX11_keep_X11 hown hK hS hW h0 rfl 3 rfl rfl (by decide) (hts _ flX11_keep_35) dX11_keep_17 ?_
  refine j_getR hx hb (C := RX8) (T := TX8) (N := 3) hts inX11_keep_X8 hown hK hS hW h_2 rfl 0 rfl rfl (by decide) (hts _ flX11_keep_58) dX11_keep_20 ?_
  have h_6 : τ (G (G a0 3) 0) = 11 := gty hS h_2 (k := 0) rfl rfl
  refine j_getR hx hb (C := RX10) (T := TX10) (N := 9) hts inX11_keep_X10 hown hK hS hW h_6 rfl 0 rfl rfl (by decide) (hts _ flX11_keep_84) dX11_keep_23 ?_
  have h_7 : τ (G (G (G a0 3) 0) 0) = 4 := gty hS h_6 (k := 0) rfl rfl
  refine j_getI hx hb (C := RX3) (T := TX3) (N := 4) hts inX11_keep_X3 hown hK hS hW h_7 rfl 3 rfl rfl (by decide) (hts _ flX11_keep_240) dX11_keep_26 ?_
  have := fbd hW h_7 (k := 3) (lo := 0) (hi := 150) rfl rfl
  exact hRet 29 _ _ _ (σ_4 (G (G (G a0 3) 0) 0) 3) _ dX11_keep_29 hW hF (by omega) ⟨(by omega), hR⟩
abbrev wr_X11_undo : List Nat := [1001, 1002, 1003, 1004, 3001, 4003, 7003, 11001, 11002, 11005, 11006, 11007, 11008, 20000, 22000, 23000, 24000, 25000, 26000, 28000]
theorem flX11_undo_35 : Cond.fieldLink RX11 35 "PageTrie" "now" "LPageTrie$State;" ∈ wsX11_undo := List.mem_of_getElem? (i := 2) rfl
theorem flX11_undo_39 : Cond.fieldLink RX11 39 "PageTrie" "kept" "LPageTrie$State;" ∈ wsX11_undo := List.mem_of_getElem? (i := 3) rfl
theorem flX11_undo_42 : Cond.fieldLink RX11 42 "PageTrie" "isKept" "Z" ∈ wsX11_undo := List.mem_of_getElem? (i := 1) rfl
theorem inX11_undo_X11 : ∀ w ∈ u_ws RX11 TX11 12, w ∈ wsX11_undo := mem_r _ [69, 70, 71, 72, 73, 74, 75, 76, 77, 78, 79, 80] rfl
theorem hvX11_undo : yX11_undo.cls = RX11 ∧ yX11_undo.cls ≠ "java/lang/invoke/MethodHandle" ∧ yX11_undo.cls ≠ "java/lang/invoke/VarHandle" ∧ (parseMethodDescriptor yX11_undo.desc).map (fun d => d.parameters.length) = some 0 := by decide +kernel
set_option maxHeartbeats 4000000 in
set_option maxRecDepth 100000 in
theorem kX11_undo (l : Launch) {D : va_G} {cA : Nat → ClassId} {τ : Nat → Nat} {G : Nat → Nat → Nat} {L : List Nat} (hS : SW τ G L) (σ : Nat → Nat → Int) {a0 : Nat} (h0 : τ a0 = 12) : Met l yX11_undo wsX11_undo ({ frames := 4, cells := 0, slots := 0, locals := 105 }) (jP D cA τ G L σ [.ref a0]) (jQI D cA τ G L (fun r σ' => (0 ≤ r ∧ r ≤ 1) ∧ (((r = σ a0 5)) ∧ fr wr_X11_undo τ σ σ'))) 0 0 (fun q => q ∈ L) := by
  refine j_metZ (by decide +kernel) rfl (Nat.le_of_ble_eq_true rfl) ?_
  intro p e s m args below meth c Q hx hb hml hown hts hK hW hRet ls hl
  have hl : lv_has ls 1 [(0, .ref a0)] := hl
  have hA : ∀ q ∈ L, (fun q => q ∈ L) q := fun _ h => h
  have hF : va_S (fun q => q ∈ L) s.heap s.heap [] := va_S.rf
  have hR : fr wr_X11_undo τ σ σ := fr_rf
  refine lv_aload_n hx hb dX11_undo_0 rfl (lv_at hl 0 rfl) ?_
  refine j_getI hx hb (C := RX11) (T := TX11) (N := 12) hts inX11_undo_X11 hown hK hS hW h0 rfl 5 rfl rfl (by decide) (hts _ flX11_undo_42) dX11_undo_1 ?_
  have := fbd hW h0 (k := 5) (lo := 0) (hi := 1) rfl rfl
  refine j_if_ne (tgt := 9) hx hb (by omega) dX11_undo_4 (by decide) (fun c_1 => ?_) (fun c_1 => ?_)
  · refine lv_aload_n hx hb dX11_undo_9 rfl (lv_at hl 0 rfl) ?_
    refine j_getR hx hb (C := RX11) (T := TX11) (N := 12) hts inX11_undo_X11 hown hK hS hW h0 rfl 3 rfl rfl (by decide) (hts _ flX11_undo_35) dX11_undo_10 ?_
    have h_2 : τ (G a0 3) = 9 := gty hS h0 (k := 3) rfl rfl
    refine lv_aload_n hx hb dX11_undo_13 rfl (lv_at hl 0 rfl) ?_
    refine j_getR hx hb (C := RX11) (T := TX11) (N := 12) hts inX11_undo_X11 hown hK hS hW h0 rfl 4 rfl rfl (by decide) (hts _ flX11_undo_39) dX11_undo_14 ?_
    have h_3 : τ (G a0 4) = 9 := gty hS h0 (k := 4) rfl rfl
    refine j_cV (j_runV (As := [.ref (G a0 4)]) (rest := []) hx hb hml hown hts hK hS hW (kX8_copyFrom l hS σ (a0 := G a0 3) (h0 := h_2) (a1 := G a0 4) (h1 := h_3)) 1 gX11_undo_X8_copyFrom rfl hvX8_copyFrom ⟨Nat.le_of_ble_eq_true rfl, Nat.le_of_ble_eq_true rfl⟩ rfl rfl h_2 rfl rfl rfl rfl hl.1 rfl (Nat.le_of_ble_eq_true rfl) dX11_undo_17 ⟨Nat.le_of_ble_eq_true rfl, Nat.le_of_ble_eq_true rfl⟩) hA hF (fun σ_4 H locs hW hF pσ_4 => ?_)
    try dsimp only at pσ_4
    obtain ⟨pσ_4, fpσ_4⟩ := pσ_4
    have hR := fr_call hR fpσ_4 (by decide)
    refine j_const hx hb dX11_undo_20 ?_
    exact hRet 21 _ _ _ 1 _ dX11_undo_21 hW hF (by omega) ⟨(by omega), hR⟩
  · refine j_const hx hb dX11_undo_7 ?_
    exact hRet 8 _ _ _ 0 _ dX11_undo_8 hW hF (by omega) ⟨(by omega), hR⟩
theorem flX11_unlike_35 : Cond.fieldLink RX11 35 "PageTrie" "now" "LPageTrie$State;" ∈ wsX11_unlike := List.mem_of_getElem? (i := 5) rfl
theorem flX11_unlike_39 : Cond.fieldLink RX11 39 "PageTrie" "kept" "LPageTrie$State;" ∈ wsX11_unlike := List.mem_of_getElem? (i := 2) rfl
theorem flX11_unlike_42 : Cond.fieldLink RX11 42 "PageTrie" "isKept" "Z" ∈ wsX11_unlike := List.mem_of_getElem? (i := 1) rfl
theorem flX11_unlike_58 : Cond.fieldLink RX11 58 "PageTrie$State" "trie" "LPageTrie$Trie;" ∈ wsX11_unlike := List.mem_of_getElem? (i := 3) rfl
theorem flX11_unlike_84 : Cond.fieldLink RX11 84 "PageTrie$Trie" "keys" "LPageTrie$Keys;" ∈ wsX11_unlike := List.mem_of_getElem? (i := 4) rfl
theorem inX11_unlike_X10 : ∀ w ∈ u_ws RX10 TX10 9, w ∈ wsX11_unlike := mem_r _ [58, 59, 60, 61, 62, 63, 64, 65, 66] rfl
theorem inX11_unlike_X11 : ∀ w ∈ u_ws RX11 TX11 12, w ∈ wsX11_unlike := mem_r _ [43, 44, 45, 46, 47, 48, 49, 50, 51, 52, 53, 54] rfl
theorem inX11_unlike_X8 : ∀ w ∈ u_ws RX8 TX8 3, w ∈ wsX11_unlike := mem_r _ [55, 56, 57] rfl
theorem hvX11_unlike : yX11_unlike.cls = RX11 ∧ yX11_unlike.cls ≠ "java/lang/invoke/MethodHandle" ∧ yX11_unlike.cls ≠ "java/lang/invoke/VarHandle" ∧ (parseMethodDescriptor yX11_unlike.desc).map (fun d => d.parameters.length) = some 1 := by decide +kernel
set_option maxHeartbeats 4000000 in
set_option maxRecDepth 100000 in
theorem kX11_unlike (l : Launch) {D : va_G} {cA : Nat → ClassId} {τ : Nat → Nat} {G : Nat → Nat → Nat} {L : List Nat} (hS : SW τ G L) (σ : Nat → Nat → Int) {a0 : Nat} (h0 : τ a0 = 12) {x1 : Int} (r1 : rg x1) : Met l yX11_unlike wsX11_unlike ({ frames := 4, cells := 0, slots := 0, locals := 97 }) (jP D cA τ G L σ [.ref a0, .int (jI x1)]) (jQR (fun r => True)) 0 0 (fun _ => False) := by
  refine j_metR (by decide +kernel) rfl (Nat.le_of_ble_eq_true rfl) ?_
  intro p e s m args below meth c Q hx hb hml hown hts hK hW hRet ls hl
  have hl : lv_has ls 4 [(0, .ref a0), (1, .int (jI x1))] := hl
  refine lv_iload_n hx hb dX11_unlike_0 rfl (lv_at hl 1 rfl) ?_
  refine j_if_lt (tgt := 9) hx hb (by omega) dX11_unlike_1 (by decide) (fun c_1 => ?_) (fun c_1 => ?_)
  · refine j_const hx hb dX11_unlike_9 ?_
    exact hRet 10 _ (-1) dX11_unlike_10 (by decide) trivial
  · refine lv_iload_n hx hb dX11_unlike_4 rfl (lv_at hl 1 rfl) ?_
    refine j_const hx hb dX11_unlike_5 ?_
    refine j_icmp_le (tgt := 11) hx hb (by omega) (by decide) dX11_unlike_6 (by decide) (fun c_2 => ?_) (fun c_2 => ?_)
    · refine lv_aload_n hx hb dX11_unlike_11 rfl (lv_at hl 0 rfl) ?_
      refine j_getI hx hb (C := RX11) (T := TX11) (N := 12) hts inX11_unlike_X11 hown hK hS hW h0 rfl 5 rfl rfl (by decide) (hts _ flX11_unlike_42) dX11_unlike_12 ?_
      have := fbd hW h0 (k := 5) (lo := 0) (hi := 1) rfl rfl
      refine j_if_ne (tgt := 21) hx hb (by omega) dX11_unlike_15 (by decide) (fun c_3 => ?_) (fun c_3 => ?_)
      · refine lv_aload_n hx hb dX11_unlike_21 rfl (lv_at hl 0 rfl) ?_
        refine j_getR hx hb (C := RX11) (T := TX11) (N := 12) hts inX11_unlike_X11 hown hK hS hW h0 rfl 4 rfl rfl (by decide) (hts _ flX11_unlike_39) dX11_unlike_22 ?_
        have h_4 : τ (G a0 4) = 9 := gty hS h0 (k := 4) rfl rfl
        refine j_getR hx hb (C := RX8) (T := TX8) (N := 3) hts inX11_unlike_X8 hown hK hS hW h_4 rfl 0 rfl rfl (by decide) (hts _ flX11_unlike_58) dX11_unlike_25 ?_
        have h_5 : τ (G (G a0 4) 0) = 11 := gty hS h_4 (k := 0) rfl rfl
        refine j_getR hx hb (C := RX10) (T := TX10) (N := 9) hts inX11_unlike_X10 hown hK hS hW h_5 rfl 0 rfl rfl (by decide) (hts _ flX11_unlike_84) dX11_unlike_28 ?_
        have h_6 : τ (G (G (G a0 4) 0) 0) = 4 := gty hS h_5 (k := 0) rfl rfl
        refine lv_astore_n (lv' := [(2, .ref (G (G (G a0 4) 0) 0)), (0, .ref a0), (1, .int (jI x1))]) hx hb dX11_unlike_31 rfl hl (by decide) rfl (fun ls hl => ?_)
        refine lv_aload_n hx hb dX11_unlike_32 rfl (lv_at hl 1 rfl) ?_
        refine j_getR hx hb (C := RX11) (T := TX11) (N := 12) hts inX11_unlike_X11 hown hK hS hW h0 rfl 3 rfl rfl (by decide) (hts _ flX11_unlike_35) dX11_unlike_33 ?_
        have h_7 : τ (G a0 3) = 9 := gty hS h0 (k := 3) rfl rfl
        refine j_getR hx hb (C := RX8) (T := TX8) (N := 3) hts inX11_unlike_X8 hown hK hS hW h_7 rfl 0 rfl rfl (by decide) (hts _ flX11_unlike_58) dX11_unlike_36 ?_
        have h_8 : τ (G (G a0 3) 0) = 11 := gty hS h_7 (k := 0) rfl rfl
        refine j_getR hx hb (C := RX10) (T := TX10) (N := 9) hts inX11_unlike_X10 hown hK hS hW h_8 rfl 0 rfl rfl (by decide) (hts _ flX11_unlike_84) dX11_unlike_39 ?_
        have h_9 : τ (G (G (G a0 3) 0) 0) = 4 := gty hS h_8 (k := 0) rfl rfl
        refine lv_astore_n (lv' := [(3, .ref (G (G (G a0 3) 0) 0)), (2, .ref (G (G (G a0 4) 0) 0)), (0, .ref a0), (1, .int (jI x1))]) hx hb dX11_unlike_42 rfl hl (by decide) rfl (fun ls hl => ?_)
        refine lv_iload_n hx hb dX11_unlike_43 rfl (lv_at hl 3 rfl) ?_
        have hrc_10 : rg x1 := by omega
        by_cases c_10_0 : x1 = 0
        · refine lv_lookup (tgt := 72) (off := 28) hx hb dX11_unlike_44 (by decide) (by rw [jI_toInt hrc_10, c_10_0]; decide) (by decide) ?_
          refine lv_aload_n hx hb dX11_unlike_72 rfl (lv_at hl 0 rfl) ?_
          refine lv_aload_n hx hb dX11_unlike_73 rfl (lv_at hl 1 rfl) ?_
          refine j_cR (j_runV (As := [.ref (G (G (G a0 4) 0) 0)]) (rest := []) hx hb hml hown hts hK hS hW (kX3_missingIn l hS σ (a0 := G (G (G a0 3) 0) 0) (h0 := h_9) (a1 := G (G (G a0 4) 0) 0) (h1 := h_6)) 1 gX11_unlike_X3_missingIn rfl hvX3_missingIn ⟨Nat.le_of_ble_eq_true rfl, Nat.le_of_ble_eq_true rfl⟩ rfl rfl h_9 rfl rfl rfl rfl hl.1 rfl (Nat.le_of_ble_eq_true rfl) dX11_unlike_74 ⟨Nat.le_of_ble_eq_true rfl, Nat.le_of_ble_eq_true rfl⟩) (fun v_11 rv_11 pv_11 => ?_)
          try dsimp only at pv_11
          exact hRet 77 _ v_11 dX11_unlike_77 (by omega) trivial
        by_cases c_10_1 : x1 = 1
        · refine lv_lookup (tgt := 78) (off := 34) hx hb dX11_unlike_44 (by decide) (by rw [jI_toInt hrc_10, c_10_1]; decide) (by decide) ?_
          refine lv_aload_n hx hb dX11_unlike_78 rfl (lv_at hl 1 rfl) ?_
          refine lv_aload_n hx hb dX11_unlike_79 rfl (lv_at hl 0 rfl) ?_
          refine j_cR (j_runV (As := [.ref (G (G (G a0 3) 0) 0)]) (rest := []) hx hb hml hown hts hK hS hW (kX3_missingIn l hS σ (a0 := G (G (G a0 4) 0) 0) (h0 := h_6) (a1 := G (G (G a0 3) 0) 0) (h1 := h_9)) 1 gX11_unlike_X3_missingIn rfl hvX3_missingIn ⟨Nat.le_of_ble_eq_true rfl, Nat.le_of_ble_eq_true rfl⟩ rfl rfl h_6 rfl rfl rfl rfl hl.1 rfl (Nat.le_of_ble_eq_true rfl) dX11_unlike_80 ⟨Nat.le_of_ble_eq_true rfl, Nat.le_of_ble_eq_true rfl⟩) (fun v_12 rv_12 pv_12 => ?_)
          try dsimp only at pv_12
          exact hRet 83 _ v_12 dX11_unlike_83 (by omega) trivial
        refine lv_lookup (tgt := 84) (off := 40) hx hb dX11_unlike_44 (by decide) (by rw [jI_toInt hrc_10]; simp [Op.lookupswitch.offset, Ne.symm c_10_0, Ne.symm c_10_1]) (by decide) ?_
        refine lv_aload_n hx hb dX11_unlike_84 rfl (lv_at hl 0 rfl) ?_
        refine lv_aload_n hx hb dX11_unlike_85 rfl (lv_at hl 1 rfl) ?_
        refine j_cR (j_runV (As := [.ref (G (G (G a0 4) 0) 0)]) (rest := []) hx hb hml hown hts hK hS hW (kX3_otherValuesIn l hS σ (a0 := G (G (G a0 3) 0) 0) (h0 := h_9) (a1 := G (G (G a0 4) 0) 0) (h1 := h_6)) 1 gX11_unlike_X3_otherValuesIn rfl hvX3_otherValuesIn ⟨Nat.le_of_ble_eq_true rfl, Nat.le_of_ble_eq_true rfl⟩ rfl rfl h_9 rfl rfl rfl rfl hl.1 rfl (Nat.le_of_ble_eq_true rfl) dX11_unlike_86 ⟨Nat.le_of_ble_eq_true rfl, Nat.le_of_ble_eq_true rfl⟩) (fun v_13 rv_13 pv_13 => ?_)
        try dsimp only at pv_13
        exact hRet 89 _ v_13 dX11_unlike_89 (by omega) trivial
      · refine j_bi hx hb dX11_unlike_18 (by decide) ?_
        exact hRet 20 _ (-2) dX11_unlike_20 (by decide) trivial
    · refine j_const hx hb dX11_unlike_9 ?_
      exact hRet 10 _ (-1) dX11_unlike_10 (by decide) trivial
abbrev wr_X11_check : List Nat := [10001]
theorem flX11_check_10 : Cond.fieldLink RX11 10 "PageTrie" "tape" "LPageTrie$Tape;" ∈ wsX11_check := List.mem_of_getElem? (i := 4) rfl
theorem flX11_check_35 : Cond.fieldLink RX11 35 "PageTrie" "now" "LPageTrie$State;" ∈ wsX11_check := List.mem_of_getElem? (i := 1) rfl
theorem flX11_check_58 : Cond.fieldLink RX11 58 "PageTrie$State" "trie" "LPageTrie$Trie;" ∈ wsX11_check := List.mem_of_getElem? (i := 2) rfl
theorem flX11_check_84 : Cond.fieldLink RX11 84 "PageTrie$Trie" "keys" "LPageTrie$Keys;" ∈ wsX11_check := List.mem_of_getElem? (i := 3) rfl
theorem inX11_check_X10 : ∀ w ∈ u_ws RX10 TX10 9, w ∈ wsX11_check := mem_r _ [49, 50, 51, 52, 53, 54, 55, 56, 57] rfl
theorem inX11_check_X11 : ∀ w ∈ u_ws RX11 TX11 12, w ∈ wsX11_check := mem_r _ [34, 35, 36, 37, 38, 39, 40, 41, 42, 43, 44, 45] rfl
theorem inX11_check_X8 : ∀ w ∈ u_ws RX8 TX8 3, w ∈ wsX11_check := mem_r _ [46, 47, 48] rfl
theorem hvX11_check : yX11_check.cls = RX11 ∧ yX11_check.cls ≠ "java/lang/invoke/MethodHandle" ∧ yX11_check.cls ≠ "java/lang/invoke/VarHandle" ∧ (parseMethodDescriptor yX11_check.desc).map (fun d => d.parameters.length) = some 1 := by decide +kernel
set_option maxHeartbeats 4000000 in
set_option maxRecDepth 100000 in
theorem kX11_check (l : Launch) {D : va_G} {cA : Nat → ClassId} {τ : Nat → Nat} {G : Nat → Nat → Nat} {L : List Nat} (hS : SW τ G L) (σ : Nat → Nat → Int) {a0 : Nat} (h0 : τ a0 = 12) {x1 : Int} (r1 : rg x1) : Met l yX11_check wsX11_check ({ frames := 1, cells := 0, slots := 0, locals := 23 }) (jP D cA τ G L σ [.ref a0, .int (jI x1)]) (jQI D cA τ G L (fun r σ' => (True) ∧ fr wr_X11_check τ σ σ')) 0 0 (fun q => q ∈ L) := by
  refine j_metI (by decide +kernel) rfl (Nat.le_of_ble_eq_true rfl) ?_
  intro p e s m args below meth c Q hx hb hml hown hts hK hW hRet ls hl
  have hl : lv_has ls 4 [(0, .ref a0), (1, .int (jI x1))] := hl
  have hA : ∀ q ∈ L, (fun q => q ∈ L) q := fun _ h => h
  have hF : va_S (fun q => q ∈ L) s.heap s.heap [] := va_S.rf
  have hR : fr wr_X11_check τ σ σ := fr_rf
  refine lv_aload_n hx hb dX11_check_0 rfl (lv_at hl 0 rfl) ?_
  refine lv_iload_n hx hb dX11_check_1 rfl (lv_at hl 1 rfl) ?_
  refine j_const hx hb dX11_check_2 ?_
  refine j_bi hx hb dX11_check_3 (by decide) ?_
  refine j_cR (j_runV (As := [.int (jI x1), .int (jI 0), .int (jI 24)]) (rest := []) hx hb hml hown hts hK hS hW (kX11_isTextTold l hS σ (a0 := a0) (h0 := h0) (x1 := x1) (r1 := (by omega)) (x2 := 0) (r2 := (by decide)) (x3 := 24) (r3 := (by decide))) 3 gX11_check_X11_isTextTold rfl hvX11_isTextTold ⟨Nat.le_of_ble_eq_true rfl, Nat.le_of_ble_eq_true rfl⟩ rfl rfl h0 rfl rfl rfl rfl hl.1 rfl (Nat.le_of_ble_eq_true rfl) dX11_check_5 ⟨Nat.le_of_ble_eq_true rfl, Nat.le_of_ble_eq_true rfl⟩) (fun v_1 rv_1 pv_1 => ?_)
  try dsimp only at pv_1
  refine j_if_ne (tgt := 14) hx hb (by omega) dX11_check_8 (by decide) (fun c_2 => ?_) (fun c_2 => ?_)
  · refine lv_aload_n hx hb dX11_check_14 rfl (lv_at hl 0 rfl) ?_
    refine j_getR hx hb (C := RX11) (T := TX11) (N := 12) hts inX11_check_X11 hown hK hS hW h0 rfl 3 rfl rfl (by decide) (hts _ flX11_check_35) dX11_check_15 ?_
    have h_3 : τ (G a0 3) = 9 := gty hS h0 (k := 3) rfl rfl
    refine j_getR hx hb (C := RX8) (T := TX8) (N := 3) hts inX11_check_X8 hown hK hS hW h_3 rfl 0 rfl rfl (by decide) (hts _ flX11_check_58) dX11_check_18 ?_
    have h_4 : τ (G (G a0 3) 0) = 11 := gty hS h_3 (k := 0) rfl rfl
    refine j_getR hx hb (C := RX10) (T := TX10) (N := 9) hts inX11_check_X10 hown hK hS hW h_4 rfl 0 rfl rfl (by decide) (hts _ flX11_check_84) dX11_check_21 ?_
    have h_5 : τ (G (G (G a0 3) 0) 0) = 4 := gty hS h_4 (k := 0) rfl rfl
    refine lv_astore_n (lv' := [(2, .ref (G (G (G a0 3) 0) 0)), (0, .ref a0), (1, .int (jI x1))]) hx hb dX11_check_24 rfl hl (by decide) rfl (fun ls hl => ?_)
    refine j_const hx hb dX11_check_25 ?_
    refine lv_istore_n (lv' := [(3, .int (jI 0)), (2, .ref (G (G (G a0 3) 0) 0)), (0, .ref a0), (1, .int (jI x1))]) hx hb dX11_check_26 rfl hl (by decide) rfl (fun ls hl => ?_)
    have L_27 : ∀ (N : Nat) (v3_27 : Int) (ls : Array Slot), N = (2147483647 - v3_27 : Int).toNat → (0 ≤ v3_27) → rg v3_27 → lv_has ls 4 [(0, .ref a0), (1, .int (jI x1)), (2, .ref (G (G (G a0 3) 0) 0)), (3, .int (jI v3_27))] → W p l e ({ frames := 1, cells := 0, slots := 0, locals := 23 }) s m args below meth c s.heap [] 0 0 Q (F0 m 27 ls []) := by
      intro N
      induction N using Nat.strongRecOn with
      | ind N ih_27 =>
        intro v3_27 ls hN i0_27 rv3_27 hl
        refine lv_iload_n hx hb dX11_check_27 rfl (lv_at hl 3 rfl) ?_
        refine lv_iload_n hx hb dX11_check_28 rfl (lv_at hl 1 rfl) ?_
        refine j_icmp_ge (tgt := 73) hx hb (by omega) (by omega) dX11_check_29 (by decide) (fun c_6 => ?_) (fun c_6 => ?_)
        · refine j_const hx hb dX11_check_73 ?_
          exact hRet 74 _ _ _ (-1) _ dX11_check_74 hW hF (by decide) ⟨trivial, hR⟩
        · refine lv_iload_n hx hb dX11_check_32 rfl (lv_at hl 3 rfl) ?_
          refine lv_aload_n hx hb dX11_check_33 rfl (lv_at hl 2 rfl) ?_
          refine j_const hx hb dX11_check_34 ?_
          refine j_cR (j_runV (As := [.int (jI 0)]) (rest := [.int (jI v3_27)]) hx hb hml hown hts hK hS hW (kX3_lengthOf l hS σ (a0 := G (G (G a0 3) 0) 0) (h0 := h_5) (x1 := 0) (r1 := (by decide))) 1 gX11_check_X3_lengthOf rfl hvX3_lengthOf ⟨Nat.le_of_ble_eq_true rfl, Nat.le_of_ble_eq_true rfl⟩ rfl rfl h_5 rfl rfl rfl rfl hl.1 rfl (Nat.le_of_ble_eq_true rfl) dX11_check_35 ⟨Nat.le_of_ble_eq_true rfl, Nat.le_of_ble_eq_true rfl⟩) (fun v_7 rv_7 pv_7 => ?_)
          try dsimp only at pv_7
          refine j_icmp_ge (tgt := 58) hx hb (by omega) (by omega) dX11_check_38 (by decide) (fun c_8 => ?_) (fun c_8 => ?_)
          · refine lv_aload_n hx hb dX11_check_58 rfl (lv_at hl 0 rfl) ?_
            refine j_getR hx hb (C := RX11) (T := TX11) (N := 12) hts inX11_check_X11 hown hK hS hW h0 rfl 0 rfl rfl (by decide) (hts _ flX11_check_10) dX11_check_59 ?_
            have h_9 : τ (G a0 0) = 10 := gty hS h0 (k := 0) rfl rfl
            refine j_cV (j_runV (As := []) (rest := []) hx hb hml hown hts hK hS hW (kX9_clear l hS σ (a0 := G a0 0) (h0 := h_9)) 0 gX11_check_X9_clear rfl hvX9_clear ⟨Nat.le_of_ble_eq_true rfl, Nat.le_of_ble_eq_true rfl⟩ rfl rfl h_9 rfl rfl rfl rfl hl.1 rfl (Nat.le_of_ble_eq_true rfl) dX11_check_62 ⟨Nat.le_of_ble_eq_true rfl, Nat.le_of_ble_eq_true rfl⟩) hA hF (fun σ_10 H locs hW hF pσ_10 => ?_)
            try dsimp only at pσ_10
            obtain ⟨pσ_10, fpσ_10⟩ := pσ_10
            have hR := fr_call hR fpσ_10 (by decide)
            refine lv_iload_n hx hb dX11_check_65 rfl (lv_at hl 3 rfl) ?_
            exact hRet 66 _ _ _ v3_27 _ dX11_check_66 hW hF (by omega) ⟨trivial, hR⟩
          · refine lv_aload_n hx hb dX11_check_41 rfl (lv_at hl 2 rfl) ?_
            refine j_const hx hb dX11_check_42 ?_
            refine lv_iload_n hx hb dX11_check_43 rfl (lv_at hl 3 rfl) ?_
            refine j_cR (j_runV (As := [.int (jI 0), .int (jI v3_27)]) (rest := []) hx hb hml hown hts hK hS hW (kX3_byteOf l hS σ (a0 := G (G (G a0 3) 0) 0) (h0 := h_5) (x1 := 0) (r1 := (by decide)) (x2 := v3_27) (r2 := (by omega))) 2 gX11_check_X3_byteOf rfl hvX3_byteOf ⟨Nat.le_of_ble_eq_true rfl, Nat.le_of_ble_eq_true rfl⟩ rfl rfl h_5 rfl rfl rfl rfl hl.1 rfl (Nat.le_of_ble_eq_true rfl) dX11_check_44 ⟨Nat.le_of_ble_eq_true rfl, Nat.le_of_ble_eq_true rfl⟩) (fun v_11 rv_11 pv_11 => ?_)
            try dsimp only at pv_11
            refine lv_aload_n hx hb dX11_check_47 rfl (lv_at hl 0 rfl) ?_
            refine j_getR hx hb (C := RX11) (T := TX11) (N := 12) hts inX11_check_X11 hown hK hS hW h0 rfl 0 rfl rfl (by decide) (hts _ flX11_check_10) dX11_check_48 ?_
            have h_12 : τ (G a0 0) = 10 := gty hS h0 (k := 0) rfl rfl
            refine lv_iload_n hx hb dX11_check_51 rfl (lv_at hl 3 rfl) ?_
            refine j_cR (j_runV (As := [.int (jI v3_27)]) (rest := [.int (jI v_11)]) hx hb hml hown hts hK hS hW (kX9_byteAt l hS σ (a0 := G a0 0) (h0 := h_12) (x1 := v3_27) (r1 := (by omega))) 1 gX11_check_X9_byteAt rfl hvX9_byteAt ⟨Nat.le_of_ble_eq_true rfl, Nat.le_of_ble_eq_true rfl⟩ rfl rfl h_12 rfl rfl rfl rfl hl.1 rfl (Nat.le_of_ble_eq_true rfl) dX11_check_52 ⟨Nat.le_of_ble_eq_true rfl, Nat.le_of_ble_eq_true rfl⟩) (fun v_13 rv_13 pv_13 => ?_)
            try dsimp only at pv_13
            refine j_icmp_eq (tgt := 67) hx hb (by omega) (by omega) dX11_check_55 (by decide) (fun c_14 => ?_) (fun c_14 => ?_)
            · refine j_iinc (lv' := [(3, .int (jI (v3_27 + 1))), (0, .ref a0), (1, .int (jI x1)), (2, .ref (G (G (G a0 3) 0) 0))]) hx hb dX11_check_67 hl (k := 3) rfl (by decide) rfl (fun ls hl => ?_)
              refine lv_goto (tgt := 27) hx hb dX11_check_70 (by decide) ?_
              exact ih_27 ((2147483647 - (v3_27 + 1) : Int).toNat) (by omega) (v3_27 + 1) _ rfl (by omega) (by omega) (lv_sub hl [1, 2, 3, 0] rfl)
            · refine lv_aload_n hx hb dX11_check_58 rfl (lv_at hl 0 rfl) ?_
              refine j_getR hx hb (C := RX11) (T := TX11) (N := 12) hts inX11_check_X11 hown hK hS hW h0 rfl 0 rfl rfl (by decide) (hts _ flX11_check_10) dX11_check_59 ?_
              refine j_cV (j_runV (As := []) (rest := []) hx hb hml hown hts hK hS hW (kX9_clear l hS σ (a0 := G a0 0) (h0 := h_12)) 0 gX11_check_X9_clear rfl hvX9_clear ⟨Nat.le_of_ble_eq_true rfl, Nat.le_of_ble_eq_true rfl⟩ rfl rfl h_12 rfl rfl rfl rfl hl.1 rfl (Nat.le_of_ble_eq_true rfl) dX11_check_62 ⟨Nat.le_of_ble_eq_true rfl, Nat.le_of_ble_eq_true rfl⟩) hA hF (fun σ_15 H locs hW hF pσ_15 => ?_)
              try dsimp only at pσ_15
              obtain ⟨pσ_15, fpσ_15⟩ := pσ_15
              have hR := fr_call hR fpσ_15 (by decide)
              refine lv_iload_n hx hb dX11_check_65 rfl (lv_at hl 3 rfl) ?_
              exact hRet 66 _ _ _ v3_27 _ dX11_check_66 hW hF (by omega) ⟨trivial, hR⟩
    exact L_27 ((2147483647 - 0 : Int).toNat) 0 _ rfl (by omega) (by decide) (lv_sub hl [2, 3, 1, 0] rfl)
  · refine j_bi hx hb dX11_check_11 (by decide) ?_
    exact hRet 13 _ _ _ (-2) _ dX11_check_13 hW hF (by decide) ⟨trivial, hR⟩
