abbrev wr_X9_clear : List Nat := [10001]
theorem flX9_clear_15 : Cond.fieldLink RX9 15 "PageTrie$Tape" "length" "I" ∈ wsX9_clear := List.mem_of_getElem? (i := 1) rfl
theorem inX9_clear_X9 : ∀ w ∈ u_ws RX9 TX9 2, w ∈ wsX9_clear := mem_r _ [2, 3] rfl
theorem hvX9_clear : yX9_clear.cls = RX9 ∧ yX9_clear.cls ≠ "java/lang/invoke/MethodHandle" ∧ yX9_clear.cls ≠ "java/lang/invoke/VarHandle" ∧ (parseMethodDescriptor yX9_clear.desc).map (fun d => d.parameters.length) = some 0 := by decide +kernel
set_option maxHeartbeats 4000000 in
set_option maxRecDepth 100000 in
theorem kX9_clear (l : Launch) {D : va_G} {cA : Nat → ClassId} {τ : Nat → Nat} {G : Nat → Nat → Nat} {L : List Nat} (hS : SW τ G L) (σ : Nat → Nat → Int) {a0 : Nat} (h0 : τ a0 = 10) : Met l yX9_clear wsX9_clear ({ frames := 0, cells := 0, slots := 0, locals := 0 }) (jP D cA τ G L σ [.ref a0]) (jQV D cA τ G L (fun σ' => (True) ∧ fr wr_X9_clear τ σ σ')) 0 0 (fun q => q ∈ L) := by
  refine j_metV (by decide +kernel) rfl (Nat.le_of_ble_eq_true rfl) ?_
  intro p e s m args below meth c Q hx hb hml hown hts hK hW hRet ls hl
  have hl : lv_has ls 1 [(0, .ref a0)] := hl
  have hA : ∀ q ∈ L, (fun q => q ∈ L) q := fun _ h => h
  have hF : va_S (fun q => q ∈ L) s.heap s.heap [] := va_S.rf
  have hR : fr wr_X9_clear τ σ σ := fr_rf
  refine lv_aload_n hx hb dX9_clear_0 rfl (lv_at hl 0 rfl) ?_
  refine j_const hx hb dX9_clear_1 ?_
  refine j_putI hx hb (C := RX9) (T := TX9) (N := 2) hts inX9_clear_X9 tyX9 tyX9_ok nmX9 hown hK hS hA hW hF h0 rfl 1 (lo := 0) (hi := 240) rfl rfl (by decide) (hts _ flX9_clear_15) rfl .int rfl (by omega) rfl rfl dX9_clear_2 (fun σ_1 H locs e_2 hW hF => ?_)
  have hR := fr_up hR e_2 h0 10001 rfl (by decide)
  have : σ_1 a0 1 = 0 := by rw [e_2]; exact up2_at _ _ _ _
  exact hRet 5 _ _ _ _ dX9_clear_5 hW hF ⟨trivial, hR⟩
abbrev wr_X9_addWord : List Nat := [10001, 21000]
theorem flX9_addWord_9 : Cond.fieldLink RX9 9 "PageTrie$Tape" "bytes" "[B" ∈ wsX9_addWord := List.mem_of_getElem? (i := 2) rfl
theorem flX9_addWord_15 : Cond.fieldLink RX9 15 "PageTrie$Tape" "length" "I" ∈ wsX9_addWord := List.mem_of_getElem? (i := 1) rfl
theorem inX9_addWord_X9 : ∀ w ∈ u_ws RX9 TX9 2, w ∈ wsX9_addWord := mem_r _ [3, 4] rfl
theorem hvX9_addWord : yX9_addWord.cls = RX9 ∧ yX9_addWord.cls ≠ "java/lang/invoke/MethodHandle" ∧ yX9_addWord.cls ≠ "java/lang/invoke/VarHandle" ∧ (parseMethodDescriptor yX9_addWord.desc).map (fun d => d.parameters.length) = some 1 := by decide +kernel
set_option maxHeartbeats 4000000 in
set_option maxRecDepth 100000 in
theorem kX9_addWord (l : Launch) {D : va_G} {cA : Nat → ClassId} {τ : Nat → Nat} {G : Nat → Nat → Nat} {L : List Nat} (hS : SW τ G L) (σ : Nat → Nat → Int) {a0 : Nat} (h0 : τ a0 = 10) {x1 : Int} (r1 : rg x1) : Met l yX9_addWord wsX9_addWord ({ frames := 0, cells := 0, slots := 0, locals := 0 }) (jP D cA τ G L σ [.ref a0, .int (jI x1)]) (jQV D cA τ G L (fun σ' => (True) ∧ fr wr_X9_addWord τ σ σ')) 0 0 (fun q => q ∈ L) := by
  refine j_metV (by decide +kernel) rfl (Nat.le_of_ble_eq_true rfl) ?_
  intro p e s m args below meth c Q hx hb hml hown hts hK hW hRet ls hl
  have hl : lv_has ls 3 [(0, .ref a0), (1, .int (jI x1))] := hl
  have hA : ∀ q ∈ L, (fun q => q ∈ L) q := fun _ h => h
  have hF : va_S (fun q => q ∈ L) s.heap s.heap [] := va_S.rf
  have hR : fr wr_X9_addWord τ σ σ := fr_rf
  refine j_bi hx hb dX9_addWord_0 (by decide) ?_
  refine lv_istore_n (lv' := [(2, .int (jI 24)), (0, .ref a0), (1, .int (jI x1))]) hx hb dX9_addWord_2 rfl hl (by decide) rfl (fun ls hl => ?_)
  have L_3 : ∀ (N : Nat) (v2_3 : Int) (σ_3 : Nat → Nat → Int) (H : Heap) (locs : List Loc) (ls : Array Slot), N = (v2_3 + 8 : Int).toNat → (-8 ≤ v2_3) → (v2_3 ≤ 24) → rg v2_3 → PW D cA τ G L σ_3 H → va_S (fun q => q ∈ L) s.heap H locs → fr wr_X9_addWord τ σ σ_3 → lv_has ls 3 [(0, .ref a0), (1, .int (jI x1)), (2, .int (jI v2_3))] → W p l e ({ frames := 0, cells := 0, slots := 0, locals := 0 }) s m args below meth c H locs 0 0 Q (F0 m 3 ls []) := by
    intro N
    induction N using Nat.strongRecOn with
    | ind N ih_3 =>
      intro v2_3 σ_3 H locs ls hN i0_3 i1_3 rv2_3 hW hF hR hl
      refine lv_iload_n hx hb dX9_addWord_3 rfl (lv_at hl 2 rfl) ?_
      refine j_if_lt (tgt := 55) hx hb (by omega) dX9_addWord_4 (by decide) (fun c_1 => ?_) (fun c_1 => ?_)
      · exact hRet 55 _ _ _ _ dX9_addWord_55 hW hF ⟨trivial, hR⟩
      · refine lv_aload_n hx hb dX9_addWord_7 rfl (lv_at hl 0 rfl) ?_
        refine j_getI hx hb (C := RX9) (T := TX9) (N := 2) hts inX9_addWord_X9 hown hK hS hW h0 rfl 1 rfl rfl (by decide) (hts _ flX9_addWord_15) dX9_addWord_8 ?_
        have := fbd hW h0 (k := 1) (lo := 0) (hi := 240) rfl rfl
        refine j_if_lt (tgt := 55) hx hb (by omega) dX9_addWord_11 (by decide) (fun c_2 => ?_) (fun c_2 => ?_)
        · exact hRet 55 _ _ _ _ dX9_addWord_55 hW hF ⟨trivial, hR⟩
        · refine lv_aload_n hx hb dX9_addWord_14 rfl (lv_at hl 0 rfl) ?_
          refine j_getI hx hb (C := RX9) (T := TX9) (N := 2) hts inX9_addWord_X9 hown hK hS hW h0 rfl 1 rfl rfl (by decide) (hts _ flX9_addWord_15) dX9_addWord_15 ?_
          refine lv_aload_n hx hb dX9_addWord_18 rfl (lv_at hl 0 rfl) ?_
          refine j_getR hx hb (C := RX9) (T := TX9) (N := 2) hts inX9_addWord_X9 hown hK hS hW h0 rfl 0 rfl rfl (by decide) (hts _ flX9_addWord_9) dX9_addWord_19 ?_
          have h_3 : τ (G a0 0) = 21 := gty hS h0 (k := 0) rfl rfl
          refine j_alenI hx hb hK hS hW h_3 rfl (ck := 0) rfl (v := 240) rfl dX9_addWord_22 ?_
          refine j_icmp_ge (tgt := 55) hx hb (by omega) (by decide) dX9_addWord_23 (by decide) (fun c_4 => ?_) (fun c_4 => ?_)
          · exact hRet 55 _ _ _ _ dX9_addWord_55 hW hF ⟨trivial, hR⟩
          · refine lv_aload_n hx hb dX9_addWord_26 rfl (lv_at hl 0 rfl) ?_
            refine j_getR hx hb (C := RX9) (T := TX9) (N := 2) hts inX9_addWord_X9 hown hK hS hW h0 rfl 0 rfl rfl (by decide) (hts _ flX9_addWord_9) dX9_addWord_27 ?_
            refine lv_aload_n hx hb dX9_addWord_30 rfl (lv_at hl 0 rfl) ?_
            refine j_getI hx hb (C := RX9) (T := TX9) (N := 2) hts inX9_addWord_X9 hown hK hS hW h0 rfl 1 rfl rfl (by decide) (hts _ flX9_addWord_15) dX9_addWord_31 ?_
            refine lv_iload_n hx hb dX9_addWord_34 rfl (lv_at hl 1 rfl) ?_
            refine lv_iload_n hx hb dX9_addWord_35 rfl (lv_at hl 2 rfl) ?_
            refine lv_ishr hx hb dX9_addWord_36 (j_raw fun z_5 rz_5 ez_5 => ?_)
            refine j_i2b hx hb dX9_addWord_37 (fun z_6 rz_6 sz_6 ez_6 => ?_)
            refine j_bast hx hb hK hS hA hW hF h_3 (n := 240) rfl (by omega) (by omega) (by decide) (by omega) dX9_addWord_38 (fun σ_7 H locs e_8 hW hF => ?_)
            have hR := fr_up hR e_8 h_3 21000 (cdA 21 (by decide) _) (by decide)
            have : σ_7 a0 1 = σ_3 a0 1 := by rw [e_8]; exact up2_ne _ _ (fun h => absurd ((h0).symm.trans ((congrArg τ h.1).trans h_3)) (by decide))
            refine lv_aload_n hx hb dX9_addWord_39 rfl (lv_at hl 0 rfl) ?_
            refine lv_dup hx hb dX9_addWord_40 rfl ?_
            refine j_getI hx hb (C := RX9) (T := TX9) (N := 2) hts inX9_addWord_X9 hown hK hS hW h0 rfl 1 rfl rfl (by decide) (hts _ flX9_addWord_15) dX9_addWord_41 ?_
            have := fbd hW h0 (k := 1) (lo := 0) (hi := 240) rfl rfl
            refine j_const hx hb dX9_addWord_44 ?_
            refine j_add hx hb dX9_addWord_45 ?_
            refine j_putI hx hb (C := RX9) (T := TX9) (N := 2) hts inX9_addWord_X9 tyX9 tyX9_ok nmX9 hown hK hS hA hW hF h0 rfl 1 (lo := 0) (hi := 240) rfl rfl (by decide) (hts _ flX9_addWord_15) rfl .int rfl (by omega) rfl rfl dX9_addWord_46 (fun σ_9 H locs e_10 hW hF => ?_)
            have hR := fr_up hR e_10 h0 10001 rfl (by decide)
            have : σ_9 a0 1 = (σ_7 a0 1) + 1 := by rw [e_10]; exact up2_at _ _ _ _
            refine j_iinc (lv' := [(2, .int (jI (v2_3 + (-8)))), (0, .ref a0), (1, .int (jI x1))]) hx hb dX9_addWord_49 hl (k := 2) rfl (by decide) rfl (fun ls hl => ?_)
            refine lv_goto (tgt := 3) hx hb dX9_addWord_52 (by decide) ?_
            exact ih_3 (((v2_3 + (-8)) + 8 : Int).toNat) (by omega) (v2_3 + (-8)) σ_9 _ _ _ rfl (by omega) (by omega) (by omega) hW hF hR (lv_sub hl [1, 2, 0] rfl)
  exact L_3 ((24 + 8 : Int).toNat) 24 σ _ _ _ rfl (by omega) (by omega) (by decide) hW hF hR (lv_sub hl [1, 2, 0] rfl)
theorem flX9_byteAt_9 : Cond.fieldLink RX9 9 "PageTrie$Tape" "bytes" "[B" ∈ wsX9_byteAt := List.mem_of_getElem? (i := 2) rfl
theorem flX9_byteAt_15 : Cond.fieldLink RX9 15 "PageTrie$Tape" "length" "I" ∈ wsX9_byteAt := List.mem_of_getElem? (i := 1) rfl
theorem inX9_byteAt_X9 : ∀ w ∈ u_ws RX9 TX9 2, w ∈ wsX9_byteAt := mem_r _ [3, 4] rfl
theorem hvX9_byteAt : yX9_byteAt.cls = RX9 ∧ yX9_byteAt.cls ≠ "java/lang/invoke/MethodHandle" ∧ yX9_byteAt.cls ≠ "java/lang/invoke/VarHandle" ∧ (parseMethodDescriptor yX9_byteAt.desc).map (fun d => d.parameters.length) = some 1 := by decide +kernel
set_option maxHeartbeats 4000000 in
set_option maxRecDepth 100000 in
theorem kX9_byteAt (l : Launch) {D : va_G} {cA : Nat → ClassId} {τ : Nat → Nat} {G : Nat → Nat → Nat} {L : List Nat} (hS : SW τ G L) (σ : Nat → Nat → Int) {a0 : Nat} (h0 : τ a0 = 10) {x1 : Int} (r1 : rg x1) : Met l yX9_byteAt wsX9_byteAt ({ frames := 0, cells := 0, slots := 0, locals := 0 }) (jP D cA τ G L σ [.ref a0, .int (jI x1)]) (jQR (fun r => (-1 ≤ r) ∧ (r ≤ 255))) 0 0 (fun _ => False) := by
  refine j_metR (by decide +kernel) rfl (Nat.le_of_ble_eq_true rfl) ?_
  intro p e s m args below meth c Q hx hb hml hown hts hK hW hRet ls hl
  have hl : lv_has ls 2 [(0, .ref a0), (1, .int (jI x1))] := hl
  refine lv_iload_n hx hb dX9_byteAt_0 rfl (lv_at hl 1 rfl) ?_
  refine j_if_lt (tgt := 34) hx hb (by omega) dX9_byteAt_1 (by decide) (fun c_1 => ?_) (fun c_1 => ?_)
  · refine j_const hx hb dX9_byteAt_34 ?_
    exact hRet 35 _ (-1) dX9_byteAt_35 (by decide) ⟨by omega, by omega⟩
  · refine lv_iload_n hx hb dX9_byteAt_4 rfl (lv_at hl 1 rfl) ?_
    refine lv_aload_n hx hb dX9_byteAt_5 rfl (lv_at hl 0 rfl) ?_
    refine j_getI hx hb (C := RX9) (T := TX9) (N := 2) hts inX9_byteAt_X9 hown hK hS hW h0 rfl 1 rfl rfl (by decide) (hts _ flX9_byteAt_15) dX9_byteAt_6 ?_
    have := fbd hW h0 (k := 1) (lo := 0) (hi := 240) rfl rfl
    refine j_icmp_ge (tgt := 34) hx hb (by omega) (by omega) dX9_byteAt_9 (by decide) (fun c_2 => ?_) (fun c_2 => ?_)
    · refine j_const hx hb dX9_byteAt_34 ?_
      exact hRet 35 _ (-1) dX9_byteAt_35 (by decide) ⟨by omega, by omega⟩
    · refine lv_iload_n hx hb dX9_byteAt_12 rfl (lv_at hl 1 rfl) ?_
      refine lv_aload_n hx hb dX9_byteAt_13 rfl (lv_at hl 0 rfl) ?_
      refine j_getR hx hb (C := RX9) (T := TX9) (N := 2) hts inX9_byteAt_X9 hown hK hS hW h0 rfl 0 rfl rfl (by decide) (hts _ flX9_byteAt_9) dX9_byteAt_14 ?_
      have h_3 : τ (G a0 0) = 21 := gty hS h0 (k := 0) rfl rfl
      refine j_alenI hx hb hK hS hW h_3 rfl (ck := 0) rfl (v := 240) rfl dX9_byteAt_17 ?_
      refine j_icmp_ge (tgt := 34) hx hb (by omega) (by decide) dX9_byteAt_18 (by decide) (fun c_4 => ?_) (fun c_4 => ?_)
      · refine j_const hx hb dX9_byteAt_34 ?_
        exact hRet 35 _ (-1) dX9_byteAt_35 (by decide) ⟨by omega, by omega⟩
      · refine lv_aload_n hx hb dX9_byteAt_21 rfl (lv_at hl 0 rfl) ?_
        refine j_getR hx hb (C := RX9) (T := TX9) (N := 2) hts inX9_byteAt_X9 hown hK hS hW h0 rfl 0 rfl rfl (by decide) (hts _ flX9_byteAt_9) dX9_byteAt_22 ?_
        refine lv_iload_n hx hb dX9_byteAt_25 rfl (lv_at hl 1 rfl) ?_
        refine j_bald hx hb hK hS hW h_3 (n := 240) rfl (by omega) (by omega) (by decide) dX9_byteAt_26 ?_
        have := abd hW h_3 (n := 240) (lo := -128) (hi := 127) (i := x1) rfl (by omega) (by omega)
        refine j_si hx hb dX9_byteAt_27 (by decide) ?_
        refine j_and255 hx hb dX9_byteAt_30 ?_
        refine lv_goto (tgt := 35) hx hb dX9_byteAt_31 (by decide) ?_
        exact hRet 35 _ ((σ (G a0 0) (x1).toNat) % 256) dX9_byteAt_35 (by omega) ⟨by omega, by omega⟩
abbrev wr_X2_clear : List Nat := [3001]
theorem flX2_clear_15 : Cond.fieldLink RX2 15 "PageTrie$Key" "length" "I" ∈ wsX2_clear := List.mem_of_getElem? (i := 1) rfl
theorem inX2_clear_X2 : ∀ w ∈ u_ws RX2 TX2 2, w ∈ wsX2_clear := mem_r _ [2, 3] rfl
theorem hvX2_clear : yX2_clear.cls = RX2 ∧ yX2_clear.cls ≠ "java/lang/invoke/MethodHandle" ∧ yX2_clear.cls ≠ "java/lang/invoke/VarHandle" ∧ (parseMethodDescriptor yX2_clear.desc).map (fun d => d.parameters.length) = some 0 := by decide +kernel
set_option maxHeartbeats 4000000 in
set_option maxRecDepth 100000 in
theorem kX2_clear (l : Launch) {D : va_G} {cA : Nat → ClassId} {τ : Nat → Nat} {G : Nat → Nat → Nat} {L : List Nat} (hS : SW τ G L) (σ : Nat → Nat → Int) {a0 : Nat} (h0 : τ a0 = 3) : Met l yX2_clear wsX2_clear ({ frames := 0, cells := 0, slots := 0, locals := 0 }) (jP D cA τ G L σ [.ref a0]) (jQV D cA τ G L (fun σ' => (True) ∧ fr wr_X2_clear τ σ σ')) 0 0 (fun q => q ∈ L) := by
  refine j_metV (by decide +kernel) rfl (Nat.le_of_ble_eq_true rfl) ?_
  intro p e s m args below meth c Q hx hb hml hown hts hK hW hRet ls hl
  have hl : lv_has ls 1 [(0, .ref a0)] := hl
  have hA : ∀ q ∈ L, (fun q => q ∈ L) q := fun _ h => h
  have hF : va_S (fun q => q ∈ L) s.heap s.heap [] := va_S.rf
  have hR : fr wr_X2_clear τ σ σ := fr_rf
  refine lv_aload_n hx hb dX2_clear_0 rfl (lv_at hl 0 rfl) ?_
  refine j_const hx hb dX2_clear_1 ?_
  refine j_putI hx hb (C := RX2) (T := TX2) (N := 2) hts inX2_clear_X2 tyX2 tyX2_ok nmX2 hown hK hS hA hW hF h0 rfl 1 (lo := 0) (hi := 24) rfl rfl (by decide) (hts _ flX2_clear_15) rfl .int rfl (by omega) rfl rfl dX2_clear_2 (fun σ_1 H locs e_2 hW hF => ?_)
  have hR := fr_up hR e_2 h0 3001 rfl (by decide)
  have : σ_1 a0 1 = 0 := by rw [e_2]; exact up2_at _ _ _ _
  exact hRet 5 _ _ _ _ dX2_clear_5 hW hF ⟨trivial, hR⟩
abbrev wr_X2_add : List Nat := [3001, 20000]
theorem flX2_add_9 : Cond.fieldLink RX2 9 "PageTrie$Key" "bytes" "[B" ∈ wsX2_add := List.mem_of_getElem? (i := 2) rfl
theorem flX2_add_15 : Cond.fieldLink RX2 15 "PageTrie$Key" "length" "I" ∈ wsX2_add := List.mem_of_getElem? (i := 1) rfl
theorem inX2_add_X2 : ∀ w ∈ u_ws RX2 TX2 2, w ∈ wsX2_add := mem_r _ [3, 4] rfl
theorem hvX2_add : yX2_add.cls = RX2 ∧ yX2_add.cls ≠ "java/lang/invoke/MethodHandle" ∧ yX2_add.cls ≠ "java/lang/invoke/VarHandle" ∧ (parseMethodDescriptor yX2_add.desc).map (fun d => d.parameters.length) = some 1 := by decide +kernel
set_option maxHeartbeats 4000000 in
set_option maxRecDepth 100000 in
theorem kX2_add (l : Launch) {D : va_G} {cA : Nat → ClassId} {τ : Nat → Nat} {G : Nat → Nat → Nat} {L : List Nat} (hS : SW τ G L) (σ : Nat → Nat → Int) {a0 : Nat} (h0 : τ a0 = 3) {x1 : Int} (r1 : rg x1) : Met l yX2_add wsX2_add ({ frames := 0, cells := 0, slots := 0, locals := 0 }) (jP D cA τ G L σ [.ref a0, .int (jI x1)]) (jQI D cA τ G L (fun r σ' => (0 ≤ r ∧ r ≤ 1) ∧ ((True) ∧ fr wr_X2_add τ σ σ'))) 0 0 (fun q => q ∈ L) := by
  refine j_metZ (by decide +kernel) rfl (Nat.le_of_ble_eq_true rfl) ?_
  intro p e s m args below meth c Q hx hb hml hown hts hK hW hRet ls hl
  have hl : lv_has ls 2 [(0, .ref a0), (1, .int (jI x1))] := hl
  have hA : ∀ q ∈ L, (fun q => q ∈ L) q := fun _ h => h
  have hF : va_S (fun q => q ∈ L) s.heap s.heap [] := va_S.rf
  have hR : fr wr_X2_add τ σ σ := fr_rf
  refine lv_aload_n hx hb dX2_add_0 rfl (lv_at hl 0 rfl) ?_
  refine j_getI hx hb (C := RX2) (T := TX2) (N := 2) hts inX2_add_X2 hown hK hS hW h0 rfl 1 rfl rfl (by decide) (hts _ flX2_add_15) dX2_add_1 ?_
  have := fbd hW h0 (k := 1) (lo := 0) (hi := 24) rfl rfl
  refine j_if_lt (tgt := 19) hx hb (by omega) dX2_add_4 (by decide) (fun c_1 => ?_) (fun c_1 => ?_)
  · refine j_const hx hb dX2_add_19 ?_
    exact hRet 20 _ _ _ 0 _ dX2_add_20 hW hF (by omega) ⟨trivial, hR⟩
  · refine lv_aload_n hx hb dX2_add_7 rfl (lv_at hl 0 rfl) ?_
    refine j_getI hx hb (C := RX2) (T := TX2) (N := 2) hts inX2_add_X2 hown hK hS hW h0 rfl 1 rfl rfl (by decide) (hts _ flX2_add_15) dX2_add_8 ?_
    refine lv_aload_n hx hb dX2_add_11 rfl (lv_at hl 0 rfl) ?_
    refine j_getR hx hb (C := RX2) (T := TX2) (N := 2) hts inX2_add_X2 hown hK hS hW h0 rfl 0 rfl rfl (by decide) (hts _ flX2_add_9) dX2_add_12 ?_
    have h_2 : τ (G a0 0) = 20 := gty hS h0 (k := 0) rfl rfl
    refine j_alenI hx hb hK hS hW h_2 rfl (ck := 0) rfl (v := 24) rfl dX2_add_15 ?_
    refine j_icmp_lt (tgt := 21) hx hb (by omega) (by decide) dX2_add_16 (by decide) (fun c_3 => ?_) (fun c_3 => ?_)
    · refine lv_aload_n hx hb dX2_add_21 rfl (lv_at hl 0 rfl) ?_
      refine j_getR hx hb (C := RX2) (T := TX2) (N := 2) hts inX2_add_X2 hown hK hS hW h0 rfl 0 rfl rfl (by decide) (hts _ flX2_add_9) dX2_add_22 ?_
      refine lv_aload_n hx hb dX2_add_25 rfl (lv_at hl 0 rfl) ?_
      refine j_getI hx hb (C := RX2) (T := TX2) (N := 2) hts inX2_add_X2 hown hK hS hW h0 rfl 1 rfl rfl (by decide) (hts _ flX2_add_15) dX2_add_26 ?_
      refine lv_iload_n hx hb dX2_add_29 rfl (lv_at hl 1 rfl) ?_
      refine j_i2b hx hb dX2_add_30 (fun z_4 rz_4 sz_4 ez_4 => ?_)
      refine j_bast hx hb hK hS hA hW hF h_2 (n := 24) rfl (by omega) (by omega) (by decide) (by omega) dX2_add_31 (fun σ_5 H locs e_6 hW hF => ?_)
      have hR := fr_up hR e_6 h_2 20000 (cdA 20 (by decide) _) (by decide)
      have : σ_5 a0 1 = σ a0 1 := by rw [e_6]; exact up2_ne _ _ (fun h => absurd ((h0).symm.trans ((congrArg τ h.1).trans h_2)) (by decide))
      refine lv_aload_n hx hb dX2_add_32 rfl (lv_at hl 0 rfl) ?_
      refine lv_dup hx hb dX2_add_33 rfl ?_
      refine j_getI hx hb (C := RX2) (T := TX2) (N := 2) hts inX2_add_X2 hown hK hS hW h0 rfl 1 rfl rfl (by decide) (hts _ flX2_add_15) dX2_add_34 ?_
      have := fbd hW h0 (k := 1) (lo := 0) (hi := 24) rfl rfl
      refine j_const hx hb dX2_add_37 ?_
      refine j_add hx hb dX2_add_38 ?_
      refine j_putI hx hb (C := RX2) (T := TX2) (N := 2) hts inX2_add_X2 tyX2 tyX2_ok nmX2 hown hK hS hA hW hF h0 rfl 1 (lo := 0) (hi := 24) rfl rfl (by decide) (hts _ flX2_add_15) rfl .int rfl (by omega) rfl rfl dX2_add_39 (fun σ_7 H locs e_8 hW hF => ?_)
      have hR := fr_up hR e_8 h0 3001 rfl (by decide)
      have : σ_7 a0 1 = (σ_5 a0 1) + 1 := by rw [e_8]; exact up2_at _ _ _ _
      refine j_const hx hb dX2_add_42 ?_
      exact hRet 43 _ _ _ 1 _ dX2_add_43 hW hF (by omega) ⟨trivial, hR⟩
    · refine j_const hx hb dX2_add_19 ?_
      exact hRet 20 _ _ _ 0 _ dX2_add_20 hW hF (by omega) ⟨trivial, hR⟩
theorem flX2_byteOf_9 : Cond.fieldLink RX2 9 "PageTrie$Key" "bytes" "[B" ∈ wsX2_byteOf := List.mem_of_getElem? (i := 2) rfl
theorem flX2_byteOf_15 : Cond.fieldLink RX2 15 "PageTrie$Key" "length" "I" ∈ wsX2_byteOf := List.mem_of_getElem? (i := 1) rfl
theorem inX2_byteOf_X2 : ∀ w ∈ u_ws RX2 TX2 2, w ∈ wsX2_byteOf := mem_r _ [3, 4] rfl
theorem hvX2_byteOf : yX2_byteOf.cls = RX2 ∧ yX2_byteOf.cls ≠ "java/lang/invoke/MethodHandle" ∧ yX2_byteOf.cls ≠ "java/lang/invoke/VarHandle" ∧ (parseMethodDescriptor yX2_byteOf.desc).map (fun d => d.parameters.length) = some 1 := by decide +kernel
set_option maxHeartbeats 4000000 in
set_option maxRecDepth 100000 in
theorem kX2_byteOf (l : Launch) {D : va_G} {cA : Nat → ClassId} {τ : Nat → Nat} {G : Nat → Nat → Nat} {L : List Nat} (hS : SW τ G L) (σ : Nat → Nat → Int) {a0 : Nat} (h0 : τ a0 = 3) {x1 : Int} (r1 : rg x1) : Met l yX2_byteOf wsX2_byteOf ({ frames := 0, cells := 0, slots := 0, locals := 0 }) (jP D cA τ G L σ [.ref a0, .int (jI x1)]) (jQR (fun r => (-128 ≤ r) ∧ (r ≤ 127))) 0 0 (fun _ => False) := by
  refine j_metR (by decide +kernel) rfl (Nat.le_of_ble_eq_true rfl) ?_
  intro p e s m args below meth c Q hx hb hml hown hts hK hW hRet ls hl
  have hl : lv_has ls 2 [(0, .ref a0), (1, .int (jI x1))] := hl
  refine lv_iload_n hx hb dX2_byteOf_0 rfl (lv_at hl 1 rfl) ?_
  refine j_if_lt (tgt := 30) hx hb (by omega) dX2_byteOf_1 (by decide) (fun c_1 => ?_) (fun c_1 => ?_)
  · refine j_const hx hb dX2_byteOf_30 ?_
    exact hRet 31 _ (-1) dX2_byteOf_31 (by decide) ⟨by omega, by omega⟩
  · refine lv_iload_n hx hb dX2_byteOf_4 rfl (lv_at hl 1 rfl) ?_
    refine lv_aload_n hx hb dX2_byteOf_5 rfl (lv_at hl 0 rfl) ?_
    refine j_getI hx hb (C := RX2) (T := TX2) (N := 2) hts inX2_byteOf_X2 hown hK hS hW h0 rfl 1 rfl rfl (by decide) (hts _ flX2_byteOf_15) dX2_byteOf_6 ?_
    have := fbd hW h0 (k := 1) (lo := 0) (hi := 24) rfl rfl
    refine j_icmp_ge (tgt := 30) hx hb (by omega) (by omega) dX2_byteOf_9 (by decide) (fun c_2 => ?_) (fun c_2 => ?_)
    · refine j_const hx hb dX2_byteOf_30 ?_
      exact hRet 31 _ (-1) dX2_byteOf_31 (by decide) ⟨by omega, by omega⟩
    · refine lv_iload_n hx hb dX2_byteOf_12 rfl (lv_at hl 1 rfl) ?_
      refine lv_aload_n hx hb dX2_byteOf_13 rfl (lv_at hl 0 rfl) ?_
      refine j_getR hx hb (C := RX2) (T := TX2) (N := 2) hts inX2_byteOf_X2 hown hK hS hW h0 rfl 0 rfl rfl (by decide) (hts _ flX2_byteOf_9) dX2_byteOf_14 ?_
      have h_3 : τ (G a0 0) = 20 := gty hS h0 (k := 0) rfl rfl
      refine j_alenI hx hb hK hS hW h_3 rfl (ck := 0) rfl (v := 24) rfl dX2_byteOf_17 ?_
      refine j_icmp_ge (tgt := 30) hx hb (by omega) (by decide) dX2_byteOf_18 (by decide) (fun c_4 => ?_) (fun c_4 => ?_)
      · refine j_const hx hb dX2_byteOf_30 ?_
        exact hRet 31 _ (-1) dX2_byteOf_31 (by decide) ⟨by omega, by omega⟩
      · refine lv_aload_n hx hb dX2_byteOf_21 rfl (lv_at hl 0 rfl) ?_
        refine j_getR hx hb (C := RX2) (T := TX2) (N := 2) hts inX2_byteOf_X2 hown hK hS hW h0 rfl 0 rfl rfl (by decide) (hts _ flX2_byteOf_9) dX2_byteOf_22 ?_
        refine lv_iload_n hx hb dX2_byteOf_25 rfl (lv_at hl 1 rfl) ?_
        refine j_bald hx hb hK hS hW h_3 (n := 24) rfl (by omega) (by omega) (by decide) dX2_byteOf_26 ?_
        have := abd hW h_3 (n := 24) (lo := -128) (hi := 127) (i := x1) rfl (by omega) (by omega)
        refine lv_goto (tgt := 31) hx hb dX2_byteOf_27 (by decide) ?_
        exact hRet 31 _ (σ (G a0 0) (x1).toNat) dX2_byteOf_31 (by omega) ⟨by omega, by omega⟩
abbrev wr_X2_copyFrom : List Nat := [3001, 20000]
theorem flX2_copyFrom_9 : Cond.fieldLink RX2 9 "PageTrie$Key" "bytes" "[B" ∈ wsX2_copyFrom := List.mem_of_getElem? (i := 1) rfl
theorem flX2_copyFrom_15 : Cond.fieldLink RX2 15 "PageTrie$Key" "length" "I" ∈ wsX2_copyFrom := List.mem_of_getElem? (i := 6) rfl
theorem inX2_copyFrom_X2 : ∀ w ∈ u_ws RX2 TX2 2, w ∈ wsX2_copyFrom := mem_r _ [7, 8] rfl
theorem hvX2_copyFrom : yX2_copyFrom.cls = RX2 ∧ yX2_copyFrom.cls ≠ "java/lang/invoke/MethodHandle" ∧ yX2_copyFrom.cls ≠ "java/lang/invoke/VarHandle" ∧ (parseMethodDescriptor yX2_copyFrom.desc).map (fun d => d.parameters.length) = some 1 := by decide +kernel
set_option maxHeartbeats 4000000 in
set_option maxRecDepth 100000 in
theorem kX2_copyFrom (l : Launch) {D : va_G} {cA : Nat → ClassId} {τ : Nat → Nat} {G : Nat → Nat → Nat} {L : List Nat} (hS : SW τ G L) (σ : Nat → Nat → Int) {a0 : Nat} (h0 : τ a0 = 3) {a1 : Nat} (h1 : τ a1 = 3) : Met l yX2_copyFrom wsX2_copyFrom ({ frames := 1, cells := 0, slots := 0, locals := 40 }) (jP D cA τ G L σ [.ref a0, .ref a1]) (jQV D cA τ G L (fun σ' => (True) ∧ fr wr_X2_copyFrom τ σ σ')) 0 0 (fun q => q ∈ L) := by
  refine j_metV (by decide +kernel) rfl (Nat.le_of_ble_eq_true rfl) ?_
  intro p e s m args below meth c Q hx hb hml hown hts hK hW hRet ls hl
  have hl : lv_has ls 2 [(0, .ref a0), (1, .ref a1)] := hl
  have hA : ∀ q ∈ L, (fun q => q ∈ L) q := fun _ h => h
  have hF : va_S (fun q => q ∈ L) s.heap s.heap [] := va_S.rf
  have hR : fr wr_X2_copyFrom τ σ σ := fr_rf
  refine lv_aload_n hx hb dX2_copyFrom_0 rfl (lv_at hl 1 rfl) ?_
  refine j_getR hx hb (C := RX2) (T := TX2) (N := 2) hts inX2_copyFrom_X2 hown hK hS hW h1 rfl 0 rfl rfl (by decide) (hts _ flX2_copyFrom_9) dX2_copyFrom_1 ?_
  have h_1 : τ (G a1 0) = 20 := gty hS h1 (k := 0) rfl rfl
  refine j_const hx hb dX2_copyFrom_4 ?_
  refine lv_aload_n hx hb dX2_copyFrom_5 rfl (lv_at hl 0 rfl) ?_
  refine j_getR hx hb (C := RX2) (T := TX2) (N := 2) hts inX2_copyFrom_X2 hown hK hS hW h0 rfl 0 rfl rfl (by decide) (hts _ flX2_copyFrom_9) dX2_copyFrom_6 ?_
  have h_2 : τ (G a0 0) = 20 := gty hS h0 (k := 0) rfl rfl
  refine j_const hx hb dX2_copyFrom_9 ?_
  refine j_bi hx hb dX2_copyFrom_10 (by decide) ?_
  refine j_copy hx hb (hml.trans hl.1.symm) hown (hts (.methodLink RX2 19 arraycopyName) (by decide +kernel)) (hts (.native arraycopyName) (by decide +kernel)) (hts (.static arraycopyName) (by decide +kernel)) (hts (.initialized "java/lang/System") (by decide +kernel)) hK hS hA hW hF (ty := .byte) h_1 h_2 (n0 := 24) (n1 := 24) rfl rfl rfl (Or.inl ⟨rfl, rfl⟩) (by decide) (by decide) (sp := 0) (dp := 0) (n := 24) (by omega) (by omega) (by omega) (by omega) (by omega) (Nat.le_of_ble_eq_true rfl) (Nat.le_of_ble_eq_true rfl) dX2_copyFrom_12 (fun σ_3 H locs e_4 hW hF => ?_)
  have hR := fr_cp hR e_4 h_2 20000 (cdA 20 (by decide)) (by decide)
  refine lv_aload_n hx hb dX2_copyFrom_15 rfl (lv_at hl 0 rfl) ?_
  refine lv_aload_n hx hb dX2_copyFrom_16 rfl (lv_at hl 1 rfl) ?_
  refine j_getI hx hb (C := RX2) (T := TX2) (N := 2) hts inX2_copyFrom_X2 hown hK hS hW h1 rfl 1 rfl rfl (by decide) (hts _ flX2_copyFrom_15) dX2_copyFrom_17 ?_
  have := fbd hW h1 (k := 1) (lo := 0) (hi := 24) rfl rfl
  refine j_putI hx hb (C := RX2) (T := TX2) (N := 2) hts inX2_copyFrom_X2 tyX2 tyX2_ok nmX2 hown hK hS hA hW hF h0 rfl 1 (lo := 0) (hi := 24) rfl rfl (by decide) (hts _ flX2_copyFrom_15) rfl .int rfl (by omega) rfl rfl dX2_copyFrom_20 (fun σ_5 H locs e_6 hW hF => ?_)
  have hR := fr_up hR e_6 h0 3001 rfl (by decide)
  have : σ_5 a0 1 = σ_3 a1 1 := by rw [e_6]; exact up2_at _ _ _ _
  exact hRet 23 _ _ _ _ dX2_copyFrom_23 hW hF ⟨trivial, hR⟩
theorem flX3_has_22 : Cond.fieldLink RX3 22 "PageTrie$Keys" "size" "I" ∈ wsX3_has := List.mem_of_getElem? (i := 1) rfl
theorem inX3_has_X3 : ∀ w ∈ u_ws RX3 TX3 4, w ∈ wsX3_has := mem_r _ [2, 3, 4, 5] rfl
theorem hvX3_has : yX3_has.cls = RX3 ∧ yX3_has.cls ≠ "java/lang/invoke/MethodHandle" ∧ yX3_has.cls ≠ "java/lang/invoke/VarHandle" ∧ (parseMethodDescriptor yX3_has.desc).map (fun d => d.parameters.length) = some 1 := by decide +kernel
set_option maxHeartbeats 4000000 in
set_option maxRecDepth 100000 in
theorem kX3_has (l : Launch) {D : va_G} {cA : Nat → ClassId} {τ : Nat → Nat} {G : Nat → Nat → Nat} {L : List Nat} (hS : SW τ G L) (σ : Nat → Nat → Int) {a0 : Nat} (h0 : τ a0 = 4) {x1 : Int} (r1 : rg x1) : Met l yX3_has wsX3_has ({ frames := 0, cells := 0, slots := 0, locals := 0 }) (jP D cA τ G L σ [.ref a0, .int (jI x1)]) (jQR (fun r => (0 ≤ r ∧ r ≤ 1) ∧ ((r = 1 → 0 ≤ x1 ∧ x1 < σ a0 3 ∧ x1 < 150) ∧ (r = 0 → x1 < 0 ∨ σ a0 3 ≤ x1 ∨ 150 ≤ x1)))) 0 0 (fun _ => False) := by
  refine j_metRZ (by decide +kernel) rfl (Nat.le_of_ble_eq_true rfl) ?_
  intro p e s m args below meth c Q hx hb hml hown hts hK hW hRet ls hl
  have hl : lv_has ls 2 [(0, .ref a0), (1, .int (jI x1))] := hl
  refine lv_iload_n hx hb dX3_has_0 rfl (lv_at hl 1 rfl) ?_
  refine j_if_lt (tgt := 23) hx hb (by omega) dX3_has_1 (by decide) (fun c_1 => ?_) (fun c_1 => ?_)
  · refine j_const hx hb dX3_has_23 ?_
    exact hRet 24 _ 0 dX3_has_24 (by omega) ⟨by omega, by omega⟩
  · refine lv_iload_n hx hb dX3_has_4 rfl (lv_at hl 1 rfl) ?_
    refine lv_aload_n hx hb dX3_has_5 rfl (lv_at hl 0 rfl) ?_
    refine j_getI hx hb (C := RX3) (T := TX3) (N := 4) hts inX3_has_X3 hown hK hS hW h0 rfl 3 rfl rfl (by decide) (hts _ flX3_has_22) dX3_has_6 ?_
    have := fbd hW h0 (k := 3) (lo := 0) (hi := 150) rfl rfl
    refine j_icmp_ge (tgt := 23) hx hb (by omega) (by omega) dX3_has_9 (by decide) (fun c_2 => ?_) (fun c_2 => ?_)
    · refine j_const hx hb dX3_has_23 ?_
      exact hRet 24 _ 0 dX3_has_24 (by omega) ⟨by omega, by omega⟩
    · refine lv_iload_n hx hb dX3_has_12 rfl (lv_at hl 1 rfl) ?_
      refine j_si hx hb dX3_has_13 (by decide) ?_
      refine j_icmp_ge (tgt := 23) hx hb (by omega) (by decide) dX3_has_16 (by decide) (fun c_3 => ?_) (fun c_3 => ?_)
      · refine j_const hx hb dX3_has_23 ?_
        exact hRet 24 _ 0 dX3_has_24 (by omega) ⟨by omega, by omega⟩
      · refine j_const hx hb dX3_has_19 ?_
        refine lv_goto (tgt := 24) hx hb dX3_has_20 (by decide) ?_
        exact hRet 24 _ 1 dX3_has_24 (by omega) ⟨by omega, by omega⟩
theorem flX3_lengthOf_15 : Cond.fieldLink RX3 15 "PageTrie$Keys" "lengths" "[I" ∈ wsX3_lengthOf := List.mem_of_getElem? (i := 2) rfl
theorem flX3_lengthOf_22 : Cond.fieldLink RX3 22 "PageTrie$Keys" "size" "I" ∈ wsX3_lengthOf := List.mem_of_getElem? (i := 1) rfl
theorem inX3_lengthOf_X3 : ∀ w ∈ u_ws RX3 TX3 4, w ∈ wsX3_lengthOf := mem_r _ [3, 4, 5, 6] rfl
theorem hvX3_lengthOf : yX3_lengthOf.cls = RX3 ∧ yX3_lengthOf.cls ≠ "java/lang/invoke/MethodHandle" ∧ yX3_lengthOf.cls ≠ "java/lang/invoke/VarHandle" ∧ (parseMethodDescriptor yX3_lengthOf.desc).map (fun d => d.parameters.length) = some 1 := by decide +kernel
set_option maxHeartbeats 4000000 in
set_option maxRecDepth 100000 in
theorem kX3_lengthOf (l : Launch) {D : va_G} {cA : Nat → ClassId} {τ : Nat → Nat} {G : Nat → Nat → Nat} {L : List Nat} (hS : SW τ G L) (σ : Nat → Nat → Int) {a0 : Nat} (h0 : τ a0 = 4) {x1 : Int} (r1 : rg x1) : Met l yX3_lengthOf wsX3_lengthOf ({ frames := 0, cells := 0, slots := 0, locals := 0 }) (jP D cA τ G L σ [.ref a0, .int (jI x1)]) (jQR (fun r => (0 ≤ r) ∧ (r ≤ 24))) 0 0 (fun _ => False) := by
  refine j_metR (by decide +kernel) rfl (Nat.le_of_ble_eq_true rfl) ?_
  intro p e s m args below meth c Q hx hb hml hown hts hK hW hRet ls hl
  have hl : lv_has ls 2 [(0, .ref a0), (1, .int (jI x1))] := hl
  refine lv_iload_n hx hb dX3_lengthOf_0 rfl (lv_at hl 1 rfl) ?_
  refine j_if_lt (tgt := 28) hx hb (by omega) dX3_lengthOf_1 (by decide) (fun c_1 => ?_) (fun c_1 => ?_)
  · refine j_const hx hb dX3_lengthOf_28 ?_
    exact hRet 29 _ 0 dX3_lengthOf_29 (by decide) ⟨by omega, by omega⟩
  · refine lv_iload_n hx hb dX3_lengthOf_4 rfl (lv_at hl 1 rfl) ?_
    refine lv_aload_n hx hb dX3_lengthOf_5 rfl (lv_at hl 0 rfl) ?_
    refine j_getI hx hb (C := RX3) (T := TX3) (N := 4) hts inX3_lengthOf_X3 hown hK hS hW h0 rfl 3 rfl rfl (by decide) (hts _ flX3_lengthOf_22) dX3_lengthOf_6 ?_
    have := fbd hW h0 (k := 3) (lo := 0) (hi := 150) rfl rfl
    refine j_icmp_ge (tgt := 28) hx hb (by omega) (by omega) dX3_lengthOf_9 (by decide) (fun c_2 => ?_) (fun c_2 => ?_)
    · refine j_const hx hb dX3_lengthOf_28 ?_
      exact hRet 29 _ 0 dX3_lengthOf_29 (by decide) ⟨by omega, by omega⟩
    · refine lv_iload_n hx hb dX3_lengthOf_12 rfl (lv_at hl 1 rfl) ?_
      refine j_si hx hb dX3_lengthOf_13 (by decide) ?_
      refine j_icmp_ge (tgt := 28) hx hb (by omega) (by decide) dX3_lengthOf_16 (by decide) (fun c_3 => ?_) (fun c_3 => ?_)
      · refine j_const hx hb dX3_lengthOf_28 ?_
        exact hRet 29 _ 0 dX3_lengthOf_29 (by decide) ⟨by omega, by omega⟩
      · refine lv_aload_n hx hb dX3_lengthOf_19 rfl (lv_at hl 0 rfl) ?_
        refine j_getR hx hb (C := RX3) (T := TX3) (N := 4) hts inX3_lengthOf_X3 hown hK hS hW h0 rfl 1 rfl rfl (by decide) (hts _ flX3_lengthOf_15) dX3_lengthOf_20 ?_
        have h_4 : τ (G a0 1) = 23 := gty hS h0 (k := 1) rfl rfl
        refine lv_iload_n hx hb dX3_lengthOf_23 rfl (lv_at hl 1 rfl) ?_
        refine j_ald hx hb hK hS hW h_4 (n := 150) rfl (by omega) (by omega) (by decide) dX3_lengthOf_24 ?_
        have := abd hW h_4 (n := 150) (lo := 0) (hi := 24) (i := x1) rfl (by omega) (by omega)
        refine lv_goto (tgt := 29) hx hb dX3_lengthOf_25 (by decide) ?_
        exact hRet 29 _ (σ (G a0 1) (x1).toNat) dX3_lengthOf_29 (by omega) ⟨by omega, by omega⟩
theorem flX3_valueOf_19 : Cond.fieldLink RX3 19 "PageTrie$Keys" "values" "[I" ∈ wsX3_valueOf := List.mem_of_getElem? (i := 2) rfl
theorem flX3_valueOf_22 : Cond.fieldLink RX3 22 "PageTrie$Keys" "size" "I" ∈ wsX3_valueOf := List.mem_of_getElem? (i := 1) rfl
theorem inX3_valueOf_X3 : ∀ w ∈ u_ws RX3 TX3 4, w ∈ wsX3_valueOf := mem_r _ [3, 4, 5, 6] rfl
theorem hvX3_valueOf : yX3_valueOf.cls = RX3 ∧ yX3_valueOf.cls ≠ "java/lang/invoke/MethodHandle" ∧ yX3_valueOf.cls ≠ "java/lang/invoke/VarHandle" ∧ (parseMethodDescriptor yX3_valueOf.desc).map (fun d => d.parameters.length) = some 1 := by decide +kernel
set_option maxHeartbeats 4000000 in
set_option maxRecDepth 100000 in
theorem kX3_valueOf (l : Launch) {D : va_G} {cA : Nat → ClassId} {τ : Nat → Nat} {G : Nat → Nat → Nat} {L : List Nat} (hS : SW τ G L) (σ : Nat → Nat → Int) {a0 : Nat} (h0 : τ a0 = 4) {x1 : Int} (r1 : rg x1) : Met l yX3_valueOf wsX3_valueOf ({ frames := 0, cells := 0, slots := 0, locals := 0 }) (jP D cA τ G L σ [.ref a0, .int (jI x1)]) (jQR (fun r => True)) 0 0 (fun _ => False) := by
  refine j_metR (by decide +kernel) rfl (Nat.le_of_ble_eq_true rfl) ?_
  intro p e s m args below meth c Q hx hb hml hown hts hK hW hRet ls hl
  have hl : lv_has ls 2 [(0, .ref a0), (1, .int (jI x1))] := hl
  refine lv_iload_n hx hb dX3_valueOf_0 rfl (lv_at hl 1 rfl) ?_
  refine j_if_lt (tgt := 28) hx hb (by omega) dX3_valueOf_1 (by decide) (fun c_1 => ?_) (fun c_1 => ?_)
  · refine j_const hx hb dX3_valueOf_28 ?_
    exact hRet 29 _ 0 dX3_valueOf_29 (by decide) trivial
  · refine lv_iload_n hx hb dX3_valueOf_4 rfl (lv_at hl 1 rfl) ?_
    refine lv_aload_n hx hb dX3_valueOf_5 rfl (lv_at hl 0 rfl) ?_
    refine j_getI hx hb (C := RX3) (T := TX3) (N := 4) hts inX3_valueOf_X3 hown hK hS hW h0 rfl 3 rfl rfl (by decide) (hts _ flX3_valueOf_22) dX3_valueOf_6 ?_
    have := fbd hW h0 (k := 3) (lo := 0) (hi := 150) rfl rfl
    refine j_icmp_ge (tgt := 28) hx hb (by omega) (by omega) dX3_valueOf_9 (by decide) (fun c_2 => ?_) (fun c_2 => ?_)
    · refine j_const hx hb dX3_valueOf_28 ?_
      exact hRet 29 _ 0 dX3_valueOf_29 (by decide) trivial
    · refine lv_iload_n hx hb dX3_valueOf_12 rfl (lv_at hl 1 rfl) ?_
      refine j_si hx hb dX3_valueOf_13 (by decide) ?_
      refine j_icmp_ge (tgt := 28) hx hb (by omega) (by decide) dX3_valueOf_16 (by decide) (fun c_3 => ?_) (fun c_3 => ?_)
      · refine j_const hx hb dX3_valueOf_28 ?_
        exact hRet 29 _ 0 dX3_valueOf_29 (by decide) trivial
      · refine lv_aload_n hx hb dX3_valueOf_19 rfl (lv_at hl 0 rfl) ?_
        refine j_getR hx hb (C := RX3) (T := TX3) (N := 4) hts inX3_valueOf_X3 hown hK hS hW h0 rfl 2 rfl rfl (by decide) (hts _ flX3_valueOf_19) dX3_valueOf_20 ?_
        have h_4 : τ (G a0 2) = 24 := gty hS h0 (k := 2) rfl rfl
        refine lv_iload_n hx hb dX3_valueOf_23 rfl (lv_at hl 1 rfl) ?_
        refine j_ald hx hb hK hS hW h_4 (n := 150) rfl (by omega) (by omega) (by decide) dX3_valueOf_24 ?_
        have := abd hW h_4 (n := 150) (lo := -2147483648) (hi := 2147483647) (i := x1) rfl (by omega) (by omega)
        refine lv_goto (tgt := 29) hx hb dX3_valueOf_25 (by decide) ?_
        exact hRet 29 _ (σ (G a0 2) (x1).toNat) dX3_valueOf_29 (by omega) trivial
abbrev wr_X3_setValue : List Nat := [24000]
theorem flX3_setValue_19 : Cond.fieldLink RX3 19 "PageTrie$Keys" "values" "[I" ∈ wsX3_setValue := List.mem_of_getElem? (i := 1) rfl
theorem inX3_setValue_X3 : ∀ w ∈ u_ws RX3 TX3 4, w ∈ wsX3_setValue := mem_r _ [8, 9, 10, 11] rfl
theorem hvX3_setValue : yX3_setValue.cls = RX3 ∧ yX3_setValue.cls ≠ "java/lang/invoke/MethodHandle" ∧ yX3_setValue.cls ≠ "java/lang/invoke/VarHandle" ∧ (parseMethodDescriptor yX3_setValue.desc).map (fun d => d.parameters.length) = some 2 := by decide +kernel
set_option maxHeartbeats 4000000 in
set_option maxRecDepth 100000 in
theorem kX3_setValue (l : Launch) {D : va_G} {cA : Nat → ClassId} {τ : Nat → Nat} {G : Nat → Nat → Nat} {L : List Nat} (hS : SW τ G L) (σ : Nat → Nat → Int) {a0 : Nat} (h0 : τ a0 = 4) {x1 : Int} (r1 : rg x1) {x2 : Int} (r2 : rg x2) : Met l yX3_setValue wsX3_setValue ({ frames := 1, cells := 0, slots := 0, locals := 21 }) (jP D cA τ G L σ [.ref a0, .int (jI x1), .int (jI x2)]) (jQV D cA τ G L (fun σ' => (True) ∧ fr wr_X3_setValue τ σ σ')) 0 0 (fun q => q ∈ L) := by
  refine j_metV (by decide +kernel) rfl (Nat.le_of_ble_eq_true rfl) ?_
  intro p e s m args below meth c Q hx hb hml hown hts hK hW hRet ls hl
  have hl : lv_has ls 3 [(0, .ref a0), (1, .int (jI x1)), (2, .int (jI x2))] := hl
  have hA : ∀ q ∈ L, (fun q => q ∈ L) q := fun _ h => h
  have hF : va_S (fun q => q ∈ L) s.heap s.heap [] := va_S.rf
  have hR : fr wr_X3_setValue τ σ σ := fr_rf
  refine lv_aload_n hx hb dX3_setValue_0 rfl (lv_at hl 0 rfl) ?_
  refine lv_iload_n hx hb dX3_setValue_1 rfl (lv_at hl 1 rfl) ?_
  refine j_cR (j_runV (As := [.int (jI x1)]) (rest := []) hx hb hml hown hts hK hS hW (kX3_has l hS σ (a0 := a0) (h0 := h0) (x1 := x1) (r1 := (by omega))) 1 gX3_setValue_X3_has rfl hvX3_has ⟨Nat.le_of_ble_eq_true rfl, Nat.le_of_ble_eq_true rfl⟩ rfl rfl h0 rfl rfl rfl rfl hl.1 rfl (Nat.le_of_ble_eq_true rfl) dX3_setValue_2 ⟨Nat.le_of_ble_eq_true rfl, Nat.le_of_ble_eq_true rfl⟩) (fun v_1 rv_1 pv_1 => ?_)
  try dsimp only at pv_1
  refine j_if_eq (tgt := 15) hx hb (by omega) dX3_setValue_5 (by decide) (fun c_2 => ?_) (fun c_2 => ?_)
  · exact hRet 15 _ _ _ _ dX3_setValue_15 hW hF ⟨trivial, hR⟩
  · refine lv_aload_n hx hb dX3_setValue_8 rfl (lv_at hl 0 rfl) ?_
    refine j_getR hx hb (C := RX3) (T := TX3) (N := 4) hts inX3_setValue_X3 hown hK hS hW h0 rfl 2 rfl rfl (by decide) (hts _ flX3_setValue_19) dX3_setValue_9 ?_
    have h_3 : τ (G a0 2) = 24 := gty hS h0 (k := 2) rfl rfl
    refine lv_iload_n hx hb dX3_setValue_12 rfl (lv_at hl 1 rfl) ?_
    refine lv_iload_n hx hb dX3_setValue_13 rfl (lv_at hl 2 rfl) ?_
    refine j_ast hx hb hK hS hA hW hF h_3 (n := 150) (lo := -2147483648) (hi := 2147483647) rfl (by omega) (by omega) (by decide) (by omega) dX3_setValue_14 (fun σ_4 H locs e_5 hW hF => ?_)
    have hR := fr_up hR e_5 h_3 24000 (cdA 24 (by decide) _) (by decide)
    exact hRet 15 _ _ _ _ dX3_setValue_15 hW hF ⟨trivial, hR⟩
theorem flX3_byteOf_9 : Cond.fieldLink RX3 9 "PageTrie$Keys" "bytes" "[B" ∈ wsX3_byteOf := List.mem_of_getElem? (i := 2) rfl
theorem flX3_byteOf_22 : Cond.fieldLink RX3 22 "PageTrie$Keys" "size" "I" ∈ wsX3_byteOf := List.mem_of_getElem? (i := 1) rfl
theorem inX3_byteOf_X3 : ∀ w ∈ u_ws RX3 TX3 4, w ∈ wsX3_byteOf := mem_r _ [3, 4, 5, 6] rfl
theorem hvX3_byteOf : yX3_byteOf.cls = RX3 ∧ yX3_byteOf.cls ≠ "java/lang/invoke/MethodHandle" ∧ yX3_byteOf.cls ≠ "java/lang/invoke/VarHandle" ∧ (parseMethodDescriptor yX3_byteOf.desc).map (fun d => d.parameters.length) = some 2 := by decide +kernel
set_option maxHeartbeats 4000000 in
set_option maxRecDepth 100000 in
theorem kX3_byteOf (l : Launch) {D : va_G} {cA : Nat → ClassId} {τ : Nat → Nat} {G : Nat → Nat → Nat} {L : List Nat} (hS : SW τ G L) (σ : Nat → Nat → Int) {a0 : Nat} (h0 : τ a0 = 4) {x1 : Int} (r1 : rg x1) {x2 : Int} (r2 : rg x2) : Met l yX3_byteOf wsX3_byteOf ({ frames := 0, cells := 0, slots := 0, locals := 0 }) (jP D cA τ G L σ [.ref a0, .int (jI x1), .int (jI x2)]) (jQR (fun r => (-128 ≤ r) ∧ (r ≤ 127))) 0 0 (fun _ => False) := by
  refine j_metR (by decide +kernel) rfl (Nat.le_of_ble_eq_true rfl) ?_
  intro p e s m args below meth c Q hx hb hml hown hts hK hW hRet ls hl
  have hl : lv_has ls 4 [(0, .ref a0), (1, .int (jI x1)), (2, .int (jI x2))] := hl
  refine lv_iload_n hx hb dX3_byteOf_0 rfl (lv_at hl 1 rfl) ?_
  refine j_if_lt (tgt := 33) hx hb (by omega) dX3_byteOf_1 (by decide) (fun c_1 => ?_) (fun c_1 => ?_)
  · refine j_const hx hb dX3_byteOf_33 ?_
    refine lv_istore_n (lv' := [(3, .int (jI 0)), (0, .ref a0), (1, .int (jI x1)), (2, .int (jI x2))]) hx hb dX3_byteOf_34 rfl hl (by decide) rfl (fun ls hl => ?_)
    refine lv_iload_n hx hb dX3_byteOf_35 rfl (lv_at hl 0 rfl) ?_
    refine j_if_eq (tgt := 53) hx hb (by decide) dX3_byteOf_36 (by decide) (fun _ => ?_) (fun h => absurd h (by decide))
    refine j_const hx hb dX3_byteOf_53 ?_
    exact hRet 54 _ 0 dX3_byteOf_54 (by decide) ⟨by omega, by omega⟩
  · refine lv_iload_n hx hb dX3_byteOf_4 rfl (lv_at hl 1 rfl) ?_
    refine lv_aload_n hx hb dX3_byteOf_5 rfl (lv_at hl 0 rfl) ?_
    refine j_getI hx hb (C := RX3) (T := TX3) (N := 4) hts inX3_byteOf_X3 hown hK hS hW h0 rfl 3 rfl rfl (by decide) (hts _ flX3_byteOf_22) dX3_byteOf_6 ?_
    have := fbd hW h0 (k := 3) (lo := 0) (hi := 150) rfl rfl
    refine j_icmp_ge (tgt := 33) hx hb (by omega) (by omega) dX3_byteOf_9 (by decide) (fun c_3 => ?_) (fun c_3 => ?_)
    · refine j_const hx hb dX3_byteOf_33 ?_
      refine lv_istore_n (lv' := [(3, .int (jI 0)), (0, .ref a0), (1, .int (jI x1)), (2, .int (jI x2))]) hx hb dX3_byteOf_34 rfl hl (by decide) rfl (fun ls hl => ?_)
      refine lv_iload_n hx hb dX3_byteOf_35 rfl (lv_at hl 0 rfl) ?_
      refine j_if_eq (tgt := 53) hx hb (by decide) dX3_byteOf_36 (by decide) (fun _ => ?_) (fun h => absurd h (by decide))
      refine j_const hx hb dX3_byteOf_53 ?_
      exact hRet 54 _ 0 dX3_byteOf_54 (by decide) ⟨by omega, by omega⟩
    · refine lv_iload_n hx hb dX3_byteOf_12 rfl (lv_at hl 1 rfl) ?_
      refine j_si hx hb dX3_byteOf_13 (by decide) ?_
      refine j_icmp_ge (tgt := 33) hx hb (by omega) (by decide) dX3_byteOf_16 (by decide) (fun c_5 => ?_) (fun c_5 => ?_)
      · refine j_const hx hb dX3_byteOf_33 ?_
        refine lv_istore_n (lv' := [(3, .int (jI 0)), (0, .ref a0), (1, .int (jI x1)), (2, .int (jI x2))]) hx hb dX3_byteOf_34 rfl hl (by decide) rfl (fun ls hl => ?_)
        refine lv_iload_n hx hb dX3_byteOf_35 rfl (lv_at hl 0 rfl) ?_
        refine j_if_eq (tgt := 53) hx hb (by decide) dX3_byteOf_36 (by decide) (fun _ => ?_) (fun h => absurd h (by decide))
        refine j_const hx hb dX3_byteOf_53 ?_
        exact hRet 54 _ 0 dX3_byteOf_54 (by decide) ⟨by omega, by omega⟩
      · refine lv_iload_n hx hb dX3_byteOf_19 rfl (lv_at hl 2 rfl) ?_
        refine j_if_lt (tgt := 33) hx hb (by omega) dX3_byteOf_20 (by decide) (fun c_7 => ?_) (fun c_7 => ?_)
        · refine j_const hx hb dX3_byteOf_33 ?_
          refine lv_istore_n (lv' := [(3, .int (jI 0)), (0, .ref a0), (1, .int (jI x1)), (2, .int (jI x2))]) hx hb dX3_byteOf_34 rfl hl (by decide) rfl (fun ls hl => ?_)
          refine lv_iload_n hx hb dX3_byteOf_35 rfl (lv_at hl 0 rfl) ?_
          refine j_if_eq (tgt := 53) hx hb (by decide) dX3_byteOf_36 (by decide) (fun _ => ?_) (fun h => absurd h (by decide))
          refine j_const hx hb dX3_byteOf_53 ?_
          exact hRet 54 _ 0 dX3_byteOf_54 (by decide) ⟨by omega, by omega⟩
        · refine lv_iload_n hx hb dX3_byteOf_23 rfl (lv_at hl 2 rfl) ?_
          refine j_bi hx hb dX3_byteOf_24 (by decide) ?_
          refine j_icmp_ge (tgt := 33) hx hb (by omega) (by decide) dX3_byteOf_26 (by decide) (fun c_9 => ?_) (fun c_9 => ?_)
          · refine j_const hx hb dX3_byteOf_33 ?_
            refine lv_istore_n (lv' := [(3, .int (jI 0)), (0, .ref a0), (1, .int (jI x1)), (2, .int (jI x2))]) hx hb dX3_byteOf_34 rfl hl (by decide) rfl (fun ls hl => ?_)
            refine lv_iload_n hx hb dX3_byteOf_35 rfl (lv_at hl 0 rfl) ?_
            refine j_if_eq (tgt := 53) hx hb (by decide) dX3_byteOf_36 (by decide) (fun _ => ?_) (fun h => absurd h (by decide))
            refine j_const hx hb dX3_byteOf_53 ?_
            exact hRet 54 _ 0 dX3_byteOf_54 (by decide) ⟨by omega, by omega⟩
          · refine j_const hx hb dX3_byteOf_29 ?_
            refine lv_goto (tgt := 34) hx hb dX3_byteOf_30 (by decide) ?_
            refine lv_istore_n (lv' := [(3, .int (jI 1)), (0, .ref a0), (1, .int (jI x1)), (2, .int (jI x2))]) hx hb dX3_byteOf_34 rfl hl (by decide) rfl (fun ls hl => ?_)
            refine lv_iload_n hx hb dX3_byteOf_35 rfl (lv_at hl 0 rfl) ?_
            refine j_if_eq (tgt := 53) hx hb (by decide) dX3_byteOf_36 (by decide) (fun h => absurd h (by decide)) (fun _ => ?_)
            refine lv_aload_n hx hb dX3_byteOf_39 rfl (lv_at hl 1 rfl) ?_
            refine j_getR hx hb (C := RX3) (T := TX3) (N := 4) hts inX3_byteOf_X3 hown hK hS hW h0 rfl 0 rfl rfl (by decide) (hts _ flX3_byteOf_9) dX3_byteOf_40 ?_
            have h_12 : τ (G a0 0) = 22 := gty hS h0 (k := 0) rfl rfl
            refine lv_iload_n hx hb dX3_byteOf_43 rfl (lv_at hl 2 rfl) ?_
            refine j_bi hx hb dX3_byteOf_44 (by decide) ?_
            refine j_mul hx hb dX3_byteOf_46 ?_
            refine lv_iload_n hx hb dX3_byteOf_47 rfl (lv_at hl 3 rfl) ?_
            refine j_add hx hb dX3_byteOf_48 ?_
            refine j_bald hx hb hK hS hW h_12 (n := 3600) rfl (by omega) (by omega) (by decide) dX3_byteOf_49 ?_
            have := abd hW h_12 (n := 3600) (lo := -128) (hi := 127) (i := (x1 * 24) + x2) rfl (by omega) (by omega)
            refine lv_goto (tgt := 54) hx hb dX3_byteOf_50 (by decide) ?_
            exact hRet 54 _ (σ (G a0 0) ((x1 * 24) + x2).toNat) dX3_byteOf_54 (by omega) ⟨by omega, by omega⟩
abbrev wr_X3_copyFrom : List Nat := [4003, 22000, 23000, 24000]
theorem flX3_copyFrom_9 : Cond.fieldLink RX3 9 "PageTrie$Keys" "bytes" "[B" ∈ wsX3_copyFrom := List.mem_of_getElem? (i := 1) rfl
theorem flX3_copyFrom_15 : Cond.fieldLink RX3 15 "PageTrie$Keys" "lengths" "[I" ∈ wsX3_copyFrom := List.mem_of_getElem? (i := 6) rfl
theorem flX3_copyFrom_19 : Cond.fieldLink RX3 19 "PageTrie$Keys" "values" "[I" ∈ wsX3_copyFrom := List.mem_of_getElem? (i := 7) rfl
theorem flX3_copyFrom_22 : Cond.fieldLink RX3 22 "PageTrie$Keys" "size" "I" ∈ wsX3_copyFrom := List.mem_of_getElem? (i := 8) rfl
theorem inX3_copyFrom_X3 : ∀ w ∈ u_ws RX3 TX3 4, w ∈ wsX3_copyFrom := mem_r _ [9, 10, 11, 12] rfl
theorem hvX3_copyFrom : yX3_copyFrom.cls = RX3 ∧ yX3_copyFrom.cls ≠ "java/lang/invoke/MethodHandle" ∧ yX3_copyFrom.cls ≠ "java/lang/invoke/VarHandle" ∧ (parseMethodDescriptor yX3_copyFrom.desc).map (fun d => d.parameters.length) = some 1 := by decide +kernel
set_option maxHeartbeats 4000000 in
set_option maxRecDepth 100000 in
theorem kX3_copyFrom (l : Launch) {D : va_G} {cA : Nat → ClassId} {τ : Nat → Nat} {G : Nat → Nat → Nat} {L : List Nat} (hS : SW τ G L) (σ : Nat → Nat → Int) {a0 : Nat} (h0 : τ a0 = 4) {a1 : Nat} (h1 : τ a1 = 4) : Met l yX3_copyFrom wsX3_copyFrom ({ frames := 1, cells := 0, slots := 0, locals := 40 }) (jP D cA τ G L σ [.ref a0, .ref a1]) (jQV D cA τ G L (fun σ' => (True) ∧ fr wr_X3_copyFrom τ σ σ')) 0 0 (fun q => q ∈ L) := by
  refine j_metV (by decide +kernel) rfl (Nat.le_of_ble_eq_true rfl) ?_
  intro p e s m args below meth c Q hx hb hml hown hts hK hW hRet ls hl
  have hl : lv_has ls 2 [(0, .ref a0), (1, .ref a1)] := hl
  have hA : ∀ q ∈ L, (fun q => q ∈ L) q := fun _ h => h
  have hF : va_S (fun q => q ∈ L) s.heap s.heap [] := va_S.rf
  have hR : fr wr_X3_copyFrom τ σ σ := fr_rf
  refine lv_aload_n hx hb dX3_copyFrom_0 rfl (lv_at hl 1 rfl) ?_
  refine j_getR hx hb (C := RX3) (T := TX3) (N := 4) hts inX3_copyFrom_X3 hown hK hS hW h1 rfl 0 rfl rfl (by decide) (hts _ flX3_copyFrom_9) dX3_copyFrom_1 ?_
  have h_1 : τ (G a1 0) = 22 := gty hS h1 (k := 0) rfl rfl
  refine j_const hx hb dX3_copyFrom_4 ?_
  refine lv_aload_n hx hb dX3_copyFrom_5 rfl (lv_at hl 0 rfl) ?_
  refine j_getR hx hb (C := RX3) (T := TX3) (N := 4) hts inX3_copyFrom_X3 hown hK hS hW h0 rfl 0 rfl rfl (by decide) (hts _ flX3_copyFrom_9) dX3_copyFrom_6 ?_
  have h_2 : τ (G a0 0) = 22 := gty hS h0 (k := 0) rfl rfl
  refine j_const hx hb dX3_copyFrom_9 ?_
  refine j_si hx hb dX3_copyFrom_10 (by decide) ?_
  refine j_copy hx hb (hml.trans hl.1.symm) hown (hts (.methodLink RX3 26 arraycopyName) (by decide +kernel)) (hts (.native arraycopyName) (by decide +kernel)) (hts (.static arraycopyName) (by decide +kernel)) (hts (.initialized "java/lang/System") (by decide +kernel)) hK hS hA hW hF (ty := .byte) h_1 h_2 (n0 := 3600) (n1 := 3600) rfl rfl rfl (Or.inl ⟨rfl, rfl⟩) (by decide) (by decide) (sp := 0) (dp := 0) (n := 3600) (by omega) (by omega) (by omega) (by omega) (by omega) (Nat.le_of_ble_eq_true rfl) (Nat.le_of_ble_eq_true rfl) dX3_copyFrom_13 (fun σ_3 H locs e_4 hW hF => ?_)
  have hR := fr_cp hR e_4 h_2 22000 (cdA 22 (by decide)) (by decide)
  refine lv_aload_n hx hb dX3_copyFrom_16 rfl (lv_at hl 1 rfl) ?_
  refine j_getR hx hb (C := RX3) (T := TX3) (N := 4) hts inX3_copyFrom_X3 hown hK hS hW h1 rfl 1 rfl rfl (by decide) (hts _ flX3_copyFrom_15) dX3_copyFrom_17 ?_
  have h_5 : τ (G a1 1) = 23 := gty hS h1 (k := 1) rfl rfl
  refine j_const hx hb dX3_copyFrom_20 ?_
  refine lv_aload_n hx hb dX3_copyFrom_21 rfl (lv_at hl 0 rfl) ?_
  refine j_getR hx hb (C := RX3) (T := TX3) (N := 4) hts inX3_copyFrom_X3 hown hK hS hW h0 rfl 1 rfl rfl (by decide) (hts _ flX3_copyFrom_15) dX3_copyFrom_22 ?_
  have h_6 : τ (G a0 1) = 23 := gty hS h0 (k := 1) rfl rfl
  refine j_const hx hb dX3_copyFrom_25 ?_
  refine j_si hx hb dX3_copyFrom_26 (by decide) ?_
  refine j_copy hx hb (hml.trans hl.1.symm) hown (hts (.methodLink RX3 26 arraycopyName) (by decide +kernel)) (hts (.native arraycopyName) (by decide +kernel)) (hts (.static arraycopyName) (by decide +kernel)) (hts (.initialized "java/lang/System") (by decide +kernel)) hK hS hA hW hF (ty := .int) h_5 h_6 (n0 := 150) (n1 := 150) rfl rfl rfl (Or.inr (Or.inl rfl)) (by decide) (by decide) (sp := 0) (dp := 0) (n := 150) (by omega) (by omega) (by omega) (by omega) (by omega) (Nat.le_of_ble_eq_true rfl) (Nat.le_of_ble_eq_true rfl) dX3_copyFrom_29 (fun σ_7 H locs e_8 hW hF => ?_)
  have hR := fr_cp hR e_8 h_6 23000 (cdA 23 (by decide)) (by decide)
  refine lv_aload_n hx hb dX3_copyFrom_32 rfl (lv_at hl 1 rfl) ?_
  refine j_getR hx hb (C := RX3) (T := TX3) (N := 4) hts inX3_copyFrom_X3 hown hK hS hW h1 rfl 2 rfl rfl (by decide) (hts _ flX3_copyFrom_19) dX3_copyFrom_33 ?_
  have h_9 : τ (G a1 2) = 24 := gty hS h1 (k := 2) rfl rfl
  refine j_const hx hb dX3_copyFrom_36 ?_
  refine lv_aload_n hx hb dX3_copyFrom_37 rfl (lv_at hl 0 rfl) ?_
  refine j_getR hx hb (C := RX3) (T := TX3) (N := 4) hts inX3_copyFrom_X3 hown hK hS hW h0 rfl 2 rfl rfl (by decide) (hts _ flX3_copyFrom_19) dX3_copyFrom_38 ?_
  have h_10 : τ (G a0 2) = 24 := gty hS h0 (k := 2) rfl rfl
  refine j_const hx hb dX3_copyFrom_41 ?_
  refine j_si hx hb dX3_copyFrom_42 (by decide) ?_
  refine j_copy hx hb (hml.trans hl.1.symm) hown (hts (.methodLink RX3 26 arraycopyName) (by decide +kernel)) (hts (.native arraycopyName) (by decide +kernel)) (hts (.static arraycopyName) (by decide +kernel)) (hts (.initialized "java/lang/System") (by decide +kernel)) hK hS hA hW hF (ty := .int) h_9 h_10 (n0 := 150) (n1 := 150) rfl rfl rfl (Or.inr (Or.inl rfl)) (by decide) (by decide) (sp := 0) (dp := 0) (n := 150) (by omega) (by omega) (by omega) (by omega) (by omega) (Nat.le_of_ble_eq_true rfl) (Nat.le_of_ble_eq_true rfl) dX3_copyFrom_45 (fun σ_11 H locs e_12 hW hF => ?_)
  have hR := fr_cp hR e_12 h_10 24000 (cdA 24 (by decide)) (by decide)
  refine lv_aload_n hx hb dX3_copyFrom_48 rfl (lv_at hl 0 rfl) ?_
  refine lv_aload_n hx hb dX3_copyFrom_49 rfl (lv_at hl 1 rfl) ?_
  refine j_getI hx hb (C := RX3) (T := TX3) (N := 4) hts inX3_copyFrom_X3 hown hK hS hW h1 rfl 3 rfl rfl (by decide) (hts _ flX3_copyFrom_22) dX3_copyFrom_50 ?_
  have := fbd hW h1 (k := 3) (lo := 0) (hi := 150) rfl rfl
  refine j_putI hx hb (C := RX3) (T := TX3) (N := 4) hts inX3_copyFrom_X3 tyX3 tyX3_ok nmX3 hown hK hS hA hW hF h0 rfl 3 (lo := 0) (hi := 150) rfl rfl (by decide) (hts _ flX3_copyFrom_22) rfl .int rfl (by omega) rfl rfl dX3_copyFrom_53 (fun σ_13 H locs e_14 hW hF => ?_)
  have hR := fr_up hR e_14 h0 4003 rfl (by decide)
  have : σ_13 a0 3 = σ_11 a1 3 := by rw [e_14]; exact up2_at _ _ _ _
  exact hRet 56 _ _ _ _ dX3_copyFrom_56 hW hF ⟨trivial, hR⟩
abbrev wr_X3_insertAt : List Nat := [4003, 22000, 23000, 24000]
theorem flX3_insertAt_9 : Cond.fieldLink RX3 9 "PageTrie$Keys" "bytes" "[B" ∈ wsX3_insertAt := List.mem_of_getElem? (i := 2) rfl
theorem flX3_insertAt_15 : Cond.fieldLink RX3 15 "PageTrie$Keys" "lengths" "[I" ∈ wsX3_insertAt := List.mem_of_getElem? (i := 7) rfl
theorem flX3_insertAt_19 : Cond.fieldLink RX3 19 "PageTrie$Keys" "values" "[I" ∈ wsX3_insertAt := List.mem_of_getElem? (i := 8) rfl
theorem flX3_insertAt_22 : Cond.fieldLink RX3 22 "PageTrie$Keys" "size" "I" ∈ wsX3_insertAt := List.mem_of_getElem? (i := 1) rfl
theorem flX3_insertAt_36 : Cond.fieldLink RX3 36 "PageTrie$Key" "bytes" "[B" ∈ wsX3_insertAt := List.mem_of_getElem? (i := 9) rfl
theorem flX3_insertAt_39 : Cond.fieldLink RX3 39 "PageTrie$Key" "length" "I" ∈ wsX3_insertAt := List.mem_of_getElem? (i := 10) rfl
theorem inX3_insertAt_X2 : ∀ w ∈ u_ws RX2 TX2 2, w ∈ wsX3_insertAt := mem_r _ [15, 16] rfl
theorem inX3_insertAt_X3 : ∀ w ∈ u_ws RX3 TX3 4, w ∈ wsX3_insertAt := mem_r _ [11, 12, 13, 14] rfl
theorem hvX3_insertAt : yX3_insertAt.cls = RX3 ∧ yX3_insertAt.cls ≠ "java/lang/invoke/MethodHandle" ∧ yX3_insertAt.cls ≠ "java/lang/invoke/VarHandle" ∧ (parseMethodDescriptor yX3_insertAt.desc).map (fun d => d.parameters.length) = some 3 := by decide +kernel
set_option maxHeartbeats 4000000 in
set_option maxRecDepth 100000 in
theorem kX3_insertAt (l : Launch) {D : va_G} {cA : Nat → ClassId} {τ : Nat → Nat} {G : Nat → Nat → Nat} {L : List Nat} (hS : SW τ G L) (σ : Nat → Nat → Int) {a0 : Nat} (h0 : τ a0 = 4) {x1 : Int} (r1 : rg x1) {a2 : Nat} (h2 : τ a2 = 3) {x3 : Int} (r3 : rg x3) : Met l yX3_insertAt wsX3_insertAt ({ frames := 1, cells := 0, slots := 0, locals := 40 }) (jP D cA τ G L σ [.ref a0, .int (jI x1), .ref a2, .int (jI x3)]) (jQV D cA τ G L (fun σ' => (True) ∧ fr wr_X3_insertAt τ σ σ')) 0 0 (fun q => q ∈ L) := by
  refine j_metV (by decide +kernel) rfl (Nat.le_of_ble_eq_true rfl) ?_
  intro p e s m args below meth c Q hx hb hml hown hts hK hW hRet ls hl
  have hl : lv_has ls 5 [(0, .ref a0), (1, .int (jI x1)), (2, .ref a2), (3, .int (jI x3))] := hl
  have hA : ∀ q ∈ L, (fun q => q ∈ L) q := fun _ h => h
  have hF : va_S (fun q => q ∈ L) s.heap s.heap [] := va_S.rf
  have hR : fr wr_X3_insertAt τ σ σ := fr_rf
  refine lv_iload_n hx hb dX3_insertAt_0 rfl (lv_at hl 1 rfl) ?_
  refine j_if_lt (tgt := 22) hx hb (by omega) dX3_insertAt_1 (by decide) (fun c_1 => ?_) (fun c_1 => ?_)
  · exact hRet 22 _ _ _ _ dX3_insertAt_22 hW hF ⟨trivial, hR⟩
  · refine lv_iload_n hx hb dX3_insertAt_4 rfl (lv_at hl 1 rfl) ?_
    refine lv_aload_n hx hb dX3_insertAt_5 rfl (lv_at hl 0 rfl) ?_
    refine j_getI hx hb (C := RX3) (T := TX3) (N := 4) hts inX3_insertAt_X3 hown hK hS hW h0 rfl 3 rfl rfl (by decide) (hts _ flX3_insertAt_22) dX3_insertAt_6 ?_
    have := fbd hW h0 (k := 3) (lo := 0) (hi := 150) rfl rfl
    refine j_icmp_gt (tgt := 22) hx hb (by omega) (by omega) dX3_insertAt_9 (by decide) (fun c_2 => ?_) (fun c_2 => ?_)
    · exact hRet 22 _ _ _ _ dX3_insertAt_22 hW hF ⟨trivial, hR⟩
    · refine lv_aload_n hx hb dX3_insertAt_12 rfl (lv_at hl 0 rfl) ?_
      refine j_getI hx hb (C := RX3) (T := TX3) (N := 4) hts inX3_insertAt_X3 hown hK hS hW h0 rfl 3 rfl rfl (by decide) (hts _ flX3_insertAt_22) dX3_insertAt_13 ?_
      refine j_si hx hb dX3_insertAt_16 (by decide) ?_
      refine j_icmp_lt (tgt := 23) hx hb (by omega) (by decide) dX3_insertAt_19 (by decide) (fun c_3 => ?_) (fun c_3 => ?_)
      · refine lv_aload_n hx hb dX3_insertAt_23 rfl (lv_at hl 0 rfl) ?_
        refine j_getI hx hb (C := RX3) (T := TX3) (N := 4) hts inX3_insertAt_X3 hown hK hS hW h0 rfl 3 rfl rfl (by decide) (hts _ flX3_insertAt_22) dX3_insertAt_24 ?_
        refine lv_iload_n hx hb dX3_insertAt_27 rfl (lv_at hl 1 rfl) ?_
        refine j_sub hx hb dX3_insertAt_28 ?_
        refine lv_istore (lv' := [(4, .int (jI ((σ a0 3) - x1))), (0, .ref a0), (1, .int (jI x1)), (2, .ref a2), (3, .int (jI x3))]) hx hb dX3_insertAt_29 hl (by decide) rfl (fun ls hl => ?_)
        refine lv_aload_n hx hb dX3_insertAt_31 rfl (lv_at hl 1 rfl) ?_
        refine j_getR hx hb (C := RX3) (T := TX3) (N := 4) hts inX3_insertAt_X3 hown hK hS hW h0 rfl 0 rfl rfl (by decide) (hts _ flX3_insertAt_9) dX3_insertAt_32 ?_
        have h_4 : τ (G a0 0) = 22 := gty hS h0 (k := 0) rfl rfl
        refine lv_iload_n hx hb dX3_insertAt_35 rfl (lv_at hl 2 rfl) ?_
        refine j_bi hx hb dX3_insertAt_36 (by decide) ?_
        refine j_mul hx hb dX3_insertAt_38 ?_
        refine lv_aload_n hx hb dX3_insertAt_39 rfl (lv_at hl 1 rfl) ?_
        refine j_getR hx hb (C := RX3) (T := TX3) (N := 4) hts inX3_insertAt_X3 hown hK hS hW h0 rfl 0 rfl rfl (by decide) (hts _ flX3_insertAt_9) dX3_insertAt_40 ?_
        refine lv_iload_n hx hb dX3_insertAt_43 rfl (lv_at hl 2 rfl) ?_
        refine j_const hx hb dX3_insertAt_44 ?_
        refine j_add hx hb dX3_insertAt_45 ?_
        refine j_bi hx hb dX3_insertAt_46 (by decide) ?_
        refine j_mul hx hb dX3_insertAt_48 ?_
        refine lv_iload hx hb dX3_insertAt_49 (lv_at hl 0 rfl) ?_
        refine j_bi hx hb dX3_insertAt_51 (by decide) ?_
        refine j_mul hx hb dX3_insertAt_53 ?_
        refine j_copy hx hb (hml.trans hl.1.symm) hown (hts (.methodLink RX3 26 arraycopyName) (by decide +kernel)) (hts (.native arraycopyName) (by decide +kernel)) (hts (.static arraycopyName) (by decide +kernel)) (hts (.initialized "java/lang/System") (by decide +kernel)) hK hS hA hW hF (ty := .byte) h_4 h_4 (n0 := 3600) (n1 := 3600) rfl rfl rfl (Or.inl ⟨rfl, rfl⟩) (by decide) (by decide) (sp := x1 * 24) (dp := (x1 + 1) * 24) (n := ((σ a0 3) - x1) * 24) (by omega) (by omega) (by omega) (by omega) (by omega) (Nat.le_of_ble_eq_true rfl) (Nat.le_of_ble_eq_true rfl) dX3_insertAt_54 (fun σ_5 H locs e_6 hW hF => ?_)
        have hR := fr_cp hR e_6 h_4 22000 (cdA 22 (by decide)) (by decide)
        have : σ_5 a0 3 = σ a0 3 := e_6 _ _ (fun h => absurd ((h0).symm.trans ((congrArg τ h).trans h_4)) (by decide))
        refine lv_aload_n hx hb dX3_insertAt_57 rfl (lv_at hl 1 rfl) ?_
        refine j_getR hx hb (C := RX3) (T := TX3) (N := 4) hts inX3_insertAt_X3 hown hK hS hW h0 rfl 1 rfl rfl (by decide) (hts _ flX3_insertAt_15) dX3_insertAt_58 ?_
        have h_7 : τ (G a0 1) = 23 := gty hS h0 (k := 1) rfl rfl
        refine lv_iload_n hx hb dX3_insertAt_61 rfl (lv_at hl 2 rfl) ?_
        refine lv_aload_n hx hb dX3_insertAt_62 rfl (lv_at hl 1 rfl) ?_
        refine j_getR hx hb (C := RX3) (T := TX3) (N := 4) hts inX3_insertAt_X3 hown hK hS hW h0 rfl 1 rfl rfl (by decide) (hts _ flX3_insertAt_15) dX3_insertAt_63 ?_
        refine lv_iload_n hx hb dX3_insertAt_66 rfl (lv_at hl 2 rfl) ?_
        refine j_const hx hb dX3_insertAt_67 ?_
        refine j_add hx hb dX3_insertAt_68 ?_
        refine lv_iload hx hb dX3_insertAt_69 (lv_at hl 0 rfl) ?_
        refine j_copy hx hb (hml.trans hl.1.symm) hown (hts (.methodLink RX3 26 arraycopyName) (by decide +kernel)) (hts (.native arraycopyName) (by decide +kernel)) (hts (.static arraycopyName) (by decide +kernel)) (hts (.initialized "java/lang/System") (by decide +kernel)) hK hS hA hW hF (ty := .int) h_7 h_7 (n0 := 150) (n1 := 150) rfl rfl rfl (Or.inr (Or.inl rfl)) (by decide) (by decide) (sp := x1) (dp := x1 + 1) (n := (σ a0 3) - x1) (by omega) (by omega) (by omega) (by omega) (by omega) (Nat.le_of_ble_eq_true rfl) (Nat.le_of_ble_eq_true rfl) dX3_insertAt_71 (fun σ_8 H locs e_9 hW hF => ?_)
        have hR := fr_cp hR e_9 h_7 23000 (cdA 23 (by decide)) (by decide)
        have : σ_8 a0 3 = σ_5 a0 3 := e_9 _ _ (fun h => absurd ((h0).symm.trans ((congrArg τ h).trans h_7)) (by decide))
        refine lv_aload_n hx hb dX3_insertAt_74 rfl (lv_at hl 1 rfl) ?_
        refine j_getR hx hb (C := RX3) (T := TX3) (N := 4) hts inX3_insertAt_X3 hown hK hS hW h0 rfl 2 rfl rfl (by decide) (hts _ flX3_insertAt_19) dX3_insertAt_75 ?_
        have h_10 : τ (G a0 2) = 24 := gty hS h0 (k := 2) rfl rfl
        refine lv_iload_n hx hb dX3_insertAt_78 rfl (lv_at hl 2 rfl) ?_
        refine lv_aload_n hx hb dX3_insertAt_79 rfl (lv_at hl 1 rfl) ?_
        refine j_getR hx hb (C := RX3) (T := TX3) (N := 4) hts inX3_insertAt_X3 hown hK hS hW h0 rfl 2 rfl rfl (by decide) (hts _ flX3_insertAt_19) dX3_insertAt_80 ?_
        refine lv_iload_n hx hb dX3_insertAt_83 rfl (lv_at hl 2 rfl) ?_
        refine j_const hx hb dX3_insertAt_84 ?_
        refine j_add hx hb dX3_insertAt_85 ?_
        refine lv_iload hx hb dX3_insertAt_86 (lv_at hl 0 rfl) ?_
        refine j_copy hx hb (hml.trans hl.1.symm) hown (hts (.methodLink RX3 26 arraycopyName) (by decide +kernel)) (hts (.native arraycopyName) (by decide +kernel)) (hts (.static arraycopyName) (by decide +kernel)) (hts (.initialized "java/lang/System") (by decide +kernel)) hK hS hA hW hF (ty := .int) h_10 h_10 (n0 := 150) (n1 := 150) rfl rfl rfl (Or.inr (Or.inl rfl)) (by decide) (by decide) (sp := x1) (dp := x1 + 1) (n := (σ a0 3) - x1) (by omega) (by omega) (by omega) (by omega) (by omega) (Nat.le_of_ble_eq_true rfl) (Nat.le_of_ble_eq_true rfl) dX3_insertAt_88 (fun σ_11 H locs e_12 hW hF => ?_)
        have hR := fr_cp hR e_12 h_10 24000 (cdA 24 (by decide)) (by decide)
        have : σ_11 a0 3 = σ_8 a0 3 := e_12 _ _ (fun h => absurd ((h0).symm.trans ((congrArg τ h).trans h_10)) (by decide))
        refine lv_aload_n hx hb dX3_insertAt_91 rfl (lv_at hl 3 rfl) ?_
        refine j_getR hx hb (C := RX2) (T := TX2) (N := 2) hts inX3_insertAt_X2 hown hK hS hW h2 rfl 0 rfl rfl (by decide) (hts _ flX3_insertAt_36) dX3_insertAt_92 ?_
        have h_13 : τ (G a2 0) = 20 := gty hS h2 (k := 0) rfl rfl
        refine j_const hx hb dX3_insertAt_95 ?_
        refine lv_aload_n hx hb dX3_insertAt_96 rfl (lv_at hl 1 rfl) ?_
        refine j_getR hx hb (C := RX3) (T := TX3) (N := 4) hts inX3_insertAt_X3 hown hK hS hW h0 rfl 0 rfl rfl (by decide) (hts _ flX3_insertAt_9) dX3_insertAt_97 ?_
        refine lv_iload_n hx hb dX3_insertAt_100 rfl (lv_at hl 2 rfl) ?_
        refine j_bi hx hb dX3_insertAt_101 (by decide) ?_
        refine j_mul hx hb dX3_insertAt_103 ?_
        refine j_bi hx hb dX3_insertAt_104 (by decide) ?_
        refine j_copy hx hb (hml.trans hl.1.symm) hown (hts (.methodLink RX3 26 arraycopyName) (by decide +kernel)) (hts (.native arraycopyName) (by decide +kernel)) (hts (.static arraycopyName) (by decide +kernel)) (hts (.initialized "java/lang/System") (by decide +kernel)) hK hS hA hW hF (ty := .byte) h_13 h_4 (n0 := 24) (n1 := 3600) rfl rfl rfl (Or.inl ⟨rfl, rfl⟩) (by decide) (by decide) (sp := 0) (dp := x1 * 24) (n := 24) (by omega) (by omega) (by omega) (by omega) (by omega) (Nat.le_of_ble_eq_true rfl) (Nat.le_of_ble_eq_true rfl) dX3_insertAt_106 (fun σ_14 H locs e_15 hW hF => ?_)
        have hR := fr_cp hR e_15 h_4 22000 (cdA 22 (by decide)) (by decide)
        have : σ_14 a0 3 = σ_11 a0 3 := e_15 _ _ (fun h => absurd ((h0).symm.trans ((congrArg τ h).trans h_4)) (by decide))
        refine lv_aload_n hx hb dX3_insertAt_109 rfl (lv_at hl 1 rfl) ?_
        refine j_getR hx hb (C := RX3) (T := TX3) (N := 4) hts inX3_insertAt_X3 hown hK hS hW h0 rfl 1 rfl rfl (by decide) (hts _ flX3_insertAt_15) dX3_insertAt_110 ?_
        refine lv_iload_n hx hb dX3_insertAt_113 rfl (lv_at hl 2 rfl) ?_
        refine lv_aload_n hx hb dX3_insertAt_114 rfl (lv_at hl 3 rfl) ?_
        refine j_getI hx hb (C := RX2) (T := TX2) (N := 2) hts inX3_insertAt_X2 hown hK hS hW h2 rfl 1 rfl rfl (by decide) (hts _ flX3_insertAt_39) dX3_insertAt_115 ?_
        have := fbd hW h2 (k := 1) (lo := 0) (hi := 24) rfl rfl
        refine j_ast hx hb hK hS hA hW hF h_7 (n := 150) (lo := 0) (hi := 24) rfl (by omega) (by omega) (by decide) (by omega) dX3_insertAt_118 (fun σ_16 H locs e_17 hW hF => ?_)
        have hR := fr_up hR e_17 h_7 23000 (cdA 23 (by decide) _) (by decide)
        have : σ_16 a0 3 = σ_14 a0 3 := by rw [e_17]; exact up2_ne _ _ (fun h => absurd ((h0).symm.trans ((congrArg τ h.1).trans h_7)) (by decide))
        refine lv_aload_n hx hb dX3_insertAt_119 rfl (lv_at hl 1 rfl) ?_
        refine j_getR hx hb (C := RX3) (T := TX3) (N := 4) hts inX3_insertAt_X3 hown hK hS hW h0 rfl 2 rfl rfl (by decide) (hts _ flX3_insertAt_19) dX3_insertAt_120 ?_
        refine lv_iload_n hx hb dX3_insertAt_123 rfl (lv_at hl 2 rfl) ?_
        refine lv_iload_n hx hb dX3_insertAt_124 rfl (lv_at hl 4 rfl) ?_
        refine j_ast hx hb hK hS hA hW hF h_10 (n := 150) (lo := -2147483648) (hi := 2147483647) rfl (by omega) (by omega) (by decide) (by omega) dX3_insertAt_125 (fun σ_18 H locs e_19 hW hF => ?_)
        have hR := fr_up hR e_19 h_10 24000 (cdA 24 (by decide) _) (by decide)
        have : σ_18 a0 3 = σ_16 a0 3 := by rw [e_19]; exact up2_ne _ _ (fun h => absurd ((h0).symm.trans ((congrArg τ h.1).trans h_10)) (by decide))
        refine lv_aload_n hx hb dX3_insertAt_126 rfl (lv_at hl 1 rfl) ?_
        refine lv_dup hx hb dX3_insertAt_127 rfl ?_
        refine j_getI hx hb (C := RX3) (T := TX3) (N := 4) hts inX3_insertAt_X3 hown hK hS hW h0 rfl 3 rfl rfl (by decide) (hts _ flX3_insertAt_22) dX3_insertAt_128 ?_
        have := fbd hW h0 (k := 3) (lo := 0) (hi := 150) rfl rfl
        refine j_const hx hb dX3_insertAt_131 ?_
        refine j_add hx hb dX3_insertAt_132 ?_
        refine j_putI hx hb (C := RX3) (T := TX3) (N := 4) hts inX3_insertAt_X3 tyX3 tyX3_ok nmX3 hown hK hS hA hW hF h0 rfl 3 (lo := 0) (hi := 150) rfl rfl (by decide) (hts _ flX3_insertAt_22) rfl .int rfl (by omega) rfl rfl dX3_insertAt_133 (fun σ_20 H locs e_21 hW hF => ?_)
        have hR := fr_up hR e_21 h0 4003 rfl (by decide)
        have : σ_20 a0 3 = (σ_18 a0 3) + 1 := by rw [e_21]; exact up2_at _ _ _ _
        exact hRet 136 _ _ _ _ dX3_insertAt_136 hW hF ⟨trivial, hR⟩
      · exact hRet 22 _ _ _ _ dX3_insertAt_22 hW hF ⟨trivial, hR⟩
abbrev wr_X3_append : List Nat := [4003, 22000, 23000, 24000]
theorem flX3_append_9 : Cond.fieldLink RX3 9 "PageTrie$Keys" "bytes" "[B" ∈ wsX3_append := List.mem_of_getElem? (i := 2) rfl
theorem flX3_append_15 : Cond.fieldLink RX3 15 "PageTrie$Keys" "lengths" "[I" ∈ wsX3_append := List.mem_of_getElem? (i := 7) rfl
theorem flX3_append_19 : Cond.fieldLink RX3 19 "PageTrie$Keys" "values" "[I" ∈ wsX3_append := List.mem_of_getElem? (i := 8) rfl
theorem flX3_append_22 : Cond.fieldLink RX3 22 "PageTrie$Keys" "size" "I" ∈ wsX3_append := List.mem_of_getElem? (i := 1) rfl
theorem inX3_append_X3 : ∀ w ∈ u_ws RX3 TX3 4, w ∈ wsX3_append := mem_r _ [14, 15, 16, 17] rfl
theorem hvX3_append : yX3_append.cls = RX3 ∧ yX3_append.cls ≠ "java/lang/invoke/MethodHandle" ∧ yX3_append.cls ≠ "java/lang/invoke/VarHandle" ∧ (parseMethodDescriptor yX3_append.desc).map (fun d => d.parameters.length) = some 2 := by decide +kernel
set_option maxHeartbeats 4000000 in
set_option maxRecDepth 100000 in
theorem kX3_append (l : Launch) {D : va_G} {cA : Nat → ClassId} {τ : Nat → Nat} {G : Nat → Nat → Nat} {L : List Nat} (hS : SW τ G L) (σ : Nat → Nat → Int) {a0 : Nat} (h0 : τ a0 = 4) {a1 : Nat} (h1 : τ a1 = 4) {x2 : Int} (r2 : rg x2) : Met l yX3_append wsX3_append ({ frames := 1, cells := 0, slots := 0, locals := 40 }) (jP D cA τ G L σ [.ref a0, .ref a1, .int (jI x2)]) (jQV D cA τ G L (fun σ' => (True) ∧ fr wr_X3_append τ σ σ')) 0 0 (fun q => q ∈ L) := by
  refine j_metV (by decide +kernel) rfl (Nat.le_of_ble_eq_true rfl) ?_
  intro p e s m args below meth c Q hx hb hml hown hts hK hW hRet ls hl
  have hl : lv_has ls 3 [(0, .ref a0), (1, .ref a1), (2, .int (jI x2))] := hl
  have hA : ∀ q ∈ L, (fun q => q ∈ L) q := fun _ h => h
  have hF : va_S (fun q => q ∈ L) s.heap s.heap [] := va_S.rf
  have hR : fr wr_X3_append τ σ σ := fr_rf
  refine lv_aload_n hx hb dX3_append_0 rfl (lv_at hl 1 rfl) ?_
  refine lv_iload_n hx hb dX3_append_1 rfl (lv_at hl 2 rfl) ?_
  refine j_cR (j_runV (As := [.int (jI x2)]) (rest := []) hx hb hml hown hts hK hS hW (kX3_has l hS σ (a0 := a1) (h0 := h1) (x1 := x2) (r1 := (by omega))) 1 gX3_append_X3_has rfl hvX3_has ⟨Nat.le_of_ble_eq_true rfl, Nat.le_of_ble_eq_true rfl⟩ rfl rfl h1 rfl rfl rfl rfl hl.1 rfl (Nat.le_of_ble_eq_true rfl) dX3_append_2 ⟨Nat.le_of_ble_eq_true rfl, Nat.le_of_ble_eq_true rfl⟩) (fun v_1 rv_1 pv_1 => ?_)
  try dsimp only at pv_1
  refine j_if_eq (tgt := 25) hx hb (by omega) dX3_append_5 (by decide) (fun c_2 => ?_) (fun c_2 => ?_)
  · exact hRet 25 _ _ _ _ dX3_append_25 hW hF ⟨trivial, hR⟩
  · refine lv_aload_n hx hb dX3_append_8 rfl (lv_at hl 0 rfl) ?_
    refine j_getI hx hb (C := RX3) (T := TX3) (N := 4) hts inX3_append_X3 hown hK hS hW h0 rfl 3 rfl rfl (by decide) (hts _ flX3_append_22) dX3_append_9 ?_
    have := fbd hW h0 (k := 3) (lo := 0) (hi := 150) rfl rfl
    refine j_if_lt (tgt := 25) hx hb (by omega) dX3_append_12 (by decide) (fun c_3 => ?_) (fun c_3 => ?_)
    · exact hRet 25 _ _ _ _ dX3_append_25 hW hF ⟨trivial, hR⟩
    · refine lv_aload_n hx hb dX3_append_15 rfl (lv_at hl 0 rfl) ?_
      refine j_getI hx hb (C := RX3) (T := TX3) (N := 4) hts inX3_append_X3 hown hK hS hW h0 rfl 3 rfl rfl (by decide) (hts _ flX3_append_22) dX3_append_16 ?_
      refine j_si hx hb dX3_append_19 (by decide) ?_
      refine j_icmp_lt (tgt := 26) hx hb (by omega) (by decide) dX3_append_22 (by decide) (fun c_4 => ?_) (fun c_4 => ?_)
      · refine lv_aload_n hx hb dX3_append_26 rfl (lv_at hl 1 rfl) ?_
        refine j_getR hx hb (C := RX3) (T := TX3) (N := 4) hts inX3_append_X3 hown hK hS hW h1 rfl 0 rfl rfl (by decide) (hts _ flX3_append_9) dX3_append_27 ?_
        have h_5 : τ (G a1 0) = 22 := gty hS h1 (k := 0) rfl rfl
        refine lv_iload_n hx hb dX3_append_30 rfl (lv_at hl 2 rfl) ?_
        refine j_bi hx hb dX3_append_31 (by decide) ?_
        refine j_mul hx hb dX3_append_33 ?_
        refine lv_aload_n hx hb dX3_append_34 rfl (lv_at hl 0 rfl) ?_
        refine j_getR hx hb (C := RX3) (T := TX3) (N := 4) hts inX3_append_X3 hown hK hS hW h0 rfl 0 rfl rfl (by decide) (hts _ flX3_append_9) dX3_append_35 ?_
        have h_6 : τ (G a0 0) = 22 := gty hS h0 (k := 0) rfl rfl
        refine lv_aload_n hx hb dX3_append_38 rfl (lv_at hl 0 rfl) ?_
        refine j_getI hx hb (C := RX3) (T := TX3) (N := 4) hts inX3_append_X3 hown hK hS hW h0 rfl 3 rfl rfl (by decide) (hts _ flX3_append_22) dX3_append_39 ?_
        refine j_bi hx hb dX3_append_42 (by decide) ?_
        refine j_mul hx hb dX3_append_44 ?_
        refine j_bi hx hb dX3_append_45 (by decide) ?_
        refine j_copy hx hb (hml.trans hl.1.symm) hown (hts (.methodLink RX3 26 arraycopyName) (by decide +kernel)) (hts (.native arraycopyName) (by decide +kernel)) (hts (.static arraycopyName) (by decide +kernel)) (hts (.initialized "java/lang/System") (by decide +kernel)) hK hS hA hW hF (ty := .byte) h_5 h_6 (n0 := 3600) (n1 := 3600) rfl rfl rfl (Or.inl ⟨rfl, rfl⟩) (by decide) (by decide) (sp := x2 * 24) (dp := (σ a0 3) * 24) (n := 24) (by omega) (by omega) (by omega) (by omega) (by omega) (Nat.le_of_ble_eq_true rfl) (Nat.le_of_ble_eq_true rfl) dX3_append_47 (fun σ_7 H locs e_8 hW hF => ?_)
        have hR := fr_cp hR e_8 h_6 22000 (cdA 22 (by decide)) (by decide)
        have : σ_7 a0 3 = σ a0 3 := e_8 _ _ (fun h => absurd ((h0).symm.trans ((congrArg τ h).trans h_6)) (by decide))
        refine lv_aload_n hx hb dX3_append_50 rfl (lv_at hl 0 rfl) ?_
        refine j_getR hx hb (C := RX3) (T := TX3) (N := 4) hts inX3_append_X3 hown hK hS hW h0 rfl 1 rfl rfl (by decide) (hts _ flX3_append_15) dX3_append_51 ?_
        have h_9 : τ (G a0 1) = 23 := gty hS h0 (k := 1) rfl rfl
        refine lv_aload_n hx hb dX3_append_54 rfl (lv_at hl 0 rfl) ?_
        refine j_getI hx hb (C := RX3) (T := TX3) (N := 4) hts inX3_append_X3 hown hK hS hW h0 rfl 3 rfl rfl (by decide) (hts _ flX3_append_22) dX3_append_55 ?_
        have := fbd hW h0 (k := 3) (lo := 0) (hi := 150) rfl rfl
        refine lv_aload_n hx hb dX3_append_58 rfl (lv_at hl 1 rfl) ?_
        refine j_getR hx hb (C := RX3) (T := TX3) (N := 4) hts inX3_append_X3 hown hK hS hW h1 rfl 1 rfl rfl (by decide) (hts _ flX3_append_15) dX3_append_59 ?_
        have h_10 : τ (G a1 1) = 23 := gty hS h1 (k := 1) rfl rfl
        refine lv_iload_n hx hb dX3_append_62 rfl (lv_at hl 2 rfl) ?_
        refine j_ald hx hb hK hS hW h_10 (n := 150) rfl (by omega) (by omega) (by decide) dX3_append_63 ?_
        have := abd hW h_10 (n := 150) (lo := 0) (hi := 24) (i := x2) rfl (by omega) (by omega)
        refine j_ast hx hb hK hS hA hW hF h_9 (n := 150) (lo := 0) (hi := 24) rfl (by omega) (by omega) (by decide) (by omega) dX3_append_64 (fun σ_11 H locs e_12 hW hF => ?_)
        have hR := fr_up hR e_12 h_9 23000 (cdA 23 (by decide) _) (by decide)
        have : σ_11 a0 3 = σ_7 a0 3 := by rw [e_12]; exact up2_ne _ _ (fun h => absurd ((h0).symm.trans ((congrArg τ h.1).trans h_9)) (by decide))
        refine lv_aload_n hx hb dX3_append_65 rfl (lv_at hl 0 rfl) ?_
        refine j_getR hx hb (C := RX3) (T := TX3) (N := 4) hts inX3_append_X3 hown hK hS hW h0 rfl 2 rfl rfl (by decide) (hts _ flX3_append_19) dX3_append_66 ?_
        have h_13 : τ (G a0 2) = 24 := gty hS h0 (k := 2) rfl rfl
        refine lv_aload_n hx hb dX3_append_69 rfl (lv_at hl 0 rfl) ?_
        refine j_getI hx hb (C := RX3) (T := TX3) (N := 4) hts inX3_append_X3 hown hK hS hW h0 rfl 3 rfl rfl (by decide) (hts _ flX3_append_22) dX3_append_70 ?_
        have := fbd hW h0 (k := 3) (lo := 0) (hi := 150) rfl rfl
        refine lv_aload_n hx hb dX3_append_73 rfl (lv_at hl 1 rfl) ?_
        refine j_getR hx hb (C := RX3) (T := TX3) (N := 4) hts inX3_append_X3 hown hK hS hW h1 rfl 2 rfl rfl (by decide) (hts _ flX3_append_19) dX3_append_74 ?_
        have h_14 : τ (G a1 2) = 24 := gty hS h1 (k := 2) rfl rfl
        refine lv_iload_n hx hb dX3_append_77 rfl (lv_at hl 2 rfl) ?_
        refine j_ald hx hb hK hS hW h_14 (n := 150) rfl (by omega) (by omega) (by decide) dX3_append_78 ?_
        have := abd hW h_14 (n := 150) (lo := -2147483648) (hi := 2147483647) (i := x2) rfl (by omega) (by omega)
        refine j_ast hx hb hK hS hA hW hF h_13 (n := 150) (lo := -2147483648) (hi := 2147483647) rfl (by omega) (by omega) (by decide) (by omega) dX3_append_79 (fun σ_15 H locs e_16 hW hF => ?_)
        have hR := fr_up hR e_16 h_13 24000 (cdA 24 (by decide) _) (by decide)
        have : σ_15 a0 3 = σ_11 a0 3 := by rw [e_16]; exact up2_ne _ _ (fun h => absurd ((h0).symm.trans ((congrArg τ h.1).trans h_13)) (by decide))
        refine lv_aload_n hx hb dX3_append_80 rfl (lv_at hl 0 rfl) ?_
        refine lv_dup hx hb dX3_append_81 rfl ?_
        refine j_getI hx hb (C := RX3) (T := TX3) (N := 4) hts inX3_append_X3 hown hK hS hW h0 rfl 3 rfl rfl (by decide) (hts _ flX3_append_22) dX3_append_82 ?_
        have := fbd hW h0 (k := 3) (lo := 0) (hi := 150) rfl rfl
        refine j_const hx hb dX3_append_85 ?_
        refine j_add hx hb dX3_append_86 ?_
        refine j_putI hx hb (C := RX3) (T := TX3) (N := 4) hts inX3_append_X3 tyX3 tyX3_ok nmX3 hown hK hS hA hW hF h0 rfl 3 (lo := 0) (hi := 150) rfl rfl (by decide) (hts _ flX3_append_22) rfl .int rfl (by omega) rfl rfl dX3_append_87 (fun σ_17 H locs e_18 hW hF => ?_)
        have hR := fr_up hR e_18 h0 4003 rfl (by decide)
        have : σ_17 a0 3 = (σ_15 a0 3) + 1 := by rw [e_18]; exact up2_at _ _ _ _
        exact hRet 90 _ _ _ _ dX3_append_90 hW hF ⟨trivial, hR⟩
      · exact hRet 25 _ _ _ _ dX3_append_25 hW hF ⟨trivial, hR⟩
abbrev wr_X3_removeAt : List Nat := [4003, 22000, 23000, 24000]
theorem flX3_removeAt_9 : Cond.fieldLink RX3 9 "PageTrie$Keys" "bytes" "[B" ∈ wsX3_removeAt := List.mem_of_getElem? (i := 2) rfl
theorem flX3_removeAt_15 : Cond.fieldLink RX3 15 "PageTrie$Keys" "lengths" "[I" ∈ wsX3_removeAt := List.mem_of_getElem? (i := 7) rfl
theorem flX3_removeAt_19 : Cond.fieldLink RX3 19 "PageTrie$Keys" "values" "[I" ∈ wsX3_removeAt := List.mem_of_getElem? (i := 8) rfl
theorem flX3_removeAt_22 : Cond.fieldLink RX3 22 "PageTrie$Keys" "size" "I" ∈ wsX3_removeAt := List.mem_of_getElem? (i := 1) rfl
theorem inX3_removeAt_X3 : ∀ w ∈ u_ws RX3 TX3 4, w ∈ wsX3_removeAt := mem_r _ [14, 15, 16, 17] rfl
theorem hvX3_removeAt : yX3_removeAt.cls = RX3 ∧ yX3_removeAt.cls ≠ "java/lang/invoke/MethodHandle" ∧ yX3_removeAt.cls ≠ "java/lang/invoke/VarHandle" ∧ (parseMethodDescriptor yX3_removeAt.desc).map (fun d => d.parameters.length) = some 1 := by decide +kernel
set_option maxHeartbeats 4000000 in
set_option maxRecDepth 100000 in
theorem kX3_removeAt (l : Launch) {D : va_G} {cA : Nat → ClassId} {τ : Nat → Nat} {G : Nat → Nat → Nat} {L : List Nat} (hS : SW τ G L) (σ : Nat → Nat → Int) {a0 : Nat} (h0 : τ a0 = 4) {x1 : Int} (r1 : rg x1) : Met l yX3_removeAt wsX3_removeAt ({ frames := 1, cells := 0, slots := 0, locals := 40 }) (jP D cA τ G L σ [.ref a0, .int (jI x1)]) (jQV D cA τ G L (fun σ' => (True) ∧ fr wr_X3_removeAt τ σ σ')) 0 0 (fun q => q ∈ L) := by
  refine j_metV (by decide +kernel) rfl (Nat.le_of_ble_eq_true rfl) ?_
  intro p e s m args below meth c Q hx hb hml hown hts hK hW hRet ls hl
  have hl : lv_has ls 3 [(0, .ref a0), (1, .int (jI x1))] := hl
  have hA : ∀ q ∈ L, (fun q => q ∈ L) q := fun _ h => h
  have hF : va_S (fun q => q ∈ L) s.heap s.heap [] := va_S.rf
  have hR : fr wr_X3_removeAt τ σ σ := fr_rf
  refine lv_aload_n hx hb dX3_removeAt_0 rfl (lv_at hl 0 rfl) ?_
  refine lv_iload_n hx hb dX3_removeAt_1 rfl (lv_at hl 1 rfl) ?_
  refine j_cR (j_runV (As := [.int (jI x1)]) (rest := []) hx hb hml hown hts hK hS hW (kX3_has l hS σ (a0 := a0) (h0 := h0) (x1 := x1) (r1 := (by omega))) 1 gX3_removeAt_X3_has rfl hvX3_has ⟨Nat.le_of_ble_eq_true rfl, Nat.le_of_ble_eq_true rfl⟩ rfl rfl h0 rfl rfl rfl rfl hl.1 rfl (Nat.le_of_ble_eq_true rfl) dX3_removeAt_2 ⟨Nat.le_of_ble_eq_true rfl, Nat.le_of_ble_eq_true rfl⟩) (fun v_1 rv_1 pv_1 => ?_)
  try dsimp only at pv_1
  refine j_if_ne (tgt := 9) hx hb (by omega) dX3_removeAt_5 (by decide) (fun c_2 => ?_) (fun c_2 => ?_)
  · refine lv_aload_n hx hb dX3_removeAt_9 rfl (lv_at hl 0 rfl) ?_
    refine j_getI hx hb (C := RX3) (T := TX3) (N := 4) hts inX3_removeAt_X3 hown hK hS hW h0 rfl 3 rfl rfl (by decide) (hts _ flX3_removeAt_22) dX3_removeAt_10 ?_
    have := fbd hW h0 (k := 3) (lo := 0) (hi := 150) rfl rfl
    refine lv_iload_n hx hb dX3_removeAt_13 rfl (lv_at hl 1 rfl) ?_
    refine j_sub hx hb dX3_removeAt_14 ?_
    refine j_const hx hb dX3_removeAt_15 ?_
    refine j_sub hx hb dX3_removeAt_16 ?_
    refine lv_istore_n (lv' := [(2, .int (jI (((σ a0 3) - x1) - 1))), (0, .ref a0), (1, .int (jI x1))]) hx hb dX3_removeAt_17 rfl hl (by decide) rfl (fun ls hl => ?_)
    refine lv_aload_n hx hb dX3_removeAt_18 rfl (lv_at hl 1 rfl) ?_
    refine j_getR hx hb (C := RX3) (T := TX3) (N := 4) hts inX3_removeAt_X3 hown hK hS hW h0 rfl 0 rfl rfl (by decide) (hts _ flX3_removeAt_9) dX3_removeAt_19 ?_
    have h_3 : τ (G a0 0) = 22 := gty hS h0 (k := 0) rfl rfl
    refine lv_iload_n hx hb dX3_removeAt_22 rfl (lv_at hl 2 rfl) ?_
    refine j_const hx hb dX3_removeAt_23 ?_
    refine j_add hx hb dX3_removeAt_24 ?_
    refine j_bi hx hb dX3_removeAt_25 (by decide) ?_
    refine j_mul hx hb dX3_removeAt_27 ?_
    refine lv_aload_n hx hb dX3_removeAt_28 rfl (lv_at hl 1 rfl) ?_
    refine j_getR hx hb (C := RX3) (T := TX3) (N := 4) hts inX3_removeAt_X3 hown hK hS hW h0 rfl 0 rfl rfl (by decide) (hts _ flX3_removeAt_9) dX3_removeAt_29 ?_
    refine lv_iload_n hx hb dX3_removeAt_32 rfl (lv_at hl 2 rfl) ?_
    refine j_bi hx hb dX3_removeAt_33 (by decide) ?_
    refine j_mul hx hb dX3_removeAt_35 ?_
    refine lv_iload_n hx hb dX3_removeAt_36 rfl (lv_at hl 0 rfl) ?_
    refine j_bi hx hb dX3_removeAt_37 (by decide) ?_
    refine j_mul hx hb dX3_removeAt_39 ?_
    refine j_copy hx hb (hml.trans hl.1.symm) hown (hts (.methodLink RX3 26 arraycopyName) (by decide +kernel)) (hts (.native arraycopyName) (by decide +kernel)) (hts (.static arraycopyName) (by decide +kernel)) (hts (.initialized "java/lang/System") (by decide +kernel)) hK hS hA hW hF (ty := .byte) h_3 h_3 (n0 := 3600) (n1 := 3600) rfl rfl rfl (Or.inl ⟨rfl, rfl⟩) (by decide) (by decide) (sp := (x1 + 1) * 24) (dp := x1 * 24) (n := (((σ a0 3) - x1) - 1) * 24) (by omega) (by omega) (by omega) (by omega) (by omega) (Nat.le_of_ble_eq_true rfl) (Nat.le_of_ble_eq_true rfl) dX3_removeAt_40 (fun σ_4 H locs e_5 hW hF => ?_)
    have hR := fr_cp hR e_5 h_3 22000 (cdA 22 (by decide)) (by decide)
    have : σ_4 a0 3 = σ a0 3 := e_5 _ _ (fun h => absurd ((h0).symm.trans ((congrArg τ h).trans h_3)) (by decide))
    refine lv_aload_n hx hb dX3_removeAt_43 rfl (lv_at hl 1 rfl) ?_
    refine j_getR hx hb (C := RX3) (T := TX3) (N := 4) hts inX3_removeAt_X3 hown hK hS hW h0 rfl 1 rfl rfl (by decide) (hts _ flX3_removeAt_15) dX3_removeAt_44 ?_
    have h_6 : τ (G a0 1) = 23 := gty hS h0 (k := 1) rfl rfl
    refine lv_iload_n hx hb dX3_removeAt_47 rfl (lv_at hl 2 rfl) ?_
    refine j_const hx hb dX3_removeAt_48 ?_
    refine j_add hx hb dX3_removeAt_49 ?_
    refine lv_aload_n hx hb dX3_removeAt_50 rfl (lv_at hl 1 rfl) ?_
    refine j_getR hx hb (C := RX3) (T := TX3) (N := 4) hts inX3_removeAt_X3 hown hK hS hW h0 rfl 1 rfl rfl (by decide) (hts _ flX3_removeAt_15) dX3_removeAt_51 ?_
    refine lv_iload_n hx hb dX3_removeAt_54 rfl (lv_at hl 2 rfl) ?_
    refine lv_iload_n hx hb dX3_removeAt_55 rfl (lv_at hl 0 rfl) ?_
    refine j_copy hx hb (hml.trans hl.1.symm) hown (hts (.methodLink RX3 26 arraycopyName) (by decide +kernel)) (hts (.native arraycopyName) (by decide +kernel)) (hts (.static arraycopyName) (by decide +kernel)) (hts (.initialized "java/lang/System") (by decide +kernel)) hK hS hA hW hF (ty := .int) h_6 h_6 (n0 := 150) (n1 := 150) rfl rfl rfl (Or.inr (Or.inl rfl)) (by decide) (by decide) (sp := x1 + 1) (dp := x1) (n := ((σ a0 3) - x1) - 1) (by omega) (by omega) (by omega) (by omega) (by omega) (Nat.le_of_ble_eq_true rfl) (Nat.le_of_ble_eq_true rfl) dX3_removeAt_56 (fun σ_7 H locs e_8 hW hF => ?_)
    have hR := fr_cp hR e_8 h_6 23000 (cdA 23 (by decide)) (by decide)
    have : σ_7 a0 3 = σ_4 a0 3 := e_8 _ _ (fun h => absurd ((h0).symm.trans ((congrArg τ h).trans h_6)) (by decide))
    refine lv_aload_n hx hb dX3_removeAt_59 rfl (lv_at hl 1 rfl) ?_
    refine j_getR hx hb (C := RX3) (T := TX3) (N := 4) hts inX3_removeAt_X3 hown hK hS hW h0 rfl 2 rfl rfl (by decide) (hts _ flX3_removeAt_19) dX3_removeAt_60 ?_
    have h_9 : τ (G a0 2) = 24 := gty hS h0 (k := 2) rfl rfl
    refine lv_iload_n hx hb dX3_removeAt_63 rfl (lv_at hl 2 rfl) ?_
    refine j_const hx hb dX3_removeAt_64 ?_
    refine j_add hx hb dX3_removeAt_65 ?_
    refine lv_aload_n hx hb dX3_removeAt_66 rfl (lv_at hl 1 rfl) ?_
    refine j_getR hx hb (C := RX3) (T := TX3) (N := 4) hts inX3_removeAt_X3 hown hK hS hW h0 rfl 2 rfl rfl (by decide) (hts _ flX3_removeAt_19) dX3_removeAt_67 ?_
    refine lv_iload_n hx hb dX3_removeAt_70 rfl (lv_at hl 2 rfl) ?_
    refine lv_iload_n hx hb dX3_removeAt_71 rfl (lv_at hl 0 rfl) ?_
    refine j_copy hx hb (hml.trans hl.1.symm) hown (hts (.methodLink RX3 26 arraycopyName) (by decide +kernel)) (hts (.native arraycopyName) (by decide +kernel)) (hts (.static arraycopyName) (by decide +kernel)) (hts (.initialized "java/lang/System") (by decide +kernel)) hK hS hA hW hF (ty := .int) h_9 h_9 (n0 := 150) (n1 := 150) rfl rfl rfl (Or.inr (Or.inl rfl)) (by decide) (by decide) (sp := x1 + 1) (dp := x1) (n := ((σ a0 3) - x1) - 1) (by omega) (by omega) (by omega) (by omega) (by omega) (Nat.le_of_ble_eq_true rfl) (Nat.le_of_ble_eq_true rfl) dX3_removeAt_72 (fun σ_10 H locs e_11 hW hF => ?_)
    have hR := fr_cp hR e_11 h_9 24000 (cdA 24 (by decide)) (by decide)
    have : σ_10 a0 3 = σ_7 a0 3 := e_11 _ _ (fun h => absurd ((h0).symm.trans ((congrArg τ h).trans h_9)) (by decide))
    refine lv_aload_n hx hb dX3_removeAt_75 rfl (lv_at hl 1 rfl) ?_
    refine lv_dup hx hb dX3_removeAt_76 rfl ?_
    refine j_getI hx hb (C := RX3) (T := TX3) (N := 4) hts inX3_removeAt_X3 hown hK hS hW h0 rfl 3 rfl rfl (by decide) (hts _ flX3_removeAt_22) dX3_removeAt_77 ?_
    have := fbd hW h0 (k := 3) (lo := 0) (hi := 150) rfl rfl
    refine j_const hx hb dX3_removeAt_80 ?_
    refine j_sub hx hb dX3_removeAt_81 ?_
    refine j_putI hx hb (C := RX3) (T := TX3) (N := 4) hts inX3_removeAt_X3 tyX3 tyX3_ok nmX3 hown hK hS hA hW hF h0 rfl 3 (lo := 0) (hi := 150) rfl rfl (by decide) (hts _ flX3_removeAt_22) rfl .int rfl (by omega) rfl rfl dX3_removeAt_82 (fun σ_12 H locs e_13 hW hF => ?_)
    have hR := fr_up hR e_13 h0 4003 rfl (by decide)
    have : σ_12 a0 3 = (σ_10 a0 3) - 1 := by rw [e_13]; exact up2_at _ _ _ _
    exact hRet 85 _ _ _ _ dX3_removeAt_85 hW hF ⟨trivial, hR⟩
  · exact hRet 8 _ _ _ _ dX3_removeAt_8 hW hF ⟨trivial, hR⟩
abbrev wr_X3_copyTo : List Nat := [3001, 20000]
theorem flX3_copyTo_9 : Cond.fieldLink RX3 9 "PageTrie$Keys" "bytes" "[B" ∈ wsX3_copyTo := List.mem_of_getElem? (i := 1) rfl
theorem flX3_copyTo_15 : Cond.fieldLink RX3 15 "PageTrie$Keys" "lengths" "[I" ∈ wsX3_copyTo := List.mem_of_getElem? (i := 7) rfl
theorem flX3_copyTo_36 : Cond.fieldLink RX3 36 "PageTrie$Key" "bytes" "[B" ∈ wsX3_copyTo := List.mem_of_getElem? (i := 2) rfl
theorem flX3_copyTo_39 : Cond.fieldLink RX3 39 "PageTrie$Key" "length" "I" ∈ wsX3_copyTo := List.mem_of_getElem? (i := 8) rfl
theorem inX3_copyTo_X2 : ∀ w ∈ u_ws RX2 TX2 2, w ∈ wsX3_copyTo := mem_r _ [19, 20] rfl
theorem inX3_copyTo_X3 : ∀ w ∈ u_ws RX3 TX3 4, w ∈ wsX3_copyTo := mem_r _ [15, 16, 17, 18] rfl
theorem hvX3_copyTo : yX3_copyTo.cls = RX3 ∧ yX3_copyTo.cls ≠ "java/lang/invoke/MethodHandle" ∧ yX3_copyTo.cls ≠ "java/lang/invoke/VarHandle" ∧ (parseMethodDescriptor yX3_copyTo.desc).map (fun d => d.parameters.length) = some 2 := by decide +kernel
set_option maxHeartbeats 4000000 in
set_option maxRecDepth 100000 in
theorem kX3_copyTo (l : Launch) {D : va_G} {cA : Nat → ClassId} {τ : Nat → Nat} {G : Nat → Nat → Nat} {L : List Nat} (hS : SW τ G L) (σ : Nat → Nat → Int) {a0 : Nat} (h0 : τ a0 = 4) {x1 : Int} (r1 : rg x1) {a2 : Nat} (h2 : τ a2 = 3) : Met l yX3_copyTo wsX3_copyTo ({ frames := 1, cells := 0, slots := 0, locals := 40 }) (jP D cA τ G L σ [.ref a0, .int (jI x1), .ref a2]) (jQV D cA τ G L (fun σ' => (True) ∧ fr wr_X3_copyTo τ σ σ')) 0 0 (fun q => q ∈ L) := by
  refine j_metV (by decide +kernel) rfl (Nat.le_of_ble_eq_true rfl) ?_
  intro p e s m args below meth c Q hx hb hml hown hts hK hW hRet ls hl
  have hl : lv_has ls 3 [(0, .ref a0), (1, .int (jI x1)), (2, .ref a2)] := hl
  have hA : ∀ q ∈ L, (fun q => q ∈ L) q := fun _ h => h
  have hF : va_S (fun q => q ∈ L) s.heap s.heap [] := va_S.rf
  have hR : fr wr_X3_copyTo τ σ σ := fr_rf
  refine lv_aload_n hx hb dX3_copyTo_0 rfl (lv_at hl 0 rfl) ?_
  refine lv_iload_n hx hb dX3_copyTo_1 rfl (lv_at hl 1 rfl) ?_
  refine j_cR (j_runV (As := [.int (jI x1)]) (rest := []) hx hb hml hown hts hK hS hW (kX3_has l hS σ (a0 := a0) (h0 := h0) (x1 := x1) (r1 := (by omega))) 1 gX3_copyTo_X3_has rfl hvX3_has ⟨Nat.le_of_ble_eq_true rfl, Nat.le_of_ble_eq_true rfl⟩ rfl rfl h0 rfl rfl rfl rfl hl.1 rfl (Nat.le_of_ble_eq_true rfl) dX3_copyTo_2 ⟨Nat.le_of_ble_eq_true rfl, Nat.le_of_ble_eq_true rfl⟩) (fun v_1 rv_1 pv_1 => ?_)
  try dsimp only at pv_1
  refine j_if_eq (tgt := 36) hx hb (by omega) dX3_copyTo_5 (by decide) (fun c_2 => ?_) (fun c_2 => ?_)
  · exact hRet 36 _ _ _ _ dX3_copyTo_36 hW hF ⟨trivial, hR⟩
  · refine lv_aload_n hx hb dX3_copyTo_8 rfl (lv_at hl 0 rfl) ?_
    refine j_getR hx hb (C := RX3) (T := TX3) (N := 4) hts inX3_copyTo_X3 hown hK hS hW h0 rfl 0 rfl rfl (by decide) (hts _ flX3_copyTo_9) dX3_copyTo_9 ?_
    have h_3 : τ (G a0 0) = 22 := gty hS h0 (k := 0) rfl rfl
    refine lv_iload_n hx hb dX3_copyTo_12 rfl (lv_at hl 1 rfl) ?_
    refine j_bi hx hb dX3_copyTo_13 (by decide) ?_
    refine j_mul hx hb dX3_copyTo_15 ?_
    refine lv_aload_n hx hb dX3_copyTo_16 rfl (lv_at hl 2 rfl) ?_
    refine j_getR hx hb (C := RX2) (T := TX2) (N := 2) hts inX3_copyTo_X2 hown hK hS hW h2 rfl 0 rfl rfl (by decide) (hts _ flX3_copyTo_36) dX3_copyTo_17 ?_
    have h_4 : τ (G a2 0) = 20 := gty hS h2 (k := 0) rfl rfl
    refine j_const hx hb dX3_copyTo_20 ?_
    refine j_bi hx hb dX3_copyTo_21 (by decide) ?_
    refine j_copy hx hb (hml.trans hl.1.symm) hown (hts (.methodLink RX3 26 arraycopyName) (by decide +kernel)) (hts (.native arraycopyName) (by decide +kernel)) (hts (.static arraycopyName) (by decide +kernel)) (hts (.initialized "java/lang/System") (by decide +kernel)) hK hS hA hW hF (ty := .byte) h_3 h_4 (n0 := 3600) (n1 := 24) rfl rfl rfl (Or.inl ⟨rfl, rfl⟩) (by decide) (by decide) (sp := x1 * 24) (dp := 0) (n := 24) (by omega) (by omega) (by omega) (by omega) (by omega) (Nat.le_of_ble_eq_true rfl) (Nat.le_of_ble_eq_true rfl) dX3_copyTo_23 (fun σ_5 H locs e_6 hW hF => ?_)
    have hR := fr_cp hR e_6 h_4 20000 (cdA 20 (by decide)) (by decide)
    refine lv_aload_n hx hb dX3_copyTo_26 rfl (lv_at hl 2 rfl) ?_
    refine lv_aload_n hx hb dX3_copyTo_27 rfl (lv_at hl 0 rfl) ?_
    refine j_getR hx hb (C := RX3) (T := TX3) (N := 4) hts inX3_copyTo_X3 hown hK hS hW h0 rfl 1 rfl rfl (by decide) (hts _ flX3_copyTo_15) dX3_copyTo_28 ?_
    have h_7 : τ (G a0 1) = 23 := gty hS h0 (k := 1) rfl rfl
    refine lv_iload_n hx hb dX3_copyTo_31 rfl (lv_at hl 1 rfl) ?_
    refine j_ald hx hb hK hS hW h_7 (n := 150) rfl (by omega) (by omega) (by decide) dX3_copyTo_32 ?_
    have := abd hW h_7 (n := 150) (lo := 0) (hi := 24) (i := x1) rfl (by omega) (by omega)
    refine j_putI hx hb (C := RX2) (T := TX2) (N := 2) hts inX3_copyTo_X2 tyX2 tyX2_ok nmX2 hown hK hS hA hW hF h2 rfl 1 (lo := 0) (hi := 24) rfl rfl (by decide) (hts _ flX3_copyTo_39) rfl .int rfl (by omega) rfl rfl dX3_copyTo_33 (fun σ_8 H locs e_9 hW hF => ?_)
    have hR := fr_up hR e_9 h2 3001 rfl (by decide)
    have : σ_8 a2 1 = σ_5 (G a0 1) (x1).toNat := by rw [e_9]; exact up2_at _ _ _ _
    exact hRet 36 _ _ _ _ dX3_copyTo_36 hW hF ⟨trivial, hR⟩
theorem flX3_compare_39 : Cond.fieldLink RX3 39 "PageTrie$Key" "length" "I" ∈ wsX3_compare := List.mem_of_getElem? (i := 1) rfl
theorem inX3_compare_X2 : ∀ w ∈ u_ws RX2 TX2 2, w ∈ wsX3_compare := mem_r _ [25, 26] rfl
theorem hvX3_compare : yX3_compare.cls = RX3 ∧ yX3_compare.cls ≠ "java/lang/invoke/MethodHandle" ∧ yX3_compare.cls ≠ "java/lang/invoke/VarHandle" ∧ (parseMethodDescriptor yX3_compare.desc).map (fun d => d.parameters.length) = some 2 := by decide +kernel
set_option maxHeartbeats 4000000 in
set_option maxRecDepth 100000 in
theorem kX3_compare (l : Launch) {D : va_G} {cA : Nat → ClassId} {τ : Nat → Nat} {G : Nat → Nat → Nat} {L : List Nat} (hS : SW τ G L) (σ : Nat → Nat → Int) {a0 : Nat} (h0 : τ a0 = 4) {x1 : Int} (r1 : rg x1) {a2 : Nat} (h2 : τ a2 = 3) : Met l yX3_compare wsX3_compare ({ frames := 1, cells := 0, slots := 0, locals := 24 }) (jP D cA τ G L σ [.ref a0, .int (jI x1), .ref a2]) (jQR (fun r => True)) 0 0 (fun _ => False) := by
  refine j_metR (by decide +kernel) rfl (Nat.le_of_ble_eq_true rfl) ?_
  intro p e s m args below meth c Q hx hb hml hown hts hK hW hRet ls hl
  have hl : lv_has ls 6 [(0, .ref a0), (1, .int (jI x1)), (2, .ref a2)] := hl
  refine lv_aload_n hx hb dX3_compare_0 rfl (lv_at hl 0 rfl) ?_
  refine lv_iload_n hx hb dX3_compare_1 rfl (lv_at hl 1 rfl) ?_
  refine j_cR (j_runV (As := [.int (jI x1)]) (rest := []) hx hb hml hown hts hK hS hW (kX3_lengthOf l hS σ (a0 := a0) (h0 := h0) (x1 := x1) (r1 := (by omega))) 1 gX3_compare_X3_lengthOf rfl hvX3_lengthOf ⟨Nat.le_of_ble_eq_true rfl, Nat.le_of_ble_eq_true rfl⟩ rfl rfl h0 rfl rfl rfl rfl hl.1 rfl (Nat.le_of_ble_eq_true rfl) dX3_compare_2 ⟨Nat.le_of_ble_eq_true rfl, Nat.le_of_ble_eq_true rfl⟩) (fun v_1 rv_1 pv_1 => ?_)
  try dsimp only at pv_1
  refine lv_aload_n hx hb dX3_compare_5 rfl (lv_at hl 2 rfl) ?_
  refine j_getI hx hb (C := RX2) (T := TX2) (N := 2) hts inX3_compare_X2 hown hK hS hW h2 rfl 1 rfl rfl (by decide) (hts _ flX3_compare_39) dX3_compare_6 ?_
  have := fbd hW h2 (k := 1) (lo := 0) (hi := 24) rfl rfl
  refine j_mmin hx hb (hml.trans hl.1.symm) hown (hts (.methodLink RX3 46 Lib.Math.min.name) (by decide +kernel)) (hts (.static Lib.Math.min.name) (by decide +kernel)) (hts (.initialized "java/lang/Math") (by decide +kernel)) (hts (.code Lib.Math.min.name Lib.Math.min.code 2 (some .int)) (by decide +kernel)) (Nat.le_of_ble_eq_true rfl) (Nat.le_of_ble_eq_true rfl) (Nat.le_of_ble_eq_true rfl) (Nat.le_of_ble_eq_true rfl) (by omega) (by omega) dX3_compare_9 (fun z_2 rz_2 ez_2 => ?_)
  refine lv_istore_n (lv' := [(3, .int (jI z_2)), (0, .ref a0), (1, .int (jI x1)), (2, .ref a2)]) hx hb dX3_compare_12 rfl hl (by decide) rfl (fun ls hl => ?_)
  refine j_const hx hb dX3_compare_13 ?_
  refine lv_istore (lv' := [(4, .int (jI 0)), (3, .int (jI z_2)), (0, .ref a0), (1, .int (jI x1)), (2, .ref a2)]) hx hb dX3_compare_14 hl (by decide) rfl (fun ls hl => ?_)
  have L_16 : ∀ (N : Nat) (v4_16 : Int) (ls : Array Slot), N = (2147483647 - v4_16 : Int).toNat → (0 ≤ v4_16) → rg v4_16 → lv_has ls 6 [(0, .ref a0), (1, .int (jI x1)), (2, .ref a2), (3, .int (jI z_2)), (4, .int (jI v4_16))] → W p l e ({ frames := 1, cells := 0, slots := 0, locals := 24 }) s m args below meth c s.heap [] 0 0 Q (F0 m 16 ls []) := by
    intro N
    induction N using Nat.strongRecOn with
    | ind N ih_16 =>
      intro v4_16 ls hN i0_16 rv4_16 hl
      refine lv_iload hx hb dX3_compare_16 (lv_at hl 4 rfl) ?_
      refine lv_iload_n hx hb dX3_compare_18 rfl (lv_at hl 3 rfl) ?_
      refine j_icmp_ge (tgt := 52) hx hb (by omega) (by omega) dX3_compare_19 (by decide) (fun c_3 => ?_) (fun c_3 => ?_)
      · refine lv_aload_n hx hb dX3_compare_52 rfl (lv_at hl 0 rfl) ?_
        refine lv_iload_n hx hb dX3_compare_53 rfl (lv_at hl 1 rfl) ?_
        refine j_cR (j_runV (As := [.int (jI x1)]) (rest := []) hx hb hml hown hts hK hS hW (kX3_lengthOf l hS σ (a0 := a0) (h0 := h0) (x1 := x1) (r1 := (by omega))) 1 gX3_compare_X3_lengthOf rfl hvX3_lengthOf ⟨Nat.le_of_ble_eq_true rfl, Nat.le_of_ble_eq_true rfl⟩ rfl rfl h0 rfl rfl rfl rfl hl.1 rfl (Nat.le_of_ble_eq_true rfl) dX3_compare_54 ⟨Nat.le_of_ble_eq_true rfl, Nat.le_of_ble_eq_true rfl⟩) (fun v_4 rv_4 pv_4 => ?_)
        try dsimp only at pv_4
        refine lv_aload_n hx hb dX3_compare_57 rfl (lv_at hl 2 rfl) ?_
        refine j_getI hx hb (C := RX2) (T := TX2) (N := 2) hts inX3_compare_X2 hown hK hS hW h2 rfl 1 rfl rfl (by decide) (hts _ flX3_compare_39) dX3_compare_58 ?_
        refine j_sub hx hb dX3_compare_61 ?_
        exact hRet 62 _ (v_4 - (σ a2 1)) dX3_compare_62 (by omega) trivial
      · refine lv_aload_n hx hb dX3_compare_22 rfl (lv_at hl 0 rfl) ?_
        refine lv_iload_n hx hb dX3_compare_23 rfl (lv_at hl 1 rfl) ?_
        refine lv_iload hx hb dX3_compare_24 (lv_at hl 4 rfl) ?_
        refine j_cR (j_runV (As := [.int (jI x1), .int (jI v4_16)]) (rest := []) hx hb hml hown hts hK hS hW (kX3_byteOf l hS σ (a0 := a0) (h0 := h0) (x1 := x1) (r1 := (by omega)) (x2 := v4_16) (r2 := (by omega))) 2 gX3_compare_X3_byteOf rfl hvX3_byteOf ⟨Nat.le_of_ble_eq_true rfl, Nat.le_of_ble_eq_true rfl⟩ rfl rfl h0 rfl rfl rfl rfl hl.1 rfl (Nat.le_of_ble_eq_true rfl) dX3_compare_26 ⟨Nat.le_of_ble_eq_true rfl, Nat.le_of_ble_eq_true rfl⟩) (fun v_5 rv_5 pv_5 => ?_)
        try dsimp only at pv_5
        refine lv_aload_n hx hb dX3_compare_29 rfl (lv_at hl 2 rfl) ?_
        refine lv_iload hx hb dX3_compare_30 (lv_at hl 4 rfl) ?_
        refine j_cR (j_runV (As := [.int (jI v4_16)]) (rest := [.int (jI v_5)]) hx hb hml hown hts hK hS hW (kX2_byteOf l hS σ (a0 := a2) (h0 := h2) (x1 := v4_16) (r1 := (by omega))) 1 gX3_compare_X2_byteOf rfl hvX2_byteOf ⟨Nat.le_of_ble_eq_true rfl, Nat.le_of_ble_eq_true rfl⟩ rfl rfl h2 rfl rfl rfl rfl hl.1 rfl (Nat.le_of_ble_eq_true rfl) dX3_compare_32 ⟨Nat.le_of_ble_eq_true rfl, Nat.le_of_ble_eq_true rfl⟩) (fun v_6 rv_6 pv_6 => ?_)
        try dsimp only at pv_6
        refine j_sub hx hb dX3_compare_35 ?_
        refine lv_istore (lv' := [(5, .int (jI (v_5 - v_6))), (0, .ref a0), (1, .int (jI x1)), (2, .ref a2), (3, .int (jI z_2)), (4, .int (jI v4_16))]) hx hb dX3_compare_36 hl (by decide) rfl (fun ls hl => ?_)
        refine lv_iload hx hb dX3_compare_38 (lv_at hl 0 rfl) ?_
        refine j_if_eq (tgt := 46) hx hb (by omega) dX3_compare_40 (by decide) (fun c_7 => ?_) (fun c_7 => ?_)
        · refine j_iinc (lv' := [(4, .int (jI (v4_16 + 1))), (5, .int (jI (v_5 - v_6))), (0, .ref a0), (1, .int (jI x1)), (2, .ref a2), (3, .int (jI z_2))]) hx hb dX3_compare_46 hl (k := 5) rfl (by decide) rfl (fun ls hl => ?_)
          refine lv_goto (tgt := 16) hx hb dX3_compare_49 (by decide) ?_
          exact ih_16 ((2147483647 - (v4_16 + 1) : Int).toNat) (by omega) (v4_16 + 1) _ rfl (by omega) (by omega) (lv_sub hl [2, 3, 4, 5, 0] rfl)
        · refine lv_iload hx hb dX3_compare_43 (lv_at hl 0 rfl) ?_
          exact hRet 45 _ (v_5 - v_6) dX3_compare_45 (by omega) trivial
  exact L_16 ((2147483647 - 0 : Int).toNat) 0 _ rfl (by omega) (by decide) (lv_sub hl [2, 3, 4, 1, 0] rfl)
theorem hvX3_compareTo : yX3_compareTo.cls = RX3 ∧ yX3_compareTo.cls ≠ "java/lang/invoke/MethodHandle" ∧ yX3_compareTo.cls ≠ "java/lang/invoke/VarHandle" ∧ (parseMethodDescriptor yX3_compareTo.desc).map (fun d => d.parameters.length) = some 3 := by decide +kernel
set_option maxHeartbeats 4000000 in
set_option maxRecDepth 100000 in
theorem kX3_compareTo (l : Launch) {D : va_G} {cA : Nat → ClassId} {τ : Nat → Nat} {G : Nat → Nat → Nat} {L : List Nat} (hS : SW τ G L) (σ : Nat → Nat → Int) {a0 : Nat} (h0 : τ a0 = 4) {x1 : Int} (r1 : rg x1) {a2 : Nat} (h2 : τ a2 = 4) {x3 : Int} (r3 : rg x3) : Met l yX3_compareTo wsX3_compareTo ({ frames := 1, cells := 0, slots := 0, locals := 24 }) (jP D cA τ G L σ [.ref a0, .int (jI x1), .ref a2, .int (jI x3)]) (jQR (fun r => True)) 0 0 (fun _ => False) := by
  refine j_metR (by decide +kernel) rfl (Nat.le_of_ble_eq_true rfl) ?_
  intro p e s m args below meth c Q hx hb hml hown hts hK hW hRet ls hl
  have hl : lv_has ls 7 [(0, .ref a0), (1, .int (jI x1)), (2, .ref a2), (3, .int (jI x3))] := hl
  refine lv_aload_n hx hb dX3_compareTo_0 rfl (lv_at hl 0 rfl) ?_
  refine lv_iload_n hx hb dX3_compareTo_1 rfl (lv_at hl 1 rfl) ?_
  refine j_cR (j_runV (As := [.int (jI x1)]) (rest := []) hx hb hml hown hts hK hS hW (kX3_lengthOf l hS σ (a0 := a0) (h0 := h0) (x1 := x1) (r1 := (by omega))) 1 gX3_compareTo_X3_lengthOf rfl hvX3_lengthOf ⟨Nat.le_of_ble_eq_true rfl, Nat.le_of_ble_eq_true rfl⟩ rfl rfl h0 rfl rfl rfl rfl hl.1 rfl (Nat.le_of_ble_eq_true rfl) dX3_compareTo_2 ⟨Nat.le_of_ble_eq_true rfl, Nat.le_of_ble_eq_true rfl⟩) (fun v_1 rv_1 pv_1 => ?_)
  try dsimp only at pv_1
  refine lv_aload_n hx hb dX3_compareTo_5 rfl (lv_at hl 2 rfl) ?_
  refine lv_iload_n hx hb dX3_compareTo_6 rfl (lv_at hl 3 rfl) ?_
  refine j_cR (j_runV (As := [.int (jI x3)]) (rest := [.int (jI v_1)]) hx hb hml hown hts hK hS hW (kX3_lengthOf l hS σ (a0 := a2) (h0 := h2) (x1 := x3) (r1 := (by omega))) 1 gX3_compareTo_X3_lengthOf rfl hvX3_lengthOf ⟨Nat.le_of_ble_eq_true rfl, Nat.le_of_ble_eq_true rfl⟩ rfl rfl h2 rfl rfl rfl rfl hl.1 rfl (Nat.le_of_ble_eq_true rfl) dX3_compareTo_7 ⟨Nat.le_of_ble_eq_true rfl, Nat.le_of_ble_eq_true rfl⟩) (fun v_2 rv_2 pv_2 => ?_)
  try dsimp only at pv_2
  refine j_mmin hx hb (hml.trans hl.1.symm) hown (hts (.methodLink RX3 46 Lib.Math.min.name) (by decide +kernel)) (hts (.static Lib.Math.min.name) (by decide +kernel)) (hts (.initialized "java/lang/Math") (by decide +kernel)) (hts (.code Lib.Math.min.name Lib.Math.min.code 2 (some .int)) (by decide +kernel)) (Nat.le_of_ble_eq_true rfl) (Nat.le_of_ble_eq_true rfl) (Nat.le_of_ble_eq_true rfl) (Nat.le_of_ble_eq_true rfl) (by omega) (by omega) dX3_compareTo_10 (fun z_3 rz_3 ez_3 => ?_)
  refine lv_istore (lv' := [(4, .int (jI z_3)), (0, .ref a0), (1, .int (jI x1)), (2, .ref a2), (3, .int (jI x3))]) hx hb dX3_compareTo_13 hl (by decide) rfl (fun ls hl => ?_)
  refine j_const hx hb dX3_compareTo_15 ?_
  refine lv_istore (lv' := [(5, .int (jI 0)), (4, .int (jI z_3)), (0, .ref a0), (1, .int (jI x1)), (2, .ref a2), (3, .int (jI x3))]) hx hb dX3_compareTo_16 hl (by decide) rfl (fun ls hl => ?_)
  have L_18 : ∀ (N : Nat) (v5_18 : Int) (ls : Array Slot), N = (2147483647 - v5_18 : Int).toNat → (0 ≤ v5_18) → rg v5_18 → lv_has ls 7 [(0, .ref a0), (1, .int (jI x1)), (2, .ref a2), (3, .int (jI x3)), (4, .int (jI z_3)), (5, .int (jI v5_18))] → W p l e ({ frames := 1, cells := 0, slots := 0, locals := 24 }) s m args below meth c s.heap [] 0 0 Q (F0 m 18 ls []) := by
    intro N
    induction N using Nat.strongRecOn with
    | ind N ih_18 =>
      intro v5_18 ls hN i0_18 rv5_18 hl
      refine lv_iload hx hb dX3_compareTo_18 (lv_at hl 5 rfl) ?_
      refine lv_iload hx hb dX3_compareTo_20 (lv_at hl 4 rfl) ?_
      refine j_icmp_ge (tgt := 56) hx hb (by omega) (by omega) dX3_compareTo_22 (by decide) (fun c_4 => ?_) (fun c_4 => ?_)
      · refine lv_aload_n hx hb dX3_compareTo_56 rfl (lv_at hl 0 rfl) ?_
        refine lv_iload_n hx hb dX3_compareTo_57 rfl (lv_at hl 1 rfl) ?_
        refine j_cR (j_runV (As := [.int (jI x1)]) (rest := []) hx hb hml hown hts hK hS hW (kX3_lengthOf l hS σ (a0 := a0) (h0 := h0) (x1 := x1) (r1 := (by omega))) 1 gX3_compareTo_X3_lengthOf rfl hvX3_lengthOf ⟨Nat.le_of_ble_eq_true rfl, Nat.le_of_ble_eq_true rfl⟩ rfl rfl h0 rfl rfl rfl rfl hl.1 rfl (Nat.le_of_ble_eq_true rfl) dX3_compareTo_58 ⟨Nat.le_of_ble_eq_true rfl, Nat.le_of_ble_eq_true rfl⟩) (fun v_5 rv_5 pv_5 => ?_)
        try dsimp only at pv_5
        refine lv_aload_n hx hb dX3_compareTo_61 rfl (lv_at hl 2 rfl) ?_
        refine lv_iload_n hx hb dX3_compareTo_62 rfl (lv_at hl 3 rfl) ?_
        refine j_cR (j_runV (As := [.int (jI x3)]) (rest := [.int (jI v_5)]) hx hb hml hown hts hK hS hW (kX3_lengthOf l hS σ (a0 := a2) (h0 := h2) (x1 := x3) (r1 := (by omega))) 1 gX3_compareTo_X3_lengthOf rfl hvX3_lengthOf ⟨Nat.le_of_ble_eq_true rfl, Nat.le_of_ble_eq_true rfl⟩ rfl rfl h2 rfl rfl rfl rfl hl.1 rfl (Nat.le_of_ble_eq_true rfl) dX3_compareTo_63 ⟨Nat.le_of_ble_eq_true rfl, Nat.le_of_ble_eq_true rfl⟩) (fun v_6 rv_6 pv_6 => ?_)
        try dsimp only at pv_6
        refine j_sub hx hb dX3_compareTo_66 ?_
        exact hRet 67 _ (v_5 - v_6) dX3_compareTo_67 (by omega) trivial
      · refine lv_aload_n hx hb dX3_compareTo_25 rfl (lv_at hl 0 rfl) ?_
        refine lv_iload_n hx hb dX3_compareTo_26 rfl (lv_at hl 1 rfl) ?_
        refine lv_iload hx hb dX3_compareTo_27 (lv_at hl 5 rfl) ?_
        refine j_cR (j_runV (As := [.int (jI x1), .int (jI v5_18)]) (rest := []) hx hb hml hown hts hK hS hW (kX3_byteOf l hS σ (a0 := a0) (h0 := h0) (x1 := x1) (r1 := (by omega)) (x2 := v5_18) (r2 := (by omega))) 2 gX3_compareTo_X3_byteOf rfl hvX3_byteOf ⟨Nat.le_of_ble_eq_true rfl, Nat.le_of_ble_eq_true rfl⟩ rfl rfl h0 rfl rfl rfl rfl hl.1 rfl (Nat.le_of_ble_eq_true rfl) dX3_compareTo_29 ⟨Nat.le_of_ble_eq_true rfl, Nat.le_of_ble_eq_true rfl⟩) (fun v_7 rv_7 pv_7 => ?_)
        try dsimp only at pv_7
        refine lv_aload_n hx hb dX3_compareTo_32 rfl (lv_at hl 2 rfl) ?_
        refine lv_iload_n hx hb dX3_compareTo_33 rfl (lv_at hl 3 rfl) ?_
        refine lv_iload hx hb dX3_compareTo_34 (lv_at hl 5 rfl) ?_
        refine j_cR (j_runV (As := [.int (jI x3), .int (jI v5_18)]) (rest := [.int (jI v_7)]) hx hb hml hown hts hK hS hW (kX3_byteOf l hS σ (a0 := a2) (h0 := h2) (x1 := x3) (r1 := (by omega)) (x2 := v5_18) (r2 := (by omega))) 2 gX3_compareTo_X3_byteOf rfl hvX3_byteOf ⟨Nat.le_of_ble_eq_true rfl, Nat.le_of_ble_eq_true rfl⟩ rfl rfl h2 rfl rfl rfl rfl hl.1 rfl (Nat.le_of_ble_eq_true rfl) dX3_compareTo_36 ⟨Nat.le_of_ble_eq_true rfl, Nat.le_of_ble_eq_true rfl⟩) (fun v_8 rv_8 pv_8 => ?_)
        try dsimp only at pv_8
        refine j_sub hx hb dX3_compareTo_39 ?_
        refine lv_istore (lv' := [(6, .int (jI (v_7 - v_8))), (0, .ref a0), (1, .int (jI x1)), (2, .ref a2), (3, .int (jI x3)), (4, .int (jI z_3)), (5, .int (jI v5_18))]) hx hb dX3_compareTo_40 hl (by decide) rfl (fun ls hl => ?_)
        refine lv_iload hx hb dX3_compareTo_42 (lv_at hl 0 rfl) ?_
        refine j_if_eq (tgt := 50) hx hb (by omega) dX3_compareTo_44 (by decide) (fun c_9 => ?_) (fun c_9 => ?_)
        · refine j_iinc (lv' := [(5, .int (jI (v5_18 + 1))), (6, .int (jI (v_7 - v_8))), (0, .ref a0), (1, .int (jI x1)), (2, .ref a2), (3, .int (jI x3)), (4, .int (jI z_3))]) hx hb dX3_compareTo_50 hl (k := 6) rfl (by decide) rfl (fun ls hl => ?_)
          refine lv_goto (tgt := 18) hx hb dX3_compareTo_53 (by decide) ?_
          exact ih_18 ((2147483647 - (v5_18 + 1) : Int).toNat) (by omega) (v5_18 + 1) _ rfl (by omega) (by omega) (lv_sub hl [2, 3, 4, 5, 6, 0] rfl)
        · refine lv_iload hx hb dX3_compareTo_47 (lv_at hl 0 rfl) ?_
          exact hRet 49 _ (v_7 - v_8) dX3_compareTo_49 (by omega) trivial
  exact L_18 ((2147483647 - 0 : Int).toNat) 0 _ rfl (by omega) (by decide) (lv_sub hl [2, 3, 4, 5, 1, 0] rfl)
theorem flX3_placeOf_22 : Cond.fieldLink RX3 22 "PageTrie$Keys" "size" "I" ∈ wsX3_placeOf := List.mem_of_getElem? (i := 1) rfl
theorem inX3_placeOf_X3 : ∀ w ∈ u_ws RX3 TX3 4, w ∈ wsX3_placeOf := mem_r _ [29, 30, 31, 32] rfl
theorem hvX3_placeOf : yX3_placeOf.cls = RX3 ∧ yX3_placeOf.cls ≠ "java/lang/invoke/MethodHandle" ∧ yX3_placeOf.cls ≠ "java/lang/invoke/VarHandle" ∧ (parseMethodDescriptor yX3_placeOf.desc).map (fun d => d.parameters.length) = some 1 := by decide +kernel
set_option maxHeartbeats 4000000 in
set_option maxRecDepth 100000 in
theorem kX3_placeOf (l : Launch) {D : va_G} {cA : Nat → ClassId} {τ : Nat → Nat} {G : Nat → Nat → Nat} {L : List Nat} (hS : SW τ G L) (σ : Nat → Nat → Int) {a0 : Nat} (h0 : τ a0 = 4) {a1 : Nat} (h1 : τ a1 = 3) : Met l yX3_placeOf wsX3_placeOf ({ frames := 2, cells := 0, slots := 0, locals := 49 }) (jP D cA τ G L σ [.ref a0, .ref a1]) (jQR (fun r => (0 ≤ r) ∧ (r ≤ σ a0 3))) 0 0 (fun _ => False) := by
  refine j_metR (by decide +kernel) rfl (Nat.le_of_ble_eq_true rfl) ?_
  intro p e s m args below meth c Q hx hb hml hown hts hK hW hRet ls hl
  have hl : lv_has ls 6 [(0, .ref a0), (1, .ref a1)] := hl
  refine j_const hx hb dX3_placeOf_0 ?_
  refine lv_istore_n (lv' := [(2, .int (jI 0)), (0, .ref a0), (1, .ref a1)]) hx hb dX3_placeOf_1 rfl hl (by decide) rfl (fun ls hl => ?_)
  refine lv_aload_n hx hb dX3_placeOf_2 rfl (lv_at hl 1 rfl) ?_
  refine j_getI hx hb (C := RX3) (T := TX3) (N := 4) hts inX3_placeOf_X3 hown hK hS hW h0 rfl 3 rfl rfl (by decide) (hts _ flX3_placeOf_22) dX3_placeOf_3 ?_
  have := fbd hW h0 (k := 3) (lo := 0) (hi := 150) rfl rfl
  refine lv_istore_n (lv' := [(3, .int (jI (σ a0 3))), (2, .int (jI 0)), (0, .ref a0), (1, .ref a1)]) hx hb dX3_placeOf_6 rfl hl (by decide) rfl (fun ls hl => ?_)
  refine j_const hx hb dX3_placeOf_7 ?_
  refine lv_istore (lv' := [(4, .int (jI 0)), (3, .int (jI (σ a0 3))), (2, .int (jI 0)), (0, .ref a0), (1, .ref a1)]) hx hb dX3_placeOf_8 hl (by decide) rfl (fun ls hl => ?_)
  have L_10 : ∀ (N : Nat) (v2_10 v3_10 v4_10 : Int) (ls : Array Slot), N = (v3_10 - v2_10 : Int).toNat → (0 ≤ v2_10) → (v2_10 ≤ v3_10) → (v3_10 ≤ σ a0 3) → (0 ≤ v4_10) → (v4_10 ≤ 151) → rg v2_10 → rg v3_10 → rg v4_10 → lv_has ls 6 [(0, .ref a0), (1, .ref a1), (2, .int (jI v2_10)), (3, .int (jI v3_10)), (4, .int (jI v4_10))] → W p l e ({ frames := 2, cells := 0, slots := 0, locals := 49 }) s m args below meth c s.heap [] 0 0 Q (F0 m 10 ls []) := by
    intro N
    induction N using Nat.strongRecOn with
    | ind N ih_10 =>
      intro v2_10 v3_10 v4_10 ls hN i0_10 i1_10 i2_10 i3_10 i4_10 rv2_10 rv3_10 rv4_10 hl
      refine lv_iload hx hb dX3_placeOf_10 (lv_at hl 4 rfl) ?_
      refine j_si hx hb dX3_placeOf_12 (by decide) ?_
      refine j_icmp_gt (tgt := 57) hx hb (by omega) (by decide) dX3_placeOf_15 (by decide) (fun c_1 => ?_) (fun c_1 => ?_)
      · refine lv_iload_n hx hb dX3_placeOf_57 rfl (lv_at hl 2 rfl) ?_
        exact hRet 58 _ v2_10 dX3_placeOf_58 (by omega) ⟨by omega, by omega⟩
      · refine lv_iload_n hx hb dX3_placeOf_18 rfl (lv_at hl 2 rfl) ?_
        refine lv_iload_n hx hb dX3_placeOf_19 rfl (lv_at hl 3 rfl) ?_
        refine j_icmp_ge (tgt := 57) hx hb (by omega) (by omega) dX3_placeOf_20 (by decide) (fun c_2 => ?_) (fun c_2 => ?_)
        · refine lv_iload_n hx hb dX3_placeOf_57 rfl (lv_at hl 2 rfl) ?_
          exact hRet 58 _ v2_10 dX3_placeOf_58 (by omega) ⟨by omega, by omega⟩
        · refine lv_iload_n hx hb dX3_placeOf_23 rfl (lv_at hl 2 rfl) ?_
          refine lv_iload_n hx hb dX3_placeOf_24 rfl (lv_at hl 3 rfl) ?_
          refine j_add hx hb dX3_placeOf_25 ?_
          refine j_const hx hb dX3_placeOf_26 ?_
          refine j_shr1 hx hb (by omega) dX3_placeOf_27 (fun z_3 rz_3 ez_3 => ?_)
          refine lv_istore (lv' := [(5, .int (jI z_3)), (0, .ref a0), (1, .ref a1), (2, .int (jI v2_10)), (3, .int (jI v3_10)), (4, .int (jI v4_10))]) hx hb dX3_placeOf_28 hl (by decide) rfl (fun ls hl => ?_)
          refine lv_aload_n hx hb dX3_placeOf_30 rfl (lv_at hl 1 rfl) ?_
          refine lv_iload hx hb dX3_placeOf_31 (lv_at hl 0 rfl) ?_
          refine lv_aload_n hx hb dX3_placeOf_33 rfl (lv_at hl 2 rfl) ?_
          refine j_cR (j_runV (As := [.int (jI z_3), .ref a1]) (rest := []) hx hb hml hown hts hK hS hW (kX3_compare l hS σ (a0 := a0) (h0 := h0) (x1 := z_3) (r1 := (by omega)) (a2 := a1) (h2 := h1)) 2 gX3_placeOf_X3_compare rfl hvX3_compare ⟨Nat.le_of_ble_eq_true rfl, Nat.le_of_ble_eq_true rfl⟩ rfl rfl h0 rfl rfl rfl rfl hl.1 rfl (Nat.le_of_ble_eq_true rfl) dX3_placeOf_34 ⟨Nat.le_of_ble_eq_true rfl, Nat.le_of_ble_eq_true rfl⟩) (fun v_4 rv_4 pv_4 => ?_)
          try dsimp only at pv_4
          refine j_if_ge (tgt := 48) hx hb (by omega) dX3_placeOf_37 (by decide) (fun c_5 => ?_) (fun c_5 => ?_)
          · refine lv_iload hx hb dX3_placeOf_48 (lv_at hl 0 rfl) ?_
            refine lv_istore_n (lv' := [(3, .int (jI z_3)), (5, .int (jI z_3)), (0, .ref a0), (1, .ref a1), (2, .int (jI v2_10)), (4, .int (jI v4_10))]) hx hb dX3_placeOf_50 rfl hl (by decide) rfl (fun ls hl => ?_)
            refine j_iinc (lv' := [(4, .int (jI (v4_10 + 1))), (3, .int (jI z_3)), (5, .int (jI z_3)), (0, .ref a0), (1, .ref a1), (2, .int (jI v2_10))]) hx hb dX3_placeOf_51 hl (k := 5) rfl (by decide) rfl (fun ls hl => ?_)
            refine lv_goto (tgt := 10) hx hb dX3_placeOf_54 (by decide) ?_
            exact ih_10 ((z_3 - v2_10 : Int).toNat) (by omega) v2_10 z_3 (v4_10 + 1) _ rfl (by omega) (by omega) (by omega) (by omega) (by omega) (by omega) (by omega) (by omega) (lv_sub hl [3, 4, 5, 1, 0] rfl)
          · refine lv_iload hx hb dX3_placeOf_40 (lv_at hl 0 rfl) ?_
            refine j_const hx hb dX3_placeOf_42 ?_
            refine j_add hx hb dX3_placeOf_43 ?_
            refine lv_istore_n (lv' := [(2, .int (jI (z_3 + 1))), (5, .int (jI z_3)), (0, .ref a0), (1, .ref a1), (3, .int (jI v3_10)), (4, .int (jI v4_10))]) hx hb dX3_placeOf_44 rfl hl (by decide) rfl (fun ls hl => ?_)
            refine lv_goto (tgt := 51) hx hb dX3_placeOf_45 (by decide) ?_
            refine j_iinc (lv' := [(4, .int (jI (v4_10 + 1))), (2, .int (jI (z_3 + 1))), (5, .int (jI z_3)), (0, .ref a0), (1, .ref a1), (3, .int (jI v3_10))]) hx hb dX3_placeOf_51 hl (k := 5) rfl (by decide) rfl (fun ls hl => ?_)
            refine lv_goto (tgt := 10) hx hb dX3_placeOf_54 (by decide) ?_
            exact ih_10 ((v3_10 - (z_3 + 1) : Int).toNat) (by omega) (z_3 + 1) v3_10 (v4_10 + 1) _ rfl (by omega) (by omega) (by omega) (by omega) (by omega) (by omega) (by omega) (by omega) (lv_sub hl [3, 4, 1, 5, 0] rfl)
  exact L_10 (((σ a0 3) - 0 : Int).toNat) 0 (σ a0 3) 0 _ rfl (by omega) (by omega) (by omega) (by omega) (by omega) (by decide) (by omega) (by decide) (lv_sub hl [3, 4, 2, 1, 0] rfl)
theorem hvX3_isAt : yX3_isAt.cls = RX3 ∧ yX3_isAt.cls ≠ "java/lang/invoke/MethodHandle" ∧ yX3_isAt.cls ≠ "java/lang/invoke/VarHandle" ∧ (parseMethodDescriptor yX3_isAt.desc).map (fun d => d.parameters.length) = some 2 := by decide +kernel
set_option maxHeartbeats 4000000 in
set_option maxRecDepth 100000 in
theorem kX3_isAt (l : Launch) {D : va_G} {cA : Nat → ClassId} {τ : Nat → Nat} {G : Nat → Nat → Nat} {L : List Nat} (hS : SW τ G L) (σ : Nat → Nat → Int) {a0 : Nat} (h0 : τ a0 = 4) {x1 : Int} (r1 : rg x1) {a2 : Nat} (h2 : τ a2 = 3) : Met l yX3_isAt wsX3_isAt ({ frames := 2, cells := 0, slots := 0, locals := 49 }) (jP D cA τ G L σ [.ref a0, .int (jI x1), .ref a2]) (jQR (fun r => (0 ≤ r ∧ r ≤ 1) ∧ (True))) 0 0 (fun _ => False) := by
  refine j_metRZ (by decide +kernel) rfl (Nat.le_of_ble_eq_true rfl) ?_
  intro p e s m args below meth c Q hx hb hml hown hts hK hW hRet ls hl
  have hl : lv_has ls 3 [(0, .ref a0), (1, .int (jI x1)), (2, .ref a2)] := hl
  refine lv_aload_n hx hb dX3_isAt_0 rfl (lv_at hl 0 rfl) ?_
  refine lv_iload_n hx hb dX3_isAt_1 rfl (lv_at hl 1 rfl) ?_
  refine j_cR (j_runV (As := [.int (jI x1)]) (rest := []) hx hb hml hown hts hK hS hW (kX3_has l hS σ (a0 := a0) (h0 := h0) (x1 := x1) (r1 := (by omega))) 1 gX3_isAt_X3_has rfl hvX3_has ⟨Nat.le_of_ble_eq_true rfl, Nat.le_of_ble_eq_true rfl⟩ rfl rfl h0 rfl rfl rfl rfl hl.1 rfl (Nat.le_of_ble_eq_true rfl) dX3_isAt_2 ⟨Nat.le_of_ble_eq_true rfl, Nat.le_of_ble_eq_true rfl⟩) (fun v_1 rv_1 pv_1 => ?_)
  try dsimp only at pv_1
  refine j_if_eq (tgt := 21) hx hb (by omega) dX3_isAt_5 (by decide) (fun c_2 => ?_) (fun c_2 => ?_)
  · refine j_const hx hb dX3_isAt_21 ?_
    exact hRet 22 _ 0 dX3_isAt_22 (by omega) trivial
  · refine lv_aload_n hx hb dX3_isAt_8 rfl (lv_at hl 0 rfl) ?_
    refine lv_iload_n hx hb dX3_isAt_9 rfl (lv_at hl 1 rfl) ?_
    refine lv_aload_n hx hb dX3_isAt_10 rfl (lv_at hl 2 rfl) ?_
    refine j_cR (j_runV (As := [.int (jI x1), .ref a2]) (rest := []) hx hb hml hown hts hK hS hW (kX3_compare l hS σ (a0 := a0) (h0 := h0) (x1 := x1) (r1 := (by omega)) (a2 := a2) (h2 := h2)) 2 gX3_isAt_X3_compare rfl hvX3_compare ⟨Nat.le_of_ble_eq_true rfl, Nat.le_of_ble_eq_true rfl⟩ rfl rfl h0 rfl rfl rfl rfl hl.1 rfl (Nat.le_of_ble_eq_true rfl) dX3_isAt_11 ⟨Nat.le_of_ble_eq_true rfl, Nat.le_of_ble_eq_true rfl⟩) (fun v_3 rv_3 pv_3 => ?_)
    try dsimp only at pv_3
    refine j_if_ne (tgt := 21) hx hb (by omega) dX3_isAt_14 (by decide) (fun c_4 => ?_) (fun c_4 => ?_)
    · refine j_const hx hb dX3_isAt_21 ?_
      exact hRet 22 _ 0 dX3_isAt_22 (by omega) trivial
    · refine j_const hx hb dX3_isAt_17 ?_
      refine lv_goto (tgt := 22) hx hb dX3_isAt_18 (by decide) ?_
      exact hRet 22 _ 1 dX3_isAt_22 (by omega) trivial
theorem hvX3_find : yX3_find.cls = RX3 ∧ yX3_find.cls ≠ "java/lang/invoke/MethodHandle" ∧ yX3_find.cls ≠ "java/lang/invoke/VarHandle" ∧ (parseMethodDescriptor yX3_find.desc).map (fun d => d.parameters.length) = some 1 := by decide +kernel
set_option maxHeartbeats 4000000 in
set_option maxRecDepth 100000 in
theorem kX3_find (l : Launch) {D : va_G} {cA : Nat → ClassId} {τ : Nat → Nat} {G : Nat → Nat → Nat} {L : List Nat} (hS : SW τ G L) (σ : Nat → Nat → Int) {a0 : Nat} (h0 : τ a0 = 4) {a1 : Nat} (h1 : τ a1 = 3) : Met l yX3_find wsX3_find ({ frames := 3, cells := 0, slots := 0, locals := 74 }) (jP D cA τ G L σ [.ref a0, .ref a1]) (jQR (fun r => True)) 0 0 (fun _ => False) := by
  refine j_metR (by decide +kernel) rfl (Nat.le_of_ble_eq_true rfl) ?_
  intro p e s m args below meth c Q hx hb hml hown hts hK hW hRet ls hl
  have hl : lv_has ls 3 [(0, .ref a0), (1, .ref a1)] := hl
  refine lv_aload_n hx hb dX3_find_0 rfl (lv_at hl 0 rfl) ?_
  refine lv_aload_n hx hb dX3_find_1 rfl (lv_at hl 1 rfl) ?_
  refine j_cR (j_runV (As := [.ref a1]) (rest := []) hx hb hml hown hts hK hS hW (kX3_placeOf l hS σ (a0 := a0) (h0 := h0) (a1 := a1) (h1 := h1)) 1 gX3_find_X3_placeOf rfl hvX3_placeOf ⟨Nat.le_of_ble_eq_true rfl, Nat.le_of_ble_eq_true rfl⟩ rfl rfl h0 rfl rfl rfl rfl hl.1 rfl (Nat.le_of_ble_eq_true rfl) dX3_find_2 ⟨Nat.le_of_ble_eq_true rfl, Nat.le_of_ble_eq_true rfl⟩) (fun v_1 rv_1 pv_1 => ?_)
  try dsimp only at pv_1
  refine lv_istore_n (lv' := [(2, .int (jI v_1)), (0, .ref a0), (1, .ref a1)]) hx hb dX3_find_5 rfl hl (by decide) rfl (fun ls hl => ?_)
  refine lv_aload_n hx hb dX3_find_6 rfl (lv_at hl 1 rfl) ?_
  refine lv_iload_n hx hb dX3_find_7 rfl (lv_at hl 0 rfl) ?_
  refine lv_aload_n hx hb dX3_find_8 rfl (lv_at hl 2 rfl) ?_
  refine j_cR (j_runV (As := [.int (jI v_1), .ref a1]) (rest := []) hx hb hml hown hts hK hS hW (kX3_isAt l hS σ (a0 := a0) (h0 := h0) (x1 := v_1) (r1 := (by omega)) (a2 := a1) (h2 := h1)) 2 gX3_find_X3_isAt rfl hvX3_isAt ⟨Nat.le_of_ble_eq_true rfl, Nat.le_of_ble_eq_true rfl⟩ rfl rfl h0 rfl rfl rfl rfl hl.1 rfl (Nat.le_of_ble_eq_true rfl) dX3_find_9 ⟨Nat.le_of_ble_eq_true rfl, Nat.le_of_ble_eq_true rfl⟩) (fun v_2 rv_2 pv_2 => ?_)
  try dsimp only at pv_2
  refine j_if_eq (tgt := 19) hx hb (by omega) dX3_find_12 (by decide) (fun c_3 => ?_) (fun c_3 => ?_)
  · refine j_bi hx hb dX3_find_19 (by decide) ?_
    exact hRet 21 _ (-3) dX3_find_21 (by decide) trivial
  · refine lv_iload_n hx hb dX3_find_15 rfl (lv_at hl 0 rfl) ?_
    refine lv_goto (tgt := 21) hx hb dX3_find_16 (by decide) ?_
    exact hRet 21 _ v_1 dX3_find_21 (by omega) trivial
theorem hvX3_beside : yX3_beside.cls = RX3 ∧ yX3_beside.cls ≠ "java/lang/invoke/MethodHandle" ∧ yX3_beside.cls ≠ "java/lang/invoke/VarHandle" ∧ (parseMethodDescriptor yX3_beside.desc).map (fun d => d.parameters.length) = some 3 := by decide +kernel
set_option maxHeartbeats 4000000 in
set_option maxRecDepth 100000 in
theorem kX3_beside (l : Launch) {D : va_G} {cA : Nat → ClassId} {τ : Nat → Nat} {G : Nat → Nat → Nat} {L : List Nat} (hS : SW τ G L) (σ : Nat → Nat → Int) {a0 : Nat} (h0 : τ a0 = 4) {x1 : Int} (r1 : rg x1) {x2 : Int} (r2 : rg x2) {x3 : Int} (r3 : rg x3) : Met l yX3_beside wsX3_beside ({ frames := 0, cells := 0, slots := 0, locals := 0 }) (jP D cA τ G L σ [.ref a0, .int (jI x1), .int (jI x2), .int (jI x3)]) (jQR (fun r => True)) 0 0 (fun _ => False) := by
  refine j_metR (by decide +kernel) rfl (Nat.le_of_ble_eq_true rfl) ?_
  intro p e s m args below meth c Q hx hb hml hown hts hK hW hRet ls hl
  have hl : lv_has ls 4 [(0, .ref a0), (1, .int (jI x1)), (2, .int (jI x2)), (3, .int (jI x3))] := hl
  refine lv_iload_n hx hb dX3_beside_0 rfl (lv_at hl 3 rfl) ?_
  refine j_if_ne (tgt := 8) hx hb (by omega) dX3_beside_1 (by decide) (fun c_1 => ?_) (fun c_1 => ?_)
  · refine lv_iload_n hx hb dX3_beside_8 rfl (lv_at hl 2 rfl) ?_
    refine j_if_eq (tgt := 18) hx hb (by omega) dX3_beside_9 (by decide) (fun c_2 => ?_) (fun c_2 => ?_)
    · refine lv_iload_n hx hb dX3_beside_18 rfl (lv_at hl 1 rfl) ?_
      exact hRet 19 _ x1 dX3_beside_19 (by omega) trivial
    · refine lv_iload_n hx hb dX3_beside_12 rfl (lv_at hl 1 rfl) ?_
      refine j_const hx hb dX3_beside_13 ?_
      refine j_add hx hb dX3_beside_14 ?_
      refine j_wrap (fun z_3 rz_3 ez_3 => ?_)
      refine lv_goto (tgt := 19) hx hb dX3_beside_15 (by decide) ?_
      exact hRet 19 _ z_3 dX3_beside_19 (by omega) trivial
  · refine lv_iload_n hx hb dX3_beside_4 rfl (lv_at hl 1 rfl) ?_
    refine j_const hx hb dX3_beside_5 ?_
    refine j_sub hx hb dX3_beside_6 ?_
    refine j_wrap (fun z_4 rz_4 ez_4 => ?_)
    exact hRet 7 _ z_4 dX3_beside_7 (by omega) trivial
theorem flX3_beginsWith_39 : Cond.fieldLink RX3 39 "PageTrie$Key" "length" "I" ∈ wsX3_beginsWith := List.mem_of_getElem? (i := 1) rfl
theorem inX3_beginsWith_X2 : ∀ w ∈ u_ws RX2 TX2 2, w ∈ wsX3_beginsWith := mem_r _ [21, 22] rfl
theorem hvX3_beginsWith : yX3_beginsWith.cls = RX3 ∧ yX3_beginsWith.cls ≠ "java/lang/invoke/MethodHandle" ∧ yX3_beginsWith.cls ≠ "java/lang/invoke/VarHandle" ∧ (parseMethodDescriptor yX3_beginsWith.desc).map (fun d => d.parameters.length) = some 2 := by decide +kernel
set_option maxHeartbeats 4000000 in
set_option maxRecDepth 100000 in
theorem kX3_beginsWith (l : Launch) {D : va_G} {cA : Nat → ClassId} {τ : Nat → Nat} {G : Nat → Nat → Nat} {L : List Nat} (hS : SW τ G L) (σ : Nat → Nat → Int) {a0 : Nat} (h0 : τ a0 = 4) {x1 : Int} (r1 : rg x1) {a2 : Nat} (h2 : τ a2 = 3) : Met l yX3_beginsWith wsX3_beginsWith ({ frames := 1, cells := 0, slots := 0, locals := 23 }) (jP D cA τ G L σ [.ref a0, .int (jI x1), .ref a2]) (jQR (fun r => (0 ≤ r ∧ r ≤ 1) ∧ (True))) 0 0 (fun _ => False) := by
  refine j_metRZ (by decide +kernel) rfl (Nat.le_of_ble_eq_true rfl) ?_
  intro p e s m args below meth c Q hx hb hml hown hts hK hW hRet ls hl
  have hl : lv_has ls 4 [(0, .ref a0), (1, .int (jI x1)), (2, .ref a2)] := hl
  refine lv_aload_n hx hb dX3_beginsWith_0 rfl (lv_at hl 0 rfl) ?_
  refine lv_iload_n hx hb dX3_beginsWith_1 rfl (lv_at hl 1 rfl) ?_
  refine j_cR (j_runV (As := [.int (jI x1)]) (rest := []) hx hb hml hown hts hK hS hW (kX3_lengthOf l hS σ (a0 := a0) (h0 := h0) (x1 := x1) (r1 := (by omega))) 1 gX3_beginsWith_X3_lengthOf rfl hvX3_lengthOf ⟨Nat.le_of_ble_eq_true rfl, Nat.le_of_ble_eq_true rfl⟩ rfl rfl h0 rfl rfl rfl rfl hl.1 rfl (Nat.le_of_ble_eq_true rfl) dX3_beginsWith_2 ⟨Nat.le_of_ble_eq_true rfl, Nat.le_of_ble_eq_true rfl⟩) (fun v_1 rv_1 pv_1 => ?_)
  try dsimp only at pv_1
  refine lv_aload_n hx hb dX3_beginsWith_5 rfl (lv_at hl 2 rfl) ?_
  refine j_getI hx hb (C := RX2) (T := TX2) (N := 2) hts inX3_beginsWith_X2 hown hK hS hW h2 rfl 1 rfl rfl (by decide) (hts _ flX3_beginsWith_39) dX3_beginsWith_6 ?_
  have := fbd hW h2 (k := 1) (lo := 0) (hi := 24) rfl rfl
  refine j_icmp_ge (tgt := 14) hx hb (by omega) (by omega) dX3_beginsWith_9 (by decide) (fun c_2 => ?_) (fun c_2 => ?_)
  · refine j_const hx hb dX3_beginsWith_14 ?_
    refine lv_istore_n (lv' := [(3, .int (jI 0)), (0, .ref a0), (1, .int (jI x1)), (2, .ref a2)]) hx hb dX3_beginsWith_15 rfl hl (by decide) rfl (fun ls hl => ?_)
    have L_16 : ∀ (N : Nat) (v3_16 : Int) (ls : Array Slot), N = (2147483647 - v3_16 : Int).toNat → (0 ≤ v3_16) → rg v3_16 → lv_has ls 4 [(0, .ref a0), (1, .int (jI x1)), (2, .ref a2), (3, .int (jI v3_16))] → W p l e ({ frames := 1, cells := 0, slots := 0, locals := 23 }) s m args below meth c s.heap [] 0 0 Q (F0 m 16 ls []) := by
      intro N
      induction N using Nat.strongRecOn with
      | ind N ih_16 =>
        intro v3_16 ls hN i0_16 rv3_16 hl
        refine lv_iload_n hx hb dX3_beginsWith_16 rfl (lv_at hl 3 rfl) ?_
        refine lv_aload_n hx hb dX3_beginsWith_17 rfl (lv_at hl 2 rfl) ?_
        refine j_getI hx hb (C := RX2) (T := TX2) (N := 2) hts inX3_beginsWith_X2 hown hK hS hW h2 rfl 1 rfl rfl (by decide) (hts _ flX3_beginsWith_39) dX3_beginsWith_18 ?_
        refine j_icmp_ge (tgt := 46) hx hb (by omega) (by omega) dX3_beginsWith_21 (by decide) (fun c_3 => ?_) (fun c_3 => ?_)
        · refine j_const hx hb dX3_beginsWith_46 ?_
          exact hRet 47 _ 1 dX3_beginsWith_47 (by omega) trivial
        · refine lv_aload_n hx hb dX3_beginsWith_24 rfl (lv_at hl 0 rfl) ?_
          refine lv_iload_n hx hb dX3_beginsWith_25 rfl (lv_at hl 1 rfl) ?_
          refine lv_iload_n hx hb dX3_beginsWith_26 rfl (lv_at hl 3 rfl) ?_
          refine j_cR (j_runV (As := [.int (jI x1), .int (jI v3_16)]) (rest := []) hx hb hml hown hts hK hS hW (kX3_byteOf l hS σ (a0 := a0) (h0 := h0) (x1 := x1) (r1 := (by omega)) (x2 := v3_16) (r2 := (by omega))) 2 gX3_beginsWith_X3_byteOf rfl hvX3_byteOf ⟨Nat.le_of_ble_eq_true rfl, Nat.le_of_ble_eq_true rfl⟩ rfl rfl h0 rfl rfl rfl rfl hl.1 rfl (Nat.le_of_ble_eq_true rfl) dX3_beginsWith_27 ⟨Nat.le_of_ble_eq_true rfl, Nat.le_of_ble_eq_true rfl⟩) (fun v_4 rv_4 pv_4 => ?_)
          try dsimp only at pv_4
          refine lv_aload_n hx hb dX3_beginsWith_30 rfl (lv_at hl 2 rfl) ?_
          refine lv_iload_n hx hb dX3_beginsWith_31 rfl (lv_at hl 3 rfl) ?_
          refine j_cR (j_runV (As := [.int (jI v3_16)]) (rest := [.int (jI v_4)]) hx hb hml hown hts hK hS hW (kX2_byteOf l hS σ (a0 := a2) (h0 := h2) (x1 := v3_16) (r1 := (by omega))) 1 gX3_beginsWith_X2_byteOf rfl hvX2_byteOf ⟨Nat.le_of_ble_eq_true rfl, Nat.le_of_ble_eq_true rfl⟩ rfl rfl h2 rfl rfl rfl rfl hl.1 rfl (Nat.le_of_ble_eq_true rfl) dX3_beginsWith_32 ⟨Nat.le_of_ble_eq_true rfl, Nat.le_of_ble_eq_true rfl⟩) (fun v_5 rv_5 pv_5 => ?_)
          try dsimp only at pv_5
          refine j_icmp_eq (tgt := 40) hx hb (by omega) (by omega) dX3_beginsWith_35 (by decide) (fun c_6 => ?_) (fun c_6 => ?_)
          · refine j_iinc (lv' := [(3, .int (jI (v3_16 + 1))), (0, .ref a0), (1, .int (jI x1)), (2, .ref a2)]) hx hb dX3_beginsWith_40 hl (k := 3) rfl (by decide) rfl (fun ls hl => ?_)
            refine lv_goto (tgt := 16) hx hb dX3_beginsWith_43 (by decide) ?_
            exact ih_16 ((2147483647 - (v3_16 + 1) : Int).toNat) (by omega) (v3_16 + 1) _ rfl (by omega) (by omega) (lv_sub hl [1, 2, 3, 0] rfl)
          · refine j_const hx hb dX3_beginsWith_38 ?_
            exact hRet 39 _ 0 dX3_beginsWith_39 (by omega) trivial
    exact L_16 ((2147483647 - 0 : Int).toNat) 0 _ rfl (by omega) (by decide) (lv_sub hl [1, 2, 3, 0] rfl)
  · refine j_const hx hb dX3_beginsWith_12 ?_
    exact hRet 13 _ 0 dX3_beginsWith_13 (by omega) trivial
theorem flX3_endOfBeginning_22 : Cond.fieldLink RX3 22 "PageTrie$Keys" "size" "I" ∈ wsX3_endOfBeginning := List.mem_of_getElem? (i := 1) rfl
theorem inX3_endOfBeginning_X3 : ∀ w ∈ u_ws RX3 TX3 4, w ∈ wsX3_endOfBeginning := mem_r _ [25, 26, 27, 28] rfl
theorem hvX3_endOfBeginning : yX3_endOfBeginning.cls = RX3 ∧ yX3_endOfBeginning.cls ≠ "java/lang/invoke/MethodHandle" ∧ yX3_endOfBeginning.cls ≠ "java/lang/invoke/VarHandle" ∧ (parseMethodDescriptor yX3_endOfBeginning.desc).map (fun d => d.parameters.length) = some 2 := by decide +kernel
set_option maxHeartbeats 4000000 in
set_option maxRecDepth 100000 in
theorem kX3_endOfBeginning (l : Launch) {D : va_G} {cA : Nat → ClassId} {τ : Nat → Nat} {G : Nat → Nat → Nat} {L : List Nat} (hS : SW τ G L) (σ : Nat → Nat → Int) {a0 : Nat} (h0 : τ a0 = 4) {x1 : Int} (r1 : rg x1) {a2 : Nat} (h2 : τ a2 = 3) : Met l yX3_endOfBeginning wsX3_endOfBeginning ({ frames := 2, cells := 0, slots := 0, locals := 46 }) (jP D cA τ G L σ [.ref a0, .int (jI x1), .ref a2]) (jQR (fun r => True)) 0 0 (fun _ => False) := by
  refine j_metR (by decide +kernel) rfl (Nat.le_of_ble_eq_true rfl) ?_
  intro p e s m args below meth c Q hx hb hml hown hts hK hW hRet ls hl
  have hl : lv_has ls 4 [(0, .ref a0), (1, .int (jI x1)), (2, .ref a2)] := hl
  refine lv_iload_n hx hb dX3_endOfBeginning_0 rfl (lv_at hl 1 rfl) ?_
  refine lv_istore_n (lv' := [(3, .int (jI x1)), (0, .ref a0), (1, .int (jI x1)), (2, .ref a2)]) hx hb dX3_endOfBeginning_1 rfl hl (by decide) rfl (fun ls hl => ?_)
  have L_2 : ∀ (N : Nat) (v3_2 : Int) (ls : Array Slot), N = (2147483647 - v3_2 : Int).toNat → rg v3_2 → lv_has ls 4 [(0, .ref a0), (2, .ref a2), (3, .int (jI v3_2))] → W p l e ({ frames := 2, cells := 0, slots := 0, locals := 46 }) s m args below meth c s.heap [] 0 0 Q (F0 m 2 ls []) := by
    intro N
    induction N using Nat.strongRecOn with
    | ind N ih_2 =>
      intro v3_2 ls hN rv3_2 hl
      refine lv_iload_n hx hb dX3_endOfBeginning_2 rfl (lv_at hl 2 rfl) ?_
      refine lv_aload_n hx hb dX3_endOfBeginning_3 rfl (lv_at hl 0 rfl) ?_
      refine j_getI hx hb (C := RX3) (T := TX3) (N := 4) hts inX3_endOfBeginning_X3 hown hK hS hW h0 rfl 3 rfl rfl (by decide) (hts _ flX3_endOfBeginning_22) dX3_endOfBeginning_4 ?_
      have := fbd hW h0 (k := 3) (lo := 0) (hi := 150) rfl rfl
      refine j_icmp_ge (tgt := 25) hx hb (by omega) (by omega) dX3_endOfBeginning_7 (by decide) (fun c_1 => ?_) (fun c_1 => ?_)
      · refine lv_iload_n hx hb dX3_endOfBeginning_25 rfl (lv_at hl 2 rfl) ?_
        exact hRet 26 _ v3_2 dX3_endOfBeginning_26 (by omega) trivial
      · refine lv_aload_n hx hb dX3_endOfBeginning_10 rfl (lv_at hl 0 rfl) ?_
        refine lv_iload_n hx hb dX3_endOfBeginning_11 rfl (lv_at hl 2 rfl) ?_
        refine lv_aload_n hx hb dX3_endOfBeginning_12 rfl (lv_at hl 1 rfl) ?_
        refine j_cR (j_runV (As := [.int (jI v3_2), .ref a2]) (rest := []) hx hb hml hown hts hK hS hW (kX3_beginsWith l hS σ (a0 := a0) (h0 := h0) (x1 := v3_2) (r1 := (by omega)) (a2 := a2) (h2 := h2)) 2 gX3_endOfBeginning_X3_beginsWith rfl hvX3_beginsWith ⟨Nat.le_of_ble_eq_true rfl, Nat.le_of_ble_eq_true rfl⟩ rfl rfl h0 rfl rfl rfl rfl hl.1 rfl (Nat.le_of_ble_eq_true rfl) dX3_endOfBeginning_13 ⟨Nat.le_of_ble_eq_true rfl, Nat.le_of_ble_eq_true rfl⟩) (fun v_2 rv_2 pv_2 => ?_)
        try dsimp only at pv_2
        refine j_if_eq (tgt := 25) hx hb (by omega) dX3_endOfBeginning_16 (by decide) (fun c_3 => ?_) (fun c_3 => ?_)
        · refine lv_iload_n hx hb dX3_endOfBeginning_25 rfl (lv_at hl 2 rfl) ?_
          exact hRet 26 _ v3_2 dX3_endOfBeginning_26 (by omega) trivial
        · refine j_iinc (lv' := [(3, .int (jI (v3_2 + 1))), (0, .ref a0), (2, .ref a2)]) hx hb dX3_endOfBeginning_19 hl (k := 2) rfl (by decide) rfl (fun ls hl => ?_)
          refine lv_goto (tgt := 2) hx hb dX3_endOfBeginning_22 (by decide) ?_
          exact ih_2 ((2147483647 - (v3_2 + 1) : Int).toNat) (by omega) (v3_2 + 1) _ rfl (by omega) (lv_sub hl [1, 2, 0] rfl)
  exact L_2 ((2147483647 - x1 : Int).toNat) x1 _ rfl (by omega) (lv_sub hl [1, 3, 0] rfl)
theorem hvX3_valuesTogether : yX3_valuesTogether.cls = RX3 ∧ yX3_valuesTogether.cls ≠ "java/lang/invoke/MethodHandle" ∧ yX3_valuesTogether.cls ≠ "java/lang/invoke/VarHandle" ∧ (parseMethodDescriptor yX3_valuesTogether.desc).map (fun d => d.parameters.length) = some 2 := by decide +kernel
set_option maxHeartbeats 4000000 in
set_option maxRecDepth 100000 in
theorem kX3_valuesTogether (l : Launch) {D : va_G} {cA : Nat → ClassId} {τ : Nat → Nat} {G : Nat → Nat → Nat} {L : List Nat} (hS : SW τ G L) (σ : Nat → Nat → Int) {a0 : Nat} (h0 : τ a0 = 4) {x1 : Int} (r1 : rg x1) {x2 : Int} (r2 : rg x2) : Met l yX3_valuesTogether wsX3_valuesTogether ({ frames := 1, cells := 0, slots := 0, locals := 21 }) (jP D cA τ G L σ [.ref a0, .int (jI x1), .int (jI x2)]) (jQR (fun r => True)) 0 0 (fun _ => False) := by
  refine j_metR (by decide +kernel) rfl (Nat.le_of_ble_eq_true rfl) ?_
  intro p e s m args below meth c Q hx hb hml hown hts hK hW hRet ls hl
  have hl : lv_has ls 5 [(0, .ref a0), (1, .int (jI x1)), (2, .int (jI x2))] := hl
  refine j_const hx hb dX3_valuesTogether_0 ?_
  refine lv_istore_n (lv' := [(3, .int (jI 0)), (0, .ref a0), (1, .int (jI x1)), (2, .int (jI x2))]) hx hb dX3_valuesTogether_1 rfl hl (by decide) rfl (fun ls hl => ?_)
  refine lv_iload_n hx hb dX3_valuesTogether_2 rfl (lv_at hl 2 rfl) ?_
  refine lv_istore (lv' := [(4, .int (jI x1)), (3, .int (jI 0)), (0, .ref a0), (1, .int (jI x1)), (2, .int (jI x2))]) hx hb dX3_valuesTogether_3 hl (by decide) rfl (fun ls hl => ?_)
  have L_5 : ∀ (N : Nat) (v3_5 v4_5 : Int) (ls : Array Slot), N = (2147483647 - v4_5 : Int).toNat → rg v3_5 → rg v4_5 → lv_has ls 5 [(0, .ref a0), (2, .int (jI x2)), (3, .int (jI v3_5)), (4, .int (jI v4_5))] → W p l e ({ frames := 1, cells := 0, slots := 0, locals := 21 }) s m args below meth c s.heap [] 0 0 Q (F0 m 5 ls []) := by
    intro N
    induction N using Nat.strongRecOn with
    | ind N ih_5 =>
      intro v3_5 v4_5 ls hN rv3_5 rv4_5 hl
      refine lv_iload hx hb dX3_valuesTogether_5 (lv_at hl 3 rfl) ?_
      refine lv_iload_n hx hb dX3_valuesTogether_7 rfl (lv_at hl 1 rfl) ?_
      refine j_icmp_ge (tgt := 26) hx hb (by omega) (by omega) dX3_valuesTogether_8 (by decide) (fun c_1 => ?_) (fun c_1 => ?_)
      · refine lv_iload_n hx hb dX3_valuesTogether_26 rfl (lv_at hl 2 rfl) ?_
        exact hRet 27 _ v3_5 dX3_valuesTogether_27 (by omega) trivial
      · refine lv_iload_n hx hb dX3_valuesTogether_11 rfl (lv_at hl 2 rfl) ?_
        refine lv_aload_n hx hb dX3_valuesTogether_12 rfl (lv_at hl 0 rfl) ?_
        refine lv_iload hx hb dX3_valuesTogether_13 (lv_at hl 3 rfl) ?_
        refine j_cR (j_runV (As := [.int (jI v4_5)]) (rest := [.int (jI v3_5)]) hx hb hml hown hts hK hS hW (kX3_valueOf l hS σ (a0 := a0) (h0 := h0) (x1 := v4_5) (r1 := (by omega))) 1 gX3_valuesTogether_X3_valueOf rfl hvX3_valueOf ⟨Nat.le_of_ble_eq_true rfl, Nat.le_of_ble_eq_true rfl⟩ rfl rfl h0 rfl rfl rfl rfl hl.1 rfl (Nat.le_of_ble_eq_true rfl) dX3_valuesTogether_15 ⟨Nat.le_of_ble_eq_true rfl, Nat.le_of_ble_eq_true rfl⟩) (fun v_2 rv_2 pv_2 => ?_)
        try dsimp only at pv_2
        refine j_add hx hb dX3_valuesTogether_18 ?_
        refine j_wrap (fun z_3 rz_3 ez_3 => ?_)
        refine lv_istore_n (lv' := [(3, .int (jI z_3)), (0, .ref a0), (2, .int (jI x2)), (4, .int (jI v4_5))]) hx hb dX3_valuesTogether_19 rfl hl (by decide) rfl (fun ls hl => ?_)
        refine j_iinc (lv' := [(4, .int (jI (v4_5 + 1))), (3, .int (jI z_3)), (0, .ref a0), (2, .int (jI x2))]) hx hb dX3_valuesTogether_20 hl (k := 3) rfl (by decide) rfl (fun ls hl => ?_)
        refine lv_goto (tgt := 5) hx hb dX3_valuesTogether_23 (by decide) ?_
        exact ih_5 ((2147483647 - (v4_5 + 1) : Int).toNat) (by omega) z_3 (v4_5 + 1) _ rfl (by omega) (by omega) (lv_sub hl [2, 3, 1, 0] rfl)
  exact L_5 ((2147483647 - x1 : Int).toNat) 0 x1 _ rfl (by decide) (by omega) (lv_sub hl [2, 4, 1, 0] rfl)
theorem hvX3_alikeBytes : yX3_alikeBytes.cls = RX3 ∧ yX3_alikeBytes.cls ≠ "java/lang/invoke/MethodHandle" ∧ yX3_alikeBytes.cls ≠ "java/lang/invoke/VarHandle" ∧ (parseMethodDescriptor yX3_alikeBytes.desc).map (fun d => d.parameters.length) = some 2 := by decide +kernel
set_option maxHeartbeats 4000000 in
set_option maxRecDepth 100000 in
theorem kX3_alikeBytes (l : Launch) {D : va_G} {cA : Nat → ClassId} {τ : Nat → Nat} {G : Nat → Nat → Nat} {L : List Nat} (hS : SW τ G L) (σ : Nat → Nat → Int) {a0 : Nat} (h0 : τ a0 = 4) {x1 : Int} (r1 : rg x1) {x2 : Int} (r2 : rg x2) : Met l yX3_alikeBytes wsX3_alikeBytes ({ frames := 1, cells := 0, slots := 0, locals := 24 }) (jP D cA τ G L σ [.ref a0, .int (jI x1), .int (jI x2)]) (jQR (fun r => (0 ≤ r) ∧ (r ≤ 24))) 0 0 (fun _ => False) := by
  refine j_metR (by decide +kernel) rfl (Nat.le_of_ble_eq_true rfl) ?_
  intro p e s m args below meth c Q hx hb hml hown hts hK hW hRet ls hl
  have hl : lv_has ls 5 [(0, .ref a0), (1, .int (jI x1)), (2, .int (jI x2))] := hl
  refine lv_aload_n hx hb dX3_alikeBytes_0 rfl (lv_at hl 0 rfl) ?_
  refine lv_iload_n hx hb dX3_alikeBytes_1 rfl (lv_at hl 1 rfl) ?_
  refine j_cR (j_runV (As := [.int (jI x1)]) (rest := []) hx hb hml hown hts hK hS hW (kX3_lengthOf l hS σ (a0 := a0) (h0 := h0) (x1 := x1) (r1 := (by omega))) 1 gX3_alikeBytes_X3_lengthOf rfl hvX3_lengthOf ⟨Nat.le_of_ble_eq_true rfl, Nat.le_of_ble_eq_true rfl⟩ rfl rfl h0 rfl rfl rfl rfl hl.1 rfl (Nat.le_of_ble_eq_true rfl) dX3_alikeBytes_2 ⟨Nat.le_of_ble_eq_true rfl, Nat.le_of_ble_eq_true rfl⟩) (fun v_1 rv_1 pv_1 => ?_)
  try dsimp only at pv_1
  refine lv_aload_n hx hb dX3_alikeBytes_5 rfl (lv_at hl 0 rfl) ?_
  refine lv_iload_n hx hb dX3_alikeBytes_6 rfl (lv_at hl 2 rfl) ?_
  refine j_cR (j_runV (As := [.int (jI x2)]) (rest := [.int (jI v_1)]) hx hb hml hown hts hK hS hW (kX3_lengthOf l hS σ (a0 := a0) (h0 := h0) (x1 := x2) (r1 := (by omega))) 1 gX3_alikeBytes_X3_lengthOf rfl hvX3_lengthOf ⟨Nat.le_of_ble_eq_true rfl, Nat.le_of_ble_eq_true rfl⟩ rfl rfl h0 rfl rfl rfl rfl hl.1 rfl (Nat.le_of_ble_eq_true rfl) dX3_alikeBytes_7 ⟨Nat.le_of_ble_eq_true rfl, Nat.le_of_ble_eq_true rfl⟩) (fun v_2 rv_2 pv_2 => ?_)
  try dsimp only at pv_2
  refine j_mmin hx hb (hml.trans hl.1.symm) hown (hts (.methodLink RX3 46 Lib.Math.min.name) (by decide +kernel)) (hts (.static Lib.Math.min.name) (by decide +kernel)) (hts (.initialized "java/lang/Math") (by decide +kernel)) (hts (.code Lib.Math.min.name Lib.Math.min.code 2 (some .int)) (by decide +kernel)) (Nat.le_of_ble_eq_true rfl) (Nat.le_of_ble_eq_true rfl) (Nat.le_of_ble_eq_true rfl) (Nat.le_of_ble_eq_true rfl) (by omega) (by omega) dX3_alikeBytes_10 (fun z_3 rz_3 ez_3 => ?_)
  refine lv_istore_n (lv' := [(3, .int (jI z_3)), (0, .ref a0), (1, .int (jI x1)), (2, .int (jI x2))]) hx hb dX3_alikeBytes_13 rfl hl (by decide) rfl (fun ls hl => ?_)
  refine j_const hx hb dX3_alikeBytes_14 ?_
  refine lv_istore (lv' := [(4, .int (jI 0)), (3, .int (jI z_3)), (0, .ref a0), (1, .int (jI x1)), (2, .int (jI x2))]) hx hb dX3_alikeBytes_15 hl (by decide) rfl (fun ls hl => ?_)
  have L_17 : ∀ (N : Nat) (v4_17 : Int) (ls : Array Slot), N = (2147483647 - v4_17 : Int).toNat → (0 ≤ v4_17) → (v4_17 ≤ z_3) → rg v4_17 → lv_has ls 5 [(0, .ref a0), (1, .int (jI x1)), (2, .int (jI x2)), (3, .int (jI z_3)), (4, .int (jI v4_17))] → W p l e ({ frames := 1, cells := 0, slots := 0, locals := 24 }) s m args below meth c s.heap [] 0 0 Q (F0 m 17 ls []) := by
    intro N
    induction N using Nat.strongRecOn with
    | ind N ih_17 =>
      intro v4_17 ls hN i0_17 i1_17 rv4_17 hl
      refine lv_iload hx hb dX3_alikeBytes_17 (lv_at hl 4 rfl) ?_
      refine lv_iload_n hx hb dX3_alikeBytes_19 rfl (lv_at hl 3 rfl) ?_
      refine j_icmp_ge (tgt := 46) hx hb (by omega) (by omega) dX3_alikeBytes_20 (by decide) (fun c_4 => ?_) (fun c_4 => ?_)
      · refine lv_iload hx hb dX3_alikeBytes_46 (lv_at hl 4 rfl) ?_
        exact hRet 48 _ v4_17 dX3_alikeBytes_48 (by omega) ⟨by omega, by omega⟩
      · refine lv_aload_n hx hb dX3_alikeBytes_23 rfl (lv_at hl 0 rfl) ?_
        refine lv_iload_n hx hb dX3_alikeBytes_24 rfl (lv_at hl 1 rfl) ?_
        refine lv_iload hx hb dX3_alikeBytes_25 (lv_at hl 4 rfl) ?_
        refine j_cR (j_runV (As := [.int (jI x1), .int (jI v4_17)]) (rest := []) hx hb hml hown hts hK hS hW (kX3_byteOf l hS σ (a0 := a0) (h0 := h0) (x1 := x1) (r1 := (by omega)) (x2 := v4_17) (r2 := (by omega))) 2 gX3_alikeBytes_X3_byteOf rfl hvX3_byteOf ⟨Nat.le_of_ble_eq_true rfl, Nat.le_of_ble_eq_true rfl⟩ rfl rfl h0 rfl rfl rfl rfl hl.1 rfl (Nat.le_of_ble_eq_true rfl) dX3_alikeBytes_27 ⟨Nat.le_of_ble_eq_true rfl, Nat.le_of_ble_eq_true rfl⟩) (fun v_5 rv_5 pv_5 => ?_)
        try dsimp only at pv_5
        refine lv_aload_n hx hb dX3_alikeBytes_30 rfl (lv_at hl 0 rfl) ?_
        refine lv_iload_n hx hb dX3_alikeBytes_31 rfl (lv_at hl 2 rfl) ?_
        refine lv_iload hx hb dX3_alikeBytes_32 (lv_at hl 4 rfl) ?_
        refine j_cR (j_runV (As := [.int (jI x2), .int (jI v4_17)]) (rest := [.int (jI v_5)]) hx hb hml hown hts hK hS hW (kX3_byteOf l hS σ (a0 := a0) (h0 := h0) (x1 := x2) (r1 := (by omega)) (x2 := v4_17) (r2 := (by omega))) 2 gX3_alikeBytes_X3_byteOf rfl hvX3_byteOf ⟨Nat.le_of_ble_eq_true rfl, Nat.le_of_ble_eq_true rfl⟩ rfl rfl h0 rfl rfl rfl rfl hl.1 rfl (Nat.le_of_ble_eq_true rfl) dX3_alikeBytes_34 ⟨Nat.le_of_ble_eq_true rfl, Nat.le_of_ble_eq_true rfl⟩) (fun v_6 rv_6 pv_6 => ?_)
        try dsimp only at pv_6
        refine j_icmp_ne (tgt := 46) hx hb (by omega) (by omega) dX3_alikeBytes_37 (by decide) (fun c_7 => ?_) (fun c_7 => ?_)
        · refine lv_iload hx hb dX3_alikeBytes_46 (lv_at hl 4 rfl) ?_
          exact hRet 48 _ v4_17 dX3_alikeBytes_48 (by omega) ⟨by omega, by omega⟩
        · refine j_iinc (lv' := [(4, .int (jI (v4_17 + 1))), (0, .ref a0), (1, .int (jI x1)), (2, .int (jI x2)), (3, .int (jI z_3))]) hx hb dX3_alikeBytes_40 hl (k := 4) rfl (by decide) rfl (fun ls hl => ?_)
          refine lv_goto (tgt := 17) hx hb dX3_alikeBytes_43 (by decide) ?_
          exact ih_17 ((2147483647 - (v4_17 + 1) : Int).toNat) (by omega) (v4_17 + 1) _ rfl (by omega) (by omega) (by omega) (lv_sub hl [1, 2, 3, 4, 0] rfl)
  exact L_17 ((2147483647 - 0 : Int).toNat) 0 _ rfl (by omega) (by omega) (by decide) (lv_sub hl [2, 3, 4, 1, 0] rfl)
theorem flX3_closestPair_22 : Cond.fieldLink RX3 22 "PageTrie$Keys" "size" "I" ∈ wsX3_closestPair := List.mem_of_getElem? (i := 1) rfl
theorem inX3_closestPair_X3 : ∀ w ∈ u_ws RX3 TX3 4, w ∈ wsX3_closestPair := mem_r _ [21, 22, 23, 24] rfl
theorem hvX3_closestPair : yX3_closestPair.cls = RX3 ∧ yX3_closestPair.cls ≠ "java/lang/invoke/MethodHandle" ∧ yX3_closestPair.cls ≠ "java/lang/invoke/VarHandle" ∧ (parseMethodDescriptor yX3_closestPair.desc).map (fun d => d.parameters.length) = some 0 := by decide +kernel
set_option maxHeartbeats 4000000 in
set_option maxRecDepth 100000 in
theorem kX3_closestPair (l : Launch) {D : va_G} {cA : Nat → ClassId} {τ : Nat → Nat} {G : Nat → Nat → Nat} {L : List Nat} (hS : SW τ G L) (σ : Nat → Nat → Int) {a0 : Nat} (h0 : τ a0 = 4) : Met l yX3_closestPair wsX3_closestPair ({ frames := 2, cells := 0, slots := 0, locals := 48 }) (jP D cA τ G L σ [.ref a0]) (jQR (fun r => True)) 0 0 (fun _ => False) := by
  refine j_metR (by decide +kernel) rfl (Nat.le_of_ble_eq_true rfl) ?_
  intro p e s m args below meth c Q hx hb hml hown hts hK hW hRet ls hl
  have hl : lv_has ls 5 [(0, .ref a0)] := hl
  refine j_const hx hb dX3_closestPair_0 ?_
  refine lv_istore_n (lv' := [(1, .int (jI 0)), (0, .ref a0)]) hx hb dX3_closestPair_1 rfl hl (by decide) rfl (fun ls hl => ?_)
  refine j_const hx hb dX3_closestPair_2 ?_
  refine lv_istore_n (lv' := [(2, .int (jI (-1))), (1, .int (jI 0)), (0, .ref a0)]) hx hb dX3_closestPair_3 rfl hl (by decide) rfl (fun ls hl => ?_)
  refine j_const hx hb dX3_closestPair_4 ?_
  refine lv_istore_n (lv' := [(3, .int (jI 0)), (2, .int (jI (-1))), (1, .int (jI 0)), (0, .ref a0)]) hx hb dX3_closestPair_5 rfl hl (by decide) rfl (fun ls hl => ?_)
  have L_6 : ∀ (N : Nat) (v1_6 v2_6 v3_6 : Int) (ls : Array Slot), N = (2147483647 - v3_6 : Int).toNat → (0 ≤ v3_6) → (v3_6 ≤ 150) → rg v1_6 → rg v2_6 → rg v3_6 → lv_has ls 5 [(0, .ref a0), (1, .int (jI v1_6)), (2, .int (jI v2_6)), (3, .int (jI v3_6))] → W p l e ({ frames := 2, cells := 0, slots := 0, locals := 48 }) s m args below meth c s.heap [] 0 0 Q (F0 m 6 ls []) := by
    intro N
    induction N using Nat.strongRecOn with
    | ind N ih_6 =>
      intro v1_6 v2_6 v3_6 ls hN i0_6 i1_6 rv1_6 rv2_6 rv3_6 hl
      refine lv_iload_n hx hb dX3_closestPair_6 rfl (lv_at hl 3 rfl) ?_
      refine j_const hx hb dX3_closestPair_7 ?_
      refine j_add hx hb dX3_closestPair_8 ?_
      refine lv_aload_n hx hb dX3_closestPair_9 rfl (lv_at hl 0 rfl) ?_
      refine j_getI hx hb (C := RX3) (T := TX3) (N := 4) hts inX3_closestPair_X3 hown hK hS hW h0 rfl 3 rfl rfl (by decide) (hts _ flX3_closestPair_22) dX3_closestPair_10 ?_
      have := fbd hW h0 (k := 3) (lo := 0) (hi := 150) rfl rfl
      refine j_icmp_ge (tgt := 43) hx hb (by omega) (by omega) dX3_closestPair_13 (by decide) (fun c_1 => ?_) (fun c_1 => ?_)
      · refine lv_iload_n hx hb dX3_closestPair_43 rfl (lv_at hl 1 rfl) ?_
        exact hRet 44 _ v1_6 dX3_closestPair_44 (by omega) trivial
      · refine lv_aload_n hx hb dX3_closestPair_16 rfl (lv_at hl 0 rfl) ?_
        refine lv_iload_n hx hb dX3_closestPair_17 rfl (lv_at hl 3 rfl) ?_
        refine lv_iload_n hx hb dX3_closestPair_18 rfl (lv_at hl 3 rfl) ?_
        refine j_const hx hb dX3_closestPair_19 ?_
        refine j_add hx hb dX3_closestPair_20 ?_
        refine j_cR (j_runV (As := [.int (jI v3_6), .int (jI (v3_6 + 1))]) (rest := []) hx hb hml hown hts hK hS hW (kX3_alikeBytes l hS σ (a0 := a0) (h0 := h0) (x1 := v3_6) (r1 := (by omega)) (x2 := v3_6 + 1) (r2 := (by omega))) 2 gX3_closestPair_X3_alikeBytes rfl hvX3_alikeBytes ⟨Nat.le_of_ble_eq_true rfl, Nat.le_of_ble_eq_true rfl⟩ rfl rfl h0 rfl rfl rfl rfl hl.1 rfl (Nat.le_of_ble_eq_true rfl) dX3_closestPair_21 ⟨Nat.le_of_ble_eq_true rfl, Nat.le_of_ble_eq_true rfl⟩) (fun v_2 rv_2 pv_2 => ?_)
        try dsimp only at pv_2
        refine lv_istore (lv' := [(4, .int (jI v_2)), (0, .ref a0), (1, .int (jI v1_6)), (2, .int (jI v2_6)), (3, .int (jI v3_6))]) hx hb dX3_closestPair_24 hl (by decide) rfl (fun ls hl => ?_)
        refine lv_iload hx hb dX3_closestPair_26 (lv_at hl 0 rfl) ?_
        refine lv_iload_n hx hb dX3_closestPair_28 rfl (lv_at hl 3 rfl) ?_
        refine j_icmp_le (tgt := 37) hx hb (by omega) (by omega) dX3_closestPair_29 (by decide) (fun c_3 => ?_) (fun c_3 => ?_)
        · refine j_iinc (lv' := [(3, .int (jI (v3_6 + 1))), (4, .int (jI v_2)), (0, .ref a0), (1, .int (jI v1_6)), (2, .int (jI v2_6))]) hx hb dX3_closestPair_37 hl (k := 4) rfl (by decide) rfl (fun ls hl => ?_)
          refine lv_goto (tgt := 6) hx hb dX3_closestPair_40 (by decide) ?_
          exact ih_6 ((2147483647 - (v3_6 + 1) : Int).toNat) (by omega) v1_6 v2_6 (v3_6 + 1) _ rfl (by omega) (by omega) (by omega) (by omega) (by omega) (lv_sub hl [2, 3, 4, 0] rfl)
        · refine lv_iload hx hb dX3_closestPair_32 (lv_at hl 0 rfl) ?_
          refine lv_istore_n (lv' := [(2, .int (jI v_2)), (4, .int (jI v_2)), (0, .ref a0), (1, .int (jI v1_6)), (3, .int (jI v3_6))]) hx hb dX3_closestPair_34 rfl hl (by decide) rfl (fun ls hl => ?_)
          refine lv_iload_n hx hb dX3_closestPair_35 rfl (lv_at hl 4 rfl) ?_
          refine lv_istore_n (lv' := [(1, .int (jI v3_6)), (2, .int (jI v_2)), (4, .int (jI v_2)), (0, .ref a0), (3, .int (jI v3_6))]) hx hb dX3_closestPair_36 rfl hl (by decide) rfl (fun ls hl => ?_)
          refine j_iinc (lv' := [(3, .int (jI (v3_6 + 1))), (1, .int (jI v3_6)), (2, .int (jI v_2)), (4, .int (jI v_2)), (0, .ref a0)]) hx hb dX3_closestPair_37 hl (k := 4) rfl (by decide) rfl (fun ls hl => ?_)
          refine lv_goto (tgt := 6) hx hb dX3_closestPair_40 (by decide) ?_
          exact ih_6 ((2147483647 - (v3_6 + 1) : Int).toNat) (by omega) v3_6 v_2 (v3_6 + 1) _ rfl (by omega) (by omega) (by omega) (by omega) (by omega) (lv_sub hl [4, 1, 2, 0] rfl)
  exact L_6 ((2147483647 - 0 : Int).toNat) 0 (-1) 0 _ rfl (by omega) (by omega) (by decide) (by decide) (by decide) (lv_sub hl [3, 2, 1, 0] rfl)
theorem flX3_inBoth_22 : Cond.fieldLink RX3 22 "PageTrie$Keys" "size" "I" ∈ wsX3_inBoth := List.mem_of_getElem? (i := 1) rfl
theorem inX3_inBoth_X3 : ∀ w ∈ u_ws RX3 TX3 4, w ∈ wsX3_inBoth := mem_r _ [26, 27, 28, 29] rfl
theorem hvX3_inBoth : yX3_inBoth.cls = RX3 ∧ yX3_inBoth.cls ≠ "java/lang/invoke/MethodHandle" ∧ yX3_inBoth.cls ≠ "java/lang/invoke/VarHandle" ∧ (parseMethodDescriptor yX3_inBoth.desc).map (fun d => d.parameters.length) = some 2 := by decide +kernel
set_option maxHeartbeats 4000000 in
set_option maxRecDepth 100000 in
theorem kX3_inBoth (l : Launch) {D : va_G} {cA : Nat → ClassId} {τ : Nat → Nat} {G : Nat → Nat → Nat} {L : List Nat} (hS : SW τ G L) (σ : Nat → Nat → Int) {a0 : Nat} (h0 : τ a0 = 4) {a1 : Nat} (h1 : τ a1 = 4) {x2 : Int} (r2 : rg x2) : Met l yX3_inBoth wsX3_inBoth ({ frames := 2, cells := 0, slots := 0, locals := 50 }) (jP D cA τ G L σ [.ref a0, .ref a1, .int (jI x2)]) (jQR (fun r => True)) 0 0 (fun _ => False) := by
  refine j_metR (by decide +kernel) rfl (Nat.le_of_ble_eq_true rfl) ?_
  intro p e s m args below meth c Q hx hb hml hown hts hK hW hRet ls hl
  have hl : lv_has ls 7 [(0, .ref a0), (1, .ref a1), (2, .int (jI x2))] := hl
  refine j_const hx hb dX3_inBoth_0 ?_
  refine lv_istore_n (lv' := [(3, .int (jI 0)), (0, .ref a0), (1, .ref a1), (2, .int (jI x2))]) hx hb dX3_inBoth_1 rfl hl (by decide) rfl (fun ls hl => ?_)
  refine j_const hx hb dX3_inBoth_2 ?_
  refine lv_istore (lv' := [(4, .int (jI 0)), (3, .int (jI 0)), (0, .ref a0), (1, .ref a1), (2, .int (jI x2))]) hx hb dX3_inBoth_3 hl (by decide) rfl (fun ls hl => ?_)
  refine j_const hx hb dX3_inBoth_5 ?_
  refine lv_istore (lv' := [(5, .int (jI 0)), (4, .int (jI 0)), (3, .int (jI 0)), (0, .ref a0), (1, .ref a1), (2, .int (jI x2))]) hx hb dX3_inBoth_6 hl (by decide) rfl (fun ls hl => ?_)
  have L_8 : ∀ (N : Nat) (v3_8 v4_8 v5_8 : Int) (ls : Array Slot), N = (2147483647 - v5_8 : Int).toNat → (0 ≤ v5_8) → rg v3_8 → rg v4_8 → rg v5_8 → lv_has ls 7 [(0, .ref a0), (1, .ref a1), (2, .int (jI x2)), (3, .int (jI v3_8)), (4, .int (jI v4_8)), (5, .int (jI v5_8))] → W p l e ({ frames := 2, cells := 0, slots := 0, locals := 50 }) s m args below meth c s.heap [] 0 0 Q (F0 m 8 ls []) := by
    intro N
    induction N using Nat.strongRecOn with
    | ind N ih_8 =>
      intro v3_8 v4_8 v5_8 ls hN i0_8 rv3_8 rv4_8 rv5_8 hl
      refine lv_iload hx hb dX3_inBoth_8 (lv_at hl 5 rfl) ?_
      refine lv_aload_n hx hb dX3_inBoth_10 rfl (lv_at hl 0 rfl) ?_
      refine j_getI hx hb (C := RX3) (T := TX3) (N := 4) hts inX3_inBoth_X3 hown hK hS hW h0 rfl 3 rfl rfl (by decide) (hts _ flX3_inBoth_22) dX3_inBoth_11 ?_
      have := fbd hW h0 (k := 3) (lo := 0) (hi := 150) rfl rfl
      refine j_icmp_ge (tgt := 105) hx hb (by omega) (by omega) dX3_inBoth_14 (by decide) (fun c_1 => ?_) (fun c_1 => ?_)
      · refine lv_iload_n hx hb dX3_inBoth_105 rfl (lv_at hl 3 rfl) ?_
        exact hRet 106 _ v3_8 dX3_inBoth_106 (by omega) trivial
      · have L_17 : ∀ (N : Nat) (v4_17 : Int) (ls : Array Slot), N = (2147483647 - v4_17 : Int).toNat → rg v4_17 → lv_has ls 7 [(0, .ref a0), (1, .ref a1), (2, .int (jI x2)), (3, .int (jI v3_8)), (4, .int (jI v4_17)), (5, .int (jI v5_8))] → W p l e ({ frames := 2, cells := 0, slots := 0, locals := 50 }) s m args below meth c s.heap [] 0 0 Q (F0 m 17 ls []) := by
          intro N
          induction N using Nat.strongRecOn with
          | ind N ih_17 =>
            intro v4_17 ls hN rv4_17 hl
            refine lv_iload hx hb dX3_inBoth_17 (lv_at hl 4 rfl) ?_
            refine lv_aload_n hx hb dX3_inBoth_19 rfl (lv_at hl 1 rfl) ?_
            refine j_getI hx hb (C := RX3) (T := TX3) (N := 4) hts inX3_inBoth_X3 hown hK hS hW h1 rfl 3 rfl rfl (by decide) (hts _ flX3_inBoth_22) dX3_inBoth_20 ?_
            have := fbd hW h1 (k := 3) (lo := 0) (hi := 150) rfl rfl
            refine j_icmp_ge (tgt := 44) hx hb (by omega) (by omega) dX3_inBoth_23 (by decide) (fun c_2 => ?_) (fun c_2 => ?_)
            · refine lv_iload hx hb dX3_inBoth_44 (lv_at hl 4 rfl) ?_
              refine lv_aload_n hx hb dX3_inBoth_46 rfl (lv_at hl 1 rfl) ?_
              refine j_getI hx hb (C := RX3) (T := TX3) (N := 4) hts inX3_inBoth_X3 hown hK hS hW h1 rfl 3 rfl rfl (by decide) (hts _ flX3_inBoth_22) dX3_inBoth_47 ?_
              refine j_icmp_ge (tgt := 69) hx hb (by omega) (by omega) dX3_inBoth_50 (by decide) (fun c_3 => ?_) (fun c_3 => ?_)
              · refine j_const hx hb dX3_inBoth_69 ?_
                refine lv_istore (lv' := [(6, .int (jI 0)), (0, .ref a0), (1, .ref a1), (2, .int (jI x2)), (3, .int (jI v3_8)), (4, .int (jI v4_17)), (5, .int (jI v5_8))]) hx hb dX3_inBoth_70 hl (by decide) rfl (fun ls hl => ?_)
                refine lv_iload hx hb dX3_inBoth_72 (lv_at hl 0 rfl) ?_
                refine j_if_eq (tgt := 99) hx hb (by decide) dX3_inBoth_74 (by decide) (fun _ => ?_) (fun h => absurd h (by decide))
                refine j_iinc (lv' := [(5, .int (jI (v5_8 + 1))), (6, .int (jI 0)), (0, .ref a0), (1, .ref a1), (2, .int (jI x2)), (3, .int (jI v3_8)), (4, .int (jI v4_17))]) hx hb dX3_inBoth_99 hl (k := 6) rfl (by decide) rfl (fun ls hl => ?_)
                refine lv_goto (tgt := 8) hx hb dX3_inBoth_102 (by decide) ?_
                exact ih_8 ((2147483647 - (v5_8 + 1) : Int).toNat) (by omega) v3_8 v4_17 (v5_8 + 1) _ rfl (by omega) (by omega) (by omega) (by omega) (lv_sub hl [2, 3, 4, 5, 6, 0] rfl)
              · refine lv_aload_n hx hb dX3_inBoth_53 rfl (lv_at hl 1 rfl) ?_
                refine lv_iload hx hb dX3_inBoth_54 (lv_at hl 4 rfl) ?_
                refine lv_aload_n hx hb dX3_inBoth_56 rfl (lv_at hl 0 rfl) ?_
                refine lv_iload hx hb dX3_inBoth_57 (lv_at hl 5 rfl) ?_
                refine j_cR (j_runV (As := [.int (jI v4_17), .ref a0, .int (jI v5_8)]) (rest := []) hx hb hml hown hts hK hS hW (kX3_compareTo l hS σ (a0 := a1) (h0 := h1) (x1 := v4_17) (r1 := (by omega)) (a2 := a0) (h2 := h0) (x3 := v5_8) (r3 := (by omega))) 3 gX3_inBoth_X3_compareTo rfl hvX3_compareTo ⟨Nat.le_of_ble_eq_true rfl, Nat.le_of_ble_eq_true rfl⟩ rfl rfl h1 rfl rfl rfl rfl hl.1 rfl (Nat.le_of_ble_eq_true rfl) dX3_inBoth_59 ⟨Nat.le_of_ble_eq_true rfl, Nat.le_of_ble_eq_true rfl⟩) (fun v_5 rv_5 pv_5 => ?_)
                try dsimp only at pv_5
                refine j_if_ne (tgt := 69) hx hb (by omega) dX3_inBoth_62 (by decide) (fun c_6 => ?_) (fun c_6 => ?_)
                · refine j_const hx hb dX3_inBoth_69 ?_
                  refine lv_istore (lv' := [(6, .int (jI 0)), (0, .ref a0), (1, .ref a1), (2, .int (jI x2)), (3, .int (jI v3_8)), (4, .int (jI v4_17)), (5, .int (jI v5_8))]) hx hb dX3_inBoth_70 hl (by decide) rfl (fun ls hl => ?_)
                  refine lv_iload hx hb dX3_inBoth_72 (lv_at hl 0 rfl) ?_
                  refine j_if_eq (tgt := 99) hx hb (by decide) dX3_inBoth_74 (by decide) (fun _ => ?_) (fun h => absurd h (by decide))
                  refine j_iinc (lv' := [(5, .int (jI (v5_8 + 1))), (6, .int (jI 0)), (0, .ref a0), (1, .ref a1), (2, .int (jI x2)), (3, .int (jI v3_8)), (4, .int (jI v4_17))]) hx hb dX3_inBoth_99 hl (k := 6) rfl (by decide) rfl (fun ls hl => ?_)
                  refine lv_goto (tgt := 8) hx hb dX3_inBoth_102 (by decide) ?_
                  exact ih_8 ((2147483647 - (v5_8 + 1) : Int).toNat) (by omega) v3_8 v4_17 (v5_8 + 1) _ rfl (by omega) (by omega) (by omega) (by omega) (lv_sub hl [2, 3, 4, 5, 6, 0] rfl)
                · refine j_const hx hb dX3_inBoth_65 ?_
                  refine lv_goto (tgt := 70) hx hb dX3_inBoth_66 (by decide) ?_
                  refine lv_istore (lv' := [(6, .int (jI 1)), (0, .ref a0), (1, .ref a1), (2, .int (jI x2)), (3, .int (jI v3_8)), (4, .int (jI v4_17)), (5, .int (jI v5_8))]) hx hb dX3_inBoth_70 hl (by decide) rfl (fun ls hl => ?_)
                  refine lv_iload hx hb dX3_inBoth_72 (lv_at hl 0 rfl) ?_
                  refine j_if_eq (tgt := 99) hx hb (by decide) dX3_inBoth_74 (by decide) (fun h => absurd h (by decide)) (fun _ => ?_)
                  refine lv_iload_n hx hb dX3_inBoth_77 rfl (lv_at hl 3 rfl) ?_
                  refine j_if_eq (tgt := 96) hx hb (by omega) dX3_inBoth_78 (by decide) (fun c_9 => ?_) (fun c_9 => ?_)
                  · refine j_iincW hx hb dX3_inBoth_96 hl (k := 4) rfl (by decide) (fun z_10 ls rz_10 ez_10 hl => ?_)
                    have hl : lv_has ls 7 [(3, .int (jI z_10)), (6, .int (jI 1)), (0, .ref a0), (1, .ref a1), (2, .int (jI x2)), (4, .int (jI v4_17)), (5, .int (jI v5_8))] := hl
                    refine j_iinc (lv' := [(5, .int (jI (v5_8 + 1))), (3, .int (jI z_10)), (6, .int (jI 1)), (0, .ref a0), (1, .ref a1), (2, .int (jI x2)), (4, .int (jI v4_17))]) hx hb dX3_inBoth_99 hl (k := 6) rfl (by decide) rfl (fun ls hl => ?_)
                    refine lv_goto (tgt := 8) hx hb dX3_inBoth_102 (by decide) ?_
                    exact ih_8 ((2147483647 - (v5_8 + 1) : Int).toNat) (by omega) z_10 v4_17 (v5_8 + 1) _ rfl (by omega) (by omega) (by omega) (by omega) (lv_sub hl [3, 4, 5, 1, 6, 0] rfl)
                  · refine lv_aload_n hx hb dX3_inBoth_81 rfl (lv_at hl 2 rfl) ?_
                    refine lv_iload hx hb dX3_inBoth_82 (lv_at hl 5 rfl) ?_
                    refine j_cR (j_runV (As := [.int (jI v4_17)]) (rest := []) hx hb hml hown hts hK hS hW (kX3_valueOf l hS σ (a0 := a1) (h0 := h1) (x1 := v4_17) (r1 := (by omega))) 1 gX3_inBoth_X3_valueOf rfl hvX3_valueOf ⟨Nat.le_of_ble_eq_true rfl, Nat.le_of_ble_eq_true rfl⟩ rfl rfl h1 rfl rfl rfl rfl hl.1 rfl (Nat.le_of_ble_eq_true rfl) dX3_inBoth_84 ⟨Nat.le_of_ble_eq_true rfl, Nat.le_of_ble_eq_true rfl⟩) (fun v_11 rv_11 pv_11 => ?_)
                    try dsimp only at pv_11
                    refine lv_aload_n hx hb dX3_inBoth_87 rfl (lv_at hl 1 rfl) ?_
                    refine lv_iload hx hb dX3_inBoth_88 (lv_at hl 6 rfl) ?_
                    refine j_cR (j_runV (As := [.int (jI v5_8)]) (rest := [.int (jI v_11)]) hx hb hml hown hts hK hS hW (kX3_valueOf l hS σ (a0 := a0) (h0 := h0) (x1 := v5_8) (r1 := (by omega))) 1 gX3_inBoth_X3_valueOf rfl hvX3_valueOf ⟨Nat.le_of_ble_eq_true rfl, Nat.le_of_ble_eq_true rfl⟩ rfl rfl h0 rfl rfl rfl rfl hl.1 rfl (Nat.le_of_ble_eq_true rfl) dX3_inBoth_90 ⟨Nat.le_of_ble_eq_true rfl, Nat.le_of_ble_eq_true rfl⟩) (fun v_12 rv_12 pv_12 => ?_)
                    try dsimp only at pv_12
                    refine j_icmp_eq (tgt := 99) hx hb (by omega) (by omega) dX3_inBoth_93 (by decide) (fun c_13 => ?_) (fun c_13 => ?_)
                    · refine j_iinc (lv' := [(5, .int (jI (v5_8 + 1))), (6, .int (jI 1)), (0, .ref a0), (1, .ref a1), (2, .int (jI x2)), (3, .int (jI v3_8)), (4, .int (jI v4_17))]) hx hb dX3_inBoth_99 hl (k := 6) rfl (by decide) rfl (fun ls hl => ?_)
                      refine lv_goto (tgt := 8) hx hb dX3_inBoth_102 (by decide) ?_
                      exact ih_8 ((2147483647 - (v5_8 + 1) : Int).toNat) (by omega) v3_8 v4_17 (v5_8 + 1) _ rfl (by omega) (by omega) (by omega) (by omega) (lv_sub hl [2, 3, 4, 5, 6, 0] rfl)
                    · refine j_iincW hx hb dX3_inBoth_96 hl (k := 4) rfl (by decide) (fun z_14 ls rz_14 ez_14 hl => ?_)
                      have hl : lv_has ls 7 [(3, .int (jI z_14)), (6, .int (jI 1)), (0, .ref a0), (1, .ref a1), (2, .int (jI x2)), (4, .int (jI v4_17)), (5, .int (jI v5_8))] := hl
                      refine j_iinc (lv' := [(5, .int (jI (v5_8 + 1))), (3, .int (jI z_14)), (6, .int (jI 1)), (0, .ref a0), (1, .ref a1), (2, .int (jI x2)), (4, .int (jI v4_17))]) hx hb dX3_inBoth_99 hl (k := 6) rfl (by decide) rfl (fun ls hl => ?_)
                      refine lv_goto (tgt := 8) hx hb dX3_inBoth_102 (by decide) ?_
                      exact ih_8 ((2147483647 - (v5_8 + 1) : Int).toNat) (by omega) z_14 v4_17 (v5_8 + 1) _ rfl (by omega) (by omega) (by omega) (by omega) (lv_sub hl [3, 4, 5, 1, 6, 0] rfl)
            · refine lv_aload_n hx hb dX3_inBoth_26 rfl (lv_at hl 1 rfl) ?_
              refine lv_iload hx hb dX3_inBoth_27 (lv_at hl 4 rfl) ?_
              refine lv_aload_n hx hb dX3_inBoth_29 rfl (lv_at hl 0 rfl) ?_
              refine lv_iload hx hb dX3_inBoth_30 (lv_at hl 5 rfl) ?_
              refine j_cR (j_runV (As := [.int (jI v4_17), .ref a0, .int (jI v5_8)]) (rest := []) hx hb hml hown hts hK hS hW (kX3_compareTo l hS σ (a0 := a1) (h0 := h1) (x1 := v4_17) (r1 := (by omega)) (a2 := a0) (h2 := h0) (x3 := v5_8) (r3 := (by omega))) 3 gX3_inBoth_X3_compareTo rfl hvX3_compareTo ⟨Nat.le_of_ble_eq_true rfl, Nat.le_of_ble_eq_true rfl⟩ rfl rfl h1 rfl rfl rfl rfl hl.1 rfl (Nat.le_of_ble_eq_true rfl) dX3_inBoth_32 ⟨Nat.le_of_ble_eq_true rfl, Nat.le_of_ble_eq_true rfl⟩) (fun v_15 rv_15 pv_15 => ?_)
              try dsimp only at pv_15
              refine j_if_ge (tgt := 44) hx hb (by omega) dX3_inBoth_35 (by decide) (fun c_16 => ?_) (fun c_16 => ?_)
              · refine lv_iload hx hb dX3_inBoth_44 (lv_at hl 4 rfl) ?_
                refine lv_aload_n hx hb dX3_inBoth_46 rfl (lv_at hl 1 rfl) ?_
                refine j_getI hx hb (C := RX3) (T := TX3) (N := 4) hts inX3_inBoth_X3 hown hK hS hW h1 rfl 3 rfl rfl (by decide) (hts _ flX3_inBoth_22) dX3_inBoth_47 ?_
                refine j_icmp_ge (tgt := 69) hx hb (by omega) (by omega) dX3_inBoth_50 (by decide) (fun c_17 => ?_) (fun c_17 => ?_)
                · refine j_const hx hb dX3_inBoth_69 ?_
                  refine lv_istore (lv' := [(6, .int (jI 0)), (0, .ref a0), (1, .ref a1), (2, .int (jI x2)), (3, .int (jI v3_8)), (4, .int (jI v4_17)), (5, .int (jI v5_8))]) hx hb dX3_inBoth_70 hl (by decide) rfl (fun ls hl => ?_)
                  refine lv_iload hx hb dX3_inBoth_72 (lv_at hl 0 rfl) ?_
                  refine j_if_eq (tgt := 99) hx hb (by decide) dX3_inBoth_74 (by decide) (fun _ => ?_) (fun h => absurd h (by decide))
                  refine j_iinc (lv' := [(5, .int (jI (v5_8 + 1))), (6, .int (jI 0)), (0, .ref a0), (1, .ref a1), (2, .int (jI x2)), (3, .int (jI v3_8)), (4, .int (jI v4_17))]) hx hb dX3_inBoth_99 hl (k := 6) rfl (by decide) rfl (fun ls hl => ?_)
                  refine lv_goto (tgt := 8) hx hb dX3_inBoth_102 (by decide) ?_
                  exact ih_8 ((2147483647 - (v5_8 + 1) : Int).toNat) (by omega) v3_8 v4_17 (v5_8 + 1) _ rfl (by omega) (by omega) (by omega) (by omega) (lv_sub hl [2, 3, 4, 5, 6, 0] rfl)
                · refine lv_aload_n hx hb dX3_inBoth_53 rfl (lv_at hl 1 rfl) ?_
                  refine lv_iload hx hb dX3_inBoth_54 (lv_at hl 4 rfl) ?_
                  refine lv_aload_n hx hb dX3_inBoth_56 rfl (lv_at hl 0 rfl) ?_
                  refine lv_iload hx hb dX3_inBoth_57 (lv_at hl 5 rfl) ?_
                  refine j_cR (j_runV (As := [.int (jI v4_17), .ref a0, .int (jI v5_8)]) (rest := []) hx hb hml hown hts hK hS hW (kX3_compareTo l hS σ (a0 := a1) (h0 := h1) (x1 := v4_17) (r1 := (by omega)) (a2 := a0) (h2 := h0) (x3 := v5_8) (r3 := (by omega))) 3 gX3_inBoth_X3_compareTo rfl hvX3_compareTo ⟨Nat.le_of_ble_eq_true rfl, Nat.le_of_ble_eq_true rfl⟩ rfl rfl h1 rfl rfl rfl rfl hl.1 rfl (Nat.le_of_ble_eq_true rfl) dX3_inBoth_59 ⟨Nat.le_of_ble_eq_true rfl, Nat.le_of_ble_eq_true rfl⟩) (fun v_19 rv_19 pv_19 => ?_)
                  try dsimp only at pv_19
                  refine j_if_ne (tgt := 69) hx hb (by omega) dX3_inBoth_62 (by decide) (fun c_20 => ?_) (fun c_20 => ?_)
                  · refine j_const hx hb dX3_inBoth_69 ?_
                    refine lv_istore (lv' := [(6, .int (jI 0)), (0, .ref a0), (1, .ref a1), (2, .int (jI x2)), (3, .int (jI v3_8)), (4, .int (jI v4_17)), (5, .int (jI v5_8))]) hx hb dX3_inBoth_70 hl (by decide) rfl (fun ls hl => ?_)
                    refine lv_iload hx hb dX3_inBoth_72 (lv_at hl 0 rfl) ?_
                    refine j_if_eq (tgt := 99) hx hb (by decide) dX3_inBoth_74 (by decide) (fun _ => ?_) (fun h => absurd h (by decide))
                    refine j_iinc (lv' := [(5, .int (jI (v5_8 + 1))), (6, .int (jI 0)), (0, .ref a0), (1, .ref a1), (2, .int (jI x2)), (3, .int (jI v3_8)), (4, .int (jI v4_17))]) hx hb dX3_inBoth_99 hl (k := 6) rfl (by decide) rfl (fun ls hl => ?_)
                    refine lv_goto (tgt := 8) hx hb dX3_inBoth_102 (by decide) ?_
                    exact ih_8 ((2147483647 - (v5_8 + 1) : Int).toNat) (by omega) v3_8 v4_17 (v5_8 + 1) _ rfl (by omega) (by omega) (by omega) (by omega) (lv_sub hl [2, 3, 4, 5, 6, 0] rfl)
                  · refine j_const hx hb dX3_inBoth_65 ?_
                    refine lv_goto (tgt := 70) hx hb dX3_inBoth_66 (by decide) ?_
                    refine lv_istore (lv' := [(6, .int (jI 1)), (0, .ref a0), (1, .ref a1), (2, .int (jI x2)), (3, .int (jI v3_8)), (4, .int (jI v4_17)), (5, .int (jI v5_8))]) hx hb dX3_inBoth_70 hl (by decide) rfl (fun ls hl => ?_)
                    refine lv_iload hx hb dX3_inBoth_72 (lv_at hl 0 rfl) ?_
                    refine j_if_eq (tgt := 99) hx hb (by decide) dX3_inBoth_74 (by decide) (fun h => absurd h (by decide)) (fun _ => ?_)
                    refine lv_iload_n hx hb dX3_inBoth_77 rfl (lv_at hl 3 rfl) ?_
                    refine j_if_eq (tgt := 96) hx hb (by omega) dX3_inBoth_78 (by decide) (fun c_23 => ?_) (fun c_23 => ?_)
                    · refine j_iincW hx hb dX3_inBoth_96 hl (k := 4) rfl (by decide) (fun z_24 ls rz_24 ez_24 hl => ?_)
                      have hl : lv_has ls 7 [(3, .int (jI z_24)), (6, .int (jI 1)), (0, .ref a0), (1, .ref a1), (2, .int (jI x2)), (4, .int (jI v4_17)), (5, .int (jI v5_8))] := hl
                      refine j_iinc (lv' := [(5, .int (jI (v5_8 + 1))), (3, .int (jI z_24)), (6, .int (jI 1)), (0, .ref a0), (1, .ref a1), (2, .int (jI x2)), (4, .int (jI v4_17))]) hx hb dX3_inBoth_99 hl (k := 6) rfl (by decide) rfl (fun ls hl => ?_)
                      refine lv_goto (tgt := 8) hx hb dX3_inBoth_102 (by decide) ?_
                      exact ih_8 ((2147483647 - (v5_8 + 1) : Int).toNat) (by omega) z_24 v4_17 (v5_8 + 1) _ rfl (by omega) (by omega) (by omega) (by omega) (lv_sub hl [3, 4, 5, 1, 6, 0] rfl)
                    · refine lv_aload_n hx hb dX3_inBoth_81 rfl (lv_at hl 2 rfl) ?_
                      refine lv_iload hx hb dX3_inBoth_82 (lv_at hl 5 rfl) ?_
                      refine j_cR (j_runV (As := [.int (jI v4_17)]) (rest := []) hx hb hml hown hts hK hS hW (kX3_valueOf l hS σ (a0 := a1) (h0 := h1) (x1 := v4_17) (r1 := (by omega))) 1 gX3_inBoth_X3_valueOf rfl hvX3_valueOf ⟨Nat.le_of_ble_eq_true rfl, Nat.le_of_ble_eq_true rfl⟩ rfl rfl h1 rfl rfl rfl rfl hl.1 rfl (Nat.le_of_ble_eq_true rfl) dX3_inBoth_84 ⟨Nat.le_of_ble_eq_true rfl, Nat.le_of_ble_eq_true rfl⟩) (fun v_25 rv_25 pv_25 => ?_)
                      try dsimp only at pv_25
                      refine lv_aload_n hx hb dX3_inBoth_87 rfl (lv_at hl 1 rfl) ?_
                      refine lv_iload hx hb dX3_inBoth_88 (lv_at hl 6 rfl) ?_
                      refine j_cR (j_runV (As := [.int (jI v5_8)]) (rest := [.int (jI v_25)]) hx hb hml hown hts hK hS hW (kX3_valueOf l hS σ (a0 := a0) (h0 := h0) (x1 := v5_8) (r1 := (by omega))) 1 gX3_inBoth_X3_valueOf rfl hvX3_valueOf ⟨Nat.le_of_ble_eq_true rfl, Nat.le_of_ble_eq_true rfl⟩ rfl rfl h0 rfl rfl rfl rfl hl.1 rfl (Nat.le_of_ble_eq_true rfl) dX3_inBoth_90 ⟨Nat.le_of_ble_eq_true rfl, Nat.le_of_ble_eq_true rfl⟩) (fun v_26 rv_26 pv_26 => ?_)
                      try dsimp only at pv_26
                      refine j_icmp_eq (tgt := 99) hx hb (by omega) (by omega) dX3_inBoth_93 (by decide) (fun c_27 => ?_) (fun c_27 => ?_)
                      · refine j_iinc (lv' := [(5, .int (jI (v5_8 + 1))), (6, .int (jI 1)), (0, .ref a0), (1, .ref a1), (2, .int (jI x2)), (3, .int (jI v3_8)), (4, .int (jI v4_17))]) hx hb dX3_inBoth_99 hl (k := 6) rfl (by decide) rfl (fun ls hl => ?_)
                        refine lv_goto (tgt := 8) hx hb dX3_inBoth_102 (by decide) ?_
                        exact ih_8 ((2147483647 - (v5_8 + 1) : Int).toNat) (by omega) v3_8 v4_17 (v5_8 + 1) _ rfl (by omega) (by omega) (by omega) (by omega) (lv_sub hl [2, 3, 4, 5, 6, 0] rfl)
                      · refine j_iincW hx hb dX3_inBoth_96 hl (k := 4) rfl (by decide) (fun z_28 ls rz_28 ez_28 hl => ?_)
                        have hl : lv_has ls 7 [(3, .int (jI z_28)), (6, .int (jI 1)), (0, .ref a0), (1, .ref a1), (2, .int (jI x2)), (4, .int (jI v4_17)), (5, .int (jI v5_8))] := hl
                        refine j_iinc (lv' := [(5, .int (jI (v5_8 + 1))), (3, .int (jI z_28)), (6, .int (jI 1)), (0, .ref a0), (1, .ref a1), (2, .int (jI x2)), (4, .int (jI v4_17))]) hx hb dX3_inBoth_99 hl (k := 6) rfl (by decide) rfl (fun ls hl => ?_)
                        refine lv_goto (tgt := 8) hx hb dX3_inBoth_102 (by decide) ?_
                        exact ih_8 ((2147483647 - (v5_8 + 1) : Int).toNat) (by omega) z_28 v4_17 (v5_8 + 1) _ rfl (by omega) (by omega) (by omega) (by omega) (lv_sub hl [3, 4, 5, 1, 6, 0] rfl)
              · refine j_iinc (lv' := [(4, .int (jI (v4_17 + 1))), (0, .ref a0), (1, .ref a1), (2, .int (jI x2)), (3, .int (jI v3_8)), (5, .int (jI v5_8))]) hx hb dX3_inBoth_38 hl (k := 4) rfl (by decide) rfl (fun ls hl => ?_)
                refine lv_goto (tgt := 17) hx hb dX3_inBoth_41 (by decide) ?_
                exact ih_17 ((2147483647 - (v4_17 + 1) : Int).toNat) (by omega) (v4_17 + 1) _ rfl (by omega) (lv_sub hl [1, 2, 3, 4, 0, 5] rfl)
        exact L_17 ((2147483647 - v4_8 : Int).toNat) v4_8 _ rfl (by omega) (lv_sub hl [0, 1, 2, 3, 4, 5] rfl)
  exact L_8 ((2147483647 - 0 : Int).toNat) 0 0 0 _ rfl (by omega) (by decide) (by decide) (by decide) (lv_sub hl [3, 4, 5, 2, 1, 0] rfl)
theorem flX3_missingIn_22 : Cond.fieldLink RX3 22 "PageTrie$Keys" "size" "I" ∈ wsX3_missingIn := List.mem_of_getElem? (i := 1) rfl
theorem inX3_missingIn_X3 : ∀ w ∈ u_ws RX3 TX3 4, w ∈ wsX3_missingIn := mem_r _ [30, 31, 32, 33] rfl
theorem hvX3_missingIn : yX3_missingIn.cls = RX3 ∧ yX3_missingIn.cls ≠ "java/lang/invoke/MethodHandle" ∧ yX3_missingIn.cls ≠ "java/lang/invoke/VarHandle" ∧ (parseMethodDescriptor yX3_missingIn.desc).map (fun d => d.parameters.length) = some 1 := by decide +kernel
set_option maxHeartbeats 4000000 in
set_option maxRecDepth 100000 in
theorem kX3_missingIn (l : Launch) {D : va_G} {cA : Nat → ClassId} {τ : Nat → Nat} {G : Nat → Nat → Nat} {L : List Nat} (hS : SW τ G L) (σ : Nat → Nat → Int) {a0 : Nat} (h0 : τ a0 = 4) {a1 : Nat} (h1 : τ a1 = 4) : Met l yX3_missingIn wsX3_missingIn ({ frames := 3, cells := 0, slots := 0, locals := 76 }) (jP D cA τ G L σ [.ref a0, .ref a1]) (jQR (fun r => True)) 0 0 (fun _ => False) := by
  refine j_metR (by decide +kernel) rfl (Nat.le_of_ble_eq_true rfl) ?_
  intro p e s m args below meth c Q hx hb hml hown hts hK hW hRet ls hl
  have hl : lv_has ls 2 [(0, .ref a0), (1, .ref a1)] := hl
  refine lv_aload_n hx hb dX3_missingIn_0 rfl (lv_at hl 0 rfl) ?_
  refine j_getI hx hb (C := RX3) (T := TX3) (N := 4) hts inX3_missingIn_X3 hown hK hS hW h0 rfl 3 rfl rfl (by decide) (hts _ flX3_missingIn_22) dX3_missingIn_1 ?_
  have := fbd hW h0 (k := 3) (lo := 0) (hi := 150) rfl rfl
  refine lv_aload_n hx hb dX3_missingIn_4 rfl (lv_at hl 0 rfl) ?_
  refine lv_aload_n hx hb dX3_missingIn_5 rfl (lv_at hl 1 rfl) ?_
  refine j_const hx hb dX3_missingIn_6 ?_
  refine j_cR (j_runV (As := [.ref a1, .int (jI 0)]) (rest := [.int (jI (σ a0 3))]) hx hb hml hown hts hK hS hW (kX3_inBoth l hS σ (a0 := a0) (h0 := h0) (a1 := a1) (h1 := h1) (x2 := 0) (r2 := (by decide))) 2 gX3_missingIn_X3_inBoth rfl hvX3_inBoth ⟨Nat.le_of_ble_eq_true rfl, Nat.le_of_ble_eq_true rfl⟩ rfl rfl h0 rfl rfl rfl rfl hl.1 rfl (Nat.le_of_ble_eq_true rfl) dX3_missingIn_7 ⟨Nat.le_of_ble_eq_true rfl, Nat.le_of_ble_eq_true rfl⟩) (fun v_1 rv_1 pv_1 => ?_)
  try dsimp only at pv_1
  refine j_sub hx hb dX3_missingIn_10 ?_
  refine j_wrap (fun z_2 rz_2 ez_2 => ?_)
  exact hRet 11 _ z_2 dX3_missingIn_11 (by omega) trivial
theorem hvX3_otherValuesIn : yX3_otherValuesIn.cls = RX3 ∧ yX3_otherValuesIn.cls ≠ "java/lang/invoke/MethodHandle" ∧ yX3_otherValuesIn.cls ≠ "java/lang/invoke/VarHandle" ∧ (parseMethodDescriptor yX3_otherValuesIn.desc).map (fun d => d.parameters.length) = some 1 := by decide +kernel
set_option maxHeartbeats 4000000 in
set_option maxRecDepth 100000 in
theorem kX3_otherValuesIn (l : Launch) {D : va_G} {cA : Nat → ClassId} {τ : Nat → Nat} {G : Nat → Nat → Nat} {L : List Nat} (hS : SW τ G L) (σ : Nat → Nat → Int) {a0 : Nat} (h0 : τ a0 = 4) {a1 : Nat} (h1 : τ a1 = 4) : Met l yX3_otherValuesIn wsX3_otherValuesIn ({ frames := 3, cells := 0, slots := 0, locals := 76 }) (jP D cA τ G L σ [.ref a0, .ref a1]) (jQR (fun r => True)) 0 0 (fun _ => False) := by
  refine j_metR (by decide +kernel) rfl (Nat.le_of_ble_eq_true rfl) ?_
  intro p e s m args below meth c Q hx hb hml hown hts hK hW hRet ls hl
  have hl : lv_has ls 2 [(0, .ref a0), (1, .ref a1)] := hl
  refine lv_aload_n hx hb dX3_otherValuesIn_0 rfl (lv_at hl 0 rfl) ?_
  refine lv_aload_n hx hb dX3_otherValuesIn_1 rfl (lv_at hl 1 rfl) ?_
  refine j_const hx hb dX3_otherValuesIn_2 ?_
  refine j_cR (j_runV (As := [.ref a1, .int (jI 1)]) (rest := []) hx hb hml hown hts hK hS hW (kX3_inBoth l hS σ (a0 := a0) (h0 := h0) (a1 := a1) (h1 := h1) (x2 := 1) (r2 := (by decide))) 2 gX3_otherValuesIn_X3_inBoth rfl hvX3_inBoth ⟨Nat.le_of_ble_eq_true rfl, Nat.le_of_ble_eq_true rfl⟩ rfl rfl h0 rfl rfl rfl rfl hl.1 rfl (Nat.le_of_ble_eq_true rfl) dX3_otherValuesIn_3 ⟨Nat.le_of_ble_eq_true rfl, Nat.le_of_ble_eq_true rfl⟩) (fun v_1 rv_1 pv_1 => ?_)
  try dsimp only at pv_1
  exact hRet 6 _ v_1 dX3_otherValuesIn_6 (by omega) trivial
