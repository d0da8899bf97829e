abbrev wr_X12_readsKey : List Nat := [13012, 13014, 13023, 13024]
theorem flX12_readsKey_180 : Cond.fieldLink RX12 180 "PageTrieModel" "place0" "I" ∈ wsX12_readsKey := List.mem_of_getElem? (i := 1) rfl
theorem flX12_readsKey_198 : Cond.fieldLink RX12 198 "PageTrieModel" "keyAt" "I" ∈ wsX12_readsKey := List.mem_of_getElem? (i := 2) rfl
theorem flX12_readsKey_201 : Cond.fieldLink RX12 201 "PageTrieModel" "keyLong" "I" ∈ wsX12_readsKey := List.mem_of_getElem? (i := 3) rfl
theorem inX12_readsKey_X12 : ∀ w ∈ u_ws RX12 TX12 41, w ∈ wsX12_readsKey := mem_r _ [22, 23, 24, 25, 26, 27, 28, 29, 30, 31, 32, 33, 34, 35, 36, 37, 38, 39, 40, 41, 42, 43, 44, 45, 46, 47, 48, 49, 50, 51, 52, 53, 54, 55, 56, 57, 58, 59, 60, 61, 62] rfl
theorem hvX12_readsKey : yX12_readsKey.cls = RX12 ∧ yX12_readsKey.cls ≠ "java/lang/invoke/MethodHandle" ∧ yX12_readsKey.cls ≠ "java/lang/invoke/VarHandle" ∧ (parseMethodDescriptor yX12_readsKey.desc).map (fun d => d.parameters.length) = some 0 := by decide +kernel
set_option maxHeartbeats 4000000 in
set_option maxRecDepth 100000 in
theorem kX12_readsKey (l : Launch) {D : va_G} {cA : Nat → ClassId} {τ : Nat → Nat} {G : Nat → Nat → Nat} {L : List Nat} (hS : SW τ G L) (σ : Nat → Nat → Int) {a0 : Nat} (h0 : τ a0 = 13) : Met l yX12_readsKey wsX12_readsKey ({ frames := 2, cells := 0, slots := 0, locals := 42 }) (jP D cA τ G L σ [.ref a0]) (jQI D cA τ G L (fun r σ' => (0 ≤ r ∧ r ≤ 1) ∧ (((r = 1 → 1 ≤ σ' a0 24) ∧ (σ a0 12 ≤ σ' a0 12)) ∧ fr wr_X12_readsKey τ σ σ'))) 0 0 (fun q => q ∈ L) := by
  refine j_metZ (by decide +kernel) rfl (Nat.le_of_ble_eq_true rfl) ?_
  intro p e s m args below meth c Q hx hb hml hown hts hK hW hRet ls hl
  have hl : lv_has ls 1 [(0, .ref a0)] := hl
  have hA : ∀ q ∈ L, (fun q => q ∈ L) q := fun _ h => h
  have hF : va_S (fun q => q ∈ L) s.heap s.heap [] := va_S.rf
  have hR : fr wr_X12_readsKey τ σ σ := fr_rf
  have hk_tape : τ (G a0 10) = 44 := gty hS h0 (k := 10) rfl rfl
  have hk_il : τ (G a0 19) = 48 := gty hS h0 (k := 19) rfl rfl
  have := fbd hW h0 (k := 12) (lo := 0) (hi := 200) rfl rfl
  have := fbd hW h0 (k := 13) (lo := 0) (hi := 200) rfl rfl
  refine lv_aload_n hx hb dX12_readsKey_0 rfl (lv_at hl 0 rfl) ?_
  refine lv_aload_n hx hb dX12_readsKey_1 rfl (lv_at hl 0 rfl) ?_
  refine j_getI hx hb (C := RX12) (T := TX12) (N := 41) hts inX12_readsKey_X12 hown hK hS hW h0 rfl 12 rfl rfl (by decide) (hts _ flX12_readsKey_180) dX12_readsKey_2 ?_
  have := fbd hW h0 (k := 12) (lo := 0) (hi := 200) rfl rfl
  refine j_putI hx hb (C := RX12) (T := TX12) (N := 41) hts inX12_readsKey_X12 tyX12 tyX12_ok nmX12 hown hK hS hA hW hF h0 rfl 23 (lo := 0) (hi := 200) rfl rfl (by decide) (hts _ flX12_readsKey_198) rfl .int rfl (by omega) rfl rfl dX12_readsKey_5 (fun σ_1 H locs e_2 hW hF => ?_)
  have hR := fr_up hR e_2 h0 13023 rfl (by decide)
  have Eplace0 : σ_1 a0 12 = σ a0 12 := fld_up e_2 h0 h0 (fun q => absurd q.2 (by decide))
  have Elength0 : σ_1 a0 13 = σ a0 13 := fld_up e_2 h0 h0 (fun q => absurd q.2 (by decide))
  have Etape : σ_1 (G a0 10) = σ (G a0 10) := row_up e_2 h0 hk_tape (by decide)
  have Eitems : σ_1 a0 22 = σ a0 22 := fld_up e_2 h0 h0 (fun q => absurd q.2 (by decide))
  have Eil : σ_1 (G a0 19) = σ (G a0 19) := row_up e_2 h0 hk_il (by decide)
  have hfk : σ_1 a0 23 = σ a0 12 := by rw [e_2]; exact up2_at _ _ _ _
  have hka := hfk
  refine lv_aload_n hx hb dX12_readsKey_8 rfl (lv_at hl 0 rfl) ?_
  refine j_cR (j_runV (As := []) (rest := []) hx hb hml hown hts hK hS hW (kX12_here l hS σ_1 (a0 := a0) (h0 := h0)) 0 gX12_readsKey_X12_here rfl hvX12_here ⟨Nat.le_of_ble_eq_true rfl, Nat.le_of_ble_eq_true rfl⟩ rfl rfl h0 rfl rfl rfl rfl hl.1 rfl (Nat.le_of_ble_eq_true rfl) dX12_readsKey_9 ⟨Nat.le_of_ble_eq_true rfl, Nat.le_of_ble_eq_true rfl⟩) (fun v_3 rv_3 pv_3 => ?_)
  try dsimp only at pv_3
  try simp only [Eplace0, Elength0, Etape, Eitems, Eil] at pv_3
  have q_here := pv_3
  refine j_cR (j_runS (As := [.int (jI v_3)]) (rest := []) hx hb hml hown hts hK hW (kX12_isByte l hS σ_1 (x0 := v_3) (r0 := (by omega))) 1 gX12_readsKey_X12_isByte rfl hsX12_isByte ⟨Nat.le_of_ble_eq_true rfl, Nat.le_of_ble_eq_true rfl⟩ rfl rfl rfl hl.1 rfl (Nat.le_of_ble_eq_true rfl) dX12_readsKey_12 ⟨Nat.le_of_ble_eq_true rfl, Nat.le_of_ble_eq_true rfl⟩) (fun v_4 rv_4 pv_4 => ?_)
  try dsimp only at pv_4
  try simp only [Eplace0, Elength0, Etape, Eitems, Eil] at pv_4
  have q_isByte := pv_4
  refine j_if_ne (tgt := 28) hx hb (by omega) dX12_readsKey_15 (by decide) (fun c_5 => ?_) (fun c_5 => ?_)
  · have L_28 : ∀ (N : Nat) (σL_28 : Nat → Nat → Int) (H : Heap) (locs : List Loc) (ls : Array Slot), N = (300 - σL_28 a0 12 : Int).toNat → (σ a0 12 ≤ σL_28 a0 12) → (σL_28 a0 12 ≤ σ a0 12 + 24) → (σL_28 a0 12 ≤ 200) → (σ a0 12 < σL_28 a0 12 ∨ ∀ h : Int, hrP (σL_28 a0 12) ((σ a0 13)) ((σ (G a0 10))) h → (33 ≤ h ∧ h ≤ 126 ∧ h ≠ 59 ∧ h ≠ 61 ∧ h ≠ 44 ∧ h ≠ 126)) → PW D cA τ G L σL_28 H → va_S (fun q => q ∈ L) s.heap H locs → fr wr_X12_readsKey τ σ σL_28 → σL_28 a0 13 = σ a0 13 → σL_28 (G a0 10) = σ (G a0 10) → σL_28 a0 23 = σ_1 a0 23 → σL_28 a0 22 = σ a0 22 → σL_28 (G a0 19) = σ (G a0 19) → lv_has ls 1 [(0, .ref a0)] → W p l e ({ frames := 2, cells := 0, slots := 0, locals := 42 }) s m args below meth c H locs 0 0 Q (F0 m 28 ls []) := by
      intro N
      induction N using Nat.strongRecOn with
      | ind N ih_28 =>
        intro σL_28 H locs ls hN i0_28 i1_28 i2_28 i3_28 hW hF hR Elength0 Etape EkeyAt Eitems Eil hl
        refine lv_aload_n hx hb dX12_readsKey_28 rfl (lv_at hl 0 rfl) ?_
        refine j_cR (j_runV (As := []) (rest := []) hx hb hml hown hts hK hS hW (kX12_here l hS σL_28 (a0 := a0) (h0 := h0)) 0 gX12_readsKey_X12_here rfl hvX12_here ⟨Nat.le_of_ble_eq_true rfl, Nat.le_of_ble_eq_true rfl⟩ rfl rfl h0 rfl rfl rfl rfl hl.1 rfl (Nat.le_of_ble_eq_true rfl) dX12_readsKey_29 ⟨Nat.le_of_ble_eq_true rfl, Nat.le_of_ble_eq_true rfl⟩) (fun v_6 rv_6 pv_6 => ?_)
        try dsimp only at pv_6
        try simp only [Elength0, Etape, EkeyAt, Eitems, Eil] at pv_6
        have q_here := pv_6
        refine j_cR (j_runS (As := [.int (jI v_6)]) (rest := []) hx hb hml hown hts hK hW (kX12_isByte l hS σL_28 (x0 := v_6) (r0 := (by omega))) 1 gX12_readsKey_X12_isByte rfl hsX12_isByte ⟨Nat.le_of_ble_eq_true rfl, Nat.le_of_ble_eq_true rfl⟩ rfl rfl rfl hl.1 rfl (Nat.le_of_ble_eq_true rfl) dX12_readsKey_32 ⟨Nat.le_of_ble_eq_true rfl, Nat.le_of_ble_eq_true rfl⟩) (fun v_7 rv_7 pv_7 => ?_)
        try dsimp only at pv_7
        try simp only [Elength0, Etape, EkeyAt, Eitems, Eil] at pv_7
        have q_isByte := pv_7
        refine j_if_eq (tgt := 75) hx hb (by omega) dX12_readsKey_35 (by decide) (fun c_8 => ?_) (fun c_8 => ?_)
        · refine lv_aload_n hx hb dX12_readsKey_75 rfl (lv_at hl 0 rfl) ?_
          refine lv_aload_n hx hb dX12_readsKey_76 rfl (lv_at hl 0 rfl) ?_
          refine j_getI hx hb (C := RX12) (T := TX12) (N := 41) hts inX12_readsKey_X12 hown hK hS hW h0 rfl 12 rfl rfl (by decide) (hts _ flX12_readsKey_180) dX12_readsKey_77 ?_
          have := fbd hW h0 (k := 12) (lo := 0) (hi := 200) rfl rfl
          refine lv_aload_n hx hb dX12_readsKey_80 rfl (lv_at hl 0 rfl) ?_
          refine j_getI hx hb (C := RX12) (T := TX12) (N := 41) hts inX12_readsKey_X12 hown hK hS hW h0 rfl 23 rfl rfl (by decide) (hts _ flX12_readsKey_198) dX12_readsKey_81 ?_
          rw [EkeyAt]
          have := fbd hW h0 (k := 23) (lo := 0) (hi := 200) rfl rfl
          try simp only [EkeyAt] at this
          refine j_sub hx hb dX12_readsKey_84 ?_
          refine j_putI hx hb (C := RX12) (T := TX12) (N := 41) hts inX12_readsKey_X12 tyX12 tyX12_ok nmX12 hown hK hS hA hW hF h0 rfl 24 (lo := 0) (hi := 24) rfl rfl (by decide) (hts _ flX12_readsKey_201) rfl .int rfl (by omega) rfl rfl dX12_readsKey_85 (fun σ_9 H locs e_10 hW hF => ?_)
          have hR := fr_up hR e_10 h0 13024 rfl (by decide)
          have Eplace0 : σ_9 a0 12 = σL_28 a0 12 := fld_up e_10 h0 h0 (fun q => absurd q.2 (by decide))
          have Elength0 : σ_9 a0 13 = σ a0 13 := (fld_up e_10 h0 h0 (fun q => absurd q.2 (by decide))).trans Elength0
          have Etape : σ_9 (G a0 10) = σ (G a0 10) := (row_up e_10 h0 hk_tape (by decide)).trans Etape
          have EkeyAt : σ_9 a0 23 = σ_1 a0 23 := (fld_up e_10 h0 h0 (fun q => absurd q.2 (by decide))).trans EkeyAt
          have Eitems : σ_9 a0 22 = σ a0 22 := (fld_up e_10 h0 h0 (fun q => absurd q.2 (by decide))).trans Eitems
          have Eil : σ_9 (G a0 19) = σ (G a0 19) := (row_up e_10 h0 hk_il (by decide)).trans Eil
          have hfk : σ_9 a0 24 = (σL_28 a0 12) - (σ_1 a0 23) := by rw [e_10]; exact up2_at _ _ _ _
          have hkl := hfk
          refine j_const hx hb dX12_readsKey_88 ?_
          exact hRet 89 _ _ _ 1 _ dX12_readsKey_89 hW hF (by omega) ⟨(by first | exact ⟨fun _ => (by rcases i3_28 with z | z; omega; (have := z _ q_here.2; exfalso; omega)), by omega⟩ | (simp only [Eplace0, Elength0, Etape, EkeyAt, Eitems, Eil]; exact ⟨fun _ => (by rcases i3_28 with z | z; omega; (have := z _ q_here.2; exfalso; omega)), by omega⟩)), hR⟩
        · refine lv_aload_n hx hb dX12_readsKey_38 rfl (lv_at hl 0 rfl) ?_
          refine j_getI hx hb (C := RX12) (T := TX12) (N := 41) hts inX12_readsKey_X12 hown hK hS hW h0 rfl 12 rfl rfl (by decide) (hts _ flX12_readsKey_180) dX12_readsKey_39 ?_
          have := fbd hW h0 (k := 12) (lo := 0) (hi := 200) rfl rfl
          refine lv_aload_n hx hb dX12_readsKey_42 rfl (lv_at hl 0 rfl) ?_
          refine j_getI hx hb (C := RX12) (T := TX12) (N := 41) hts inX12_readsKey_X12 hown hK hS hW h0 rfl 23 rfl rfl (by decide) (hts _ flX12_readsKey_198) dX12_readsKey_43 ?_
          rw [EkeyAt]
          have := fbd hW h0 (k := 23) (lo := 0) (hi := 200) rfl rfl
          try simp only [EkeyAt] at this
          refine j_bi hx hb dX12_readsKey_46 (by decide) ?_
          refine j_add hx hb dX12_readsKey_48 ?_
          refine j_icmp_ne (tgt := 62) hx hb (by omega) (by omega) dX12_readsKey_49 (by decide) (fun c_11 => ?_) (fun c_11 => ?_)
          · refine lv_aload_n hx hb dX12_readsKey_62 rfl (lv_at hl 0 rfl) ?_
            refine lv_aload_n hx hb dX12_readsKey_63 rfl (lv_at hl 0 rfl) ?_
            refine j_getI hx hb (C := RX12) (T := TX12) (N := 41) hts inX12_readsKey_X12 hown hK hS hW h0 rfl 12 rfl rfl (by decide) (hts _ flX12_readsKey_180) dX12_readsKey_64 ?_
            refine j_const hx hb dX12_readsKey_67 ?_
            refine j_add hx hb dX12_readsKey_68 ?_
            refine j_putI hx hb (C := RX12) (T := TX12) (N := 41) hts inX12_readsKey_X12 tyX12 tyX12_ok nmX12 hown hK hS hA hW hF h0 rfl 12 (lo := 0) (hi := 200) rfl rfl (by decide) (hts _ flX12_readsKey_180) rfl .int rfl (by omega) rfl rfl dX12_readsKey_69 (fun σ_12 H locs e_13 hW hF => ?_)
            have hR := fr_up hR e_13 h0 13012 rfl (by decide)
            have Elength0 : σ_12 a0 13 = σ a0 13 := (fld_up e_13 h0 h0 (fun q => absurd q.2 (by decide))).trans Elength0
            have Etape : σ_12 (G a0 10) = σ (G a0 10) := (row_up e_13 h0 hk_tape (by decide)).trans Etape
            have EkeyAt : σ_12 a0 23 = σ_1 a0 23 := (fld_up e_13 h0 h0 (fun q => absurd q.2 (by decide))).trans EkeyAt
            have Eitems : σ_12 a0 22 = σ a0 22 := (fld_up e_13 h0 h0 (fun q => absurd q.2 (by decide))).trans Eitems
            have Eil : σ_12 (G a0 19) = σ (G a0 19) := (row_up e_13 h0 hk_il (by decide)).trans Eil
            have hfk : σ_12 a0 12 = (σL_28 a0 12) + 1 := by rw [e_13]; exact up2_at _ _ _ _
            refine lv_goto (tgt := 28) hx hb dX12_readsKey_72 (by decide) ?_
            exact ih_28 ((300 - σ_12 a0 12 : Int).toNat) (by omega) σ_12 _ _ _ rfl (by omega) (by omega) (by omega) (by first | exact (by first | exact Or.inl (by omega) | exact Or.inr (fun h hh => by (have hz_ := hrP_u hh q_here.2; omega))) | (simp only [Elength0, Etape, EkeyAt, Eitems, Eil]; exact (by first | exact Or.inl (by omega) | exact Or.inr (fun h hh => by (have hz_ := hrP_u hh q_here.2; omega))))) hW hF hR Elength0 Etape EkeyAt Eitems Eil (lv_sub hl [0] rfl)
          · refine lv_aload_n hx hb dX12_readsKey_52 rfl (lv_at hl 0 rfl) ?_
            refine j_const hx hb dX12_readsKey_53 ?_
            refine lv_aload_n hx hb dX12_readsKey_54 rfl (lv_at hl 0 rfl) ?_
            refine j_getI hx hb (C := RX12) (T := TX12) (N := 41) hts inX12_readsKey_X12 hown hK hS hW h0 rfl 12 rfl rfl (by decide) (hts _ flX12_readsKey_180) dX12_readsKey_55 ?_
            refine j_cI (j_runV (As := [.int (jI 5), .int (jI (σL_28 a0 12))]) (rest := []) hx hb hml hown hts hK hS hW (kX12_wrongAt l hS σL_28 (a0 := a0) (h0 := h0) (x1 := 5) (r1 := (by decide)) (x2 := σL_28 a0 12) (r2 := (by omega))) 2 gX12_readsKey_X12_wrongAt rfl hvX12_wrongAt ⟨Nat.le_of_ble_eq_true rfl, Nat.le_of_ble_eq_true rfl⟩ rfl rfl h0 rfl rfl rfl rfl hl.1 rfl (Nat.le_of_ble_eq_true rfl) dX12_readsKey_58 ⟨Nat.le_of_ble_eq_true rfl, Nat.le_of_ble_eq_true rfl⟩) hA hF (fun v_14 σ_15 H locs hW hF rv_14 pv_14 => ?_)
            try dsimp only at pv_14
            obtain ⟨bpv_14, pv_14, fpv_14⟩ := pv_14
            try simp only [Elength0, Etape, EkeyAt, Eitems, Eil] at pv_14
            have q_wrongAt := pv_14
            have hR := fr_call hR fpv_14 (by decide)
            have Eplace0 : σ_15 a0 12 = σL_28 a0 12 := fr_at fpv_14 h0 12 13012 rfl (by decide)
            have Elength0 : σ_15 a0 13 = σ a0 13 := (fr_at fpv_14 h0 13 13013 rfl (by decide)).trans Elength0
            have Etape : σ_15 (G a0 10) = σ (G a0 10) := (row_fr fpv_14 hk_tape 44 (by decide) (by decide)).trans Etape
            have EkeyAt : σ_15 a0 23 = σ_1 a0 23 := (fr_at fpv_14 h0 23 13023 rfl (by decide)).trans EkeyAt
            have Eitems : σ_15 a0 22 = σ a0 22 := (fr_at fpv_14 h0 22 13022 rfl (by decide)).trans Eitems
            have Eil : σ_15 (G a0 19) = σ (G a0 19) := (row_fr fpv_14 hk_il 48 (by decide) (by decide)).trans Eil
            exact hRet 61 _ _ _ v_14 _ dX12_readsKey_61 hW hF (by omega) ⟨(by first | exact ⟨fun h => (by exfalso; omega), by omega⟩ | (simp only [Eplace0, Elength0, Etape, EkeyAt, Eitems, Eil]; exact ⟨fun h => (by exfalso; omega), by omega⟩)), hR⟩
    exact L_28 ((300 - σ_1 a0 12 : Int).toNat) σ_1 _ _ _ rfl (by omega) (by omega) (by omega) (by first | exact (by first | exact Or.inl (by omega) | exact Or.inr (fun h hh => by (have hz_ := hrP_u hh q_here.2; omega))) | (simp only [Eplace0, Elength0, Etape, Eitems, Eil]; exact (by first | exact Or.inl (by omega) | exact Or.inr (fun h hh => by (have hz_ := hrP_u hh q_here.2; omega))))) hW hF hR Elength0 Etape rfl Eitems Eil (lv_sub hl [0] rfl)
  · refine lv_aload_n hx hb dX12_readsKey_18 rfl (lv_at hl 0 rfl) ?_
    refine j_const hx hb dX12_readsKey_19 ?_
    refine lv_aload_n hx hb dX12_readsKey_20 rfl (lv_at hl 0 rfl) ?_
    refine j_getI hx hb (C := RX12) (T := TX12) (N := 41) hts inX12_readsKey_X12 hown hK hS hW h0 rfl 12 rfl rfl (by decide) (hts _ flX12_readsKey_180) dX12_readsKey_21 ?_
    rw [Eplace0]
    refine j_cI (j_runV (As := [.int (jI 1), .int (jI (σ a0 12))]) (rest := []) hx hb hml hown hts hK hS hW (kX12_wrongAt l hS σ_1 (a0 := a0) (h0 := h0) (x1 := 1) (r1 := (by decide)) (x2 := σ a0 12) (r2 := (by omega))) 2 gX12_readsKey_X12_wrongAt rfl hvX12_wrongAt ⟨Nat.le_of_ble_eq_true rfl, Nat.le_of_ble_eq_true rfl⟩ rfl rfl h0 rfl rfl rfl rfl hl.1 rfl (Nat.le_of_ble_eq_true rfl) dX12_readsKey_24 ⟨Nat.le_of_ble_eq_true rfl, Nat.le_of_ble_eq_true rfl⟩) hA hF (fun v_16 σ_17 H locs hW hF rv_16 pv_16 => ?_)
    try dsimp only at pv_16
    obtain ⟨bpv_16, pv_16, fpv_16⟩ := pv_16
    try simp only [Eplace0, Elength0, Etape, Eitems, Eil] at pv_16
    have q_wrongAt := pv_16
    have hR := fr_call hR fpv_16 (by decide)
    have Eplace0 : σ_17 a0 12 = σ a0 12 := (fr_at fpv_16 h0 12 13012 rfl (by decide)).trans Eplace0
    have Elength0 : σ_17 a0 13 = σ a0 13 := (fr_at fpv_16 h0 13 13013 rfl (by decide)).trans Elength0
    have Etape : σ_17 (G a0 10) = σ (G a0 10) := (row_fr fpv_16 hk_tape 44 (by decide) (by decide)).trans Etape
    have EkeyAt : σ_17 a0 23 = σ_1 a0 23 := fr_at fpv_16 h0 23 13023 rfl (by decide)
    have Eitems : σ_17 a0 22 = σ a0 22 := (fr_at fpv_16 h0 22 13022 rfl (by decide)).trans Eitems
    have Eil : σ_17 (G a0 19) = σ (G a0 19) := (row_fr fpv_16 hk_il 48 (by decide) (by decide)).trans Eil
    exact hRet 27 _ _ _ v_16 _ dX12_readsKey_27 hW hF (by omega) ⟨(by first | exact ⟨fun h => (by exfalso; omega), by omega⟩ | (simp only [Eplace0, Elength0, Etape, EkeyAt, Eitems, Eil]; exact ⟨fun h => (by exfalso; omega), by omega⟩)), hR⟩
abbrev wr_X12_readsItem : List Nat := [13012, 13014, 13015, 13022, 13023, 13024, 45000, 46000, 47000, 48000, 49000, 50000]
theorem flX12_readsItem_26 : Cond.fieldLink RX12 26 "PageTrieModel" "itemOf" "[I" ∈ wsX12_readsItem := List.mem_of_getElem? (i := 3) rfl
theorem flX12_readsItem_29 : Cond.fieldLink RX12 29 "PageTrieModel" "itemNumber" "[I" ∈ wsX12_readsItem := List.mem_of_getElem? (i := 8) rfl
theorem flX12_readsItem_32 : Cond.fieldLink RX12 32 "PageTrieModel" "itemAt" "[I" ∈ wsX12_readsItem := List.mem_of_getElem? (i := 4) rfl
theorem flX12_readsItem_35 : Cond.fieldLink RX12 35 "PageTrieModel" "itemLong" "[I" ∈ wsX12_readsItem := List.mem_of_getElem? (i := 6) rfl
theorem flX12_readsItem_38 : Cond.fieldLink RX12 38 "PageTrieModel" "itemThen" "[I" ∈ wsX12_readsItem := List.mem_of_getElem? (i := 10) rfl
theorem flX12_readsItem_41 : Cond.fieldLink RX12 41 "PageTrieModel" "itemThenLong" "[I" ∈ wsX12_readsItem := List.mem_of_getElem? (i := 11) rfl
theorem flX12_readsItem_180 : Cond.fieldLink RX12 180 "PageTrieModel" "place0" "I" ∈ wsX12_readsItem := List.mem_of_getElem? (i := 2) rfl
theorem flX12_readsItem_195 : Cond.fieldLink RX12 195 "PageTrieModel" "number0" "I" ∈ wsX12_readsItem := List.mem_of_getElem? (i := 9) rfl
theorem flX12_readsItem_198 : Cond.fieldLink RX12 198 "PageTrieModel" "keyAt" "I" ∈ wsX12_readsItem := List.mem_of_getElem? (i := 5) rfl
theorem flX12_readsItem_201 : Cond.fieldLink RX12 201 "PageTrieModel" "keyLong" "I" ∈ wsX12_readsItem := List.mem_of_getElem? (i := 7) rfl
theorem flX12_readsItem_204 : Cond.fieldLink RX12 204 "PageTrieModel" "items" "I" ∈ wsX12_readsItem := List.mem_of_getElem? (i := 1) rfl
theorem inX12_readsItem_X12 : ∀ w ∈ u_ws RX12 TX12 41, w ∈ wsX12_readsItem := mem_r _ [42, 43, 44, 45, 46, 47, 48, 49, 50, 51, 52, 53, 54, 55, 56, 57, 58, 59, 60, 61, 62, 63, 64, 65, 66, 67, 68, 69, 70, 71, 72, 73, 74, 75, 76, 77, 78, 79, 80, 81, 82] rfl
theorem hvX12_readsItem : yX12_readsItem.cls = RX12 ∧ yX12_readsItem.cls ≠ "java/lang/invoke/MethodHandle" ∧ yX12_readsItem.cls ≠ "java/lang/invoke/VarHandle" ∧ (parseMethodDescriptor yX12_readsItem.desc).map (fun d => d.parameters.length) = some 0 := by decide +kernel
set_option maxHeartbeats 4000000 in
set_option maxRecDepth 100000 in
theorem kX12_readsItem (l : Launch) {D : va_G} {cA : Nat → ClassId} {τ : Nat → Nat} {G : Nat → Nat → Nat} {L : List Nat} (hS : SW τ G L) (σ : Nat → Nat → Int) {a0 : Nat} (h0 : τ a0 = 13) (q0 : ∀ s : Int, 0 ≤ s → s < σ a0 22 → 1 ≤ σ (G a0 19) s.toNat) : Met l yX12_readsItem wsX12_readsItem ({ frames := 3, cells := 0, slots := 0, locals := 62 }) (jP D cA τ G L σ [.ref a0]) (jQI D cA τ G L (fun r σ' => (0 ≤ r ∧ r ≤ 1) ∧ (((r = 1 → ∀ s : Int, 0 ≤ s → s < σ' a0 22 → 1 ≤ σ' (G a0 19) s.toNat) ∧ (σ a0 12 ≤ σ' a0 12)) ∧ fr wr_X12_readsItem τ σ σ'))) 0 0 (fun q => q ∈ L) := by
  refine j_metZ (by decide +kernel) rfl (Nat.le_of_ble_eq_true rfl) ?_
  intro p e s m args below meth c Q hx hb hml hown hts hK hW hRet ls hl
  have hl : lv_has ls 2 [(0, .ref a0)] := hl
  have hA : ∀ q ∈ L, (fun q => q ∈ L) q := fun _ h => h
  have hF : va_S (fun q => q ∈ L) s.heap s.heap [] := va_S.rf
  have hR : fr wr_X12_readsItem τ σ σ := fr_rf
  have hk_il : τ (G a0 19) = 48 := gty hS h0 (k := 19) rfl rfl
  have := fbd hW h0 (k := 12) (lo := 0) (hi := 200) rfl rfl
  have := fbd hW h0 (k := 13) (lo := 0) (hi := 200) rfl rfl
  have := fbd hW h0 (k := 22) (lo := 0) (hi := 20) rfl rfl
  refine lv_aload_n hx hb dX12_readsItem_0 rfl (lv_at hl 0 rfl) ?_
  refine j_getI hx hb (C := RX12) (T := TX12) (N := 41) hts inX12_readsItem_X12 hown hK hS hW h0 rfl 22 rfl rfl (by decide) (hts _ flX12_readsItem_204) dX12_readsItem_1 ?_
  have := fbd hW h0 (k := 22) (lo := 0) (hi := 20) rfl rfl
  refine j_bi hx hb dX12_readsItem_4 (by decide) ?_
  refine j_icmp_ne (tgt := 19) hx hb (by omega) (by decide) dX12_readsItem_6 (by decide) (fun c_1 => ?_) (fun c_1 => ?_)
  · refine lv_aload_n hx hb dX12_readsItem_19 rfl (lv_at hl 0 rfl) ?_
    refine j_cR (j_runV (As := []) (rest := []) hx hb hml hown hts hK hS hW (kX12_here l hS σ (a0 := a0) (h0 := h0)) 0 gX12_readsItem_X12_here rfl hvX12_here ⟨Nat.le_of_ble_eq_true rfl, Nat.le_of_ble_eq_true rfl⟩ rfl rfl h0 rfl rfl rfl rfl hl.1 rfl (Nat.le_of_ble_eq_true rfl) dX12_readsItem_20 ⟨Nat.le_of_ble_eq_true rfl, Nat.le_of_ble_eq_true rfl⟩) (fun v_2 rv_2 pv_2 => ?_)
    try dsimp only at pv_2
    have q_here := pv_2
    refine lv_istore_n (lv' := [(1, .int (jI v_2)), (0, .ref a0)]) hx hb dX12_readsItem_23 rfl hl (by decide) rfl (fun ls hl => ?_)
    refine lv_iload_n hx hb dX12_readsItem_24 rfl (lv_at hl 0 rfl) ?_
    refine j_bi hx hb dX12_readsItem_25 (by decide) ?_
    refine j_icmp_eq (tgt := 52) hx hb (by omega) (by decide) dX12_readsItem_27 (by decide) (fun c_3 => ?_) (fun c_3 => ?_)
    · refine lv_aload_n hx hb dX12_readsItem_52 rfl (lv_at hl 1 rfl) ?_
      refine j_getR hx hb (C := RX12) (T := TX12) (N := 41) hts inX12_readsItem_X12 hown hK hS hW h0 rfl 16 rfl rfl (by decide) (hts _ flX12_readsItem_26) dX12_readsItem_53 ?_
      have h_4 : τ (G a0 16) = 45 := gty hS h0 (k := 16) rfl rfl
      refine lv_aload_n hx hb dX12_readsItem_56 rfl (lv_at hl 1 rfl) ?_
      refine j_getI hx hb (C := RX12) (T := TX12) (N := 41) hts inX12_readsItem_X12 hown hK hS hW h0 rfl 22 rfl rfl (by decide) (hts _ flX12_readsItem_204) dX12_readsItem_57 ?_
      refine lv_iload_n hx hb dX12_readsItem_60 rfl (lv_at hl 0 rfl) ?_
      refine j_ast hx hb hK hS hA hW hF h_4 (n := 20) (lo := -2147483648) (hi := 2147483647) rfl (by omega) (by omega) (by decide) (by omega) dX12_readsItem_61 (fun σ_5 H locs e_6 hW hF => ?_)
      have hR := fr_up hR e_6 h_4 45000 (cdA 45 (by decide) _) (by decide)
      have Eplace0 : σ_5 a0 12 = σ a0 12 := fld_up e_6 h_4 h0 (fun q => absurd q.1 (by decide))
      have Elength0 : σ_5 a0 13 = σ a0 13 := fld_up e_6 h_4 h0 (fun q => absurd q.1 (by decide))
      have Eitems : σ_5 a0 22 = σ a0 22 := fld_up e_6 h_4 h0 (fun q => absurd q.1 (by decide))
      have Eil : σ_5 (G a0 19) = σ (G a0 19) := row_up e_6 h_4 hk_il (by decide)
      have EkeyLong : σ_5 a0 24 = σ a0 24 := fld_up e_6 h_4 h0 (fun q => absurd q.1 (by decide))
      refine lv_aload_n hx hb dX12_readsItem_62 rfl (lv_at hl 1 rfl) ?_
      refine lv_aload_n hx hb dX12_readsItem_63 rfl (lv_at hl 1 rfl) ?_
      refine j_getI hx hb (C := RX12) (T := TX12) (N := 41) hts inX12_readsItem_X12 hown hK hS hW h0 rfl 12 rfl rfl (by decide) (hts _ flX12_readsItem_180) dX12_readsItem_64 ?_
      rw [Eplace0]
      have := fbd hW h0 (k := 12) (lo := 0) (hi := 200) rfl rfl
      try simp only [Eplace0] at this
      refine j_const hx hb dX12_readsItem_67 ?_
      refine j_add hx hb dX12_readsItem_68 ?_
      refine j_putI hx hb (C := RX12) (T := TX12) (N := 41) hts inX12_readsItem_X12 tyX12 tyX12_ok nmX12 hown hK hS hA hW hF h0 rfl 12 (lo := 0) (hi := 200) rfl rfl (by decide) (hts _ flX12_readsItem_180) rfl .int rfl (by omega) rfl rfl dX12_readsItem_69 (fun σ_7 H locs e_8 hW hF => ?_)
      have hR := fr_up hR e_8 h0 13012 rfl (by decide)
      have Elength0 : σ_7 a0 13 = σ a0 13 := (fld_up e_8 h0 h0 (fun q => absurd q.2 (by decide))).trans Elength0
      have Eitems : σ_7 a0 22 = σ a0 22 := (fld_up e_8 h0 h0 (fun q => absurd q.2 (by decide))).trans Eitems
      have Eil : σ_7 (G a0 19) = σ (G a0 19) := (row_up e_8 h0 hk_il (by decide)).trans Eil
      have EkeyLong : σ_7 a0 24 = σ a0 24 := (fld_up e_8 h0 h0 (fun q => absurd q.2 (by decide))).trans EkeyLong
      have hfk : σ_7 a0 12 = (σ a0 12) + 1 := by rw [e_8]; exact up2_at _ _ _ _
      refine lv_aload_n hx hb dX12_readsItem_72 rfl (lv_at hl 1 rfl) ?_
      refine j_cI (j_runV (As := []) (rest := []) hx hb hml hown hts hK hS hW (kX12_readsKey l hS σ_7 (a0 := a0) (h0 := h0)) 0 gX12_readsItem_X12_readsKey rfl hvX12_readsKey ⟨Nat.le_of_ble_eq_true rfl, Nat.le_of_ble_eq_true rfl⟩ rfl rfl h0 rfl rfl rfl rfl hl.1 rfl (Nat.le_of_ble_eq_true rfl) dX12_readsItem_73 ⟨Nat.le_of_ble_eq_true rfl, Nat.le_of_ble_eq_true rfl⟩) hA hF (fun v_9 σ_10 H locs hW hF rv_9 pv_9 => ?_)
      try dsimp only at pv_9
      obtain ⟨bpv_9, pv_9, fpv_9⟩ := pv_9
      try simp only [Elength0, Eitems, Eil, EkeyLong] at pv_9
      have q_readsKey := pv_9
      have hR := fr_call hR fpv_9 (by decide)
      have Elength0 : σ_10 a0 13 = σ a0 13 := (fr_at fpv_9 h0 13 13013 rfl (by decide)).trans Elength0
      have Eitems : σ_10 a0 22 = σ a0 22 := (fr_at fpv_9 h0 22 13022 rfl (by decide)).trans Eitems
      have Eil : σ_10 (G a0 19) = σ (G a0 19) := (row_fr fpv_9 hk_il 48 (by decide) (by decide)).trans Eil
      refine j_if_ne (tgt := 81) hx hb (by omega) dX12_readsItem_76 (by decide) (fun c_11 => ?_) (fun c_11 => ?_)
      · have hk1 := q_readsKey.1 (by omega)
        refine lv_aload_n hx hb dX12_readsItem_81 rfl (lv_at hl 1 rfl) ?_
        refine j_getR hx hb (C := RX12) (T := TX12) (N := 41) hts inX12_readsItem_X12 hown hK hS hW h0 rfl 18 rfl rfl (by decide) (hts _ flX12_readsItem_32) dX12_readsItem_82 ?_
        have h_12 : τ (G a0 18) = 47 := gty hS h0 (k := 18) rfl rfl
        refine lv_aload_n hx hb dX12_readsItem_85 rfl (lv_at hl 1 rfl) ?_
        refine j_getI hx hb (C := RX12) (T := TX12) (N := 41) hts inX12_readsItem_X12 hown hK hS hW h0 rfl 22 rfl rfl (by decide) (hts _ flX12_readsItem_204) dX12_readsItem_86 ?_
        rw [Eitems]
        refine lv_aload_n hx hb dX12_readsItem_89 rfl (lv_at hl 1 rfl) ?_
        refine j_getI hx hb (C := RX12) (T := TX12) (N := 41) hts inX12_readsItem_X12 hown hK hS hW h0 rfl 23 rfl rfl (by decide) (hts _ flX12_readsItem_198) dX12_readsItem_90 ?_
        have := fbd hW h0 (k := 23) (lo := 0) (hi := 200) rfl rfl
        refine j_ast hx hb hK hS hA hW hF h_12 (n := 20) (lo := 0) (hi := 200) rfl (by omega) (by omega) (by decide) (by omega) dX12_readsItem_93 (fun σ_13 H locs e_14 hW hF => ?_)
        have hR := fr_up hR e_14 h_12 47000 (cdA 47 (by decide) _) (by decide)
        have Eplace0 : σ_13 a0 12 = σ_10 a0 12 := fld_up e_14 h_12 h0 (fun q => absurd q.1 (by decide))
        have Elength0 : σ_13 a0 13 = σ a0 13 := (fld_up e_14 h_12 h0 (fun q => absurd q.1 (by decide))).trans Elength0
        have Eitems : σ_13 a0 22 = σ a0 22 := (fld_up e_14 h_12 h0 (fun q => absurd q.1 (by decide))).trans Eitems
        have Eil : σ_13 (G a0 19) = σ (G a0 19) := (row_up e_14 h_12 hk_il (by decide)).trans Eil
        have EkeyLong : σ_13 a0 24 = σ_10 a0 24 := fld_up e_14 h_12 h0 (fun q => absurd q.1 (by decide))
        refine lv_aload_n hx hb dX12_readsItem_94 rfl (lv_at hl 1 rfl) ?_
        refine j_getR hx hb (C := RX12) (T := TX12) (N := 41) hts inX12_readsItem_X12 hown hK hS hW h0 rfl 19 rfl rfl (by decide) (hts _ flX12_readsItem_35) dX12_readsItem_95 ?_
        refine lv_aload_n hx hb dX12_readsItem_98 rfl (lv_at hl 1 rfl) ?_
        refine j_getI hx hb (C := RX12) (T := TX12) (N := 41) hts inX12_readsItem_X12 hown hK hS hW h0 rfl 22 rfl rfl (by decide) (hts _ flX12_readsItem_204) dX12_readsItem_99 ?_
        rw [Eitems]
        refine lv_aload_n hx hb dX12_readsItem_102 rfl (lv_at hl 1 rfl) ?_
        refine j_getI hx hb (C := RX12) (T := TX12) (N := 41) hts inX12_readsItem_X12 hown hK hS hW h0 rfl 24 rfl rfl (by decide) (hts _ flX12_readsItem_201) dX12_readsItem_103 ?_
        rw [EkeyLong]
        have := fbd hW h0 (k := 24) (lo := 0) (hi := 24) rfl rfl
        try simp only [EkeyLong] at this
        refine j_ast hx hb hK hS hA hW hF hk_il (n := 20) (lo := 0) (hi := 24) rfl (by omega) (by omega) (by decide) (by omega) dX12_readsItem_106 (fun σ_15 H locs e_16 hW hF => ?_)
        have st_il := e_16
        have hR := fr_up hR e_16 hk_il 48000 (cdA 48 (by decide) _) (by decide)
        have Eplace0 : σ_15 a0 12 = σ_10 a0 12 := (fld_up e_16 hk_il h0 (fun q => absurd q.1 (by decide))).trans Eplace0
        have Elength0 : σ_15 a0 13 = σ a0 13 := (fld_up e_16 hk_il h0 (fun q => absurd q.1 (by decide))).trans Elength0
        have Eitems : σ_15 a0 22 = σ a0 22 := (fld_up e_16 hk_il h0 (fun q => absurd q.1 (by decide))).trans Eitems
        have EkeyLong : σ_15 a0 24 = σ_10 a0 24 := (fld_up e_16 hk_il h0 (fun q => absurd q.1 (by decide))).trans EkeyLong
        have hil1 := IL_s (by first | exact q0 | (rw [Eil]; exact q0)) st_il (by omega) hk1
        refine lv_iload_n hx hb dX12_readsItem_107 rfl (lv_at hl 0 rfl) ?_
        refine j_bi hx hb dX12_readsItem_108 (by decide) ?_
        refine j_icmp_ne (tgt := 144) hx hb (by omega) (by decide) dX12_readsItem_110 (by decide) (fun c_17 => ?_) (fun c_17 => ?_)
        · refine lv_iload_n hx hb dX12_readsItem_144 rfl (lv_at hl 0 rfl) ?_
          refine j_bi hx hb dX12_readsItem_145 (by decide) ?_
          refine j_icmp_ne (tgt := 194) hx hb (by omega) (by decide) dX12_readsItem_147 (by decide) (fun c_18 => ?_) (fun c_18 => ?_)
          · refine lv_aload_n hx hb dX12_readsItem_194 rfl (lv_at hl 1 rfl) ?_
            refine lv_aload_n hx hb dX12_readsItem_195 rfl (lv_at hl 1 rfl) ?_
            refine j_getI hx hb (C := RX12) (T := TX12) (N := 41) hts inX12_readsItem_X12 hown hK hS hW h0 rfl 22 rfl rfl (by decide) (hts _ flX12_readsItem_204) dX12_readsItem_196 ?_
            rw [Eitems]
            refine j_const hx hb dX12_readsItem_199 ?_
            refine j_add hx hb dX12_readsItem_200 ?_
            refine j_putI hx hb (C := RX12) (T := TX12) (N := 41) hts inX12_readsItem_X12 tyX12 tyX12_ok nmX12 hown hK hS hA hW hF h0 rfl 22 (lo := 0) (hi := 20) rfl rfl (by decide) (hts _ flX12_readsItem_204) rfl .int rfl (by omega) rfl rfl dX12_readsItem_201 (fun σ_19 H locs e_20 hW hF => ?_)
            have hR := fr_up hR e_20 h0 13022 rfl (by decide)
            have Eplace0 : σ_19 a0 12 = σ_10 a0 12 := (fld_up e_20 h0 h0 (fun q => absurd q.2 (by decide))).trans Eplace0
            have Elength0 : σ_19 a0 13 = σ a0 13 := (fld_up e_20 h0 h0 (fun q => absurd q.2 (by decide))).trans Elength0
            have Eil : σ_19 (G a0 19) = σ_15 (G a0 19) := row_up e_20 h0 hk_il (by decide)
            have EkeyLong : σ_19 a0 24 = σ_10 a0 24 := (fld_up e_20 h0 h0 (fun q => absurd q.2 (by decide))).trans EkeyLong
            have hfk : σ_19 a0 22 = (σ a0 22) + 1 := by rw [e_20]; exact up2_at _ _ _ _
            refine j_const hx hb dX12_readsItem_204 ?_
            exact hRet 205 _ _ _ 1 _ dX12_readsItem_205 hW hF (by omega) ⟨(by first | exact ⟨fun _ s s0 s1 => hil1 s s0 (by omega), by omega⟩ | (simp only [Eplace0, Elength0, Eil, EkeyLong]; exact ⟨fun _ s s0 s1 => hil1 s s0 (by omega), by omega⟩)), hR⟩
          · refine lv_aload_n hx hb dX12_readsItem_150 rfl (lv_at hl 1 rfl) ?_
            refine j_bi hx hb dX12_readsItem_151 (by decide) ?_
            refine j_cI (j_runV (As := [.int (jI 44)]) (rest := []) hx hb hml hown hts hK hS hW (kX12_takesSign l hS σ_15 (a0 := a0) (h0 := h0) (x1 := 44) (r1 := (by decide)) (q0 := (by omega))) 1 gX12_readsItem_X12_takesSign rfl hvX12_takesSign ⟨Nat.le_of_ble_eq_true rfl, Nat.le_of_ble_eq_true rfl⟩ rfl rfl h0 rfl rfl rfl rfl hl.1 rfl (Nat.le_of_ble_eq_true rfl) dX12_readsItem_153 ⟨Nat.le_of_ble_eq_true rfl, Nat.le_of_ble_eq_true rfl⟩) hA hF (fun v_21 σ_22 H locs hW hF rv_21 pv_21 => ?_)
            try dsimp only at pv_21
            obtain ⟨bpv_21, pv_21, fpv_21⟩ := pv_21
            try simp only [Eplace0, Elength0, Eitems, EkeyLong] at pv_21
            have q_takesSign := pv_21
            have hR := fr_call hR fpv_21 (by decide)
            have Elength0 : σ_22 a0 13 = σ a0 13 := (fr_at fpv_21 h0 13 13013 rfl (by decide)).trans Elength0
            have Eitems : σ_22 a0 22 = σ a0 22 := (fr_at fpv_21 h0 22 13022 rfl (by decide)).trans Eitems
            have Eil : σ_22 (G a0 19) = σ_15 (G a0 19) := row_fr fpv_21 hk_il 48 (by decide) (by decide)
            have EkeyLong : σ_22 a0 24 = σ_10 a0 24 := (fr_at fpv_21 h0 24 13024 rfl (by decide)).trans EkeyLong
            refine j_if_eq (tgt := 166) hx hb (by omega) dX12_readsItem_156 (by decide) (fun c_23 => ?_) (fun c_23 => ?_)
            · refine j_const hx hb dX12_readsItem_166 ?_
              exact hRet 167 _ _ _ 0 _ dX12_readsItem_167 hW hF (by omega) ⟨(by first | exact ⟨fun h => (by exfalso; omega), by omega⟩ | (simp only [Elength0, Eitems, Eil, EkeyLong]; exact ⟨fun h => (by exfalso; omega), by omega⟩)), hR⟩
            · refine lv_aload_n hx hb dX12_readsItem_159 rfl (lv_at hl 1 rfl) ?_
              refine j_cI (j_runV (As := []) (rest := []) hx hb hml hown hts hK hS hW (kX12_readsKey l hS σ_22 (a0 := a0) (h0 := h0)) 0 gX12_readsItem_X12_readsKey rfl hvX12_readsKey ⟨Nat.le_of_ble_eq_true rfl, Nat.le_of_ble_eq_true rfl⟩ rfl rfl h0 rfl rfl rfl rfl hl.1 rfl (Nat.le_of_ble_eq_true rfl) dX12_readsItem_160 ⟨Nat.le_of_ble_eq_true rfl, Nat.le_of_ble_eq_true rfl⟩) hA hF (fun v_24 σ_25 H locs hW hF rv_24 pv_24 => ?_)
              try dsimp only at pv_24
              obtain ⟨bpv_24, pv_24, fpv_24⟩ := pv_24
              try simp only [Elength0, Eitems, Eil, EkeyLong] at pv_24
              have q_readsKey := pv_24
              have hR := fr_call hR fpv_24 (by decide)
              have Elength0 : σ_25 a0 13 = σ a0 13 := (fr_at fpv_24 h0 13 13013 rfl (by decide)).trans Elength0
              have Eitems : σ_25 a0 22 = σ a0 22 := (fr_at fpv_24 h0 22 13022 rfl (by decide)).trans Eitems
              have Eil : σ_25 (G a0 19) = σ_15 (G a0 19) := (row_fr fpv_24 hk_il 48 (by decide) (by decide)).trans Eil
              refine j_if_ne (tgt := 168) hx hb (by omega) dX12_readsItem_163 (by decide) (fun c_26 => ?_) (fun c_26 => ?_)
              · refine lv_aload_n hx hb dX12_readsItem_168 rfl (lv_at hl 1 rfl) ?_
                refine j_getR hx hb (C := RX12) (T := TX12) (N := 41) hts inX12_readsItem_X12 hown hK hS hW h0 rfl 20 rfl rfl (by decide) (hts _ flX12_readsItem_38) dX12_readsItem_169 ?_
                have h_27 : τ (G a0 20) = 49 := gty hS h0 (k := 20) rfl rfl
                refine lv_aload_n hx hb dX12_readsItem_172 rfl (lv_at hl 1 rfl) ?_
                refine j_getI hx hb (C := RX12) (T := TX12) (N := 41) hts inX12_readsItem_X12 hown hK hS hW h0 rfl 22 rfl rfl (by decide) (hts _ flX12_readsItem_204) dX12_readsItem_173 ?_
                rw [Eitems]
                refine lv_aload_n hx hb dX12_readsItem_176 rfl (lv_at hl 1 rfl) ?_
                refine j_getI hx hb (C := RX12) (T := TX12) (N := 41) hts inX12_readsItem_X12 hown hK hS hW h0 rfl 23 rfl rfl (by decide) (hts _ flX12_readsItem_198) dX12_readsItem_177 ?_
                have := fbd hW h0 (k := 23) (lo := 0) (hi := 200) rfl rfl
                refine j_ast hx hb hK hS hA hW hF h_27 (n := 20) (lo := 0) (hi := 200) rfl (by omega) (by omega) (by decide) (by omega) dX12_readsItem_180 (fun σ_28 H locs e_29 hW hF => ?_)
                have hR := fr_up hR e_29 h_27 49000 (cdA 49 (by decide) _) (by decide)
                have Eplace0 : σ_28 a0 12 = σ_25 a0 12 := fld_up e_29 h_27 h0 (fun q => absurd q.1 (by decide))
                have Elength0 : σ_28 a0 13 = σ a0 13 := (fld_up e_29 h_27 h0 (fun q => absurd q.1 (by decide))).trans Elength0
                have Eitems : σ_28 a0 22 = σ a0 22 := (fld_up e_29 h_27 h0 (fun q => absurd q.1 (by decide))).trans Eitems
                have Eil : σ_28 (G a0 19) = σ_15 (G a0 19) := (row_up e_29 h_27 hk_il (by decide)).trans Eil
                have EkeyLong : σ_28 a0 24 = σ_25 a0 24 := fld_up e_29 h_27 h0 (fun q => absurd q.1 (by decide))
                refine lv_aload_n hx hb dX12_readsItem_181 rfl (lv_at hl 1 rfl) ?_
                refine j_getR hx hb (C := RX12) (T := TX12) (N := 41) hts inX12_readsItem_X12 hown hK hS hW h0 rfl 21 rfl rfl (by decide) (hts _ flX12_readsItem_41) dX12_readsItem_182 ?_
                have h_30 : τ (G a0 21) = 50 := gty hS h0 (k := 21) rfl rfl
                refine lv_aload_n hx hb dX12_readsItem_185 rfl (lv_at hl 1 rfl) ?_
                refine j_getI hx hb (C := RX12) (T := TX12) (N := 41) hts inX12_readsItem_X12 hown hK hS hW h0 rfl 22 rfl rfl (by decide) (hts _ flX12_readsItem_204) dX12_readsItem_186 ?_
                rw [Eitems]
                refine lv_aload_n hx hb dX12_readsItem_189 rfl (lv_at hl 1 rfl) ?_
                refine j_getI hx hb (C := RX12) (T := TX12) (N := 41) hts inX12_readsItem_X12 hown hK hS hW h0 rfl 24 rfl rfl (by decide) (hts _ flX12_readsItem_201) dX12_readsItem_190 ?_
                rw [EkeyLong]
                have := fbd hW h0 (k := 24) (lo := 0) (hi := 24) rfl rfl
                try simp only [EkeyLong] at this
                refine j_ast hx hb hK hS hA hW hF h_30 (n := 20) (lo := 0) (hi := 24) rfl (by omega) (by omega) (by decide) (by omega) dX12_readsItem_193 (fun σ_31 H locs e_32 hW hF => ?_)
                have hR := fr_up hR e_32 h_30 50000 (cdA 50 (by decide) _) (by decide)
                have Eplace0 : σ_31 a0 12 = σ_25 a0 12 := (fld_up e_32 h_30 h0 (fun q => absurd q.1 (by decide))).trans Eplace0
                have Elength0 : σ_31 a0 13 = σ a0 13 := (fld_up e_32 h_30 h0 (fun q => absurd q.1 (by decide))).trans Elength0
                have Eitems : σ_31 a0 22 = σ a0 22 := (fld_up e_32 h_30 h0 (fun q => absurd q.1 (by decide))).trans Eitems
                have Eil : σ_31 (G a0 19) = σ_15 (G a0 19) := (row_up e_32 h_30 hk_il (by decide)).trans Eil
                have EkeyLong : σ_31 a0 24 = σ_25 a0 24 := (fld_up e_32 h_30 h0 (fun q => absurd q.1 (by decide))).trans EkeyLong
                refine lv_aload_n hx hb dX12_readsItem_194 rfl (lv_at hl 1 rfl) ?_
                refine lv_aload_n hx hb dX12_readsItem_195 rfl (lv_at hl 1 rfl) ?_
                refine j_getI hx hb (C := RX12) (T := TX12) (N := 41) hts inX12_readsItem_X12 hown hK hS hW h0 rfl 22 rfl rfl (by decide) (hts _ flX12_readsItem_204) dX12_readsItem_196 ?_
                rw [Eitems]
                refine j_const hx hb dX12_readsItem_199 ?_
                refine j_add hx hb dX12_readsItem_200 ?_
                refine j_putI hx hb (C := RX12) (T := TX12) (N := 41) hts inX12_readsItem_X12 tyX12 tyX12_ok nmX12 hown hK hS hA hW hF h0 rfl 22 (lo := 0) (hi := 20) rfl rfl (by decide) (hts _ flX12_readsItem_204) rfl .int rfl (by omega) rfl rfl dX12_readsItem_201 (fun σ_33 H locs e_34 hW hF => ?_)
                have hR := fr_up hR e_34 h0 13022 rfl (by decide)
                have Eplace0 : σ_33 a0 12 = σ_25 a0 12 := (fld_up e_34 h0 h0 (fun q => absurd q.2 (by decide))).trans Eplace0
                have Elength0 : σ_33 a0 13 = σ a0 13 := (fld_up e_34 h0 h0 (fun q => absurd q.2 (by decide))).trans Elength0
                have Eil : σ_33 (G a0 19) = σ_15 (G a0 19) := (row_up e_34 h0 hk_il (by decide)).trans Eil
                have EkeyLong : σ_33 a0 24 = σ_25 a0 24 := (fld_up e_34 h0 h0 (fun q => absurd q.2 (by decide))).trans EkeyLong
                have hfk : σ_33 a0 22 = (σ a0 22) + 1 := by rw [e_34]; exact up2_at _ _ _ _
                refine j_const hx hb dX12_readsItem_204 ?_
                exact hRet 205 _ _ _ 1 _ dX12_readsItem_205 hW hF (by omega) ⟨(by first | exact ⟨fun _ s s0 s1 => hil1 s s0 (by omega), by omega⟩ | (simp only [Eplace0, Elength0, Eil, EkeyLong]; exact ⟨fun _ s s0 s1 => hil1 s s0 (by omega), by omega⟩)), hR⟩
              · refine j_const hx hb dX12_readsItem_166 ?_
                exact hRet 167 _ _ _ 0 _ dX12_readsItem_167 hW hF (by omega) ⟨(by first | exact ⟨fun h => (by exfalso; omega), by omega⟩ | (simp only [Elength0, Eitems, Eil]; exact ⟨fun h => (by exfalso; omega), by omega⟩)), hR⟩
        · refine lv_aload_n hx hb dX12_readsItem_113 rfl (lv_at hl 1 rfl) ?_
          refine j_bi hx hb dX12_readsItem_114 (by decide) ?_
          refine j_cI (j_runV (As := [.int (jI 61)]) (rest := []) hx hb hml hown hts hK hS hW (kX12_takesSign l hS σ_15 (a0 := a0) (h0 := h0) (x1 := 61) (r1 := (by decide)) (q0 := (by omega))) 1 gX12_readsItem_X12_takesSign rfl hvX12_takesSign ⟨Nat.le_of_ble_eq_true rfl, Nat.le_of_ble_eq_true rfl⟩ rfl rfl h0 rfl rfl rfl rfl hl.1 rfl (Nat.le_of_ble_eq_true rfl) dX12_readsItem_116 ⟨Nat.le_of_ble_eq_true rfl, Nat.le_of_ble_eq_true rfl⟩) hA hF (fun v_35 σ_36 H locs hW hF rv_35 pv_35 => ?_)
          try dsimp only at pv_35
          obtain ⟨bpv_35, pv_35, fpv_35⟩ := pv_35
          try simp only [Eplace0, Elength0, Eitems, EkeyLong] at pv_35
          have q_takesSign := pv_35
          have hR := fr_call hR fpv_35 (by decide)
          have Elength0 : σ_36 a0 13 = σ a0 13 := (fr_at fpv_35 h0 13 13013 rfl (by decide)).trans Elength0
          have Eitems : σ_36 a0 22 = σ a0 22 := (fr_at fpv_35 h0 22 13022 rfl (by decide)).trans Eitems
          have Eil : σ_36 (G a0 19) = σ_15 (G a0 19) := row_fr fpv_35 hk_il 48 (by decide) (by decide)
          have EkeyLong : σ_36 a0 24 = σ_10 a0 24 := (fr_at fpv_35 h0 24 13024 rfl (by decide)).trans EkeyLong
          refine j_if_eq (tgt := 129) hx hb (by omega) dX12_readsItem_119 (by decide) (fun c_37 => ?_) (fun c_37 => ?_)
          · refine j_const hx hb dX12_readsItem_129 ?_
            exact hRet 130 _ _ _ 0 _ dX12_readsItem_130 hW hF (by omega) ⟨(by first | exact ⟨fun h => (by exfalso; omega), by omega⟩ | (simp only [Elength0, Eitems, Eil, EkeyLong]; exact ⟨fun h => (by exfalso; omega), by omega⟩)), hR⟩
          · refine lv_aload_n hx hb dX12_readsItem_122 rfl (lv_at hl 1 rfl) ?_
            refine j_cI (j_runV (As := []) (rest := []) hx hb hml hown hts hK hS hW (kX12_readsNumber l hS σ_36 (a0 := a0) (h0 := h0)) 0 gX12_readsItem_X12_readsNumber rfl hvX12_readsNumber ⟨Nat.le_of_ble_eq_true rfl, Nat.le_of_ble_eq_true rfl⟩ rfl rfl h0 rfl rfl rfl rfl hl.1 rfl (Nat.le_of_ble_eq_true rfl) dX12_readsItem_123 ⟨Nat.le_of_ble_eq_true rfl, Nat.le_of_ble_eq_true rfl⟩) hA hF (fun v_38 σ_39 H locs hW hF rv_38 pv_38 => ?_)
            try dsimp only at pv_38
            obtain ⟨bpv_38, pv_38, fpv_38⟩ := pv_38
            try simp only [Elength0, Eitems, Eil, EkeyLong] at pv_38
            have q_readsNumber := pv_38
            have hR := fr_call hR fpv_38 (by decide)
            have Elength0 : σ_39 a0 13 = σ a0 13 := (fr_at fpv_38 h0 13 13013 rfl (by decide)).trans Elength0
            have Eitems : σ_39 a0 22 = σ a0 22 := (fr_at fpv_38 h0 22 13022 rfl (by decide)).trans Eitems
            have Eil : σ_39 (G a0 19) = σ_15 (G a0 19) := (row_fr fpv_38 hk_il 48 (by decide) (by decide)).trans Eil
            have EkeyLong : σ_39 a0 24 = σ_10 a0 24 := (fr_at fpv_38 h0 24 13024 rfl (by decide)).trans EkeyLong
            refine j_if_ne (tgt := 131) hx hb (by omega) dX12_readsItem_126 (by decide) (fun c_40 => ?_) (fun c_40 => ?_)
            · refine lv_aload_n hx hb dX12_readsItem_131 rfl (lv_at hl 1 rfl) ?_
              refine j_getR hx hb (C := RX12) (T := TX12) (N := 41) hts inX12_readsItem_X12 hown hK hS hW h0 rfl 17 rfl rfl (by decide) (hts _ flX12_readsItem_29) dX12_readsItem_132 ?_
              have h_41 : τ (G a0 17) = 46 := gty hS h0 (k := 17) rfl rfl
              refine lv_aload_n hx hb dX12_readsItem_135 rfl (lv_at hl 1 rfl) ?_
              refine j_getI hx hb (C := RX12) (T := TX12) (N := 41) hts inX12_readsItem_X12 hown hK hS hW h0 rfl 22 rfl rfl (by decide) (hts _ flX12_readsItem_204) dX12_readsItem_136 ?_
              rw [Eitems]
              refine lv_aload_n hx hb dX12_readsItem_139 rfl (lv_at hl 1 rfl) ?_
              refine j_getI hx hb (C := RX12) (T := TX12) (N := 41) hts inX12_readsItem_X12 hown hK hS hW h0 rfl 15 rfl rfl (by decide) (hts _ flX12_readsItem_195) dX12_readsItem_140 ?_
              have := fbd hW h0 (k := 15) (lo := -2147483648) (hi := 2147483647) rfl rfl
              refine j_ast hx hb hK hS hA hW hF h_41 (n := 20) (lo := -2147483648) (hi := 2147483647) rfl (by omega) (by omega) (by decide) (by omega) dX12_readsItem_143 (fun σ_42 H locs e_43 hW hF => ?_)
              have hR := fr_up hR e_43 h_41 46000 (cdA 46 (by decide) _) (by decide)
              have Eplace0 : σ_42 a0 12 = σ_39 a0 12 := fld_up e_43 h_41 h0 (fun q => absurd q.1 (by decide))
              have Elength0 : σ_42 a0 13 = σ a0 13 := (fld_up e_43 h_41 h0 (fun q => absurd q.1 (by decide))).trans Elength0
              have Eitems : σ_42 a0 22 = σ a0 22 := (fld_up e_43 h_41 h0 (fun q => absurd q.1 (by decide))).trans Eitems
              have Eil : σ_42 (G a0 19) = σ_15 (G a0 19) := (row_up e_43 h_41 hk_il (by decide)).trans Eil
              have EkeyLong : σ_42 a0 24 = σ_10 a0 24 := (fld_up e_43 h_41 h0 (fun q => absurd q.1 (by decide))).trans EkeyLong
              refine lv_iload_n hx hb dX12_readsItem_144 rfl (lv_at hl 0 rfl) ?_
              refine j_bi hx hb dX12_readsItem_145 (by decide) ?_
              refine j_icmp_ne (tgt := 194) hx hb (by omega) (by decide) dX12_readsItem_147 (by decide) (fun c_44 => ?_) (fun c_44 => ?_)
              · refine lv_aload_n hx hb dX12_readsItem_194 rfl (lv_at hl 1 rfl) ?_
                refine lv_aload_n hx hb dX12_readsItem_195 rfl (lv_at hl 1 rfl) ?_
                refine j_getI hx hb (C := RX12) (T := TX12) (N := 41) hts inX12_readsItem_X12 hown hK hS hW h0 rfl 22 rfl rfl (by decide) (hts _ flX12_readsItem_204) dX12_readsItem_196 ?_
                rw [Eitems]
                refine j_const hx hb dX12_readsItem_199 ?_
                refine j_add hx hb dX12_readsItem_200 ?_
                refine j_putI hx hb (C := RX12) (T := TX12) (N := 41) hts inX12_readsItem_X12 tyX12 tyX12_ok nmX12 hown hK hS hA hW hF h0 rfl 22 (lo := 0) (hi := 20) rfl rfl (by decide) (hts _ flX12_readsItem_204) rfl .int rfl (by omega) rfl rfl dX12_readsItem_201 (fun σ_45 H locs e_46 hW hF => ?_)
                have hR := fr_up hR e_46 h0 13022 rfl (by decide)
                have Eplace0 : σ_45 a0 12 = σ_39 a0 12 := (fld_up e_46 h0 h0 (fun q => absurd q.2 (by decide))).trans Eplace0
                have Elength0 : σ_45 a0 13 = σ a0 13 := (fld_up e_46 h0 h0 (fun q => absurd q.2 (by decide))).trans Elength0
                have Eil : σ_45 (G a0 19) = σ_15 (G a0 19) := (row_up e_46 h0 hk_il (by decide)).trans Eil
                have EkeyLong : σ_45 a0 24 = σ_10 a0 24 := (fld_up e_46 h0 h0 (fun q => absurd q.2 (by decide))).trans EkeyLong
                have hfk : σ_45 a0 22 = (σ a0 22) + 1 := by rw [e_46]; exact up2_at _ _ _ _
                refine j_const hx hb dX12_readsItem_204 ?_
                exact hRet 205 _ _ _ 1 _ dX12_readsItem_205 hW hF (by omega) ⟨(by first | exact ⟨fun _ s s0 s1 => hil1 s s0 (by omega), by omega⟩ | (simp only [Eplace0, Elength0, Eil, EkeyLong]; exact ⟨fun _ s s0 s1 => hil1 s s0 (by omega), by omega⟩)), hR⟩
              · refine lv_aload_n hx hb dX12_readsItem_150 rfl (lv_at hl 1 rfl) ?_
                refine j_bi hx hb dX12_readsItem_151 (by decide) ?_
                refine j_cI (j_runV (As := [.int (jI 44)]) (rest := []) hx hb hml hown hts hK hS hW (kX12_takesSign l hS σ_42 (a0 := a0) (h0 := h0) (x1 := 44) (r1 := (by decide)) (q0 := (by omega))) 1 gX12_readsItem_X12_takesSign rfl hvX12_takesSign ⟨Nat.le_of_ble_eq_true rfl, Nat.le_of_ble_eq_true rfl⟩ rfl rfl h0 rfl rfl rfl rfl hl.1 rfl (Nat.le_of_ble_eq_true rfl) dX12_readsItem_153 ⟨Nat.le_of_ble_eq_true rfl, Nat.le_of_ble_eq_true rfl⟩) hA hF (fun v_47 σ_48 H locs hW hF rv_47 pv_47 => ?_)
                try dsimp only at pv_47
                obtain ⟨bpv_47, pv_47, fpv_47⟩ := pv_47
                try simp only [Eplace0, Elength0, Eitems, Eil, EkeyLong] at pv_47
                have q_takesSign := pv_47
                have hR := fr_call hR fpv_47 (by decide)
                have Elength0 : σ_48 a0 13 = σ a0 13 := (fr_at fpv_47 h0 13 13013 rfl (by decide)).trans Elength0
                have Eitems : σ_48 a0 22 = σ a0 22 := (fr_at fpv_47 h0 22 13022 rfl (by decide)).trans Eitems
                have Eil : σ_48 (G a0 19) = σ_15 (G a0 19) := (row_fr fpv_47 hk_il 48 (by decide) (by decide)).trans Eil
                have EkeyLong : σ_48 a0 24 = σ_10 a0 24 := (fr_at fpv_47 h0 24 13024 rfl (by decide)).trans EkeyLong
                refine j_if_eq (tgt := 166) hx hb (by omega) dX12_readsItem_156 (by decide) (fun c_49 => ?_) (fun c_49 => ?_)
                · refine j_const hx hb dX12_readsItem_166 ?_
                  exact hRet 167 _ _ _ 0 _ dX12_readsItem_167 hW hF (by omega) ⟨(by first | exact ⟨fun h => (by exfalso; omega), by omega⟩ | (simp only [Elength0, Eitems, Eil, EkeyLong]; exact ⟨fun h => (by exfalso; omega), by omega⟩)), hR⟩
                · refine lv_aload_n hx hb dX12_readsItem_159 rfl (lv_at hl 1 rfl) ?_
                  refine j_cI (j_runV (As := []) (rest := []) hx hb hml hown hts hK hS hW (kX12_readsKey l hS σ_48 (a0 := a0) (h0 := h0)) 0 gX12_readsItem_X12_readsKey rfl hvX12_readsKey ⟨Nat.le_of_ble_eq_true rfl, Nat.le_of_ble_eq_true rfl⟩ rfl rfl h0 rfl rfl rfl rfl hl.1 rfl (Nat.le_of_ble_eq_true rfl) dX12_readsItem_160 ⟨Nat.le_of_ble_eq_true rfl, Nat.le_of_ble_eq_true rfl⟩) hA hF (fun v_50 σ_51 H locs hW hF rv_50 pv_50 => ?_)
                  try dsimp only at pv_50
                  obtain ⟨bpv_50, pv_50, fpv_50⟩ := pv_50
                  try simp only [Elength0, Eitems, Eil, EkeyLong] at pv_50
                  have q_readsKey := pv_50
                  have hR := fr_call hR fpv_50 (by decide)
                  have Elength0 : σ_51 a0 13 = σ a0 13 := (fr_at fpv_50 h0 13 13013 rfl (by decide)).trans Elength0
                  have Eitems : σ_51 a0 22 = σ a0 22 := (fr_at fpv_50 h0 22 13022 rfl (by decide)).trans Eitems
                  have Eil : σ_51 (G a0 19) = σ_15 (G a0 19) := (row_fr fpv_50 hk_il 48 (by decide) (by decide)).trans Eil
                  refine j_if_ne (tgt := 168) hx hb (by omega) dX12_readsItem_163 (by decide) (fun c_52 => ?_) (fun c_52 => ?_)
                  · refine lv_aload_n hx hb dX12_readsItem_168 rfl (lv_at hl 1 rfl) ?_
                    refine j_getR hx hb (C := RX12) (T := TX12) (N := 41) hts inX12_readsItem_X12 hown hK hS hW h0 rfl 20 rfl rfl (by decide) (hts _ flX12_readsItem_38) dX12_readsItem_169 ?_
                    have h_53 : τ (G a0 20) = 49 := gty hS h0 (k := 20) rfl rfl
                    refine lv_aload_n hx hb dX12_readsItem_172 rfl (lv_at hl 1 rfl) ?_
                    refine j_getI hx hb (C := RX12) (T := TX12) (N := 41) hts inX12_readsItem_X12 hown hK hS hW h0 rfl 22 rfl rfl (by decide) (hts _ flX12_readsItem_204) dX12_readsItem_173 ?_
                    rw [Eitems]
                    refine lv_aload_n hx hb dX12_readsItem_176 rfl (lv_at hl 1 rfl) ?_
                    refine j_getI hx hb (C := RX12) (T := TX12) (N := 41) hts inX12_readsItem_X12 hown hK hS hW h0 rfl 23 rfl rfl (by decide) (hts _ flX12_readsItem_198) dX12_readsItem_177 ?_
                    have := fbd hW h0 (k := 23) (lo := 0) (hi := 200) rfl rfl
                    refine j_ast hx hb hK hS hA hW hF h_53 (n := 20) (lo := 0) (hi := 200) rfl (by omega) (by omega) (by decide) (by omega) dX12_readsItem_180 (fun σ_54 H locs e_55 hW hF => ?_)
                    have hR := fr_up hR e_55 h_53 49000 (cdA 49 (by decide) _) (by decide)
                    have Eplace0 : σ_54 a0 12 = σ_51 a0 12 := fld_up e_55 h_53 h0 (fun q => absurd q.1 (by decide))
                    have Elength0 : σ_54 a0 13 = σ a0 13 := (fld_up e_55 h_53 h0 (fun q => absurd q.1 (by decide))).trans Elength0
                    have Eitems : σ_54 a0 22 = σ a0 22 := (fld_up e_55 h_53 h0 (fun q => absurd q.1 (by decide))).trans Eitems
                    have Eil : σ_54 (G a0 19) = σ_15 (G a0 19) := (row_up e_55 h_53 hk_il (by decide)).trans Eil
                    have EkeyLong : σ_54 a0 24 = σ_51 a0 24 := fld_up e_55 h_53 h0 (fun q => absurd q.1 (by decide))
                    refine lv_aload_n hx hb dX12_readsItem_181 rfl (lv_at hl 1 rfl) ?_
                    refine j_getR hx hb (C := RX12) (T := TX12) (N := 41) hts inX12_readsItem_X12 hown hK hS hW h0 rfl 21 rfl rfl (by decide) (hts _ flX12_readsItem_41) dX12_readsItem_182 ?_
                    have h_56 : τ (G a0 21) = 50 := gty hS h0 (k := 21) rfl rfl
                    refine lv_aload_n hx hb dX12_readsItem_185 rfl (lv_at hl 1 rfl) ?_
                    refine j_getI hx hb (C := RX12) (T := TX12) (N := 41) hts inX12_readsItem_X12 hown hK hS hW h0 rfl 22 rfl rfl (by decide) (hts _ flX12_readsItem_204) dX12_readsItem_186 ?_
                    rw [Eitems]
                    refine lv_aload_n hx hb dX12_readsItem_189 rfl (lv_at hl 1 rfl) ?_
                    refine j_getI hx hb (C := RX12) (T := TX12) (N := 41) hts inX12_readsItem_X12 hown hK hS hW h0 rfl 24 rfl rfl (by decide) (hts _ flX12_readsItem_201) dX12_readsItem_190 ?_
                    rw [EkeyLong]
                    have := fbd hW h0 (k := 24) (lo := 0) (hi := 24) rfl rfl
                    try simp only [EkeyLong] at this
                    refine j_ast hx hb hK hS hA hW hF h_56 (n := 20) (lo := 0) (hi := 24) rfl (by omega) (by omega) (by decide) (by omega) dX12_readsItem_193 (fun σ_57 H locs e_58 hW hF => ?_)
                    have hR := fr_up hR e_58 h_56 50000 (cdA 50 (by decide) _) (by decide)
                    have Eplace0 : σ_57 a0 12 = σ_51 a0 12 := (fld_up e_58 h_56 h0 (fun q => absurd q.1 (by decide))).trans Eplace0
                    have Elength0 : σ_57 a0 13 = σ a0 13 := (fld_up e_58 h_56 h0 (fun q => absurd q.1 (by decide))).trans Elength0
                    have Eitems : σ_57 a0 22 = σ a0 22 := (fld_up e_58 h_56 h0 (fun q => absurd q.1 (by decide))).trans Eitems
                    have Eil : σ_57 (G a0 19) = σ_15 (G a0 19) := (row_up e_58 h_56 hk_il (by decide)).trans Eil
                    have EkeyLong : σ_57 a0 24 = σ_51 a0 24 := (fld_up e_58 h_56 h0 (fun q => absurd q.1 (by decide))).trans EkeyLong
                    refine lv_aload_n hx hb dX12_readsItem_194 rfl (lv_at hl 1 rfl) ?_
                    refine lv_aload_n hx hb dX12_readsItem_195 rfl (lv_at hl 1 rfl) ?_
                    refine j_getI hx hb (C := RX12) (T := TX12) (N := 41) hts inX12_readsItem_X12 hown hK hS hW h0 rfl 22 rfl rfl (by decide) (hts _ flX12_readsItem_204) dX12_readsItem_196 ?_
                    rw [Eitems]
                    refine j_const hx hb dX12_readsItem_199 ?_
                    refine j_add hx hb dX12_readsItem_200 ?_
                    refine j_putI hx hb (C := RX12) (T := TX12) (N := 41) hts inX12_readsItem_X12 tyX12 tyX12_ok nmX12 hown hK hS hA hW hF h0 rfl 22 (lo := 0) (hi := 20) rfl rfl (by decide) (hts _ flX12_readsItem_204) rfl .int rfl (by omega) rfl rfl dX12_readsItem_201 (fun σ_59 H locs e_60 hW hF => ?_)
                    have hR := fr_up hR e_60 h0 13022 rfl (by decide)
                    have Eplace0 : σ_59 a0 12 = σ_51 a0 12 := (fld_up e_60 h0 h0 (fun q => absurd q.2 (by decide))).trans Eplace0
                    have Elength0 : σ_59 a0 13 = σ a0 13 := (fld_up e_60 h0 h0 (fun q => absurd q.2 (by decide))).trans Elength0
                    have Eil : σ_59 (G a0 19) = σ_15 (G a0 19) := (row_up e_60 h0 hk_il (by decide)).trans Eil
                    have EkeyLong : σ_59 a0 24 = σ_51 a0 24 := (fld_up e_60 h0 h0 (fun q => absurd q.2 (by decide))).trans EkeyLong
                    have hfk : σ_59 a0 22 = (σ a0 22) + 1 := by rw [e_60]; exact up2_at _ _ _ _
                    refine j_const hx hb dX12_readsItem_204 ?_
                    exact hRet 205 _ _ _ 1 _ dX12_readsItem_205 hW hF (by omega) ⟨(by first | exact ⟨fun _ s s0 s1 => hil1 s s0 (by omega), by omega⟩ | (simp only [Eplace0, Elength0, Eil, EkeyLong]; exact ⟨fun _ s s0 s1 => hil1 s s0 (by omega), by omega⟩)), hR⟩
                  · refine j_const hx hb dX12_readsItem_166 ?_
                    exact hRet 167 _ _ _ 0 _ dX12_readsItem_167 hW hF (by omega) ⟨(by first | exact ⟨fun h => (by exfalso; omega), by omega⟩ | (simp only [Elength0, Eitems, Eil]; exact ⟨fun h => (by exfalso; omega), by omega⟩)), hR⟩
            · refine j_const hx hb dX12_readsItem_129 ?_
              exact hRet 130 _ _ _ 0 _ dX12_readsItem_130 hW hF (by omega) ⟨(by first | exact ⟨fun h => (by exfalso; omega), by omega⟩ | (simp only [Elength0, Eitems, Eil, EkeyLong]; exact ⟨fun h => (by exfalso; omega), by omega⟩)), hR⟩
      · refine j_const hx hb dX12_readsItem_79 ?_
        exact hRet 80 _ _ _ 0 _ dX12_readsItem_80 hW hF (by omega) ⟨(by first | exact ⟨fun h => (by exfalso; omega), by omega⟩ | (simp only [Elength0, Eitems, Eil]; exact ⟨fun h => (by exfalso; omega), by omega⟩)), hR⟩
    · refine lv_iload_n hx hb dX12_readsItem_30 rfl (lv_at hl 0 rfl) ?_
      refine j_bi hx hb dX12_readsItem_31 (by decide) ?_
      refine j_icmp_eq (tgt := 52) hx hb (by omega) (by decide) dX12_readsItem_33 (by decide) (fun c_61 => ?_) (fun c_61 => ?_)
      · refine lv_aload_n hx hb dX12_readsItem_52 rfl (lv_at hl 1 rfl) ?_
        refine j_getR hx hb (C := RX12) (T := TX12) (N := 41) hts inX12_readsItem_X12 hown hK hS hW h0 rfl 16 rfl rfl (by decide) (hts _ flX12_readsItem_26) dX12_readsItem_53 ?_
        have h_62 : τ (G a0 16) = 45 := gty hS h0 (k := 16) rfl rfl
        refine lv_aload_n hx hb dX12_readsItem_56 rfl (lv_at hl 1 rfl) ?_
        refine j_getI hx hb (C := RX12) (T := TX12) (N := 41) hts inX12_readsItem_X12 hown hK hS hW h0 rfl 22 rfl rfl (by decide) (hts _ flX12_readsItem_204) dX12_readsItem_57 ?_
        refine lv_iload_n hx hb dX12_readsItem_60 rfl (lv_at hl 0 rfl) ?_
        refine j_ast hx hb hK hS hA hW hF h_62 (n := 20) (lo := -2147483648) (hi := 2147483647) rfl (by omega) (by omega) (by decide) (by omega) dX12_readsItem_61 (fun σ_63 H locs e_64 hW hF => ?_)
        have hR := fr_up hR e_64 h_62 45000 (cdA 45 (by decide) _) (by decide)
        have Eplace0 : σ_63 a0 12 = σ a0 12 := fld_up e_64 h_62 h0 (fun q => absurd q.1 (by decide))
        have Elength0 : σ_63 a0 13 = σ a0 13 := fld_up e_64 h_62 h0 (fun q => absurd q.1 (by decide))
        have Eitems : σ_63 a0 22 = σ a0 22 := fld_up e_64 h_62 h0 (fun q => absurd q.1 (by decide))
        have Eil : σ_63 (G a0 19) = σ (G a0 19) := row_up e_64 h_62 hk_il (by decide)
        have EkeyLong : σ_63 a0 24 = σ a0 24 := fld_up e_64 h_62 h0 (fun q => absurd q.1 (by decide))
        refine lv_aload_n hx hb dX12_readsItem_62 rfl (lv_at hl 1 rfl) ?_
        refine lv_aload_n hx hb dX12_readsItem_63 rfl (lv_at hl 1 rfl) ?_
        refine j_getI hx hb (C := RX12) (T := TX12) (N := 41) hts inX12_readsItem_X12 hown hK hS hW h0 rfl 12 rfl rfl (by decide) (hts _ flX12_readsItem_180) dX12_readsItem_64 ?_
        rw [Eplace0]
        have := fbd hW h0 (k := 12) (lo := 0) (hi := 200) rfl rfl
        try simp only [Eplace0] at this
        refine j_const hx hb dX12_readsItem_67 ?_
        refine j_add hx hb dX12_readsItem_68 ?_
        refine j_putI hx hb (C := RX12) (T := TX12) (N := 41) hts inX12_readsItem_X12 tyX12 tyX12_ok nmX12 hown hK hS hA hW hF h0 rfl 12 (lo := 0) (hi := 200) rfl rfl (by decide) (hts _ flX12_readsItem_180) rfl .int rfl (by omega) rfl rfl dX12_readsItem_69 (fun σ_65 H locs e_66 hW hF => ?_)
        have hR := fr_up hR e_66 h0 13012 rfl (by decide)
        have Elength0 : σ_65 a0 13 = σ a0 13 := (fld_up e_66 h0 h0 (fun q => absurd q.2 (by decide))).trans Elength0
        have Eitems : σ_65 a0 22 = σ a0 22 := (fld_up e_66 h0 h0 (fun q => absurd q.2 (by decide))).trans Eitems
        have Eil : σ_65 (G a0 19) = σ (G a0 19) := (row_up e_66 h0 hk_il (by decide)).trans Eil
        have EkeyLong : σ_65 a0 24 = σ a0 24 := (fld_up e_66 h0 h0 (fun q => absurd q.2 (by decide))).trans EkeyLong
        have hfk : σ_65 a0 12 = (σ a0 12) + 1 := by rw [e_66]; exact up2_at _ _ _ _
        refine lv_aload_n hx hb dX12_readsItem_72 rfl (lv_at hl 1 rfl) ?_
        refine j_cI (j_runV (As := []) (rest := []) hx hb hml hown hts hK hS hW (kX12_readsKey l hS σ_65 (a0 := a0) (h0 := h0)) 0 gX12_readsItem_X12_readsKey rfl hvX12_readsKey ⟨Nat.le_of_ble_eq_true rfl, Nat.le_of_ble_eq_true rfl⟩ rfl rfl h0 rfl rfl rfl rfl hl.1 rfl (Nat.le_of_ble_eq_true rfl) dX12_readsItem_73 ⟨Nat.le_of_ble_eq_true rfl, Nat.le_of_ble_eq_true rfl⟩) hA hF (fun v_67 σ_68 H locs hW hF rv_67 pv_67 => ?_)
        try dsimp only at pv_67
        obtain ⟨bpv_67, pv_67, fpv_67⟩ := pv_67
        try simp only [Elength0, Eitems, Eil, EkeyLong] at pv_67
        have q_readsKey := pv_67
        have hR := fr_call hR fpv_67 (by decide)
        have Elength0 : σ_68 a0 13 = σ a0 13 := (fr_at fpv_67 h0 13 13013 rfl (by decide)).trans Elength0
        have Eitems : σ_68 a0 22 = σ a0 22 := (fr_at fpv_67 h0 22 13022 rfl (by decide)).trans Eitems
        have Eil : σ_68 (G a0 19) = σ (G a0 19) := (row_fr fpv_67 hk_il 48 (by decide) (by decide)).trans Eil
        refine j_if_ne (tgt := 81) hx hb (by omega) dX12_readsItem_76 (by decide) (fun c_69 => ?_) (fun c_69 => ?_)
        · have hk1 := q_readsKey.1 (by omega)
          refine lv_aload_n hx hb dX12_readsItem_81 rfl (lv_at hl 1 rfl) ?_
          refine j_getR hx hb (C := RX12) (T := TX12) (N := 41) hts inX12_readsItem_X12 hown hK hS hW h0 rfl 18 rfl rfl (by decide) (hts _ flX12_readsItem_32) dX12_readsItem_82 ?_
          have h_70 : τ (G a0 18) = 47 := gty hS h0 (k := 18) rfl rfl
          refine lv_aload_n hx hb dX12_readsItem_85 rfl (lv_at hl 1 rfl) ?_
          refine j_getI hx hb (C := RX12) (T := TX12) (N := 41) hts inX12_readsItem_X12 hown hK hS hW h0 rfl 22 rfl rfl (by decide) (hts _ flX12_readsItem_204) dX12_readsItem_86 ?_
          rw [Eitems]
          refine lv_aload_n hx hb dX12_readsItem_89 rfl (lv_at hl 1 rfl) ?_
          refine j_getI hx hb (C := RX12) (T := TX12) (N := 41) hts inX12_readsItem_X12 hown hK hS hW h0 rfl 23 rfl rfl (by decide) (hts _ flX12_readsItem_198) dX12_readsItem_90 ?_
          have := fbd hW h0 (k := 23) (lo := 0) (hi := 200) rfl rfl
          refine j_ast hx hb hK hS hA hW hF h_70 (n := 20) (lo := 0) (hi := 200) rfl (by omega) (by omega) (by decide) (by omega) dX12_readsItem_93 (fun σ_71 H locs e_72 hW hF => ?_)
          have hR := fr_up hR e_72 h_70 47000 (cdA 47 (by decide) _) (by decide)
          have Eplace0 : σ_71 a0 12 = σ_68 a0 12 := fld_up e_72 h_70 h0 (fun q => absurd q.1 (by decide))
          have Elength0 : σ_71 a0 13 = σ a0 13 := (fld_up e_72 h_70 h0 (fun q => absurd q.1 (by decide))).trans Elength0
          have Eitems : σ_71 a0 22 = σ a0 22 := (fld_up e_72 h_70 h0 (fun q => absurd q.1 (by decide))).trans Eitems
          have Eil : σ_71 (G a0 19) = σ (G a0 19) := (row_up e_72 h_70 hk_il (by decide)).trans Eil
          have EkeyLong : σ_71 a0 24 = σ_68 a0 24 := fld_up e_72 h_70 h0 (fun q => absurd q.1 (by decide))
          refine lv_aload_n hx hb dX12_readsItem_94 rfl (lv_at hl 1 rfl) ?_
          refine j_getR hx hb (C := RX12) (T := TX12) (N := 41) hts inX12_readsItem_X12 hown hK hS hW h0 rfl 19 rfl rfl (by decide) (hts _ flX12_readsItem_35) dX12_readsItem_95 ?_
          refine lv_aload_n hx hb dX12_readsItem_98 rfl (lv_at hl 1 rfl) ?_
          refine j_getI hx hb (C := RX12) (T := TX12) (N := 41) hts inX12_readsItem_X12 hown hK hS hW h0 rfl 22 rfl rfl (by decide) (hts _ flX12_readsItem_204) dX12_readsItem_99 ?_
          rw [Eitems]
          refine lv_aload_n hx hb dX12_readsItem_102 rfl (lv_at hl 1 rfl) ?_
          refine j_getI hx hb (C := RX12) (T := TX12) (N := 41) hts inX12_readsItem_X12 hown hK hS hW h0 rfl 24 rfl rfl (by decide) (hts _ flX12_readsItem_201) dX12_readsItem_103 ?_
          rw [EkeyLong]
          have := fbd hW h0 (k := 24) (lo := 0) (hi := 24) rfl rfl
          try simp only [EkeyLong] at this
          refine j_ast hx hb hK hS hA hW hF hk_il (n := 20) (lo := 0) (hi := 24) rfl (by omega) (by omega) (by decide) (by omega) dX12_readsItem_106 (fun σ_73 H locs e_74 hW hF => ?_)
          have st_il := e_74
          have hR := fr_up hR e_74 hk_il 48000 (cdA 48 (by decide) _) (by decide)
          have Eplace0 : σ_73 a0 12 = σ_68 a0 12 := (fld_up e_74 hk_il h0 (fun q => absurd q.1 (by decide))).trans Eplace0
          have Elength0 : σ_73 a0 13 = σ a0 13 := (fld_up e_74 hk_il h0 (fun q => absurd q.1 (by decide))).trans Elength0
          have Eitems : σ_73 a0 22 = σ a0 22 := (fld_up e_74 hk_il h0 (fun q => absurd q.1 (by decide))).trans Eitems
          have EkeyLong : σ_73 a0 24 = σ_68 a0 24 := (fld_up e_74 hk_il h0 (fun q => absurd q.1 (by decide))).trans EkeyLong
          have hil1 := IL_s (by first | exact q0 | (rw [Eil]; exact q0)) st_il (by omega) hk1
          refine lv_iload_n hx hb dX12_readsItem_107 rfl (lv_at hl 0 rfl) ?_
          refine j_bi hx hb dX12_readsItem_108 (by decide) ?_
          refine j_icmp_ne (tgt := 144) hx hb (by omega) (by decide) dX12_readsItem_110 (by decide) (fun c_75 => ?_) (fun c_75 => ?_)
          · refine lv_iload_n hx hb dX12_readsItem_144 rfl (lv_at hl 0 rfl) ?_
            refine j_bi hx hb dX12_readsItem_145 (by decide) ?_
            refine j_icmp_ne (tgt := 194) hx hb (by omega) (by decide) dX12_readsItem_147 (by decide) (fun c_76 => ?_) (fun c_76 => ?_)
            · refine lv_aload_n hx hb dX12_readsItem_194 rfl (lv_at hl 1 rfl) ?_
              refine lv_aload_n hx hb dX12_readsItem_195 rfl (lv_at hl 1 rfl) ?_
              refine j_getI hx hb (C := RX12) (T := TX12) (N := 41) hts inX12_readsItem_X12 hown hK hS hW h0 rfl 22 rfl rfl (by decide) (hts _ flX12_readsItem_204) dX12_readsItem_196 ?_
              rw [Eitems]
              refine j_const hx hb dX12_readsItem_199 ?_
              refine j_add hx hb dX12_readsItem_200 ?_
              refine j_putI hx hb (C := RX12) (T := TX12) (N := 41) hts inX12_readsItem_X12 tyX12 tyX12_ok nmX12 hown hK hS hA hW hF h0 rfl 22 (lo := 0) (hi := 20) rfl rfl (by decide) (hts _ flX12_readsItem_204) rfl .int rfl (by omega) rfl rfl dX12_readsItem_201 (fun σ_77 H locs e_78 hW hF => ?_)
              have hR := fr_up hR e_78 h0 13022 rfl (by decide)
              have Eplace0 : σ_77 a0 12 = σ_68 a0 12 := (fld_up e_78 h0 h0 (fun q => absurd q.2 (by decide))).trans Eplace0
              have Elength0 : σ_77 a0 13 = σ a0 13 := (fld_up e_78 h0 h0 (fun q => absurd q.2 (by decide))).trans Elength0
              have Eil : σ_77 (G a0 19) = σ_73 (G a0 19) := row_up e_78 h0 hk_il (by decide)
              have EkeyLong : σ_77 a0 24 = σ_68 a0 24 := (fld_up e_78 h0 h0 (fun q => absurd q.2 (by decide))).trans EkeyLong
              have hfk : σ_77 a0 22 = (σ a0 22) + 1 := by rw [e_78]; exact up2_at _ _ _ _
              refine j_const hx hb dX12_readsItem_204 ?_
              exact hRet 205 _ _ _ 1 _ dX12_readsItem_205 hW hF (by omega) ⟨(by first | exact ⟨fun _ s s0 s1 => hil1 s s0 (by omega), by omega⟩ | (simp only [Eplace0, Elength0, Eil, EkeyLong]; exact ⟨fun _ s s0 s1 => hil1 s s0 (by omega), by omega⟩)), hR⟩
            · refine lv_aload_n hx hb dX12_readsItem_150 rfl (lv_at hl 1 rfl) ?_
              refine j_bi hx hb dX12_readsItem_151 (by decide) ?_
              refine j_cI (j_runV (As := [.int (jI 44)]) (rest := []) hx hb hml hown hts hK hS hW (kX12_takesSign l hS σ_73 (a0 := a0) (h0 := h0) (x1 := 44) (r1 := (by decide)) (q0 := (by omega))) 1 gX12_readsItem_X12_takesSign rfl hvX12_takesSign ⟨Nat.le_of_ble_eq_true rfl, Nat.le_of_ble_eq_true rfl⟩ rfl rfl h0 rfl rfl rfl rfl hl.1 rfl (Nat.le_of_ble_eq_true rfl) dX12_readsItem_153 ⟨Nat.le_of_ble_eq_true rfl, Nat.le_of_ble_eq_true rfl⟩) hA hF (fun v_79 σ_80 H locs hW hF rv_79 pv_79 => ?_)
              try dsimp only at pv_79
              obtain ⟨bpv_79, pv_79, fpv_79⟩ := pv_79
              try simp only [Eplace0, Elength0, Eitems, EkeyLong] at pv_79
              have q_takesSign := pv_79
              have hR := fr_call hR fpv_79 (by decide)
              have Elength0 : σ_80 a0 13 = σ a0 13 := (fr_at fpv_79 h0 13 13013 rfl (by decide)).trans Elength0
              have Eitems : σ_80 a0 22 = σ a0 22 := (fr_at fpv_79 h0 22 13022 rfl (by decide)).trans Eitems
              have Eil : σ_80 (G a0 19) = σ_73 (G a0 19) := row_fr fpv_79 hk_il 48 (by decide) (by decide)
              have EkeyLong : σ_80 a0 24 = σ_68 a0 24 := (fr_at fpv_79 h0 24 13024 rfl (by decide)).trans EkeyLong
              refine j_if_eq (tgt := 166) hx hb (by omega) dX12_readsItem_156 (by decide) (fun c_81 => ?_) (fun c_81 => ?_)
              · refine j_const hx hb dX12_readsItem_166 ?_
                exact hRet 167 _ _ _ 0 _ dX12_readsItem_167 hW hF (by omega) ⟨(by first | exact ⟨fun h => (by exfalso; omega), by omega⟩ | (simp only [Elength0, Eitems, Eil, EkeyLong]; exact ⟨fun h => (by exfalso; omega), by omega⟩)), hR⟩
              · refine lv_aload_n hx hb dX12_readsItem_159 rfl (lv_at hl 1 rfl) ?_
                refine j_cI (j_runV (As := []) (rest := []) hx hb hml hown hts hK hS hW (kX12_readsKey l hS σ_80 (a0 := a0) (h0 := h0)) 0 gX12_readsItem_X12_readsKey rfl hvX12_readsKey ⟨Nat.le_of_ble_eq_true rfl, Nat.le_of_ble_eq_true rfl⟩ rfl rfl h0 rfl rfl rfl rfl hl.1 rfl (Nat.le_of_ble_eq_true rfl) dX12_readsItem_160 ⟨Nat.le_of_ble_eq_true rfl, Nat.le_of_ble_eq_true rfl⟩) hA hF (fun v_82 σ_83 H locs hW hF rv_82 pv_82 => ?_)
                try dsimp only at pv_82
                obtain ⟨bpv_82, pv_82, fpv_82⟩ := pv_82
                try simp only [Elength0, Eitems, Eil, EkeyLong] at pv_82
                have q_readsKey := pv_82
                have hR := fr_call hR fpv_82 (by decide)
                have Elength0 : σ_83 a0 13 = σ a0 13 := (fr_at fpv_82 h0 13 13013 rfl (by decide)).trans Elength0
                have Eitems : σ_83 a0 22 = σ a0 22 := (fr_at fpv_82 h0 22 13022 rfl (by decide)).trans Eitems
                have Eil : σ_83 (G a0 19) = σ_73 (G a0 19) := (row_fr fpv_82 hk_il 48 (by decide) (by decide)).trans Eil
                refine j_if_ne (tgt := 168) hx hb (by omega) dX12_readsItem_163 (by decide) (fun c_84 => ?_) (fun c_84 => ?_)
                · refine lv_aload_n hx hb dX12_readsItem_168 rfl (lv_at hl 1 rfl) ?_
                  refine j_getR hx hb (C := RX12) (T := TX12) (N := 41) hts inX12_readsItem_X12 hown hK hS hW h0 rfl 20 rfl rfl (by decide) (hts _ flX12_readsItem_38) dX12_readsItem_169 ?_
                  have h_85 : τ (G a0 20) = 49 := gty hS h0 (k := 20) rfl rfl
                  refine lv_aload_n hx hb dX12_readsItem_172 rfl (lv_at hl 1 rfl) ?_
                  refine j_getI hx hb (C := RX12) (T := TX12) (N := 41) hts inX12_readsItem_X12 hown hK hS hW h0 rfl 22 rfl rfl (by decide) (hts _ flX12_readsItem_204) dX12_readsItem_173 ?_
                  rw [Eitems]
                  refine lv_aload_n hx hb dX12_readsItem_176 rfl (lv_at hl 1 rfl) ?_
                  refine j_getI hx hb (C := RX12) (T := TX12) (N := 41) hts inX12_readsItem_X12 hown hK hS hW h0 rfl 23 rfl rfl (by decide) (hts _ flX12_readsItem_198) dX12_readsItem_177 ?_
                  have := fbd hW h0 (k := 23) (lo := 0) (hi := 200) rfl rfl
                  refine j_ast hx hb hK hS hA hW hF h_85 (n := 20) (lo := 0) (hi := 200) rfl (by omega) (by omega) (by decide) (by omega) dX12_readsItem_180 (fun σ_86 H locs e_87 hW hF => ?_)
                  have hR := fr_up hR e_87 h_85 49000 (cdA 49 (by decide) _) (by decide)
                  have Eplace0 : σ_86 a0 12 = σ_83 a0 12 := fld_up e_87 h_85 h0 (fun q => absurd q.1 (by decide))
                  have Elength0 : σ_86 a0 13 = σ a0 13 := (fld_up e_87 h_85 h0 (fun q => absurd q.1 (by decide))).trans Elength0
                  have Eitems : σ_86 a0 22 = σ a0 22 := (fld_up e_87 h_85 h0 (fun q => absurd q.1 (by decide))).trans Eitems
                  have Eil : σ_86 (G a0 19) = σ_73 (G a0 19) := (row_up e_87 h_85 hk_il (by decide)).trans Eil
                  have EkeyLong : σ_86 a0 24 = σ_83 a0 24 := fld_up e_87 h_85 h0 (fun q => absurd q.1 (by decide))
                  refine lv_aload_n hx hb dX12_readsItem_181 rfl (lv_at hl 1 rfl) ?_
                  refine j_getR hx hb (C := RX12) (T := TX12) (N := 41) hts inX12_readsItem_X12 hown hK hS hW h0 rfl 21 rfl rfl (by decide) (hts _ flX12_readsItem_41) dX12_readsItem_182 ?_
                  have h_88 : τ (G a0 21) = 50 := gty hS h0 (k := 21) rfl rfl
                  refine lv_aload_n hx hb dX12_readsItem_185 rfl (lv_at hl 1 rfl) ?_
                  refine j_getI hx hb (C := RX12) (T := TX12) (N := 41) hts inX12_readsItem_X12 hown hK hS hW h0 rfl 22 rfl rfl (by decide) (hts _ flX12_readsItem_204) dX12_readsItem_186 ?_
                  rw [Eitems]
                  refine lv_aload_n hx hb dX12_readsItem_189 rfl (lv_at hl 1 rfl) ?_
                  refine j_getI hx hb (C := RX12) (T := TX12) (N := 41) hts inX12_readsItem_X12 hown hK hS hW h0 rfl 24 rfl rfl (by decide) (hts _ flX12_readsItem_201) dX12_readsItem_190 ?_
                  rw [EkeyLong]
                  have := fbd hW h0 (k := 24) (lo := 0) (hi := 24) rfl rfl
                  try simp only [EkeyLong] at this
                  refine j_ast hx hb hK hS hA hW hF h_88 (n := 20) (lo := 0) (hi := 24) rfl (by omega) (by omega) (by decide) (by omega) dX12_readsItem_193 (fun σ_89 H locs e_90 hW hF => ?_)
                  have hR := fr_up hR e_90 h_88 50000 (cdA 50 (by decide) _) (by decide)
                  have Eplace0 : σ_89 a0 12 = σ_83 a0 12 := (fld_up e_90 h_88 h0 (fun q => absurd q.1 (by decide))).trans Eplace0
                  have Elength0 : σ_89 a0 13 = σ a0 13 := (fld_up e_90 h_88 h0 (fun q => absurd q.1 (by decide))).trans Elength0
                  have Eitems : σ_89 a0 22 = σ a0 22 := (fld_up e_90 h_88 h0 (fun q => absurd q.1 (by decide))).trans Eitems
                  have Eil : σ_89 (G a0 19) = σ_73 (G a0 19) := (row_up e_90 h_88 hk_il (by decide)).trans Eil
                  have EkeyLong : σ_89 a0 24 = σ_83 a0 24 := (fld_up e_90 h_88 h0 (fun q => absurd q.1 (by decide))).trans EkeyLong
                  refine lv_aload_n hx hb dX12_readsItem_194 rfl (lv_at hl 1 rfl) ?_
                  refine lv_aload_n hx hb dX12_readsItem_195 rfl (lv_at hl 1 rfl) ?_
                  refine j_getI hx hb (C := RX12) (T := TX12) (N := 41) hts inX12_readsItem_X12 hown hK hS hW h0 rfl 22 rfl rfl (by decide) (hts _ flX12_readsItem_204) dX12_readsItem_196 ?_
                  rw [Eitems]
                  refine j_const hx hb dX12_readsItem_199 ?_
                  refine j_add hx hb dX12_readsItem_200 ?_
                  refine j_putI hx hb (C := RX12) (T := TX12) (N := 41) hts inX12_readsItem_X12 tyX12 tyX12_ok nmX12 hown hK hS hA hW hF h0 rfl 22 (lo := 0) (hi := 20) rfl rfl (by decide) (hts _ flX12_readsItem_204) rfl .int rfl (by omega) rfl rfl dX12_readsItem_201 (fun σ_91 H locs e_92 hW hF => ?_)
                  have hR := fr_up hR e_92 h0 13022 rfl (by decide)
                  have Eplace0 : σ_91 a0 12 = σ_83 a0 12 := (fld_up e_92 h0 h0 (fun q => absurd q.2 (by decide))).trans Eplace0
                  have Elength0 : σ_91 a0 13 = σ a0 13 := (fld_up e_92 h0 h0 (fun q => absurd q.2 (by decide))).trans Elength0
                  have Eil : σ_91 (G a0 19) = σ_73 (G a0 19) := (row_up e_92 h0 hk_il (by decide)).trans Eil
                  have EkeyLong : σ_91 a0 24 = σ_83 a0 24 := (fld_up e_92 h0 h0 (fun q => absurd q.2 (by decide))).trans EkeyLong
                  have hfk : σ_91 a0 22 = (σ a0 22) + 1 := by rw [e_92]; exact up2_at _ _ _ _
                  refine j_const hx hb dX12_readsItem_204 ?_
                  exact hRet 205 _ _ _ 1 _ dX12_readsItem_205 hW hF (by omega) ⟨(by first | exact ⟨fun _ s s0 s1 => hil1 s s0 (by omega), by omega⟩ | (simp only [Eplace0, Elength0, Eil, EkeyLong]; exact ⟨fun _ s s0 s1 => hil1 s s0 (by omega), by omega⟩)), hR⟩
                · refine j_const hx hb dX12_readsItem_166 ?_
                  exact hRet 167 _ _ _ 0 _ dX12_readsItem_167 hW hF (by omega) ⟨(by first | exact ⟨fun h => (by exfalso; omega), by omega⟩ | (simp only [Elength0, Eitems, Eil]; exact ⟨fun h => (by exfalso; omega), by omega⟩)), hR⟩
          · refine lv_aload_n hx hb dX12_readsItem_113 rfl (lv_at hl 1 rfl) ?_
            refine j_bi hx hb dX12_readsItem_114 (by decide) ?_
            refine j_cI (j_runV (As := [.int (jI 61)]) (rest := []) hx hb hml hown hts hK hS hW (kX12_takesSign l hS σ_73 (a0 := a0) (h0 := h0) (x1 := 61) (r1 := (by decide)) (q0 := (by omega))) 1 gX12_readsItem_X12_takesSign rfl hvX12_takesSign ⟨Nat.le_of_ble_eq_true rfl, Nat.le_of_ble_eq_true rfl⟩ rfl rfl h0 rfl rfl rfl rfl hl.1 rfl (Nat.le_of_ble_eq_true rfl) dX12_readsItem_116 ⟨Nat.le_of_ble_eq_true rfl, Nat.le_of_ble_eq_true rfl⟩) hA hF (fun v_93 σ_94 H locs hW hF rv_93 pv_93 => ?_)
            try dsimp only at pv_93
            obtain ⟨bpv_93, pv_93, fpv_93⟩ := pv_93
            try simp only [Eplace0, Elength0, Eitems, EkeyLong] at pv_93
            have q_takesSign := pv_93
            have hR := fr_call hR fpv_93 (by decide)
            have Elength0 : σ_94 a0 13 = σ a0 13 := (fr_at fpv_93 h0 13 13013 rfl (by decide)).trans Elength0
            have Eitems : σ_94 a0 22 = σ a0 22 := (fr_at fpv_93 h0 22 13022 rfl (by decide)).trans Eitems
            have Eil : σ_94 (G a0 19) = σ_73 (G a0 19) := row_fr fpv_93 hk_il 48 (by decide) (by decide)
            have EkeyLong : σ_94 a0 24 = σ_68 a0 24 := (fr_at fpv_93 h0 24 13024 rfl (by decide)).trans EkeyLong
            refine j_if_eq (tgt := 129) hx hb (by omega) dX12_readsItem_119 (by decide) (fun c_95 => ?_) (fun c_95 => ?_)
            · refine j_const hx hb dX12_readsItem_129 ?_
              exact hRet 130 _ _ _ 0 _ dX12_readsItem_130 hW hF (by omega) ⟨(by first | exact ⟨fun h => (by exfalso; omega), by omega⟩ | (simp only [Elength0, Eitems, Eil, EkeyLong]; exact ⟨fun h => (by exfalso; omega), by omega⟩)), hR⟩
            · refine lv_aload_n hx hb dX12_readsItem_122 rfl (lv_at hl 1 rfl) ?_
              refine j_cI (j_runV (As := []) (rest := []) hx hb hml hown hts hK hS hW (kX12_readsNumber l hS σ_94 (a0 := a0) (h0 := h0)) 0 gX12_readsItem_X12_readsNumber rfl hvX12_readsNumber ⟨Nat.le_of_ble_eq_true rfl, Nat.le_of_ble_eq_true rfl⟩ rfl rfl h0 rfl rfl rfl rfl hl.1 rfl (Nat.le_of_ble_eq_true rfl) dX12_readsItem_123 ⟨Nat.le_of_ble_eq_true rfl, Nat.le_of_ble_eq_true rfl⟩) hA hF (fun v_96 σ_97 H locs hW hF rv_96 pv_96 => ?_)
              try dsimp only at pv_96
              obtain ⟨bpv_96, pv_96, fpv_96⟩ := pv_96
              try simp only [Elength0, Eitems, Eil, EkeyLong] at pv_96
              have q_readsNumber := pv_96
              have hR := fr_call hR fpv_96 (by decide)
              have Elength0 : σ_97 a0 13 = σ a0 13 := (fr_at fpv_96 h0 13 13013 rfl (by decide)).trans Elength0
              have Eitems : σ_97 a0 22 = σ a0 22 := (fr_at fpv_96 h0 22 13022 rfl (by decide)).trans Eitems
              have Eil : σ_97 (G a0 19) = σ_73 (G a0 19) := (row_fr fpv_96 hk_il 48 (by decide) (by decide)).trans Eil
              have EkeyLong : σ_97 a0 24 = σ_68 a0 24 := (fr_at fpv_96 h0 24 13024 rfl (by decide)).trans EkeyLong
              refine j_if_ne (tgt := 131) hx hb (by omega) dX12_readsItem_126 (by decide) (fun c_98 => ?_) (fun c_98 => ?_)
              · refine lv_aload_n hx hb dX12_readsItem_131 rfl (lv_at hl 1 rfl) ?_
                refine j_getR hx hb (C := RX12) (T := TX12) (N := 41) hts inX12_readsItem_X12 hown hK hS hW h0 rfl 17 rfl rfl (by decide) (hts _ flX12_readsItem_29) dX12_readsItem_132 ?_
                have h_99 : τ (G a0 17) = 46 := gty hS h0 (k := 17) rfl rfl
                refine lv_aload_n hx hb dX12_readsItem_135 rfl (lv_at hl 1 rfl) ?_
                refine j_getI hx hb (C := RX12) (T := TX12) (N := 41) hts inX12_readsItem_X12 hown hK hS hW h0 rfl 22 rfl rfl (by decide) (hts _ flX12_readsItem_204) dX12_readsItem_136 ?_
                rw [Eitems]
                refine lv_aload_n hx hb dX12_readsItem_139 rfl (lv_at hl 1 rfl) ?_
                refine j_getI hx hb (C := RX12) (T := TX12) (N := 41) hts inX12_readsItem_X12 hown hK hS hW h0 rfl 15 rfl rfl (by decide) (hts _ flX12_readsItem_195) dX12_readsItem_140 ?_
                have := fbd hW h0 (k := 15) (lo := -2147483648) (hi := 2147483647) rfl rfl
                refine j_ast hx hb hK hS hA hW hF h_99 (n := 20) (lo := -2147483648) (hi := 2147483647) rfl (by omega) (by omega) (by decide) (by omega) dX12_readsItem_143 (fun σ_100 H locs e_101 hW hF => ?_)
                have hR := fr_up hR e_101 h_99 46000 (cdA 46 (by decide) _) (by decide)
                have Eplace0 : σ_100 a0 12 = σ_97 a0 12 := fld_up e_101 h_99 h0 (fun q => absurd q.1 (by decide))
                have Elength0 : σ_100 a0 13 = σ a0 13 := (fld_up e_101 h_99 h0 (fun q => absurd q.1 (by decide))).trans Elength0
                have Eitems : σ_100 a0 22 = σ a0 22 := (fld_up e_101 h_99 h0 (fun q => absurd q.1 (by decide))).trans Eitems
                have Eil : σ_100 (G a0 19) = σ_73 (G a0 19) := (row_up e_101 h_99 hk_il (by decide)).trans Eil
                have EkeyLong : σ_100 a0 24 = σ_68 a0 24 := (fld_up e_101 h_99 h0 (fun q => absurd q.1 (by decide))).trans EkeyLong
                refine lv_iload_n hx hb dX12_readsItem_144 rfl (lv_at hl 0 rfl) ?_
                refine j_bi hx hb dX12_readsItem_145 (by decide) ?_
                refine j_icmp_ne (tgt := 194) hx hb (by omega) (by decide) dX12_readsItem_147 (by decide) (fun c_102 => ?_) (fun c_102 => ?_)
                · refine lv_aload_n hx hb dX12_readsItem_194 rfl (lv_at hl 1 rfl) ?_
                  refine lv_aload_n hx hb dX12_readsItem_195 rfl (lv_at hl 1 rfl) ?_
                  refine j_getI hx hb (C := RX12) (T := TX12) (N := 41) hts inX12_readsItem_X12 hown hK hS hW h0 rfl 22 rfl rfl (by decide) (hts _ flX12_readsItem_204) dX12_readsItem_196 ?_
                  rw [Eitems]
                  refine j_const hx hb dX12_readsItem_199 ?_
                  refine j_add hx hb dX12_readsItem_200 ?_
                  refine j_putI hx hb (C := RX12) (T := TX12) (N := 41) hts inX12_readsItem_X12 tyX12 tyX12_ok nmX12 hown hK hS hA hW hF h0 rfl 22 (lo := 0) (hi := 20) rfl rfl (by decide) (hts _ flX12_readsItem_204) rfl .int rfl (by omega) rfl rfl dX12_readsItem_201 (fun σ_103 H locs e_104 hW hF => ?_)
                  have hR := fr_up hR e_104 h0 13022 rfl (by decide)
                  have Eplace0 : σ_103 a0 12 = σ_97 a0 12 := (fld_up e_104 h0 h0 (fun q => absurd q.2 (by decide))).trans Eplace0
                  have Elength0 : σ_103 a0 13 = σ a0 13 := (fld_up e_104 h0 h0 (fun q => absurd q.2 (by decide))).trans Elength0
                  have Eil : σ_103 (G a0 19) = σ_73 (G a0 19) := (row_up e_104 h0 hk_il (by decide)).trans Eil
                  have EkeyLong : σ_103 a0 24 = σ_68 a0 24 := (fld_up e_104 h0 h0 (fun q => absurd q.2 (by decide))).trans EkeyLong
                  have hfk : σ_103 a0 22 = (σ a0 22) + 1 := by rw [e_104]; exact up2_at _ _ _ _
                  refine j_const hx hb dX12_readsItem_204 ?_
                  exact hRet 205 _ _ _ 1 _ dX12_readsItem_205 hW hF (by omega) ⟨(by first | exact ⟨fun _ s s0 s1 => hil1 s s0 (by omega), by omega⟩ | (simp only [Eplace0, Elength0, Eil, EkeyLong]; exact ⟨fun _ s s0 s1 => hil1 s s0 (by omega), by omega⟩)), hR⟩
                · refine lv_aload_n hx hb dX12_readsItem_150 rfl (lv_at hl 1 rfl) ?_
                  refine j_bi hx hb dX12_readsItem_151 (by decide) ?_
                  refine j_cI (j_runV (As := [.int (jI 44)]) (rest := []) hx hb hml hown hts hK hS hW (kX12_takesSign l hS σ_100 (a0 := a0) (h0 := h0) (x1 := 44) (r1 := (by decide)) (q0 := (by omega))) 1 gX12_readsItem_X12_takesSign rfl hvX12_takesSign ⟨Nat.le_of_ble_eq_true rfl, Nat.le_of_ble_eq_true rfl⟩ rfl rfl h0 rfl rfl rfl rfl hl.1 rfl (Nat.le_of_ble_eq_true rfl) dX12_readsItem_153 ⟨Nat.le_of_ble_eq_true rfl, Nat.le_of_ble_eq_true rfl⟩) hA hF (fun v_105 σ_106 H locs hW hF rv_105 pv_105 => ?_)
                  try dsimp only at pv_105
                  obtain ⟨bpv_105, pv_105, fpv_105⟩ := pv_105
                  try simp only [Eplace0, Elength0, Eitems, Eil, EkeyLong] at pv_105
                  have q_takesSign := pv_105
                  have hR := fr_call hR fpv_105 (by decide)
                  have Elength0 : σ_106 a0 13 = σ a0 13 := (fr_at fpv_105 h0 13 13013 rfl (by decide)).trans Elength0
                  have Eitems : σ_106 a0 22 = σ a0 22 := (fr_at fpv_105 h0 22 13022 rfl (by decide)).trans Eitems
                  have Eil : σ_106 (G a0 19) = σ_73 (G a0 19) := (row_fr fpv_105 hk_il 48 (by decide) (by decide)).trans Eil
                  have EkeyLong : σ_106 a0 24 = σ_68 a0 24 := (fr_at fpv_105 h0 24 13024 rfl (by decide)).trans EkeyLong
                  refine j_if_eq (tgt := 166) hx hb (by omega) dX12_readsItem_156 (by decide) (fun c_107 => ?_) (fun c_107 => ?_)
                  · refine j_const hx hb dX12_readsItem_166 ?_
                    exact hRet 167 _ _ _ 0 _ dX12_readsItem_167 hW hF (by omega) ⟨(by first | exact ⟨fun h => (by exfalso; omega), by omega⟩ | (simp only [Elength0, Eitems, Eil, EkeyLong]; exact ⟨fun h => (by exfalso; omega), by omega⟩)), hR⟩
                  · refine lv_aload_n hx hb dX12_readsItem_159 rfl (lv_at hl 1 rfl) ?_
                    refine j_cI (j_runV (As := []) (rest := []) hx hb hml hown hts hK hS hW (kX12_readsKey l hS σ_106 (a0 := a0) (h0 := h0)) 0 gX12_readsItem_X12_readsKey rfl hvX12_readsKey ⟨Nat.le_of_ble_eq_true rfl, Nat.le_of_ble_eq_true rfl⟩ rfl rfl h0 rfl rfl rfl rfl hl.1 rfl (Nat.le_of_ble_eq_true rfl) dX12_readsItem_160 ⟨Nat.le_of_ble_eq_true rfl, Nat.le_of_ble_eq_true rfl⟩) hA hF (fun v_108 σ_109 H locs hW hF rv_108 pv_108 => ?_)
                    try dsimp only at pv_108
                    obtain ⟨bpv_108, pv_108, fpv_108⟩ := pv_108
                    try simp only [Elength0, Eitems, Eil, EkeyLong] at pv_108
                    have q_readsKey := pv_108
                    have hR := fr_call hR fpv_108 (by decide)
                    have Elength0 : σ_109 a0 13 = σ a0 13 := (fr_at fpv_108 h0 13 13013 rfl (by decide)).trans Elength0
                    have Eitems : σ_109 a0 22 = σ a0 22 := (fr_at fpv_108 h0 22 13022 rfl (by decide)).trans Eitems
                    have Eil : σ_109 (G a0 19) = σ_73 (G a0 19) := (row_fr fpv_108 hk_il 48 (by decide) (by decide)).trans Eil
                    refine j_if_ne (tgt := 168) hx hb (by omega) dX12_readsItem_163 (by decide) (fun c_110 => ?_) (fun c_110 => ?_)
                    · refine lv_aload_n hx hb dX12_readsItem_168 rfl (lv_at hl 1 rfl) ?_
                      refine j_getR hx hb (C := RX12) (T := TX12) (N := 41) hts inX12_readsItem_X12 hown hK hS hW h0 rfl 20 rfl rfl (by decide) (hts _ flX12_readsItem_38) dX12_readsItem_169 ?_
                      have h_111 : τ (G a0 20) = 49 := gty hS h0 (k := 20) rfl rfl
                      refine lv_aload_n hx hb dX12_readsItem_172 rfl (lv_at hl 1 rfl) ?_
                      refine j_getI hx hb (C := RX12) (T := TX12) (N := 41) hts inX12_readsItem_X12 hown hK hS hW h0 rfl 22 rfl rfl (by decide) (hts _ flX12_readsItem_204) dX12_readsItem_173 ?_
                      rw [Eitems]
                      refine lv_aload_n hx hb dX12_readsItem_176 rfl (lv_at hl 1 rfl) ?_
                      refine j_getI hx hb (C := RX12) (T := TX12) (N := 41) hts inX12_readsItem_X12 hown hK hS hW h0 rfl 23 rfl rfl (by decide) (hts _ flX12_readsItem_198) dX12_readsItem_177 ?_
                      have := fbd hW h0 (k := 23) (lo := 0) (hi := 200) rfl rfl
                      refine j_ast hx hb hK hS hA hW hF h_111 (n := 20) (lo := 0) (hi := 200) rfl (by omega) (by omega) (by decide) (by omega) dX12_readsItem_180 (fun σ_112 H locs e_113 hW hF => ?_)
                      have hR := fr_up hR e_113 h_111 49000 (cdA 49 (by decide) _) (by decide)
                      have Eplace0 : σ_112 a0 12 = σ_109 a0 12 := fld_up e_113 h_111 h0 (fun q => absurd q.1 (by decide))
                      have Elength0 : σ_112 a0 13 = σ a0 13 := (fld_up e_113 h_111 h0 (fun q => absurd q.1 (by decide))).trans Elength0
                      have Eitems : σ_112 a0 22 = σ a0 22 := (fld_up e_113 h_111 h0 (fun q => absurd q.1 (by decide))).trans Eitems
                      have Eil : σ_112 (G a0 19) = σ_73 (G a0 19) := (row_up e_113 h_111 hk_il (by decide)).trans Eil
                      have EkeyLong : σ_112 a0 24 = σ_109 a0 24 := fld_up e_113 h_111 h0 (fun q => absurd q.1 (by decide))
                      refine lv_aload_n hx hb dX12_readsItem_181 rfl (lv_at hl 1 rfl) ?_
                      refine j_getR hx hb (C := RX12) (T := TX12) (N := 41) hts inX12_readsItem_X12 hown hK hS hW h0 rfl 21 rfl rfl (by decide) (hts _ flX12_readsItem_41) dX12_readsItem_182 ?_
                      have h_114 : τ (G a0 21) = 50 := gty hS h0 (k := 21) rfl rfl
                      refine lv_aload_n hx hb dX12_readsItem_185 rfl (lv_at hl 1 rfl) ?_
                      refine j_getI hx hb (C := RX12) (T := TX12) (N := 41) hts inX12_readsItem_X12 hown hK hS hW h0 rfl 22 rfl rfl (by decide) (hts _ flX12_readsItem_204) dX12_readsItem_186 ?_
                      rw [Eitems]
                      refine lv_aload_n hx hb dX12_readsItem_189 rfl (lv_at hl 1 rfl) ?_
                      refine j_getI hx hb (C := RX12) (T := TX12) (N := 41) hts inX12_readsItem_X12 hown hK hS hW h0 rfl 24 rfl rfl (by decide) (hts _ flX12_readsItem_201) dX12_readsItem_190 ?_
                      rw [EkeyLong]
                      have := fbd hW h0 (k := 24) (lo := 0) (hi := 24) rfl rfl
                      try simp only [EkeyLong] at this
                      refine j_ast hx hb hK hS hA hW hF h_114 (n := 20) (lo := 0) (hi := 24) rfl (by omega) (by omega) (by decide) (by omega) dX12_readsItem_193 (fun σ_115 H locs e_116 hW hF => ?_)
                      have hR := fr_up hR e_116 h_114 50000 (cdA 50 (by decide) _) (by decide)
                      have Eplace0 : σ_115 a0 12 = σ_109 a0 12 := (fld_up e_116 h_114 h0 (fun q => absurd q.1 (by decide))).trans Eplace0
                      have Elength0 : σ_115 a0 13 = σ a0 13 := (fld_up e_116 h_114 h0 (fun q => absurd q.1 (by decide))).trans Elength0
                      have Eitems : σ_115 a0 22 = σ a0 22 := (fld_up e_116 h_114 h0 (fun q => absurd q.1 (by decide))).trans Eitems
                      have Eil : σ_115 (G a0 19) = σ_73 (G a0 19) := (row_up e_116 h_114 hk_il (by decide)).trans Eil
                      have EkeyLong : σ_115 a0 24 = σ_109 a0 24 := (fld_up e_116 h_114 h0 (fun q => absurd q.1 (by decide))).trans EkeyLong
                      refine lv_aload_n hx hb dX12_readsItem_194 rfl (lv_at hl 1 rfl) ?_
                      refine lv_aload_n hx hb dX12_readsItem_195 rfl (lv_at hl 1 rfl) ?_
                      refine j_getI hx hb (C := RX12) (T := TX12) (N := 41) hts inX12_readsItem_X12 hown hK hS hW h0 rfl 22 rfl rfl (by decide) (hts _ flX12_readsItem_204) dX12_readsItem_196 ?_
                      rw [Eitems]
                      refine j_const hx hb dX12_readsItem_199 ?_
                      refine j_add hx hb dX12_readsItem_200 ?_
                      refine j_putI hx hb (C := RX12) (T := TX12) (N := 41) hts inX12_readsItem_X12 tyX12 tyX12_ok nmX12 hown hK hS hA hW hF h0 rfl 22 (lo := 0) (hi := 20) rfl rfl (by decide) (hts _ flX12_readsItem_204) rfl .int rfl (by omega) rfl rfl dX12_readsItem_201 (fun σ_117 H locs e_118 hW hF => ?_)
                      have hR := fr_up hR e_118 h0 13022 rfl (by decide)
                      have Eplace0 : σ_117 a0 12 = σ_109 a0 12 := (fld_up e_118 h0 h0 (fun q => absurd q.2 (by decide))).trans Eplace0
                      have Elength0 : σ_117 a0 13 = σ a0 13 := (fld_up e_118 h0 h0 (fun q => absurd q.2 (by decide))).trans Elength0
                      have Eil : σ_117 (G a0 19) = σ_73 (G a0 19) := (row_up e_118 h0 hk_il (by decide)).trans Eil
                      have EkeyLong : σ_117 a0 24 = σ_109 a0 24 := (fld_up e_118 h0 h0 (fun q => absurd q.2 (by decide))).trans EkeyLong
                      have hfk : σ_117 a0 22 = (σ a0 22) + 1 := by rw [e_118]; exact up2_at _ _ _ _
                      refine j_const hx hb dX12_readsItem_204 ?_
                      exact hRet 205 _ _ _ 1 _ dX12_readsItem_205 hW hF (by omega) ⟨(by first | exact ⟨fun _ s s0 s1 => hil1 s s0 (by omega), by omega⟩ | (simp only [Eplace0, Elength0, Eil, EkeyLong]; exact ⟨fun _ s s0 s1 => hil1 s s0 (by omega), by omega⟩)), hR⟩
                    · refine j_const hx hb dX12_readsItem_166 ?_
                      exact hRet 167 _ _ _ 0 _ dX12_readsItem_167 hW hF (by omega) ⟨(by first | exact ⟨fun h => (by exfalso; omega), by omega⟩ | (simp only [Elength0, Eitems, Eil]; exact ⟨fun h => (by exfalso; omega), by omega⟩)), hR⟩
              · refine j_const hx hb dX12_readsItem_129 ?_
                exact hRet 130 _ _ _ 0 _ dX12_readsItem_130 hW hF (by omega) ⟨(by first | exact ⟨fun h => (by exfalso; omega), by omega⟩ | (simp only [Elength0, Eitems, Eil, EkeyLong]; exact ⟨fun h => (by exfalso; omega), by omega⟩)), hR⟩
        · refine j_const hx hb dX12_readsItem_79 ?_
          exact hRet 80 _ _ _ 0 _ dX12_readsItem_80 hW hF (by omega) ⟨(by first | exact ⟨fun h => (by exfalso; omega), by omega⟩ | (simp only [Elength0, Eitems, Eil]; exact ⟨fun h => (by exfalso; omega), by omega⟩)), hR⟩
      · refine lv_iload_n hx hb dX12_readsItem_36 rfl (lv_at hl 0 rfl) ?_
        refine j_bi hx hb dX12_readsItem_37 (by decide) ?_
        refine j_icmp_eq (tgt := 52) hx hb (by omega) (by decide) dX12_readsItem_39 (by decide) (fun c_119 => ?_) (fun c_119 => ?_)
        · refine lv_aload_n hx hb dX12_readsItem_52 rfl (lv_at hl 1 rfl) ?_
          refine j_getR hx hb (C := RX12) (T := TX12) (N := 41) hts inX12_readsItem_X12 hown hK hS hW h0 rfl 16 rfl rfl (by decide) (hts _ flX12_readsItem_26) dX12_readsItem_53 ?_
          have h_120 : τ (G a0 16) = 45 := gty hS h0 (k := 16) rfl rfl
          refine lv_aload_n hx hb dX12_readsItem_56 rfl (lv_at hl 1 rfl) ?_
          refine j_getI hx hb (C := RX12) (T := TX12) (N := 41) hts inX12_readsItem_X12 hown hK hS hW h0 rfl 22 rfl rfl (by decide) (hts _ flX12_readsItem_204) dX12_readsItem_57 ?_
          refine lv_iload_n hx hb dX12_readsItem_60 rfl (lv_at hl 0 rfl) ?_
          refine j_ast hx hb hK hS hA hW hF h_120 (n := 20) (lo := -2147483648) (hi := 2147483647) rfl (by omega) (by omega) (by decide) (by omega) dX12_readsItem_61 (fun σ_121 H locs e_122 hW hF => ?_)
          have hR := fr_up hR e_122 h_120 45000 (cdA 45 (by decide) _) (by decide)
          have Eplace0 : σ_121 a0 12 = σ a0 12 := fld_up e_122 h_120 h0 (fun q => absurd q.1 (by decide))
          have Elength0 : σ_121 a0 13 = σ a0 13 := fld_up e_122 h_120 h0 (fun q => absurd q.1 (by decide))
          have Eitems : σ_121 a0 22 = σ a0 22 := fld_up e_122 h_120 h0 (fun q => absurd q.1 (by decide))
          have Eil : σ_121 (G a0 19) = σ (G a0 19) := row_up e_122 h_120 hk_il (by decide)
          have EkeyLong : σ_121 a0 24 = σ a0 24 := fld_up e_122 h_120 h0 (fun q => absurd q.1 (by decide))
          refine lv_aload_n hx hb dX12_readsItem_62 rfl (lv_at hl 1 rfl) ?_
          refine lv_aload_n hx hb dX12_readsItem_63 rfl (lv_at hl 1 rfl) ?_
          refine j_getI hx hb (C := RX12) (T := TX12) (N := 41) hts inX12_readsItem_X12 hown hK hS hW h0 rfl 12 rfl rfl (by decide) (hts _ flX12_readsItem_180) dX12_readsItem_64 ?_
          rw [Eplace0]
          have := fbd hW h0 (k := 12) (lo := 0) (hi := 200) rfl rfl
          try simp only [Eplace0] at this
          refine j_const hx hb dX12_readsItem_67 ?_
          refine j_add hx hb dX12_readsItem_68 ?_
          refine j_putI hx hb (C := RX12) (T := TX12) (N := 41) hts inX12_readsItem_X12 tyX12 tyX12_ok nmX12 hown hK hS hA hW hF h0 rfl 12 (lo := 0) (hi := 200) rfl rfl (by decide) (hts _ flX12_readsItem_180) rfl .int rfl (by omega) rfl rfl dX12_readsItem_69 (fun σ_123 H locs e_124 hW hF => ?_)
          have hR := fr_up hR e_124 h0 13012 rfl (by decide)
          have Elength0 : σ_123 a0 13 = σ a0 13 := (fld_up e_124 h0 h0 (fun q => absurd q.2 (by decide))).trans Elength0
          have Eitems : σ_123 a0 22 = σ a0 22 := (fld_up e_124 h0 h0 (fun q => absurd q.2 (by decide))).trans Eitems
          have Eil : σ_123 (G a0 19) = σ (G a0 19) := (row_up e_124 h0 hk_il (by decide)).trans Eil
          have EkeyLong : σ_123 a0 24 = σ a0 24 := (fld_up e_124 h0 h0 (fun q => absurd q.2 (by decide))).trans EkeyLong
          have hfk : σ_123 a0 12 = (σ a0 12) + 1 := by rw [e_124]; exact up2_at _ _ _ _
          refine lv_aload_n hx hb dX12_readsItem_72 rfl (lv_at hl 1 rfl) ?_
          refine j_cI (j_runV (As := []) (rest := []) hx hb hml hown hts hK hS hW (kX12_readsKey l hS σ_123 (a0 := a0) (h0 := h0)) 0 gX12_readsItem_X12_readsKey rfl hvX12_readsKey ⟨Nat.le_of_ble_eq_true rfl, Nat.le_of_ble_eq_true rfl⟩ rfl rfl h0 rfl rfl rfl rfl hl.1 rfl (Nat.le_of_ble_eq_true rfl) dX12_readsItem_73 ⟨Nat.le_of_ble_eq_true rfl, Nat.le_of_ble_eq_true rfl⟩) hA hF (fun v_125 σ_126 H locs hW hF rv_125 pv_125 => ?_)
          try dsimp only at pv_125
          obtain ⟨bpv_125, pv_125, fpv_125⟩ := pv_125
          try simp only [Elength0, Eitems, Eil, EkeyLong] at pv_125
          have q_readsKey := pv_125
          have hR := fr_call hR fpv_125 (by decide)
          have Elength0 : σ_126 a0 13 = σ a0 13 := (fr_at fpv_125 h0 13 13013 rfl (by decide)).trans Elength0
          have Eitems : σ_126 a0 22 = σ a0 22 := (fr_at fpv_125 h0 22 13022 rfl (by decide)).trans Eitems
          have Eil : σ_126 (G a0 19) = σ (G a0 19) := (row_fr fpv_125 hk_il 48 (by decide) (by decide)).trans Eil
          refine j_if_ne (tgt := 81) hx hb (by omega) dX12_readsItem_76 (by decide) (fun c_127 => ?_) (fun c_127 => ?_)
          · have hk1 := q_readsKey.1 (by omega)
            refine lv_aload_n hx hb dX12_readsItem_81 rfl (lv_at hl 1 rfl) ?_
            refine j_getR hx hb (C := RX12) (T := TX12) (N := 41) hts inX12_readsItem_X12 hown hK hS hW h0 rfl 18 rfl rfl (by decide) (hts _ flX12_readsItem_32) dX12_readsItem_82 ?_
            have h_128 : τ (G a0 18) = 47 := gty hS h0 (k := 18) rfl rfl
            refine lv_aload_n hx hb dX12_readsItem_85 rfl (lv_at hl 1 rfl) ?_
            refine j_getI hx hb (C := RX12) (T := TX12) (N := 41) hts inX12_readsItem_X12 hown hK hS hW h0 rfl 22 rfl rfl (by decide) (hts _ flX12_readsItem_204) dX12_readsItem_86 ?_
            rw [Eitems]
            refine lv_aload_n hx hb dX12_readsItem_89 rfl (lv_at hl 1 rfl) ?_
            refine j_getI hx hb (C := RX12) (T := TX12) (N := 41) hts inX12_readsItem_X12 hown hK hS hW h0 rfl 23 rfl rfl (by decide) (hts _ flX12_readsItem_198) dX12_readsItem_90 ?_
            have := fbd hW h0 (k := 23) (lo := 0) (hi := 200) rfl rfl
            refine j_ast hx hb hK hS hA hW hF h_128 (n := 20) (lo := 0) (hi := 200) rfl (by omega) (by omega) (by decide) (by omega) dX12_readsItem_93 (fun σ_129 H locs e_130 hW hF => ?_)
            have hR := fr_up hR e_130 h_128 47000 (cdA 47 (by decide) _) (by decide)
            have Eplace0 : σ_129 a0 12 = σ_126 a0 12 := fld_up e_130 h_128 h0 (fun q => absurd q.1 (by decide))
            have Elength0 : σ_129 a0 13 = σ a0 13 := (fld_up e_130 h_128 h0 (fun q => absurd q.1 (by decide))).trans Elength0
            have Eitems : σ_129 a0 22 = σ a0 22 := (fld_up e_130 h_128 h0 (fun q => absurd q.1 (by decide))).trans Eitems
            have Eil : σ_129 (G a0 19) = σ (G a0 19) := (row_up e_130 h_128 hk_il (by decide)).trans Eil
            have EkeyLong : σ_129 a0 24 = σ_126 a0 24 := fld_up e_130 h_128 h0 (fun q => absurd q.1 (by decide))
            refine lv_aload_n hx hb dX12_readsItem_94 rfl (lv_at hl 1 rfl) ?_
            refine j_getR hx hb (C := RX12) (T := TX12) (N := 41) hts inX12_readsItem_X12 hown hK hS hW h0 rfl 19 rfl rfl (by decide) (hts _ flX12_readsItem_35) dX12_readsItem_95 ?_
            refine lv_aload_n hx hb dX12_readsItem_98 rfl (lv_at hl 1 rfl) ?_
            refine j_getI hx hb (C := RX12) (T := TX12) (N := 41) hts inX12_readsItem_X12 hown hK hS hW h0 rfl 22 rfl rfl (by decide) (hts _ flX12_readsItem_204) dX12_readsItem_99 ?_
            rw [Eitems]
            refine lv_aload_n hx hb dX12_readsItem_102 rfl (lv_at hl 1 rfl) ?_
            refine j_getI hx hb (C := RX12) (T := TX12) (N := 41) hts inX12_readsItem_X12 hown hK hS hW h0 rfl 24 rfl rfl (by decide) (hts _ flX12_readsItem_201) dX12_readsItem_103 ?_
            rw [EkeyLong]
            have := fbd hW h0 (k := 24) (lo := 0) (hi := 24) rfl rfl
            try simp only [EkeyLong] at this
            refine j_ast hx hb hK hS hA hW hF hk_il (n := 20) (lo := 0) (hi := 24) rfl (by omega) (by omega) (by decide) (by omega) dX12_readsItem_106 (fun σ_131 H locs e_132 hW hF => ?_)
            have st_il := e_132
            have hR := fr_up hR e_132 hk_il 48000 (cdA 48 (by decide) _) (by decide)
            have Eplace0 : σ_131 a0 12 = σ_126 a0 12 := (fld_up e_132 hk_il h0 (fun q => absurd q.1 (by decide))).trans Eplace0
            have Elength0 : σ_131 a0 13 = σ a0 13 := (fld_up e_132 hk_il h0 (fun q => absurd q.1 (by decide))).trans Elength0
            have Eitems : σ_131 a0 22 = σ a0 22 := (fld_up e_132 hk_il h0 (fun q => absurd q.1 (by decide))).trans Eitems
            have EkeyLong : σ_131 a0 24 = σ_126 a0 24 := (fld_up e_132 hk_il h0 (fun q => absurd q.1 (by decide))).trans EkeyLong
            have hil1 := IL_s (by first | exact q0 | (rw [Eil]; exact q0)) st_il (by omega) hk1
            refine lv_iload_n hx hb dX12_readsItem_107 rfl (lv_at hl 0 rfl) ?_
            refine j_bi hx hb dX12_readsItem_108 (by decide) ?_
            refine j_icmp_ne (tgt := 144) hx hb (by omega) (by decide) dX12_readsItem_110 (by decide) (fun c_133 => ?_) (fun c_133 => ?_)
            · refine lv_iload_n hx hb dX12_readsItem_144 rfl (lv_at hl 0 rfl) ?_
              refine j_bi hx hb dX12_readsItem_145 (by decide) ?_
              refine j_icmp_ne (tgt := 194) hx hb (by omega) (by decide) dX12_readsItem_147 (by decide) (fun c_134 => ?_) (fun c_134 => ?_)
              · refine lv_aload_n hx hb dX12_readsItem_194 rfl (lv_at hl 1 rfl) ?_
                refine lv_aload_n hx hb dX12_readsItem_195 rfl (lv_at hl 1 rfl) ?_
                refine j_getI hx hb (C := RX12) (T := TX12) (N := 41) hts inX12_readsItem_X12 hown hK hS hW h0 rfl 22 rfl rfl (by decide) (hts _ flX12_readsItem_204) dX12_readsItem_196 ?_
                rw [Eitems]
                refine j_const hx hb dX12_readsItem_199 ?_
                refine j_add hx hb dX12_readsItem_200 ?_
                refine j_putI hx hb (C := RX12) (T := TX12) (N := 41) hts inX12_readsItem_X12 tyX12 tyX12_ok nmX12 hown hK hS hA hW hF h0 rfl 22 (lo := 0) (hi := 20) rfl rfl (by decide) (hts _ flX12_readsItem_204) rfl .int rfl (by omega) rfl rfl dX12_readsItem_201 (fun σ_135 H locs e_136 hW hF => ?_)
                have hR := fr_up hR e_136 h0 13022 rfl (by decide)
                have Eplace0 : σ_135 a0 12 = σ_126 a0 12 := (fld_up e_136 h0 h0 (fun q => absurd q.2 (by decide))).trans Eplace0
                have Elength0 : σ_135 a0 13 = σ a0 13 := (fld_up e_136 h0 h0 (fun q => absurd q.2 (by decide))).trans Elength0
                have Eil : σ_135 (G a0 19) = σ_131 (G a0 19) := row_up e_136 h0 hk_il (by decide)
                have EkeyLong : σ_135 a0 24 = σ_126 a0 24 := (fld_up e_136 h0 h0 (fun q => absurd q.2 (by decide))).trans EkeyLong
                have hfk : σ_135 a0 22 = (σ a0 22) + 1 := by rw [e_136]; exact up2_at _ _ _ _
                refine j_const hx hb dX12_readsItem_204 ?_
                exact hRet 205 _ _ _ 1 _ dX12_readsItem_205 hW hF (by omega) ⟨(by first | exact ⟨fun _ s s0 s1 => hil1 s s0 (by omega), by omega⟩ | (simp only [Eplace0, Elength0, Eil, EkeyLong]; exact ⟨fun _ s s0 s1 => hil1 s s0 (by omega), by omega⟩)), hR⟩
              · refine lv_aload_n hx hb dX12_readsItem_150 rfl (lv_at hl 1 rfl) ?_
                refine j_bi hx hb dX12_readsItem_151 (by decide) ?_
                refine j_cI (j_runV (As := [.int (jI 44)]) (rest := []) hx hb hml hown hts hK hS hW (kX12_takesSign l hS σ_131 (a0 := a0) (h0 := h0) (x1 := 44) (r1 := (by decide)) (q0 := (by omega))) 1 gX12_readsItem_X12_takesSign rfl hvX12_takesSign ⟨Nat.le_of_ble_eq_true rfl, Nat.le_of_ble_eq_true rfl⟩ rfl rfl h0 rfl rfl rfl rfl hl.1 rfl (Nat.le_of_ble_eq_true rfl) dX12_readsItem_153 ⟨Nat.le_of_ble_eq_true rfl, Nat.le_of_ble_eq_true rfl⟩) hA hF (fun v_137 σ_138 H locs hW hF rv_137 pv_137 => ?_)
                try dsimp only at pv_137
                obtain ⟨bpv_137, pv_137, fpv_137⟩ := pv_137
                try simp only [Eplace0, Elength0, Eitems, EkeyLong] at pv_137
                have q_takesSign := pv_137
                have hR := fr_call hR fpv_137 (by decide)
                have Elength0 : σ_138 a0 13 = σ a0 13 := (fr_at fpv_137 h0 13 13013 rfl (by decide)).trans Elength0
                have Eitems : σ_138 a0 22 = σ a0 22 := (fr_at fpv_137 h0 22 13022 rfl (by decide)).trans Eitems
                have Eil : σ_138 (G a0 19) = σ_131 (G a0 19) := row_fr fpv_137 hk_il 48 (by decide) (by decide)
                have EkeyLong : σ_138 a0 24 = σ_126 a0 24 := (fr_at fpv_137 h0 24 13024 rfl (by decide)).trans EkeyLong
                refine j_if_eq (tgt := 166) hx hb (by omega) dX12_readsItem_156 (by decide) (fun c_139 => ?_) (fun c_139 => ?_)
                · refine j_const hx hb dX12_readsItem_166 ?_
                  exact hRet 167 _ _ _ 0 _ dX12_readsItem_167 hW hF (by omega) ⟨(by first | exact ⟨fun h => (by exfalso; omega), by omega⟩ | (simp only [Elength0, Eitems, Eil, EkeyLong]; exact ⟨fun h => (by exfalso; omega), by omega⟩)), hR⟩
                · refine lv_aload_n hx hb dX12_readsItem_159 rfl (lv_at hl 1 rfl) ?_
                  refine j_cI (j_runV (As := []) (rest := []) hx hb hml hown hts hK hS hW (kX12_readsKey l hS σ_138 (a0 := a0) (h0 := h0)) 0 gX12_readsItem_X12_readsKey rfl hvX12_readsKey ⟨Nat.le_of_ble_eq_true rfl, Nat.le_of_ble_eq_true rfl⟩ rfl rfl h0 rfl rfl rfl rfl hl.1 rfl (Nat.le_of_ble_eq_true rfl) dX12_readsItem_160 ⟨Nat.le_of_ble_eq_true rfl, Nat.le_of_ble_eq_true rfl⟩) hA hF (fun v_140 σ_141 H locs hW hF rv_140 pv_140 => ?_)
                  try dsimp only at pv_140
                  obtain ⟨bpv_140, pv_140, fpv_140⟩ := pv_140
                  try simp only [Elength0, Eitems, Eil, EkeyLong] at pv_140
                  have q_readsKey := pv_140
                  have hR := fr_call hR fpv_140 (by decide)
                  have Elength0 : σ_141 a0 13 = σ a0 13 := (fr_at fpv_140 h0 13 13013 rfl (by decide)).trans Elength0
                  have Eitems : σ_141 a0 22 = σ a0 22 := (fr_at fpv_140 h0 22 13022 rfl (by decide)).trans Eitems
                  have Eil : σ_141 (G a0 19) = σ_131 (G a0 19) := (row_fr fpv_140 hk_il 48 (by decide) (by decide)).trans Eil
                  refine j_if_ne (tgt := 168) hx hb (by omega) dX12_readsItem_163 (by decide) (fun c_142 => ?_) (fun c_142 => ?_)
                  · refine lv_aload_n hx hb dX12_readsItem_168 rfl (lv_at hl 1 rfl) ?_
                    refine j_getR hx hb (C := RX12) (T := TX12) (N := 41) hts inX12_readsItem_X12 hown hK hS hW h0 rfl 20 rfl rfl (by decide) (hts _ flX12_readsItem_38) dX12_readsItem_169 ?_
                    have h_143 : τ (G a0 20) = 49 := gty hS h0 (k := 20) rfl rfl
                    refine lv_aload_n hx hb dX12_readsItem_172 rfl (lv_at hl 1 rfl) ?_
                    refine j_getI hx hb (C := RX12) (T := TX12) (N := 41) hts inX12_readsItem_X12 hown hK hS hW h0 rfl 22 rfl rfl (by decide) (hts _ flX12_readsItem_204) dX12_readsItem_173 ?_
                    rw [Eitems]
                    refine lv_aload_n hx hb dX12_readsItem_176 rfl (lv_at hl 1 rfl) ?_
                    refine j_getI hx hb (C := RX12) (T := TX12) (N := 41) hts inX12_readsItem_X12 hown hK hS hW h0 rfl 23 rfl rfl (by decide) (hts _ flX12_readsItem_198) dX12_readsItem_177 ?_
                    have := fbd hW h0 (k := 23) (lo := 0) (hi := 200) rfl rfl
                    refine j_ast hx hb hK hS hA hW hF h_143 (n := 20) (lo := 0) (hi := 200) rfl (by omega) (by omega) (by decide) (by omega) dX12_readsItem_180 (fun σ_144 H locs e_145 hW hF => ?_)
                    have hR := fr_up hR e_145 h_143 49000 (cdA 49 (by decide) _) (by decide)
                    have Eplace0 : σ_144 a0 12 = σ_141 a0 12 := fld_up e_145 h_143 h0 (fun q => absurd q.1 (by decide))
                    have Elength0 : σ_144 a0 13 = σ a0 13 := (fld_up e_145 h_143 h0 (fun q => absurd q.1 (by decide))).trans Elength0
                    have Eitems : σ_144 a0 22 = σ a0 22 := (fld_up e_145 h_143 h0 (fun q => absurd q.1 (by decide))).trans Eitems
                    have Eil : σ_144 (G a0 19) = σ_131 (G a0 19) := (row_up e_145 h_143 hk_il (by decide)).trans Eil
                    have EkeyLong : σ_144 a0 24 = σ_141 a0 24 := fld_up e_145 h_143 h0 (fun q => absurd q.1 (by decide))
                    refine lv_aload_n hx hb dX12_readsItem_181 rfl (lv_at hl 1 rfl) ?_
                    refine j_getR hx hb (C := RX12) (T := TX12) (N := 41) hts inX12_readsItem_X12 hown hK hS hW h0 rfl 21 rfl rfl (by decide) (hts _ flX12_readsItem_41) dX12_readsItem_182 ?_
                    have h_146 : τ (G a0 21) = 50 := gty hS h0 (k := 21) rfl rfl
                    refine lv_aload_n hx hb dX12_readsItem_185 rfl (lv_at hl 1 rfl) ?_
                    refine j_getI hx hb (C := RX12) (T := TX12) (N := 41) hts inX12_readsItem_X12 hown hK hS hW h0 rfl 22 rfl rfl (by decide) (hts _ flX12_readsItem_204) dX12_readsItem_186 ?_
                    rw [Eitems]
                    refine lv_aload_n hx hb dX12_readsItem_189 rfl (lv_at hl 1 rfl) ?_
                    refine j_getI hx hb (C := RX12) (T := TX12) (N := 41) hts inX12_readsItem_X12 hown hK hS hW h0 rfl 24 rfl rfl (by decide) (hts _ flX12_readsItem_201) dX12_readsItem_190 ?_
                    rw [EkeyLong]
                    have := fbd hW h0 (k := 24) (lo := 0) (hi := 24) rfl rfl
                    try simp only [EkeyLong] at this
                    refine j_ast hx hb hK hS hA hW hF h_146 (n := 20) (lo := 0) (hi := 24) rfl (by omega) (by omega) (by decide) (by omega) dX12_readsItem_193 (fun σ_147 H locs e_148 hW hF => ?_)
                    have hR := fr_up hR e_148 h_146 50000 (cdA 50 (by decide) _) (by decide)
                    have Eplace0 : σ_147 a0 12 = σ_141 a0 12 := (fld_up e_148 h_146 h0 (fun q => absurd q.1 (by decide))).trans Eplace0
                    have Elength0 : σ_147 a0 13 = σ a0 13 := (fld_up e_148 h_146 h0 (fun q => absurd q.1 (by decide))).trans Elength0
                    have Eitems : σ_147 a0 22 = σ a0 22 := (fld_up e_148 h_146 h0 (fun q => absurd q.1 (by decide))).trans Eitems
                    have Eil : σ_147 (G a0 19) = σ_131 (G a0 19) := (row_up e_148 h_146 hk_il (by decide)).trans Eil
                    have EkeyLong : σ_147 a0 24 = σ_141 a0 24 := (fld_up e_148 h_146 h0 (fun q => absurd q.1 (by decide))).trans EkeyLong
                    refine lv_aload_n hx hb dX12_readsItem_194 rfl (lv_at hl 1 rfl) ?_
                    refine lv_aload_n hx hb dX12_readsItem_195 rfl (lv_at hl 1 rfl) ?_
                    refine j_getI hx hb (C := RX12) (T := TX12) (N := 41) hts inX12_readsItem_X12 hown hK hS hW h0 rfl 22 rfl rfl (by decide) (hts _ flX12_readsItem_204) dX12_readsItem_196 ?_
                    rw [Eitems]
                    refine j_const hx hb dX12_readsItem_199 ?_
                    refine j_add hx hb dX12_readsItem_200 ?_
                    refine j_putI hx hb (C := RX12) (T := TX12) (N := 41) hts inX12_readsItem_X12 tyX12 tyX12_ok nmX12 hown hK hS hA hW hF h0 rfl 22 (lo := 0) (hi := 20) rfl rfl (by decide) (hts _ flX12_readsItem_204) rfl .int rfl (by omega) rfl rfl dX12_readsItem_201 (fun σ_149 H locs e_150 hW hF => ?_)
                    have hR := fr_up hR e_150 h0 13022 rfl (by decide)
                    have Eplace0 : σ_149 a0 12 = σ_141 a0 12 := (fld_up e_150 h0 h0 (fun q => absurd q.2 (by decide))).trans Eplace0
                    have Elength0 : σ_149 a0 13 = σ a0 13 := (fld_up e_150 h0 h0 (fun q => absurd q.2 (by decide))).trans Elength0
                    have Eil : σ_149 (G a0 19) = σ_131 (G a0 19) := (row_up e_150 h0 hk_il (by decide)).trans Eil
                    have EkeyLong : σ_149 a0 24 = σ_141 a0 24 := (fld_up e_150 h0 h0 (fun q => absurd q.2 (by decide))).trans EkeyLong
                    have hfk : σ_149 a0 22 = (σ a0 22) + 1 := by rw [e_150]; exact up2_at _ _ _ _
                    refine j_const hx hb dX12_readsItem_204 ?_
                    exact hRet 205 _ _ _ 1 _ dX12_readsItem_205 hW hF (by omega) ⟨(by first | exact ⟨fun _ s s0 s1 => hil1 s s0 (by omega), by omega⟩ | (simp only [Eplace0, Elength0, Eil, EkeyLong]; exact ⟨fun _ s s0 s1 => hil1 s s0 (by omega), by omega⟩)), hR⟩
                  · refine j_const hx hb dX12_readsItem_166 ?_
                    exact hRet 167 _ _ _ 0 _ dX12_readsItem_167 hW hF (by omega) ⟨(by first | exact ⟨fun h => (by exfalso; omega), by omega⟩ | (simp only [Elength0, Eitems, Eil]; exact ⟨fun h => (by exfalso; omega), by omega⟩)), hR⟩
            · refine lv_aload_n hx hb dX12_readsItem_113 rfl (lv_at hl 1 rfl) ?_
              refine j_bi hx hb dX12_readsItem_114 (by decide) ?_
              refine j_cI (j_runV (As := [.int (jI 61)]) (rest := []) hx hb hml hown hts hK hS hW (kX12_takesSign l hS σ_131 (a0 := a0) (h0 := h0) (x1 := 61) (r1 := (by decide)) (q0 := (by omega))) 1 gX12_readsItem_X12_takesSign rfl hvX12_takesSign ⟨Nat.le_of_ble_eq_true rfl, Nat.le_of_ble_eq_true rfl⟩ rfl rfl h0 rfl rfl rfl rfl hl.1 rfl (Nat.le_of_ble_eq_true rfl) dX12_readsItem_116 ⟨Nat.le_of_ble_eq_true rfl, Nat.le_of_ble_eq_true rfl⟩) hA hF (fun v_151 σ_152 H locs hW hF rv_151 pv_151 => ?_)
              try dsimp only at pv_151
              obtain ⟨bpv_151, pv_151, fpv_151⟩ := pv_151
              try simp only [Eplace0, Elength0, Eitems, EkeyLong] at pv_151
              have q_takesSign := pv_151
              have hR := fr_call hR fpv_151 (by decide)
              have Elength0 : σ_152 a0 13 = σ a0 13 := (fr_at fpv_151 h0 13 13013 rfl (by decide)).trans Elength0
              have Eitems : σ_152 a0 22 = σ a0 22 := (fr_at fpv_151 h0 22 13022 rfl (by decide)).trans Eitems
              have Eil : σ_152 (G a0 19) = σ_131 (G a0 19) := row_fr fpv_151 hk_il 48 (by decide) (by decide)
              have EkeyLong : σ_152 a0 24 = σ_126 a0 24 := (fr_at fpv_151 h0 24 13024 rfl (by decide)).trans EkeyLong
              refine j_if_eq (tgt := 129) hx hb (by omega) dX12_readsItem_119 (by decide) (fun c_153 => ?_) (fun c_153 => ?_)
              · refine j_const hx hb dX12_readsItem_129 ?_
                exact hRet 130 _ _ _ 0 _ dX12_readsItem_130 hW hF (by omega) ⟨(by first | exact ⟨fun h => (by exfalso; omega), by omega⟩ | (simp only [Elength0, Eitems, Eil, EkeyLong]; exact ⟨fun h => (by exfalso; omega), by omega⟩)), hR⟩
              · refine lv_aload_n hx hb dX12_readsItem_122 rfl (lv_at hl 1 rfl) ?_
                refine j_cI (j_runV (As := []) (rest := []) hx hb hml hown hts hK hS hW (kX12_readsNumber l hS σ_152 (a0 := a0) (h0 := h0)) 0 gX12_readsItem_X12_readsNumber rfl hvX12_readsNumber ⟨Nat.le_of_ble_eq_true rfl, Nat.le_of_ble_eq_true rfl⟩ rfl rfl h0 rfl rfl rfl rfl hl.1 rfl (Nat.le_of_ble_eq_true rfl) dX12_readsItem_123 ⟨Nat.le_of_ble_eq_true rfl, Nat.le_of_ble_eq_true rfl⟩) hA hF (fun v_154 σ_155 H locs hW hF rv_154 pv_154 => ?_)
                try dsimp only at pv_154
                obtain ⟨bpv_154, pv_154, fpv_154⟩ := pv_154
                try simp only [Elength0, Eitems, Eil, EkeyLong] at pv_154
                have q_readsNumber := pv_154
                have hR := fr_call hR fpv_154 (by decide)
                have Elength0 : σ_155 a0 13 = σ a0 13 := (fr_at fpv_154 h0 13 13013 rfl (by decide)).trans Elength0
                have Eitems : σ_155 a0 22 = σ a0 22 := (fr_at fpv_154 h0 22 13022 rfl (by decide)).trans Eitems
                have Eil : σ_155 (G a0 19) = σ_131 (G a0 19) := (row_fr fpv_154 hk_il 48 (by decide) (by decide)).trans Eil
                have EkeyLong : σ_155 a0 24 = σ_126 a0 24 := (fr_at fpv_154 h0 24 13024 rfl (by decide)).trans EkeyLong
                refine j_if_ne (tgt := 131) hx hb (by omega) dX12_readsItem_126 (by decide) (fun c_156 => ?_) (fun c_156 => ?_)
                · refine lv_aload_n hx hb dX12_readsItem_131 rfl (lv_at hl 1 rfl) ?_
                  refine j_getR hx hb (C := RX12) (T := TX12) (N := 41) hts inX12_readsItem_X12 hown hK hS hW h0 rfl 17 rfl rfl (by decide) (hts _ flX12_readsItem_29) dX12_readsItem_132 ?_
                  have h_157 : τ (G a0 17) = 46 := gty hS h0 (k := 17) rfl rfl
                  refine lv_aload_n hx hb dX12_readsItem_135 rfl (lv_at hl 1 rfl) ?_
                  refine j_getI hx hb (C := RX12) (T := TX12) (N := 41) hts inX12_readsItem_X12 hown hK hS hW h0 rfl 22 rfl rfl (by decide) (hts _ flX12_readsItem_204) dX12_readsItem_136 ?_
                  rw [Eitems]
                  refine lv_aload_n hx hb dX12_readsItem_139 rfl (lv_at hl 1 rfl) ?_
                  refine j_getI hx hb (C := RX12) (T := TX12) (N := 41) hts inX12_readsItem_X12 hown hK hS hW h0 rfl 15 rfl rfl (by decide) (hts _ flX12_readsItem_195) dX12_readsItem_140 ?_
                  have := fbd hW h0 (k := 15) (lo := -2147483648) (hi := 2147483647) rfl rfl
                  refine j_ast hx hb hK hS hA hW hF h_157 (n := 20) (lo := -2147483648) (hi := 2147483647) rfl (by omega) (by omega) (by decide) (by omega) dX12_readsItem_143 (fun σ_158 H locs e_159 hW hF => ?_)
                  have hR := fr_up hR e_159 h_157 46000 (cdA 46 (by decide) _) (by decide)
                  have Eplace0 : σ_158 a0 12 = σ_155 a0 12 := fld_up e_159 h_157 h0 (fun q => absurd q.1 (by decide))
                  have Elength0 : σ_158 a0 13 = σ a0 13 := (fld_up e_159 h_157 h0 (fun q => absurd q.1 (by decide))).trans Elength0
                  have Eitems : σ_158 a0 22 = σ a0 22 := (fld_up e_159 h_157 h0 (fun q => absurd q.1 (by decide))).trans Eitems
                  have Eil : σ_158 (G a0 19) = σ_131 (G a0 19) := (row_up e_159 h_157 hk_il (by decide)).trans Eil
                  have EkeyLong : σ_158 a0 24 = σ_126 a0 24 := (fld_up e_159 h_157 h0 (fun q => absurd q.1 (by decide))).trans EkeyLong
                  refine lv_iload_n hx hb dX12_readsItem_144 rfl (lv_at hl 0 rfl) ?_
                  refine j_bi hx hb dX12_readsItem_145 (by decide) ?_
                  refine j_icmp_ne (tgt := 194) hx hb (by omega) (by decide) dX12_readsItem_147 (by decide) (fun c_160 => ?_) (fun c_160 => ?_)
                  · refine lv_aload_n hx hb dX12_readsItem_194 rfl (lv_at hl 1 rfl) ?_
                    refine lv_aload_n hx hb dX12_readsItem_195 rfl (lv_at hl 1 rfl) ?_
                    refine j_getI hx hb (C := RX12) (T := TX12) (N := 41) hts inX12_readsItem_X12 hown hK hS hW h0 rfl 22 rfl rfl (by decide) (hts _ flX12_readsItem_204) dX12_readsItem_196 ?_
                    rw [Eitems]
                    refine j_const hx hb dX12_readsItem_199 ?_
                    refine j_add hx hb dX12_readsItem_200 ?_
                    refine j_putI hx hb (C := RX12) (T := TX12) (N := 41) hts inX12_readsItem_X12 tyX12 tyX12_ok nmX12 hown hK hS hA hW hF h0 rfl 22 (lo := 0) (hi := 20) rfl rfl (by decide) (hts _ flX12_readsItem_204) rfl .int rfl (by omega) rfl rfl dX12_readsItem_201 (fun σ_161 H locs e_162 hW hF => ?_)
                    have hR := fr_up hR e_162 h0 13022 rfl (by decide)
                    have Eplace0 : σ_161 a0 12 = σ_155 a0 12 := (fld_up e_162 h0 h0 (fun q => absurd q.2 (by decide))).trans Eplace0
                    have Elength0 : σ_161 a0 13 = σ a0 13 := (fld_up e_162 h0 h0 (fun q => absurd q.2 (by decide))).trans Elength0
                    have Eil : σ_161 (G a0 19) = σ_131 (G a0 19) := (row_up e_162 h0 hk_il (by decide)).trans Eil
                    have EkeyLong : σ_161 a0 24 = σ_126 a0 24 := (fld_up e_162 h0 h0 (fun q => absurd q.2 (by decide))).trans EkeyLong
                    have hfk : σ_161 a0 22 = (σ a0 22) + 1 := by rw [e_162]; exact up2_at _ _ _ _
                    refine j_const hx hb dX12_readsItem_204 ?_
                    exact hRet 205 _ _ _ 1 _ dX12_readsItem_205 hW hF (by omega) ⟨(by first | exact ⟨fun _ s s0 s1 => hil1 s s0 (by omega), by omega⟩ | (simp only [Eplace0, Elength0, Eil, EkeyLong]; exact ⟨fun _ s s0 s1 => hil1 s s0 (by omega), by omega⟩)), hR⟩
                  · refine lv_aload_n hx hb dX12_readsItem_150 rfl (lv_at hl 1 rfl) ?_
                    refine j_bi hx hb dX12_readsItem_151 (by decide) ?_
                    refine j_cI (j_runV (As := [.int (jI 44)]) (rest := []) hx hb hml hown hts hK hS hW (kX12_takesSign l hS σ_158 (a0 := a0) (h0 := h0) (x1 := 44) (r1 := (by decide)) (q0 := (by omega))) 1 gX12_readsItem_X12_takesSign rfl hvX12_takesSign ⟨Nat.le_of_ble_eq_true rfl, Nat.le_of_ble_eq_true rfl⟩ rfl rfl h0 rfl rfl rfl rfl hl.1 rfl (Nat.le_of_ble_eq_true rfl) dX12_readsItem_153 ⟨Nat.le_of_ble_eq_true rfl, Nat.le_of_ble_eq_true rfl⟩) hA hF (fun v_163 σ_164 H locs hW hF rv_163 pv_163 => ?_)
                    try dsimp only at pv_163
                    obtain ⟨bpv_163, pv_163, fpv_163⟩ := pv_163
                    try simp only [Eplace0, Elength0, Eitems, Eil, EkeyLong] at pv_163
                    have q_takesSign := pv_163
                    have hR := fr_call hR fpv_163 (by decide)
                    have Elength0 : σ_164 a0 13 = σ a0 13 := (fr_at fpv_163 h0 13 13013 rfl (by decide)).trans Elength0
                    have Eitems : σ_164 a0 22 = σ a0 22 := (fr_at fpv_163 h0 22 13022 rfl (by decide)).trans Eitems
                    have Eil : σ_164 (G a0 19) = σ_131 (G a0 19) := (row_fr fpv_163 hk_il 48 (by decide) (by decide)).trans Eil
                    have EkeyLong : σ_164 a0 24 = σ_126 a0 24 := (fr_at fpv_163 h0 24 13024 rfl (by decide)).trans EkeyLong
                    refine j_if_eq (tgt := 166) hx hb (by omega) dX12_readsItem_156 (by decide) (fun c_165 => ?_) (fun c_165 => ?_)
                    · refine j_const hx hb dX12_readsItem_166 ?_
                      exact hRet 167 _ _ _ 0 _ dX12_readsItem_167 hW hF (by omega) ⟨(by first | exact ⟨fun h => (by exfalso; omega), by omega⟩ | (simp only [Elength0, Eitems, Eil, EkeyLong]; exact ⟨fun h => (by exfalso; omega), by omega⟩)), hR⟩
                    · refine lv_aload_n hx hb dX12_readsItem_159 rfl (lv_at hl 1 rfl) ?_
                      refine j_cI (j_runV (As := []) (rest := []) hx hb hml hown hts hK hS hW (kX12_readsKey l hS σ_164 (a0 := a0) (h0 := h0)) 0 gX12_readsItem_X12_readsKey rfl hvX12_readsKey ⟨Nat.le_of_ble_eq_true rfl, Nat.le_of_ble_eq_true rfl⟩ rfl rfl h0 rfl rfl rfl rfl hl.1 rfl (Nat.le_of_ble_eq_true rfl) dX12_readsItem_160 ⟨Nat.le_of_ble_eq_true rfl, Nat.le_of_ble_eq_true rfl⟩) hA hF (fun v_166 σ_167 H locs hW hF rv_166 pv_166 => ?_)
                      try dsimp only at pv_166
                      obtain ⟨bpv_166, pv_166, fpv_166⟩ := pv_166
                      try simp only [Elength0, Eitems, Eil, EkeyLong] at pv_166
                      have q_readsKey := pv_166
                      have hR := fr_call hR fpv_166 (by decide)
                      have Elength0 : σ_167 a0 13 = σ a0 13 := (fr_at fpv_166 h0 13 13013 rfl (by decide)).trans Elength0
                      have Eitems : σ_167 a0 22 = σ a0 22 := (fr_at fpv_166 h0 22 13022 rfl (by decide)).trans Eitems
                      have Eil : σ_167 (G a0 19) = σ_131 (G a0 19) := (row_fr fpv_166 hk_il 48 (by decide) (by decide)).trans Eil
                      refine j_if_ne (tgt := 168) hx hb (by omega) dX12_readsItem_163 (by decide) (fun c_168 => ?_) (fun c_168 => ?_)
                      · refine lv_aload_n hx hb dX12_readsItem_168 rfl (lv_at hl 1 rfl) ?_
                        refine j_getR hx hb (C := RX12) (T := TX12) (N := 41) hts inX12_readsItem_X12 hown hK hS hW h0 rfl 20 rfl rfl (by decide) (hts _ flX12_readsItem_38) dX12_readsItem_169 ?_
                        have h_169 : τ (G a0 20) = 49 := gty hS h0 (k := 20) rfl rfl
                        refine lv_aload_n hx hb dX12_readsItem_172 rfl (lv_at hl 1 rfl) ?_
                        refine j_getI hx hb (C := RX12) (T := TX12) (N := 41) hts inX12_readsItem_X12 hown hK hS hW h0 rfl 22 rfl rfl (by decide) (hts _ flX12_readsItem_204) dX12_readsItem_173 ?_
                        rw [Eitems]
                        refine lv_aload_n hx hb dX12_readsItem_176 rfl (lv_at hl 1 rfl) ?_
                        refine j_getI hx hb (C := RX12) (T := TX12) (N := 41) hts inX12_readsItem_X12 hown hK hS hW h0 rfl 23 rfl rfl (by decide) (hts _ flX12_readsItem_198) dX12_readsItem_177 ?_
                        have := fbd hW h0 (k := 23) (lo := 0) (hi := 200) rfl rfl
                        refine j_ast hx hb hK hS hA hW hF h_169 (n := 20) (lo := 0) (hi := 200) rfl (by omega) (by omega) (by decide) (by omega) dX12_readsItem_180 (fun σ_170 H locs e_171 hW hF => ?_)
                        have hR := fr_up hR e_171 h_169 49000 (cdA 49 (by decide) _) (by decide)
                        have Eplace0 : σ_170 a0 12 = σ_167 a0 12 := fld_up e_171 h_169 h0 (fun q => absurd q.1 (by decide))
                        have Elength0 : σ_170 a0 13 = σ a0 13 := (fld_up e_171 h_169 h0 (fun q => absurd q.1 (by decide))).trans Elength0
                        have Eitems : σ_170 a0 22 = σ a0 22 := (fld_up e_171 h_169 h0 (fun q => absurd q.1 (by decide))).trans Eitems
                        have Eil : σ_170 (G a0 19) = σ_131 (G a0 19) := (row_up e_171 h_169 hk_il (by decide)).trans Eil
                        have EkeyLong : σ_170 a0 24 = σ_167 a0 24 := fld_up e_171 h_169 h0 (fun q => absurd q.1 (by decide))
                        refine lv_aload_n hx hb dX12_readsItem_181 rfl (lv_at hl 1 rfl) ?_
                        refine j_getR hx hb (C := RX12) (T := TX12) (N := 41) hts inX12_readsItem_X12 hown hK hS hW h0 rfl 21 rfl rfl (by decide) (hts _ flX12_readsItem_41) dX12_readsItem_182 ?_
                        have h_172 : τ (G a0 21) = 50 := gty hS h0 (k := 21) rfl rfl
                        refine lv_aload_n hx hb dX12_readsItem_185 rfl (lv_at hl 1 rfl) ?_
                        refine j_getI hx hb (C := RX12) (T := TX12) (N := 41) hts inX12_readsItem_X12 hown hK hS hW h0 rfl 22 rfl rfl (by decide) (hts _ flX12_readsItem_204) dX12_readsItem_186 ?_
                        rw [Eitems]
                        refine lv_aload_n hx hb dX12_readsItem_189 rfl (lv_at hl 1 rfl) ?_
                        refine j_getI hx hb (C := RX12) (T := TX12) (N := 41) hts inX12_readsItem_X12 hown hK hS hW h0 rfl 24 rfl rfl (by decide) (hts _ flX12_readsItem_201) dX12_readsItem_190 ?_
                        rw [EkeyLong]
                        have := fbd hW h0 (k := 24) (lo := 0) (hi := 24) rfl rfl
                        try simp only [EkeyLong] at this
                        refine j_ast hx hb hK hS hA hW hF h_172 (n := 20) (lo := 0) (hi := 24) rfl (by omega) (by omega) (by decide) (by omega) dX12_readsItem_193 (fun σ_173 H locs e_174 hW hF => ?_)
                        have hR := fr_up hR e_174 h_172 50000 (cdA 50 (by decide) _) (by decide)
                        have Eplace0 : σ_173 a0 12 = σ_167 a0 12 := (fld_up e_174 h_172 h0 (fun q => absurd q.1 (by decide))).trans Eplace0
                        have Elength0 : σ_173 a0 13 = σ a0 13 := (fld_up e_174 h_172 h0 (fun q => absurd q.1 (by decide))).trans Elength0
                        have Eitems : σ_173 a0 22 = σ a0 22 := (fld_up e_174 h_172 h0 (fun q => absurd q.1 (by decide))).trans Eitems
                        have Eil : σ_173 (G a0 19) = σ_131 (G a0 19) := (row_up e_174 h_172 hk_il (by decide)).trans Eil
                        have EkeyLong : σ_173 a0 24 = σ_167 a0 24 := (fld_up e_174 h_172 h0 (fun q => absurd q.1 (by decide))).trans EkeyLong
                        refine lv_aload_n hx hb dX12_readsItem_194 rfl (lv_at hl 1 rfl) ?_
                        refine lv_aload_n hx hb dX12_readsItem_195 rfl (lv_at hl 1 rfl) ?_
                        refine j_getI hx hb (C := RX12) (T := TX12) (N := 41) hts inX12_readsItem_X12 hown hK hS hW h0 rfl 22 rfl rfl (by decide) (hts _ flX12_readsItem_204) dX12_readsItem_196 ?_
                        rw [Eitems]
                        refine j_const hx hb dX12_readsItem_199 ?_
                        refine j_add hx hb dX12_readsItem_200 ?_
                        refine j_putI hx hb (C := RX12) (T := TX12) (N := 41) hts inX12_readsItem_X12 tyX12 tyX12_ok nmX12 hown hK hS hA hW hF h0 rfl 22 (lo := 0) (hi := 20) rfl rfl (by decide) (hts _ flX12_readsItem_204) rfl .int rfl (by omega) rfl rfl dX12_readsItem_201 (fun σ_175 H locs e_176 hW hF => ?_)
                        have hR := fr_up hR e_176 h0 13022 rfl (by decide)
                        have Eplace0 : σ_175 a0 12 = σ_167 a0 12 := (fld_up e_176 h0 h0 (fun q => absurd q.2 (by decide))).trans Eplace0
                        have Elength0 : σ_175 a0 13 = σ a0 13 := (fld_up e_176 h0 h0 (fun q => absurd q.2 (by decide))).trans Elength0
                        have Eil : σ_175 (G a0 19) = σ_131 (G a0 19) := (row_up e_176 h0 hk_il (by decide)).trans Eil
                        have EkeyLong : σ_175 a0 24 = σ_167 a0 24 := (fld_up e_176 h0 h0 (fun q => absurd q.2 (by decide))).trans EkeyLong
                        have hfk : σ_175 a0 22 = (σ a0 22) + 1 := by rw [e_176]; exact up2_at _ _ _ _
                        refine j_const hx hb dX12_readsItem_204 ?_
                        exact hRet 205 _ _ _ 1 _ dX12_readsItem_205 hW hF (by omega) ⟨(by first | exact ⟨fun _ s s0 s1 => hil1 s s0 (by omega), by omega⟩ | (simp only [Eplace0, Elength0, Eil, EkeyLong]; exact ⟨fun _ s s0 s1 => hil1 s s0 (by omega), by omega⟩)), hR⟩
                      · refine j_const hx hb dX12_readsItem_166 ?_
                        exact hRet 167 _ _ _ 0 _ dX12_readsItem_167 hW hF (by omega) ⟨(by first | exact ⟨fun h => (by exfalso; omega), by omega⟩ | (simp only [Elength0, Eitems, Eil]; exact ⟨fun h => (by exfalso; omega), by omega⟩)), hR⟩
                · refine j_const hx hb dX12_readsItem_129 ?_
                  exact hRet 130 _ _ _ 0 _ dX12_readsItem_130 hW hF (by omega) ⟨(by first | exact ⟨fun h => (by exfalso; omega), by omega⟩ | (simp only [Elength0, Eitems, Eil, EkeyLong]; exact ⟨fun h => (by exfalso; omega), by omega⟩)), hR⟩
          · refine j_const hx hb dX12_readsItem_79 ?_
            exact hRet 80 _ _ _ 0 _ dX12_readsItem_80 hW hF (by omega) ⟨(by first | exact ⟨fun h => (by exfalso; omega), by omega⟩ | (simp only [Elength0, Eitems, Eil]; exact ⟨fun h => (by exfalso; omega), by omega⟩)), hR⟩
        · refine lv_aload_n hx hb dX12_readsItem_42 rfl (lv_at hl 1 rfl) ?_
          refine j_const hx hb dX12_readsItem_43 ?_
          refine lv_aload_n hx hb dX12_readsItem_44 rfl (lv_at hl 1 rfl) ?_
          refine j_getI hx hb (C := RX12) (T := TX12) (N := 41) hts inX12_readsItem_X12 hown hK hS hW h0 rfl 12 rfl rfl (by decide) (hts _ flX12_readsItem_180) dX12_readsItem_45 ?_
          have := fbd hW h0 (k := 12) (lo := 0) (hi := 200) rfl rfl
          refine j_cI (j_runV (As := [.int (jI 1), .int (jI (σ a0 12))]) (rest := []) hx hb hml hown hts hK hS hW (kX12_wrongAt l hS σ (a0 := a0) (h0 := h0) (x1 := 1) (r1 := (by decide)) (x2 := σ a0 12) (r2 := (by omega))) 2 gX12_readsItem_X12_wrongAt rfl hvX12_wrongAt ⟨Nat.le_of_ble_eq_true rfl, Nat.le_of_ble_eq_true rfl⟩ rfl rfl h0 rfl rfl rfl rfl hl.1 rfl (Nat.le_of_ble_eq_true rfl) dX12_readsItem_48 ⟨Nat.le_of_ble_eq_true rfl, Nat.le_of_ble_eq_true rfl⟩) hA hF (fun v_177 σ_178 H locs hW hF rv_177 pv_177 => ?_)
          try dsimp only at pv_177
          obtain ⟨bpv_177, pv_177, fpv_177⟩ := pv_177
          have q_wrongAt := pv_177
          have hR := fr_call hR fpv_177 (by decide)
          have Eplace0 : σ_178 a0 12 = σ a0 12 := fr_at fpv_177 h0 12 13012 rfl (by decide)
          have Elength0 : σ_178 a0 13 = σ a0 13 := fr_at fpv_177 h0 13 13013 rfl (by decide)
          have Eitems : σ_178 a0 22 = σ a0 22 := fr_at fpv_177 h0 22 13022 rfl (by decide)
          have Eil : σ_178 (G a0 19) = σ (G a0 19) := row_fr fpv_177 hk_il 48 (by decide) (by decide)
          have EkeyLong : σ_178 a0 24 = σ a0 24 := fr_at fpv_177 h0 24 13024 rfl (by decide)
          exact hRet 51 _ _ _ v_177 _ dX12_readsItem_51 hW hF (by omega) ⟨(by first | exact ⟨fun h => (by exfalso; omega), by omega⟩ | (simp only [Eplace0, Elength0, Eitems, Eil, EkeyLong]; exact ⟨fun h => (by exfalso; omega), by omega⟩)), hR⟩
  · refine lv_aload_n hx hb dX12_readsItem_9 rfl (lv_at hl 0 rfl) ?_
    refine j_const hx hb dX12_readsItem_10 ?_
    refine lv_aload_n hx hb dX12_readsItem_11 rfl (lv_at hl 0 rfl) ?_
    refine j_getI hx hb (C := RX12) (T := TX12) (N := 41) hts inX12_readsItem_X12 hown hK hS hW h0 rfl 12 rfl rfl (by decide) (hts _ flX12_readsItem_180) dX12_readsItem_12 ?_
    have := fbd hW h0 (k := 12) (lo := 0) (hi := 200) rfl rfl
    refine j_cI (j_runV (As := [.int (jI 4), .int (jI (σ a0 12))]) (rest := []) hx hb hml hown hts hK hS hW (kX12_wrongAt l hS σ (a0 := a0) (h0 := h0) (x1 := 4) (r1 := (by decide)) (x2 := σ a0 12) (r2 := (by omega))) 2 gX12_readsItem_X12_wrongAt rfl hvX12_wrongAt ⟨Nat.le_of_ble_eq_true rfl, Nat.le_of_ble_eq_true rfl⟩ rfl rfl h0 rfl rfl rfl rfl hl.1 rfl (Nat.le_of_ble_eq_true rfl) dX12_readsItem_15 ⟨Nat.le_of_ble_eq_true rfl, Nat.le_of_ble_eq_true rfl⟩) hA hF (fun v_179 σ_180 H locs hW hF rv_179 pv_179 => ?_)
    try dsimp only at pv_179
    obtain ⟨bpv_179, pv_179, fpv_179⟩ := pv_179
    have q_wrongAt := pv_179
    have hR := fr_call hR fpv_179 (by decide)
    have Eplace0 : σ_180 a0 12 = σ a0 12 := fr_at fpv_179 h0 12 13012 rfl (by decide)
    have Elength0 : σ_180 a0 13 = σ a0 13 := fr_at fpv_179 h0 13 13013 rfl (by decide)
    have Eitems : σ_180 a0 22 = σ a0 22 := fr_at fpv_179 h0 22 13022 rfl (by decide)
    have Eil : σ_180 (G a0 19) = σ (G a0 19) := row_fr fpv_179 hk_il 48 (by decide) (by decide)
    have EkeyLong : σ_180 a0 24 = σ a0 24 := fr_at fpv_179 h0 24 13024 rfl (by decide)
    exact hRet 18 _ _ _ v_179 _ dX12_readsItem_18 hW hF (by omega) ⟨(by first | exact ⟨fun h => (by exfalso; omega), by omega⟩ | (simp only [Eplace0, Elength0, Eitems, Eil, EkeyLong]; exact ⟨fun h => (by exfalso; omega), by omega⟩)), hR⟩
abbrev wr_X12_readsOrders : List Nat := [13011, 13012, 13013, 13014, 13015, 13022, 13023, 13024, 45000, 46000, 47000, 48000, 49000, 50000]
theorem flX12_readsOrders_147 : Cond.fieldLink RX12 147 "PageTrieModel" "taped" "I" ∈ wsX12_readsOrders := List.mem_of_getElem? (i := 3) rfl
theorem flX12_readsOrders_180 : Cond.fieldLink RX12 180 "PageTrieModel" "place0" "I" ∈ wsX12_readsOrders := List.mem_of_getElem? (i := 1) rfl
theorem flX12_readsOrders_183 : Cond.fieldLink RX12 183 "PageTrieModel" "length0" "I" ∈ wsX12_readsOrders := List.mem_of_getElem? (i := 2) rfl
theorem flX12_readsOrders_204 : Cond.fieldLink RX12 204 "PageTrieModel" "items" "I" ∈ wsX12_readsOrders := List.mem_of_getElem? (i := 4) rfl
theorem inX12_readsOrders_X12 : ∀ w ∈ u_ws RX12 TX12 41, w ∈ wsX12_readsOrders := mem_r _ [47, 48, 49, 50, 51, 52, 53, 54, 55, 56, 57, 58, 59, 60, 61, 62, 63, 64, 65, 66, 67, 68, 69, 70, 71, 72, 73, 74, 75, 76, 77, 78, 79, 80, 81, 82, 83, 84, 85, 86, 87] rfl
theorem hvX12_readsOrders : yX12_readsOrders.cls = RX12 ∧ yX12_readsOrders.cls ≠ "java/lang/invoke/MethodHandle" ∧ yX12_readsOrders.cls ≠ "java/lang/invoke/VarHandle" ∧ (parseMethodDescriptor yX12_readsOrders.desc).map (fun d => d.parameters.length) = some 1 := by decide +kernel
set_option maxHeartbeats 4000000 in
set_option maxRecDepth 100000 in
theorem kX12_readsOrders (l : Launch) {D : va_G} {cA : Nat → ClassId} {τ : Nat → Nat} {G : Nat → Nat → Nat} {L : List Nat} (hS : SW τ G L) (σ : Nat → Nat → Int) {a0 : Nat} (h0 : τ a0 = 13) {x1 : Int} (r1 : rg x1) (q0 : 0 ≤ x1) (q1 : x1 ≤ 200) : Met l yX12_readsOrders wsX12_readsOrders ({ frames := 4, cells := 0, slots := 0, locals := 83 }) (jP D cA τ G L σ [.ref a0, .int (jI x1)]) (jQI D cA τ G L (fun r σ' => (0 ≤ r ∧ r ≤ 1) ∧ (((r = 1 → ∀ s : Int, 0 ≤ s → s < σ' a0 22 → 1 ≤ σ' (G a0 19) s.toNat)) ∧ fr wr_X12_readsOrders τ σ σ'))) 0 0 (fun q => q ∈ L) := by
  refine j_metZ (by decide +kernel) rfl (Nat.le_of_ble_eq_true rfl) ?_
  intro p e s m args below meth c Q hx hb hml hown hts hK hW hRet ls hl
  have hl : lv_has ls 3 [(0, .ref a0), (1, .int (jI x1))] := hl
  have hA : ∀ q ∈ L, (fun q => q ∈ L) q := fun _ h => h
  have hF : va_S (fun q => q ∈ L) s.heap s.heap [] := va_S.rf
  have hR : fr wr_X12_readsOrders τ σ σ := fr_rf
  have hk_il : τ (G a0 19) = 48 := gty hS h0 (k := 19) rfl rfl
  refine lv_aload_n hx hb dX12_readsOrders_0 rfl (lv_at hl 0 rfl) ?_
  refine j_const hx hb dX12_readsOrders_1 ?_
  refine j_putI hx hb (C := RX12) (T := TX12) (N := 41) hts inX12_readsOrders_X12 tyX12 tyX12_ok nmX12 hown hK hS hA hW hF h0 rfl 12 (lo := 0) (hi := 200) rfl rfl (by decide) (hts _ flX12_readsOrders_180) rfl .int rfl (by omega) rfl rfl dX12_readsOrders_2 (fun σ_1 H locs e_2 hW hF => ?_)
  have hR := fr_up hR e_2 h0 13012 rfl (by decide)
  have Elength0 : σ_1 a0 13 = σ a0 13 := fld_up e_2 h0 h0 (fun q => absurd q.2 (by decide))
  have Eitems : σ_1 a0 22 = σ a0 22 := fld_up e_2 h0 h0 (fun q => absurd q.2 (by decide))
  have Eil : σ_1 (G a0 19) = σ (G a0 19) := row_up e_2 h0 hk_il (by decide)
  have EkeyLong : σ_1 a0 24 = σ a0 24 := fld_up e_2 h0 h0 (fun q => absurd q.2 (by decide))
  have hfk : σ_1 a0 12 = 0 := by rw [e_2]; exact up2_at _ _ _ _
  refine lv_aload_n hx hb dX12_readsOrders_5 rfl (lv_at hl 0 rfl) ?_
  refine lv_iload_n hx hb dX12_readsOrders_6 rfl (lv_at hl 1 rfl) ?_
  refine j_putI hx hb (C := RX12) (T := TX12) (N := 41) hts inX12_readsOrders_X12 tyX12 tyX12_ok nmX12 hown hK hS hA hW hF h0 rfl 13 (lo := 0) (hi := 200) rfl rfl (by decide) (hts _ flX12_readsOrders_183) rfl .int rfl (by omega) rfl rfl dX12_readsOrders_7 (fun σ_3 H locs e_4 hW hF => ?_)
  have hR := fr_up hR e_4 h0 13013 rfl (by decide)
  have Eplace0 : σ_3 a0 12 = σ_1 a0 12 := fld_up e_4 h0 h0 (fun q => absurd q.2 (by decide))
  have Eitems : σ_3 a0 22 = σ a0 22 := (fld_up e_4 h0 h0 (fun q => absurd q.2 (by decide))).trans Eitems
  have Eil : σ_3 (G a0 19) = σ (G a0 19) := (row_up e_4 h0 hk_il (by decide)).trans Eil
  have EkeyLong : σ_3 a0 24 = σ a0 24 := (fld_up e_4 h0 h0 (fun q => absurd q.2 (by decide))).trans EkeyLong
  have hfk : σ_3 a0 13 = x1 := by rw [e_4]; exact up2_at _ _ _ _
  refine lv_aload_n hx hb dX12_readsOrders_10 rfl (lv_at hl 0 rfl) ?_
  refine j_const hx hb dX12_readsOrders_11 ?_
  refine j_putI hx hb (C := RX12) (T := TX12) (N := 41) hts inX12_readsOrders_X12 tyX12 tyX12_ok nmX12 hown hK hS hA hW hF h0 rfl 11 (lo := 0) (hi := 240) rfl rfl (by decide) (hts _ flX12_readsOrders_147) rfl .int rfl (by omega) rfl rfl dX12_readsOrders_12 (fun σ_5 H locs e_6 hW hF => ?_)
  have hR := fr_up hR e_6 h0 13011 rfl (by decide)
  have Eplace0 : σ_5 a0 12 = σ_1 a0 12 := (fld_up e_6 h0 h0 (fun q => absurd q.2 (by decide))).trans Eplace0
  have Elength0 : σ_5 a0 13 = σ_3 a0 13 := fld_up e_6 h0 h0 (fun q => absurd q.2 (by decide))
  have Eitems : σ_5 a0 22 = σ a0 22 := (fld_up e_6 h0 h0 (fun q => absurd q.2 (by decide))).trans Eitems
  have Eil : σ_5 (G a0 19) = σ (G a0 19) := (row_up e_6 h0 hk_il (by decide)).trans Eil
  have EkeyLong : σ_5 a0 24 = σ a0 24 := (fld_up e_6 h0 h0 (fun q => absurd q.2 (by decide))).trans EkeyLong
  have hfk : σ_5 a0 11 = 0 := by rw [e_6]; exact up2_at _ _ _ _
  refine lv_aload_n hx hb dX12_readsOrders_15 rfl (lv_at hl 0 rfl) ?_
  refine j_const hx hb dX12_readsOrders_16 ?_
  refine j_putI hx hb (C := RX12) (T := TX12) (N := 41) hts inX12_readsOrders_X12 tyX12 tyX12_ok nmX12 hown hK hS hA hW hF h0 rfl 22 (lo := 0) (hi := 20) rfl rfl (by decide) (hts _ flX12_readsOrders_204) rfl .int rfl (by omega) rfl rfl dX12_readsOrders_17 (fun σ_7 H locs e_8 hW hF => ?_)
  have hR := fr_up hR e_8 h0 13022 rfl (by decide)
  have Eplace0 : σ_7 a0 12 = σ_1 a0 12 := (fld_up e_8 h0 h0 (fun q => absurd q.2 (by decide))).trans Eplace0
  have Elength0 : σ_7 a0 13 = σ_3 a0 13 := (fld_up e_8 h0 h0 (fun q => absurd q.2 (by decide))).trans Elength0
  have Eil : σ_7 (G a0 19) = σ (G a0 19) := (row_up e_8 h0 hk_il (by decide)).trans Eil
  have EkeyLong : σ_7 a0 24 = σ a0 24 := (fld_up e_8 h0 h0 (fun q => absurd q.2 (by decide))).trans EkeyLong
  have hfk : σ_7 a0 22 = 0 := by rw [e_8]; exact up2_at _ _ _ _
  have hit := hfk
  refine lv_aload_n hx hb dX12_readsOrders_20 rfl (lv_at hl 0 rfl) ?_
  refine j_cI (j_runV (As := []) (rest := []) hx hb hml hown hts hK hS hW (kX12_readsItem l hS σ_7 (a0 := a0) (h0 := h0) (q0 := (fun s s0 s1 => by (exfalso; omega)))) 0 gX12_readsOrders_X12_readsItem rfl hvX12_readsItem ⟨Nat.le_of_ble_eq_true rfl, Nat.le_of_ble_eq_true rfl⟩ rfl rfl h0 rfl rfl rfl rfl hl.1 rfl (Nat.le_of_ble_eq_true rfl) dX12_readsOrders_21 ⟨Nat.le_of_ble_eq_true rfl, Nat.le_of_ble_eq_true rfl⟩) hA hF (fun v_9 σ_10 H locs hW hF rv_9 pv_9 => ?_)
  try dsimp only at pv_9
  obtain ⟨bpv_9, pv_9, fpv_9⟩ := pv_9
  try simp only [Eplace0, Elength0, Eil, EkeyLong] at pv_9
  have q_readsItem := pv_9
  have hR := fr_call hR fpv_9 (by decide)
  have Elength0 : σ_10 a0 13 = σ_3 a0 13 := (fr_at fpv_9 h0 13 13013 rfl (by decide)).trans Elength0
  refine lv_istore_n (lv' := [(2, .int (jI v_9)), (0, .ref a0), (1, .int (jI x1))]) hx hb dX12_readsOrders_24 rfl hl (by decide) rfl (fun ls hl => ?_)
  have L_25 : ∀ (N : Nat) (v2_25 : Int) (σL_25 : Nat → Nat → Int) (H : Heap) (locs : List Loc) (ls : Array Slot), N = (2 * (300 - σL_25 a0 12) + v2_25 : Int).toNat → (0 ≤ v2_25) → (v2_25 ≤ 1) → (v2_25 = 1 → ∀ s : Int, 0 ≤ s → s < σL_25 a0 22 → 1 ≤ σL_25 (G a0 19) s.toNat) → rg v2_25 → PW D cA τ G L σL_25 H → va_S (fun q => q ∈ L) s.heap H locs → fr wr_X12_readsOrders τ σ σL_25 → σL_25 a0 13 = σ_3 a0 13 → lv_has ls 3 [(0, .ref a0), (2, .int (jI v2_25))] → W p l e ({ frames := 4, cells := 0, slots := 0, locals := 83 }) s m args below meth c H locs 0 0 Q (F0 m 25 ls []) := by
    intro N
    induction N using Nat.strongRecOn with
    | ind N ih_25 =>
      intro v2_25 σL_25 H locs ls hN i0_25 i1_25 i2_25 rv2_25 hW hF hR Elength0 hl
      refine lv_iload_n hx hb dX12_readsOrders_25 rfl (lv_at hl 1 rfl) ?_
      refine j_if_eq (tgt := 65) hx hb (by omega) dX12_readsOrders_26 (by decide) (fun c_11 => ?_) (fun c_11 => ?_)
      · refine lv_iload_n hx hb dX12_readsOrders_65 rfl (lv_at hl 1 rfl) ?_
        exact hRet 66 _ _ _ v2_25 _ dX12_readsOrders_66 hW hF (by omega) ⟨(by first | exact (fun h => i2_25 (by omega)) | (simp only [Elength0]; exact (fun h => i2_25 (by omega)))), hR⟩
      · refine lv_aload_n hx hb dX12_readsOrders_29 rfl (lv_at hl 0 rfl) ?_
        refine j_getI hx hb (C := RX12) (T := TX12) (N := 41) hts inX12_readsOrders_X12 hown hK hS hW h0 rfl 12 rfl rfl (by decide) (hts _ flX12_readsOrders_180) dX12_readsOrders_30 ?_
        have := fbd hW h0 (k := 12) (lo := 0) (hi := 200) rfl rfl
        refine lv_aload_n hx hb dX12_readsOrders_33 rfl (lv_at hl 0 rfl) ?_
        refine j_getI hx hb (C := RX12) (T := TX12) (N := 41) hts inX12_readsOrders_X12 hown hK hS hW h0 rfl 13 rfl rfl (by decide) (hts _ flX12_readsOrders_183) dX12_readsOrders_34 ?_
        rw [Elength0]
        have := fbd hW h0 (k := 13) (lo := 0) (hi := 200) rfl rfl
        try simp only [Elength0] at this
        refine j_icmp_ge (tgt := 65) hx hb (by omega) (by omega) dX12_readsOrders_37 (by decide) (fun c_12 => ?_) (fun c_12 => ?_)
        · refine lv_iload_n hx hb dX12_readsOrders_65 rfl (lv_at hl 1 rfl) ?_
          exact hRet 66 _ _ _ v2_25 _ dX12_readsOrders_66 hW hF (by omega) ⟨(by first | exact (fun h => i2_25 (by omega)) | (simp only [Elength0]; exact (fun h => i2_25 (by omega)))), hR⟩
        · refine lv_aload_n hx hb dX12_readsOrders_40 rfl (lv_at hl 0 rfl) ?_
          refine j_bi hx hb dX12_readsOrders_41 (by decide) ?_
          refine j_cI (j_runV (As := [.int (jI 59)]) (rest := []) hx hb hml hown hts hK hS hW (kX12_takesSign l hS σL_25 (a0 := a0) (h0 := h0) (x1 := 59) (r1 := (by decide)) (q0 := (by omega))) 1 gX12_readsOrders_X12_takesSign rfl hvX12_takesSign ⟨Nat.le_of_ble_eq_true rfl, Nat.le_of_ble_eq_true rfl⟩ rfl rfl h0 rfl rfl rfl rfl hl.1 rfl (Nat.le_of_ble_eq_true rfl) dX12_readsOrders_43 ⟨Nat.le_of_ble_eq_true rfl, Nat.le_of_ble_eq_true rfl⟩) hA hF (fun v_13 σ_14 H locs hW hF rv_13 pv_13 => ?_)
          try dsimp only at pv_13
          obtain ⟨bpv_13, pv_13, fpv_13⟩ := pv_13
          try simp only [Elength0] at pv_13
          have q_takesSign := pv_13
          have hR := fr_call hR fpv_13 (by decide)
          have Elength0 : σ_14 a0 13 = σ_3 a0 13 := (fr_at fpv_13 h0 13 13013 rfl (by decide)).trans Elength0
          have Eitems : σ_14 a0 22 = σL_25 a0 22 := fr_at fpv_13 h0 22 13022 rfl (by decide)
          have Eil : σ_14 (G a0 19) = σL_25 (G a0 19) := row_fr fpv_13 hk_il 48 (by decide) (by decide)
          have EkeyLong : σ_14 a0 24 = σL_25 a0 24 := fr_at fpv_13 h0 24 13024 rfl (by decide)
          refine j_if_eq (tgt := 60) hx hb (by omega) dX12_readsOrders_46 (by decide) (fun c_15 => ?_) (fun c_15 => ?_)
          · refine j_const hx hb dX12_readsOrders_60 ?_
            refine lv_istore_n (lv' := [(2, .int (jI 0)), (0, .ref a0)]) hx hb dX12_readsOrders_61 rfl hl (by decide) rfl (fun ls hl => ?_)
            refine lv_goto (tgt := 25) hx hb dX12_readsOrders_62 (by decide) ?_
            exact ih_25 ((2 * (300 - σ_14 a0 12) + 0 : Int).toNat) (by omega) 0 σ_14 _ _ _ rfl (by omega) (by omega) (by first | exact (by first | exact q_readsItem.1 | (intro h; exfalso; omega) | (intro _; exact q_readsItem.1 (by omega))) | (simp only [Elength0, Eitems, Eil, EkeyLong]; exact (by first | exact q_readsItem.1 | (intro h; exfalso; omega) | (intro _; exact q_readsItem.1 (by omega))))) (by decide) hW hF hR Elength0 (lv_sub hl [1, 0] rfl)
          · refine lv_aload_n hx hb dX12_readsOrders_49 rfl (lv_at hl 0 rfl) ?_
            refine j_cI (j_runV (As := []) (rest := []) hx hb hml hown hts hK hS hW (kX12_readsItem l hS σ_14 (a0 := a0) (h0 := h0) (q0 := (by first | exact i2_25 (by omega) | (simp only [Eitems, Eil]; exact i2_25 (by omega))))) 0 gX12_readsOrders_X12_readsItem rfl hvX12_readsItem ⟨Nat.le_of_ble_eq_true rfl, Nat.le_of_ble_eq_true rfl⟩ rfl rfl h0 rfl rfl rfl rfl hl.1 rfl (Nat.le_of_ble_eq_true rfl) dX12_readsOrders_50 ⟨Nat.le_of_ble_eq_true rfl, Nat.le_of_ble_eq_true rfl⟩) hA hF (fun v_16 σ_17 H locs hW hF rv_16 pv_16 => ?_)
            try dsimp only at pv_16
            obtain ⟨bpv_16, pv_16, fpv_16⟩ := pv_16
            try simp only [Elength0, Eitems, Eil, EkeyLong] at pv_16
            have q_readsItem := pv_16
            have hR := fr_call hR fpv_16 (by decide)
            have Elength0 : σ_17 a0 13 = σ_3 a0 13 := (fr_at fpv_16 h0 13 13013 rfl (by decide)).trans Elength0
            refine j_if_eq (tgt := 60) hx hb (by omega) dX12_readsOrders_53 (by decide) (fun c_18 => ?_) (fun c_18 => ?_)
            · refine j_const hx hb dX12_readsOrders_60 ?_
              refine lv_istore_n (lv' := [(2, .int (jI 0)), (0, .ref a0)]) hx hb dX12_readsOrders_61 rfl hl (by decide) rfl (fun ls hl => ?_)
              refine lv_goto (tgt := 25) hx hb dX12_readsOrders_62 (by decide) ?_
              exact ih_25 ((2 * (300 - σ_17 a0 12) + 0 : Int).toNat) (by omega) 0 σ_17 _ _ _ rfl (by omega) (by omega) (by first | exact (by first | exact q_readsItem.1 | (intro h; exfalso; omega) | (intro _; exact q_readsItem.1 (by omega))) | (simp only [Elength0]; exact (by first | exact q_readsItem.1 | (intro h; exfalso; omega) | (intro _; exact q_readsItem.1 (by omega))))) (by decide) hW hF hR Elength0 (lv_sub hl [1, 0] rfl)
            · refine j_const hx hb dX12_readsOrders_56 ?_
              refine lv_goto (tgt := 61) hx hb dX12_readsOrders_57 (by decide) ?_
              refine lv_istore_n (lv' := [(2, .int (jI 1)), (0, .ref a0)]) hx hb dX12_readsOrders_61 rfl hl (by decide) rfl (fun ls hl => ?_)
              refine lv_goto (tgt := 25) hx hb dX12_readsOrders_62 (by decide) ?_
              exact ih_25 ((2 * (300 - σ_17 a0 12) + 1 : Int).toNat) (by omega) 1 σ_17 _ _ _ rfl (by omega) (by omega) (by first | exact (by first | exact q_readsItem.1 | (intro h; exfalso; omega) | (intro _; exact q_readsItem.1 (by omega))) | (simp only [Elength0]; exact (by first | exact q_readsItem.1 | (intro h; exfalso; omega) | (intro _; exact q_readsItem.1 (by omega))))) (by decide) hW hF hR Elength0 (lv_sub hl [1, 0] rfl)
  exact L_25 ((2 * (300 - σ_10 a0 12) + v_9 : Int).toNat) v_9 σ_10 _ _ _ rfl (by omega) (by omega) (by first | exact (by first | exact q_readsItem.1 | (intro h; exfalso; omega) | (intro _; exact q_readsItem.1 (by omega))) | (simp only [Elength0]; exact (by first | exact q_readsItem.1 | (intro h; exfalso; omega) | (intro _; exact q_readsItem.1 (by omega))))) (by omega) hW hF hR Elength0 (lv_sub hl [1, 0] rfl)
