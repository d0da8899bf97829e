abbrev wr_X12_comesAnew : List Nat := [13003, 13004, 13005, 13008, 13009, 40000, 41000, 42000, 43000]
theorem flX12_comesAnew_7 : Cond.fieldLink RX12 7 "PageTrieModel" "file" "[I" ∈ wsX12_comesAnew := List.mem_of_getElem? (i := 1) rfl
theorem flX12_comesAnew_13 : Cond.fieldLink RX12 13 "PageTrieModel" "hand" "[I" ∈ wsX12_comesAnew := List.mem_of_getElem? (i := 3) rfl
theorem flX12_comesAnew_70 : Cond.fieldLink RX12 70 "PageTrieModel" "handLong" "I" ∈ wsX12_comesAnew := List.mem_of_getElem? (i := 2) rfl
theorem inX12_comesAnew_X12 : ∀ w ∈ u_ws RX12 TX12 41, w ∈ wsX12_comesAnew := mem_r _ [94, 95, 96, 97, 98, 99, 100, 101, 102, 103, 104, 105, 106, 107, 108, 109, 110, 111, 112, 113, 114, 115, 116, 117, 118, 119, 120, 121, 122, 123, 124, 125, 126, 127, 128, 129, 130, 131, 132, 133, 134] rfl
theorem hvX12_comesAnew : yX12_comesAnew.cls = RX12 ∧ yX12_comesAnew.cls ≠ "java/lang/invoke/MethodHandle" ∧ yX12_comesAnew.cls ≠ "java/lang/invoke/VarHandle" ∧ (parseMethodDescriptor yX12_comesAnew.desc).map (fun d => d.parameters.length) = some 2 := by decide +kernel
set_option maxHeartbeats 4000000 in
set_option maxRecDepth 100000 in
theorem kX12_comesAnew (l : Launch) {D : va_G} {cA : Nat → ClassId} {τ : Nat → Nat} {G : Nat → Nat → Nat} {L : List Nat} (hS : SW τ G L) (σ : Nat → Nat → Int) {a0 : Nat} (h0 : τ a0 = 13) {x1 : Int} (r1 : rg x1) {x2 : Int} (r2 : rg x2) (hI : FI G a0 σ) (q0 : FM (σ (G a0 0))) (q1 : 1 ≤ x1) (q2 : x1 ≤ 8) (q3 : 2 ≤ x2) (q4 : x2 ≤ 8) : Met l yX12_comesAnew wsX12_comesAnew ({ frames := 5, cells := 0, slots := 0, locals := 115 }) (jP D cA τ G L σ [.ref a0, .int (jI x1), .int (jI x2)]) (jQV D cA τ G L (fun σ' => ((FI G a0 σ') ∧ (FM (σ' (G a0 0))) ∧ (∀ q : Nat, 4406 ≤ q → q < 8812 → σ' (G a0 0) q = σ (G a0 0) q) ∧ (∀ q : Nat, q < 4406 → σ' (G a0 0) (8812 + q) = σ (G a0 0) q)) ∧ fr wr_X12_comesAnew τ σ σ')) 0 0 (fun q => q ∈ L) := by
  refine j_metV (by decide +kernel) rfl (Nat.le_of_ble_eq_true rfl) ?_
  intro p e s m args below meth c Q hx hb hml hown hts hK hW hRet ls hl
  have hl : lv_has ls 7 [(0, .ref a0), (1, .int (jI x1)), (2, .int (jI x2))] := hl
  have hA : ∀ q ∈ L, (fun q => q ∈ L) q := fun _ h => h
  have hF : va_S (fun q => q ∈ L) s.heap s.heap [] := va_S.rf
  have hR : fr wr_X12_comesAnew τ σ σ := fr_rf
  have hk_file : τ (G a0 0) = 40 := gty hS h0 (k := 0) rfl rfl
  have hk_hand : τ (G a0 2) = 41 := gty hS h0 (k := 2) rfl rfl
  have := FI_bd hI
  have := fbd hW h0 (k := 3) (lo := 0) (hi := 24) rfl rfl
  have hI0 := hI
  have hL0 := fun (i : Int) (i0 : 0 ≤ i) (i1 : i < σ (G a0 0) 0) => FI_len hI i0 i1
  refine lv_aload_n hx hb dX12_comesAnew_0 rfl (lv_at hl 0 rfl) ?_
  refine j_const hx hb dX12_comesAnew_1 ?_
  refine j_const hx hb dX12_comesAnew_2 ?_
  refine j_cV (j_runV (As := [.int (jI 0), .int (jI 2)]) (rest := []) hx hb hml hown hts hK hS hW (kX12_copies l hS σ (a0 := a0) (h0 := h0) (x1 := 0) (r1 := (by decide)) (x2 := 2) (r2 := (by decide)) (q0 := (by omega)) (q1 := (by omega)) (q2 := (by omega)) (q3 := (by omega)) (q4 := (by omega))) 2 gX12_comesAnew_X12_copies rfl hvX12_copies ⟨Nat.le_of_ble_eq_true rfl, Nat.le_of_ble_eq_true rfl⟩ rfl rfl h0 rfl rfl rfl rfl hl.1 rfl (Nat.le_of_ble_eq_true rfl) dX12_comesAnew_3 ⟨Nat.le_of_ble_eq_true rfl, Nat.le_of_ble_eq_true rfl⟩) hA hF (fun σ_1 H locs hW hF pσ_1 => ?_)
  try dsimp only at pσ_1
  obtain ⟨pσ_1, fpσ_1⟩ := pσ_1
  have q_copies := pσ_1
  have hR := fr_call hR fpσ_1 (by decide)
  have Ehl : σ_1 a0 3 = σ a0 3 := fr_at fpσ_1 h0 3 13003 rfl (by decide)
  have Ehand : σ_1 (G a0 2) = σ (G a0 2) := row_fr fpσ_1 hk_hand 41 (by decide) (by decide)
  have Ekept : σ_1 a0 1 = σ a0 1 := fr_at fpσ_1 h0 1 13001 rfl (by decide)
  obtain ⟨hcpa, hcpb⟩ := CP_02 q_copies
  have hcp0 := hcpa 0 (by omega)
  refine lv_aload_n hx hb dX12_comesAnew_6 rfl (lv_at hl 0 rfl) ?_
  refine j_cR (j_runV (As := []) (rest := []) hx hb hml hown hts hK hS hW (kX12_many l hS σ_1 (a0 := a0) (h0 := h0)) 0 gX12_comesAnew_X12_many rfl hvX12_many ⟨Nat.le_of_ble_eq_true rfl, Nat.le_of_ble_eq_true rfl⟩ rfl rfl h0 rfl rfl rfl rfl hl.1 rfl (Nat.le_of_ble_eq_true rfl) dX12_comesAnew_7 ⟨Nat.le_of_ble_eq_true rfl, Nat.le_of_ble_eq_true rfl⟩) (fun v_2 rv_2 pv_2 => ?_)
  try dsimp only at pv_2
  try simp only [Ehl, Ehand, Ekept] at pv_2
  have q_many := pv_2
  have := FI_bd hI
  refine lv_istore_n (lv' := [(3, .int (jI v_2)), (0, .ref a0), (1, .int (jI x1)), (2, .int (jI x2))]) hx hb dX12_comesAnew_10 rfl hl (by decide) rfl (fun ls hl => ?_)
  refine lv_aload_n hx hb dX12_comesAnew_11 rfl (lv_at hl 1 rfl) ?_
  refine lv_iload_n hx hb dX12_comesAnew_12 rfl (lv_at hl 2 rfl) ?_
  refine lv_iload_n hx hb dX12_comesAnew_13 rfl (lv_at hl 3 rfl) ?_
  refine j_cV (j_runV (As := [.int (jI x1), .int (jI x2)]) (rest := []) hx hb hml hown hts hK hS hW (kX12_empties l hS σ_1 (a0 := a0) (h0 := h0) (x1 := x1) (r1 := (by omega)) (x2 := x2) (r2 := (by omega))) 2 gX12_comesAnew_X12_empties rfl hvX12_empties ⟨Nat.le_of_ble_eq_true rfl, Nat.le_of_ble_eq_true rfl⟩ rfl rfl h0 rfl rfl rfl rfl hl.1 rfl (Nat.le_of_ble_eq_true rfl) dX12_comesAnew_14 ⟨Nat.le_of_ble_eq_true rfl, Nat.le_of_ble_eq_true rfl⟩) hA hF (fun σ_3 H locs hW hF pσ_3 => ?_)
  try dsimp only at pσ_3
  obtain ⟨pσ_3, fpσ_3⟩ := pσ_3
  try simp only [Ehl, Ehand, Ekept] at pσ_3
  have q_empties := pσ_3
  have hR := fr_call hR fpσ_3 (by decide)
  have Ehl : σ_3 a0 3 = σ a0 3 := (fr_at fpσ_3 h0 3 13003 rfl (by decide)).trans Ehl
  have Ehand : σ_3 (G a0 2) = σ (G a0 2) := (row_fr fpσ_3 hk_hand 41 (by decide) (by decide)).trans Ehand
  have Ekept : σ_3 a0 1 = σ a0 1 := (fr_at fpσ_3 h0 1 13001 rfl (by decide)).trans Ekept
  have hem := q_empties
  have hfa := FI_anew hI0 hem.1 (by rw [hem.2.1]; omega) (by rw [hem.2.2.1]; omega) (fun q a b => (hem.2.2.2 q (by omega)).trans (hcpa q b)) Ekept
  have hI := hfa.1
  have hr1 : ∀ q : Nat, 4406 ≤ q → q < 8812 → (σ_3 (G a0 0)) q = σ (G a0 0) q := fun q a b => (hem.2.2.2 q (by omega)).trans (hcpa q b)
  have hr2 : ∀ q : Nat, q < 4406 → (σ_3 (G a0 0)) (8812 + q) = σ (G a0 0) q := fun q a => (hem.2.2.2 (8812 + q) (by omega)).trans (hcpb q a)
  refine j_const hx hb dX12_comesAnew_17 ?_
  refine lv_istore (lv' := [(4, .int (jI 0)), (3, .int (jI v_2)), (0, .ref a0), (1, .int (jI x1)), (2, .int (jI x2))]) hx hb dX12_comesAnew_18 hl (by decide) rfl (fun ls hl => ?_)
  have L_20 : ∀ (N : Nat) (v4_20 : Int) (σL_20 : Nat → Nat → Int) (H : Heap) (locs : List Loc) (ls : Array Slot), N = (2147483647 - v4_20 : Int).toNat → (0 ≤ v4_20) → (v4_20 ≤ σ (G a0 0) 0) → (FM (σL_20 (G a0 0))) → ((σL_20 (G a0 0)) 0 = v4_20) → (AN (σ (G a0 0)) (σL_20 (G a0 0)) v4_20) → (∀ q : Nat, 4406 ≤ q → q < 8812 → (σL_20 (G a0 0)) q = σ (G a0 0) q) → (∀ q : Nat, q < 4406 → (σL_20 (G a0 0)) (8812 + q) = σ (G a0 0) q) → rg v4_20 → PW D cA τ G L σL_20 H → va_S (fun q => q ∈ L) s.heap H locs → fr wr_X12_comesAnew τ σ σL_20 → FI G a0 σL_20 → σL_20 a0 1 = σ a0 1 → lv_has ls 7 [(0, .ref a0), (3, .int (jI v_2)), (4, .int (jI v4_20))] → W p l e ({ frames := 5, cells := 0, slots := 0, locals := 115 }) s m args below meth c H locs 0 0 Q (F0 m 20 ls []) := by
    intro N
    induction N using Nat.strongRecOn with
    | ind N ih_20 =>
      intro v4_20 σL_20 H locs ls hN i0_20 i1_20 i2_20 i3_20 i4_20 i5_20 i6_20 rv4_20 hW hF hR hI Ekept hl
      refine lv_iload hx hb dX12_comesAnew_20 (lv_at hl 2 rfl) ?_
      refine lv_iload_n hx hb dX12_comesAnew_22 rfl (lv_at hl 1 rfl) ?_
      refine j_icmp_ge (tgt := 106) hx hb (by omega) (by omega) dX12_comesAnew_23 (by decide) (fun c_4 => ?_) (fun c_4 => ?_)
      · exact hRet 106 _ _ _ _ dX12_comesAnew_106 hW hF ⟨(by first | exact ⟨hI, i2_20, i5_20, i6_20⟩ | (simp only [Ekept]; exact ⟨hI, i2_20, i5_20, i6_20⟩)), hR⟩
      · have hll := hL0 v4_20 (by omega) (by omega)
        refine j_si hx hb dX12_comesAnew_26 (by decide) ?_
        refine j_bi hx hb dX12_comesAnew_29 (by decide) ?_
        refine lv_iload hx hb dX12_comesAnew_31 (lv_at hl 2 rfl) ?_
        refine j_mul hx hb dX12_comesAnew_33 ?_
        refine j_add hx hb dX12_comesAnew_34 ?_
        refine lv_istore (lv' := [(5, .int (jI (9052 + (27 * v4_20)))), (0, .ref a0), (3, .int (jI v_2)), (4, .int (jI v4_20))]) hx hb dX12_comesAnew_35 hl (by decide) rfl (fun ls hl => ?_)
        refine lv_aload_n hx hb dX12_comesAnew_37 rfl (lv_at hl 1 rfl) ?_
        refine lv_aload_n hx hb dX12_comesAnew_38 rfl (lv_at hl 1 rfl) ?_
        refine j_getR hx hb (C := RX12) (T := TX12) (N := 41) hts inX12_comesAnew_X12 hown hK hS hW h0 rfl 0 rfl rfl (by decide) (hts _ flX12_comesAnew_7) dX12_comesAnew_39 ?_
        refine lv_iload hx hb dX12_comesAnew_42 (lv_at hl 0 rfl) ?_
        refine j_const hx hb dX12_comesAnew_44 ?_
        refine j_add hx hb dX12_comesAnew_45 ?_
        refine j_ald hx hb hK hS hW hk_file (n := 17624) rfl (by omega) (by omega) (by decide) dX12_comesAnew_46 ?_
        have := abd hW hk_file (n := 17624) (lo := -2147483648) (hi := 2147483647) (i := (9052 + (27 * v4_20)) + 0) rfl (by omega) (by omega)
        have hrl := R2 i6_20 (i := v4_20) (w := 0) (by omega) (by omega) (by omega) (by omega)
        refine j_putI hx hb (C := RX12) (T := TX12) (N := 41) hts inX12_comesAnew_X12 tyX12 tyX12_ok nmX12 hown hK hS hA hW hF h0 rfl 3 (lo := 0) (hi := 24) rfl rfl (by decide) (hts _ flX12_comesAnew_70) rfl .int rfl (by omega) rfl rfl dX12_comesAnew_47 (fun σ_5 H locs e_6 hW hF => ?_)
        have hR := fr_up hR e_6 h0 13003 rfl (by decide)
        have Efile : σ_5 (G a0 0) = σL_20 (G a0 0) := row_up e_6 h0 hk_file (by decide)
        try clear hcf
        have hcf := congrFun Efile 0
        have Ehand : σ_5 (G a0 2) = σL_20 (G a0 2) := row_up e_6 h0 hk_hand (by decide)
        have Ekept : σ_5 a0 1 = σ a0 1 := (fld_up e_6 h0 h0 (fun q => absurd q.2 (by decide))).trans Ekept
        have hI := FI_dep hS h0 hI (kp_up e_6 h0 13003 rfl (by decide))
        try clear hfk
        have hfk : σ_5 a0 3 = σL_20 (G a0 0) ((9052 + (27 * v4_20)) + 0).toNat := by rw [e_6]; exact up2_at _ _ _ _
        have hhl := hfk
        refine j_const hx hb dX12_comesAnew_50 ?_
        refine lv_istore (lv' := [(6, .int (jI 0)), (5, .int (jI (9052 + (27 * v4_20)))), (0, .ref a0), (3, .int (jI v_2)), (4, .int (jI v4_20))]) hx hb dX12_comesAnew_51 hl (by decide) rfl (fun ls hl => ?_)
        have L_53 : ∀ (N : Nat) (v6_53 : Int) (σL_53 : Nat → Nat → Int) (H : Heap) (locs : List Loc) (ls : Array Slot), N = (2147483647 - v6_53 : Int).toNat → (0 ≤ v6_53) → (v6_53 ≤ (σ_5 a0 3)) → (∀ j : Int, 0 ≤ j → j < v6_53 → (σL_53 (G a0 2)) j.toNat = kO (σ (G a0 0)) v4_20 (3 + j)) → rg v6_53 → PW D cA τ G L σL_53 H → va_S (fun q => q ∈ L) s.heap H locs → fr wr_X12_comesAnew τ σ σL_53 → FI G a0 σL_53 → σL_53 (G a0 0) = σL_20 (G a0 0) → σL_53 a0 3 = σ_5 a0 3 → σL_53 a0 1 = σ a0 1 → lv_has ls 7 [(0, .ref a0), (3, .int (jI v_2)), (4, .int (jI v4_20)), (5, .int (jI (9052 + (27 * v4_20)))), (6, .int (jI v6_53))] → W p l e ({ frames := 5, cells := 0, slots := 0, locals := 115 }) s m args below meth c H locs 0 0 Q (F0 m 53 ls []) := by
          intro N
          induction N using Nat.strongRecOn with
          | ind N ih_53 =>
            intro v6_53 σL_53 H locs ls hN i0_53 i1_53 i2_53 rv6_53 hW hF hR hI Efile Ehl Ekept hl
            try clear hcf
            try clear hfk
            have hcf := congrFun Efile 0
            refine lv_iload hx hb dX12_comesAnew_53 (lv_at hl 4 rfl) ?_
            refine lv_aload_n hx hb dX12_comesAnew_55 rfl (lv_at hl 0 rfl) ?_
            refine j_getI hx hb (C := RX12) (T := TX12) (N := 41) hts inX12_comesAnew_X12 hown hK hS hW h0 rfl 3 rfl rfl (by decide) (hts _ flX12_comesAnew_70) dX12_comesAnew_56 ?_
            rw [Ehl]
            have := fbd hW h0 (k := 3) (lo := 0) (hi := 24) rfl rfl
            try simp only [Ehl] at this
            refine j_icmp_ge (tgt := 87) hx hb (by omega) (by omega) dX12_comesAnew_59 (by decide) (fun c_7 => ?_) (fun c_7 => ?_)
            · have hhb : ∀ k : Int, 0 ≤ k → k < (σ_5 a0 3) → (σL_53 (G a0 2)) k.toNat = kO (σ (G a0 0)) v4_20 (3 + k) := fun k k0 k1 => i2_53 k k0 (by omega)
              have hpl := PL_an (fh := hB (σL_53 (G a0 2))) hI0.1.2.2.2.2.2 i4_20 (by omega) (by omega) (show (σ_5 a0 3) = kO (σ (G a0 0)) v4_20 0 by omega) (fun k k0 k1 => hhb k k0 k1)
              refine lv_aload_n hx hb dX12_comesAnew_87 rfl (lv_at hl 0 rfl) ?_
              refine lv_aload_n hx hb dX12_comesAnew_88 rfl (lv_at hl 0 rfl) ?_
              refine j_getR hx hb (C := RX12) (T := TX12) (N := 41) hts inX12_comesAnew_X12 hown hK hS hW h0 rfl 0 rfl rfl (by decide) (hts _ flX12_comesAnew_7) dX12_comesAnew_89 ?_
              refine lv_iload hx hb dX12_comesAnew_92 (lv_at hl 3 rfl) ?_
              refine j_const hx hb dX12_comesAnew_94 ?_
              refine j_add hx hb dX12_comesAnew_95 ?_
              refine j_ald hx hb hK hS hW hk_file (n := 17624) rfl (by omega) (by omega) (by decide) dX12_comesAnew_96 ?_
              have := abd hW hk_file (n := 17624) (lo := -2147483648) (hi := 2147483647) (i := (9052 + (27 * v4_20)) + 1) rfl (by omega) (by omega)
              rw [Efile]
              try simp only [Efile] at this
              refine j_cV (j_runV (As := [.int (jI (σL_20 (G a0 0) ((9052 + (27 * v4_20)) + 1).toNat))]) (rest := []) hx hb hml hown hts hK hS hW (kX12_comes l hS σL_53 (a0 := a0) (h0 := h0) (x1 := σL_20 (G a0 0) ((9052 + (27 * v4_20)) + 1).toNat) (r1 := (by omega)) (t := v4_20) (hI := hI) (q0 := (by rw [Efile, i3_20, Ehl]; exact hpl)) (q1 := (by first | exact i2_20 | (rw [Efile]; exact i2_20))) (q2 := (by omega)) (q3 := (by omega))) 1 gX12_comesAnew_X12_comes rfl hvX12_comes ⟨Nat.le_of_ble_eq_true rfl, Nat.le_of_ble_eq_true rfl⟩ rfl rfl h0 rfl rfl rfl rfl hl.1 rfl (Nat.le_of_ble_eq_true rfl) dX12_comesAnew_97 ⟨Nat.le_of_ble_eq_true rfl, Nat.le_of_ble_eq_true rfl⟩) hA hF (fun σ_8 H locs hW hF pσ_8 => ?_)
              try dsimp only at pσ_8
              obtain ⟨pσ_8, fpσ_8⟩ := pσ_8
              try simp only [Efile, Ehl, Ekept] at pσ_8
              have q_comes := pσ_8
              have hR := fr_call hR fpσ_8 (by decide)
              have Ehl : σ_8 a0 3 = σ_5 a0 3 := (fr_at fpσ_8 h0 3 13003 rfl (by decide)).trans Ehl
              have Ehand : σ_8 (G a0 2) = σL_53 (G a0 2) := row_fr fpσ_8 hk_hand 41 (by decide) (by decide)
              have Ekept : σ_8 a0 1 = σ a0 1 := (fr_at fpσ_8 h0 1 13001 rfl (by decide)).trans Ekept
              have hI := q_comes.1
              have hki := q_comes.2.2
              have han := AN_s i4_20 hki (fun j j0 j1 => hL0 j j0 (by omega)) (by omega) (fun k k0 k1 => hhb k k0 k1)
              refine j_iinc (lv' := [(4, .int (jI (v4_20 + 1))), (0, .ref a0), (3, .int (jI v_2)), (5, .int (jI (9052 + (27 * v4_20)))), (6, .int (jI v6_53))]) hx hb dX12_comesAnew_100 hl (k := 2) rfl (by decide) rfl (fun ls hl => ?_)
              refine lv_goto (tgt := 20) hx hb dX12_comesAnew_103 (by decide) ?_
              exact ih_20 ((2147483647 - (v4_20 + 1) : Int).toNat) (by omega) (v4_20 + 1) σ_8 _ _ _ rfl (by omega) (by omega) (by first | exact (by first | exact hfa.2 | exact q_comes.2.1) | (simp only [Ehl, Ehand, Ekept]; exact (by first | exact hfa.2 | exact q_comes.2.1))) (by first | exact (by first | exact hem.1 | (rw [hki.1]; omega)) | (simp only [Ehl, Ehand, Ekept]; exact (by first | exact hem.1 | (rw [hki.1]; omega)))) (by first | exact (by first | exact AN_0 | exact han) | (simp only [Ehl, Ehand, Ekept]; exact (by first | exact AN_0 | exact han))) (by first | exact (by first | exact hr1 | exact fun q a b => (hki.2.2.2.2.2 q (by omega)).trans (i5_20 q a b)) | (simp only [Ehl, Ehand, Ekept]; exact (by first | exact hr1 | exact fun q a b => (hki.2.2.2.2.2 q (by omega)).trans (i5_20 q a b)))) (by first | exact (by first | exact hr2 | exact fun q a => (hki.2.2.2.2.2 (8812 + q) (by omega)).trans (i6_20 q a)) | (simp only [Ehl, Ehand, Ekept]; exact (by first | exact hr2 | exact fun q a => (hki.2.2.2.2.2 (8812 + q) (by omega)).trans (i6_20 q a)))) (by omega) hW hF hR hI Ekept (lv_sub hl [1, 2, 0] rfl)
            · have hrb := R2b i6_20 (i := v4_20) (k := v6_53) (by omega) (by omega) (by omega) (by omega)
              have hbb := hI0.1.2.2.2.2.1 v4_20 v6_53 (by omega) (by omega) (by omega) (by omega)
              refine lv_aload_n hx hb dX12_comesAnew_62 rfl (lv_at hl 0 rfl) ?_
              refine j_getR hx hb (C := RX12) (T := TX12) (N := 41) hts inX12_comesAnew_X12 hown hK hS hW h0 rfl 2 rfl rfl (by decide) (hts _ flX12_comesAnew_13) dX12_comesAnew_63 ?_
              refine lv_iload hx hb dX12_comesAnew_66 (lv_at hl 4 rfl) ?_
              refine lv_aload_n hx hb dX12_comesAnew_68 rfl (lv_at hl 0 rfl) ?_
              refine j_getR hx hb (C := RX12) (T := TX12) (N := 41) hts inX12_comesAnew_X12 hown hK hS hW h0 rfl 0 rfl rfl (by decide) (hts _ flX12_comesAnew_7) dX12_comesAnew_69 ?_
              refine lv_iload hx hb dX12_comesAnew_72 (lv_at hl 3 rfl) ?_
              refine j_const hx hb dX12_comesAnew_74 ?_
              refine j_add hx hb dX12_comesAnew_75 ?_
              refine lv_iload hx hb dX12_comesAnew_76 (lv_at hl 4 rfl) ?_
              refine j_add hx hb dX12_comesAnew_78 ?_
              refine j_ald hx hb hK hS hW hk_file (n := 17624) rfl (by omega) (by omega) (by decide) dX12_comesAnew_79 ?_
              have := abd hW hk_file (n := 17624) (lo := -2147483648) (hi := 2147483647) (i := ((9052 + (27 * v4_20)) + 3) + v6_53) rfl (by omega) (by omega)
              rw [Efile]
              try simp only [Efile] at this
              refine j_ast hx hb hK hS hA hW hF hk_hand (n := 24) (lo := 0) (hi := 255) rfl (by omega) (by omega) (by decide) (by omega) dX12_comesAnew_80 (fun σ_9 H locs e_10 hW hF => ?_)
              have st_hand := e_10
              have hR := fr_up hR e_10 hk_hand 41000 (cdA 41 (by decide) _) (by decide)
              have Efile : σ_9 (G a0 0) = σL_20 (G a0 0) := (row_up e_10 hk_hand hk_file (by decide)).trans Efile
              try clear hcf
              have hcf := congrFun Efile 0
              have Ehl : σ_9 a0 3 = σ_5 a0 3 := (fld_up e_10 hk_hand h0 (fun q => absurd q.1 (by decide))).trans Ehl
              have Ekept : σ_9 a0 1 = σ a0 1 := (fld_up e_10 hk_hand h0 (fun q => absurd q.1 (by decide))).trans Ekept
              have hI := FI_dep hS h0 hI (kp_up e_10 hk_hand 41000 (cdA 41 (by decide) _) (by decide))
              refine j_iinc (lv' := [(6, .int (jI (v6_53 + 1))), (0, .ref a0), (3, .int (jI v_2)), (4, .int (jI v4_20)), (5, .int (jI (9052 + (27 * v4_20))))]) hx hb dX12_comesAnew_81 hl (k := 4) rfl (by decide) rfl (fun ls hl => ?_)
              refine lv_goto (tgt := 53) hx hb dX12_comesAnew_84 (by decide) ?_
              exact ih_53 ((2147483647 - (v6_53 + 1) : Int).toNat) (by omega) (v6_53 + 1) σ_9 _ _ _ rfl (by omega) (by omega) (by first | exact (by first | (intro j j0 j1; exfalso; omega) | exact row_succ (f := fun j => kO (σ (G a0 0)) v4_20 (3 + j)) i0_53 st_hand i2_53 (by omega)) | (simp only [Efile, Ehl, Ekept]; exact (by first | (intro j j0 j1; exfalso; omega) | exact row_succ (f := fun j => kO (σ (G a0 0)) v4_20 (3 + j)) i0_53 st_hand i2_53 (by omega)))) (by omega) hW hF hR hI Efile Ehl Ekept (lv_sub hl [1, 2, 3, 4, 0] rfl)
        exact L_53 ((2147483647 - 0 : Int).toNat) 0 σ_5 _ _ _ rfl (by omega) (by omega) (by first | exact (by first | (intro j j0 j1; exfalso; omega) | exact row_succ (f := fun j => kO (σ (G a0 0)) v4_20 (3 + j)) i0_53 st_hand i2_53 (by omega)) | (simp only [Efile, Ehand, Ekept]; exact (by first | (intro j j0 j1; exfalso; omega) | exact row_succ (f := fun j => kO (σ (G a0 0)) v4_20 (3 + j)) i0_53 st_hand i2_53 (by omega)))) (by decide) hW hF hR hI Efile rfl Ekept (lv_sub hl [2, 3, 4, 1, 0] rfl)
  exact L_20 ((2147483647 - 0 : Int).toNat) 0 σ_3 _ _ _ rfl (by omega) (by omega) (by first | exact (by first | exact hfa.2 | exact q_comes.2.1) | (simp only [Ehl, Ehand, Ekept]; exact (by first | exact hfa.2 | exact q_comes.2.1))) (by first | exact (by first | exact hem.1 | (rw [hki.1]; omega)) | (simp only [Ehl, Ehand, Ekept]; exact (by first | exact hem.1 | (rw [hki.1]; omega)))) (by first | exact (by first | exact AN_0 | exact han) | (simp only [Ehl, Ehand, Ekept]; exact (by first | exact AN_0 | exact han))) (by first | exact (by first | exact hr1 | exact fun q a b => (hki.2.2.2.2.2 q (by omega)).trans (i5_20 q a b)) | (simp only [Ehl, Ehand, Ekept]; exact (by first | exact hr1 | exact fun q a b => (hki.2.2.2.2.2 q (by omega)).trans (i5_20 q a b)))) (by first | exact (by first | exact hr2 | exact fun q a => (hki.2.2.2.2.2 (8812 + q) (by omega)).trans (i6_20 q a)) | (simp only [Ehl, Ehand, Ekept]; exact (by first | exact hr2 | exact fun q a => (hki.2.2.2.2.2 (8812 + q) (by omega)).trans (i6_20 q a)))) (by decide) hW hF hR hI Ekept (lv_sub hl [2, 1, 0] rfl)
abbrev wr_X12_tried : List Nat := [13003, 13004, 13005, 13008, 13009, 13027, 13028, 13029, 13030, 13031, 13032, 13033, 40000, 41000, 42000, 43000]
theorem hvX12_tried : yX12_tried.cls = RX12 ∧ yX12_tried.cls ≠ "java/lang/invoke/MethodHandle" ∧ yX12_tried.cls ≠ "java/lang/invoke/VarHandle" ∧ (parseMethodDescriptor yX12_tried.desc).map (fun d => d.parameters.length) = some 3 := by decide +kernel
set_option maxHeartbeats 4000000 in
set_option maxRecDepth 100000 in
theorem kX12_tried (l : Launch) {D : va_G} {cA : Nat → ClassId} {τ : Nat → Nat} {G : Nat → Nat → Nat} {L : List Nat} (hS : SW τ G L) (σ : Nat → Nat → Int) {a0 : Nat} (h0 : τ a0 = 13) {x1 : Int} (r1 : rg x1) {x2 : Int} (r2 : rg x2) {x3 : Int} (r3 : rg x3) (hI : FI G a0 σ) (q0 : FM (σ (G a0 0))) : Met l yX12_tried wsX12_tried ({ frames := 7, cells := 0, slots := 0, locals := 154 }) (jP D cA τ G L σ [.ref a0, .int (jI x1), .int (jI x2), .int (jI x3)]) (jQI D cA τ G L (fun r σ' => ((FI G a0 σ') ∧ (FM (σ' (G a0 0)))) ∧ fr wr_X12_tried τ σ σ')) 0 0 (fun q => q ∈ L) := by
  refine j_metI (by decide +kernel) rfl (Nat.le_of_ble_eq_true rfl) ?_
  intro p e s m args below meth c Q hx hb hml hown hts hK hW hRet ls hl
  have hl : lv_has ls 5 [(0, .ref a0), (1, .int (jI x1)), (2, .int (jI x2)), (3, .int (jI x3))] := hl
  have hA : ∀ q ∈ L, (fun q => q ∈ L) q := fun _ h => h
  have hF : va_S (fun q => q ∈ L) s.heap s.heap [] := va_S.rf
  have hR : fr wr_X12_tried τ σ σ := fr_rf
  have hk_file : τ (G a0 0) = 40 := gty hS h0 (k := 0) rfl rfl
  have := FI_bd hI
  have := fbd hW h0 (k := 3) (lo := 0) (hi := 24) rfl rfl
  have hI0 := hI
  refine lv_iload_n hx hb dX12_tried_0 rfl (lv_at hl 1 rfl) ?_
  refine j_const hx hb dX12_tried_1 ?_
  refine j_bi hx hb dX12_tried_2 (by decide) ?_
  refine j_cR (j_runS (As := [.int (jI x1), .int (jI 1), .int (jI 8)]) (rest := []) hx hb hml hown hts hK hW (kX12_in l hS σ (x0 := x1) (r0 := (by omega)) (x1 := 1) (r1 := (by decide)) (x2 := 8) (r2 := (by decide))) 3 gX12_tried_X12_in rfl hsX12_in ⟨Nat.le_of_ble_eq_true rfl, Nat.le_of_ble_eq_true rfl⟩ rfl rfl rfl hl.1 rfl (Nat.le_of_ble_eq_true rfl) dX12_tried_4 ⟨Nat.le_of_ble_eq_true rfl, Nat.le_of_ble_eq_true rfl⟩) (fun v_1 rv_1 pv_1 => ?_)
  try dsimp only at pv_1
  have q_in := pv_1
  refine j_if_eq (tgt := 30) hx hb (by omega) dX12_tried_7 (by decide) (fun c_2 => ?_) (fun c_2 => ?_)
  · refine j_const hx hb dX12_tried_30 ?_
    exact hRet 31 _ _ _ (-1) _ dX12_tried_31 hW hF (by decide) ⟨⟨hI, q0⟩, hR⟩
  · refine lv_iload_n hx hb dX12_tried_10 rfl (lv_at hl 2 rfl) ?_
    refine j_const hx hb dX12_tried_11 ?_
    refine j_bi hx hb dX12_tried_12 (by decide) ?_
    refine j_cR (j_runS (As := [.int (jI x2), .int (jI 2), .int (jI 8)]) (rest := []) hx hb hml hown hts hK hW (kX12_in l hS σ (x0 := x2) (r0 := (by omega)) (x1 := 2) (r1 := (by decide)) (x2 := 8) (r2 := (by decide))) 3 gX12_tried_X12_in rfl hsX12_in ⟨Nat.le_of_ble_eq_true rfl, Nat.le_of_ble_eq_true rfl⟩ rfl rfl rfl hl.1 rfl (Nat.le_of_ble_eq_true rfl) dX12_tried_14 ⟨Nat.le_of_ble_eq_true rfl, Nat.le_of_ble_eq_true rfl⟩) (fun v_3 rv_3 pv_3 => ?_)
    try dsimp only at pv_3
    have q_in := pv_3
    refine j_if_eq (tgt := 30) hx hb (by omega) dX12_tried_17 (by decide) (fun c_4 => ?_) (fun c_4 => ?_)
    · refine j_const hx hb dX12_tried_30 ?_
      exact hRet 31 _ _ _ (-1) _ dX12_tried_31 hW hF (by decide) ⟨⟨hI, q0⟩, hR⟩
    · refine lv_iload_n hx hb dX12_tried_20 rfl (lv_at hl 3 rfl) ?_
      refine j_const hx hb dX12_tried_21 ?_
      refine j_bi hx hb dX12_tried_22 (by decide) ?_
      refine j_cR (j_runS (As := [.int (jI x3), .int (jI 3), .int (jI 13)]) (rest := []) hx hb hml hown hts hK hW (kX12_in l hS σ (x0 := x3) (r0 := (by omega)) (x1 := 3) (r1 := (by decide)) (x2 := 13) (r2 := (by decide))) 3 gX12_tried_X12_in rfl hsX12_in ⟨Nat.le_of_ble_eq_true rfl, Nat.le_of_ble_eq_true rfl⟩ rfl rfl rfl hl.1 rfl (Nat.le_of_ble_eq_true rfl) dX12_tried_24 ⟨Nat.le_of_ble_eq_true rfl, Nat.le_of_ble_eq_true rfl⟩) (fun v_5 rv_5 pv_5 => ?_)
      try dsimp only at pv_5
      have q_in := pv_5
      refine j_if_ne (tgt := 32) hx hb (by omega) dX12_tried_27 (by decide) (fun c_6 => ?_) (fun c_6 => ?_)
      · refine lv_aload_n hx hb dX12_tried_32 rfl (lv_at hl 0 rfl) ?_
        refine lv_iload_n hx hb dX12_tried_33 rfl (lv_at hl 1 rfl) ?_
        refine lv_iload_n hx hb dX12_tried_34 rfl (lv_at hl 2 rfl) ?_
        refine j_cV (j_runV (As := [.int (jI x1), .int (jI x2)]) (rest := []) hx hb hml hown hts hK hS hW (kX12_comesAnew l hS σ (a0 := a0) (h0 := h0) (x1 := x1) (r1 := (by omega)) (x2 := x2) (r2 := (by omega)) (hI := hI) (q0 := q0) (q1 := (by omega)) (q2 := (by omega)) (q3 := (by omega)) (q4 := (by omega))) 2 gX12_tried_X12_comesAnew rfl hvX12_comesAnew ⟨Nat.le_of_ble_eq_true rfl, Nat.le_of_ble_eq_true rfl⟩ rfl rfl h0 rfl rfl rfl rfl hl.1 rfl (Nat.le_of_ble_eq_true rfl) dX12_tried_35 ⟨Nat.le_of_ble_eq_true rfl, Nat.le_of_ble_eq_true rfl⟩) hA hF (fun σ_7 H locs hW hF pσ_7 => ?_)
        try dsimp only at pσ_7
        obtain ⟨pσ_7, fpσ_7⟩ := pσ_7
        have q_comesAnew := pσ_7
        have hR := fr_call hR fpσ_7 (by decide)
        have Ekept : σ_7 a0 1 = σ a0 1 := fr_at fpσ_7 h0 1 13001 rfl (by decide)
        have hI := q_comesAnew.1
        refine lv_aload_n hx hb dX12_tried_38 rfl (lv_at hl 0 rfl) ?_
        refine lv_iload_n hx hb dX12_tried_39 rfl (lv_at hl 3 rfl) ?_
        refine j_cI (j_runV (As := [.int (jI x3)]) (rest := []) hx hb hml hown hts hK hS hW (kX12_sumOf l hS σ_7 (a0 := a0) (h0 := h0) (x1 := x3) (r1 := (by omega)) (hI := hI) (q0 := (by omega)) (q1 := (by omega))) 1 gX12_tried_X12_sumOf rfl hvX12_sumOf ⟨Nat.le_of_ble_eq_true rfl, Nat.le_of_ble_eq_true rfl⟩ rfl rfl h0 rfl rfl rfl rfl hl.1 rfl (Nat.le_of_ble_eq_true rfl) dX12_tried_40 ⟨Nat.le_of_ble_eq_true rfl, Nat.le_of_ble_eq_true rfl⟩) hA hF (fun v_8 σ_9 H locs hW hF rv_8 pv_8 => ?_)
        try dsimp only at pv_8
        obtain ⟨pv_8, fpv_8⟩ := pv_8
        have q_sumOf := pv_8
        have hR := fr_call hR fpv_8 (by decide)
        have Efile : σ_9 (G a0 0) = σ_7 (G a0 0) := row_fr fpv_8 hk_file 40 (by decide) (by decide)
        try clear hcf
        have hcf := congrFun Efile 0
        have Ekept : σ_9 a0 1 = σ a0 1 := (fr_at fpv_8 h0 1 13001 rfl (by decide)).trans Ekept
        have hI := FI_dep hS h0 hI (kp_fr fpv_8 (by decide))
        refine lv_istore (lv' := [(4, .int (jI v_8)), (0, .ref a0), (1, .int (jI x1)), (2, .int (jI x2)), (3, .int (jI x3))]) hx hb dX12_tried_43 hl (by decide) rfl (fun ls hl => ?_)
        refine lv_aload_n hx hb dX12_tried_45 rfl (lv_at hl 1 rfl) ?_
        refine j_const hx hb dX12_tried_46 ?_
        refine j_const hx hb dX12_tried_47 ?_
        refine j_cV (j_runV (As := [.int (jI 2), .int (jI 0)]) (rest := []) hx hb hml hown hts hK hS hW (kX12_copies l hS σ_9 (a0 := a0) (h0 := h0) (x1 := 2) (r1 := (by decide)) (x2 := 0) (r2 := (by decide)) (q0 := (by omega)) (q1 := (by omega)) (q2 := (by omega)) (q3 := (by omega)) (q4 := (by omega))) 2 gX12_tried_X12_copies rfl hvX12_copies ⟨Nat.le_of_ble_eq_true rfl, Nat.le_of_ble_eq_true rfl⟩ rfl rfl h0 rfl rfl rfl rfl hl.1 rfl (Nat.le_of_ble_eq_true rfl) dX12_tried_48 ⟨Nat.le_of_ble_eq_true rfl, Nat.le_of_ble_eq_true rfl⟩) hA hF (fun σ_10 H locs hW hF pσ_10 => ?_)
        try dsimp only at pσ_10
        obtain ⟨pσ_10, fpσ_10⟩ := pσ_10
        try simp only [Efile, Ekept] at pσ_10
        have q_copies := pσ_10
        have hR := fr_call hR fpσ_10 (by decide)
        have Ekept : σ_10 a0 1 = σ a0 1 := (fr_at fpσ_10 h0 1 13001 rfl (by decide)).trans Ekept
        have hfe := FI_eq hI0 q0 (AN_back q_comesAnew.2.2.1 q_comesAnew.2.2.2 q_copies) Ekept
        refine lv_iload hx hb dX12_tried_51 (lv_at hl 0 rfl) ?_
        exact hRet 53 _ _ _ v_8 _ dX12_tried_53 hW hF (by omega) ⟨(by first | exact hfe | (simp only [Ekept]; exact hfe)), hR⟩
      · refine j_const hx hb dX12_tried_30 ?_
        exact hRet 31 _ _ _ (-1) _ dX12_tried_31 hW hF (by decide) ⟨⟨hI, q0⟩, hR⟩
abbrev wr_X12_best : List Nat := [13003, 13004, 13005, 13008, 13009, 13027, 13028, 13029, 13030, 13031, 13032, 13033, 40000, 41000, 42000, 43000]
theorem flX12_best_7 : Cond.fieldLink RX12 7 "PageTrieModel" "file" "[I" ∈ wsX12_best := List.mem_of_getElem? (i := 2) rfl
theorem inX12_best_X12 : ∀ w ∈ u_ws RX12 TX12 41, w ∈ wsX12_best := mem_r _ [159, 160, 161, 162, 163, 164, 165, 166, 167, 168, 169, 170, 171, 172, 173, 174, 175, 176, 177, 178, 179, 180, 181, 182, 183, 184, 185, 186, 187, 188, 189, 190, 191, 192, 193, 194, 195, 196, 197, 198, 199] rfl
theorem hvX12_best : yX12_best.cls = RX12 ∧ yX12_best.cls ≠ "java/lang/invoke/MethodHandle" ∧ yX12_best.cls ≠ "java/lang/invoke/VarHandle" ∧ (parseMethodDescriptor yX12_best.desc).map (fun d => d.parameters.length) = some 1 := by decide +kernel
set_option maxHeartbeats 4000000 in
set_option maxRecDepth 100000 in
theorem kX12_best (l : Launch) {D : va_G} {cA : Nat → ClassId} {τ : Nat → Nat} {G : Nat → Nat → Nat} {L : List Nat} (hS : SW τ G L) (σ : Nat → Nat → Int) {a0 : Nat} (h0 : τ a0 = 13) {x1 : Int} (r1 : rg x1) (hI : FI G a0 σ) (q0 : FM (σ (G a0 0))) : Met l yX12_best wsX12_best ({ frames := 8, cells := 0, slots := 0, locals := 178 }) (jP D cA τ G L σ [.ref a0, .int (jI x1)]) (jQI D cA τ G L (fun r σ' => ((FI G a0 σ') ∧ (FM (σ' (G a0 0)))) ∧ fr wr_X12_best τ σ σ')) 0 0 (fun q => q ∈ L) := by
  refine j_metI (by decide +kernel) rfl (Nat.le_of_ble_eq_true rfl) ?_
  intro p e s m args below meth c Q hx hb hml hown hts hK hW hRet ls hl
  have hl : lv_has ls 6 [(0, .ref a0), (1, .int (jI x1))] := hl
  have hA : ∀ q ∈ L, (fun q => q ∈ L) q := fun _ h => h
  have hF : va_S (fun q => q ∈ L) s.heap s.heap [] := va_S.rf
  have hR : fr wr_X12_best τ σ σ := fr_rf
  have hk_file : τ (G a0 0) = 40 := gty hS h0 (k := 0) rfl rfl
  have := FI_bd hI
  have := fbd hW h0 (k := 3) (lo := 0) (hi := 24) rfl rfl
  refine lv_iload_n hx hb dX12_best_0 rfl (lv_at hl 1 rfl) ?_
  refine j_const hx hb dX12_best_1 ?_
  refine j_const hx hb dX12_best_2 ?_
  refine j_cR (j_runS (As := [.int (jI x1), .int (jI 0), .int (jI 1)]) (rest := []) hx hb hml hown hts hK hW (kX12_in l hS σ (x0 := x1) (r0 := (by omega)) (x1 := 0) (r1 := (by decide)) (x2 := 1) (r2 := (by decide))) 3 gX12_best_X12_in rfl hsX12_in ⟨Nat.le_of_ble_eq_true rfl, Nat.le_of_ble_eq_true rfl⟩ rfl rfl rfl hl.1 rfl (Nat.le_of_ble_eq_true rfl) dX12_best_3 ⟨Nat.le_of_ble_eq_true rfl, Nat.le_of_ble_eq_true rfl⟩) (fun v_1 rv_1 pv_1 => ?_)
  try dsimp only at pv_1
  have q_in := pv_1
  refine j_if_ne (tgt := 11) hx hb (by omega) dX12_best_6 (by decide) (fun c_2 => ?_) (fun c_2 => ?_)
  · refine j_const hx hb dX12_best_11 ?_
    refine lv_istore_n (lv' := [(2, .int (jI 1)), (0, .ref a0), (1, .int (jI x1))]) hx hb dX12_best_12 rfl hl (by decide) rfl (fun ls hl => ?_)
    refine j_ldc_w hx hb hown (hts (.constant RX12 372 (1000000000)) (by decide +kernel)) (n := 1000000000) rfl dX12_best_13 ?_
    refine lv_istore_n (lv' := [(3, .int (jI 1000000000)), (2, .int (jI 1)), (0, .ref a0), (1, .int (jI x1))]) hx hb dX12_best_16 rfl hl (by decide) rfl (fun ls hl => ?_)
    refine j_const hx hb dX12_best_17 ?_
    refine lv_istore (lv' := [(4, .int (jI 1)), (3, .int (jI 1000000000)), (2, .int (jI 1)), (0, .ref a0), (1, .int (jI x1))]) hx hb dX12_best_18 hl (by decide) rfl (fun ls hl => ?_)
    have L_20 : ∀ (N : Nat) (v2_20 v3_20 v4_20 : Int) (σL_20 : Nat → Nat → Int) (H : Heap) (locs : List Loc) (ls : Array Slot), N = (30 - v4_20 : Int).toNat → (1 ≤ v4_20) → (v4_20 ≤ 9) → (FM (σL_20 (G a0 0))) → rg v2_20 → rg v3_20 → rg v4_20 → PW D cA τ G L σL_20 H → va_S (fun q => q ∈ L) s.heap H locs → fr wr_X12_best τ σ σL_20 → FI G a0 σL_20 → lv_has ls 6 [(0, .ref a0), (1, .int (jI x1)), (2, .int (jI v2_20)), (3, .int (jI v3_20)), (4, .int (jI v4_20))] → W p l e ({ frames := 8, cells := 0, slots := 0, locals := 178 }) s m args below meth c H locs 0 0 Q (F0 m 20 ls []) := by
      intro N
      induction N using Nat.strongRecOn with
      | ind N ih_20 =>
        intro v2_20 v3_20 v4_20 σL_20 H locs ls hN i0_20 i1_20 i2_20 rv2_20 rv3_20 rv4_20 hW hF hR hI hl
        refine lv_iload hx hb dX12_best_20 (lv_at hl 4 rfl) ?_
        refine j_bi hx hb dX12_best_22 (by decide) ?_
        refine j_icmp_gt (tgt := 65) hx hb (by omega) (by decide) dX12_best_24 (by decide) (fun c_3 => ?_) (fun c_3 => ?_)
        · refine lv_iload_n hx hb dX12_best_65 rfl (lv_at hl 1 rfl) ?_
          refine j_if_ne (tgt := 73) hx hb (by omega) dX12_best_66 (by decide) (fun c_4 => ?_) (fun c_4 => ?_)
          · refine lv_iload_n hx hb dX12_best_73 rfl (lv_at hl 3 rfl) ?_
            exact hRet 74 _ _ _ v3_20 _ dX12_best_74 hW hF (by omega) ⟨⟨hI, i2_20⟩, hR⟩
          · refine lv_iload_n hx hb dX12_best_69 rfl (lv_at hl 2 rfl) ?_
            refine lv_goto (tgt := 74) hx hb dX12_best_70 (by decide) ?_
            exact hRet 74 _ _ _ v2_20 _ dX12_best_74 hW hF (by omega) ⟨⟨hI, i2_20⟩, hR⟩
        · refine lv_aload_n hx hb dX12_best_27 rfl (lv_at hl 0 rfl) ?_
          refine lv_iload hx hb dX12_best_28 (lv_at hl 4 rfl) ?_
          refine lv_aload_n hx hb dX12_best_30 rfl (lv_at hl 0 rfl) ?_
          refine j_getR hx hb (C := RX12) (T := TX12) (N := 41) hts inX12_best_X12 hown hK hS hW h0 rfl 0 rfl rfl (by decide) (hts _ flX12_best_7) dX12_best_31 ?_
          refine j_const hx hb dX12_best_34 ?_
          refine j_ald hx hb hK hS hW hk_file (n := 17624) rfl (by omega) (by omega) (by decide) dX12_best_35 ?_
          have : -2147483648 ≤ σL_20 (G a0 0) 2 ∧ σL_20 (G a0 0) 2 ≤ 2147483647 := abd hW hk_file (n := 17624) (lo := -2147483648) (hi := 2147483647) (i := 2) rfl (by decide) (by decide)
          refine j_eq (z := σL_20 (G a0 0) 2) rfl ?_
          have := FI_bd hI
          refine j_bi hx hb dX12_best_36 (by decide) ?_
          refine j_cI (j_runV (As := [.int (jI v4_20), .int (jI (σL_20 (G a0 0) 2)), .int (jI 13)]) (rest := []) hx hb hml hown hts hK hS hW (kX12_tried l hS σL_20 (a0 := a0) (h0 := h0) (x1 := v4_20) (r1 := (by omega)) (x2 := σL_20 (G a0 0) 2) (r2 := (by omega)) (x3 := 13) (r3 := (by decide)) (hI := hI) (q0 := i2_20)) 3 gX12_best_X12_tried rfl hvX12_tried ⟨Nat.le_of_ble_eq_true rfl, Nat.le_of_ble_eq_true rfl⟩ rfl rfl h0 rfl rfl rfl rfl hl.1 rfl (Nat.le_of_ble_eq_true rfl) dX12_best_38 ⟨Nat.le_of_ble_eq_true rfl, Nat.le_of_ble_eq_true rfl⟩) hA hF (fun v_5 σ_6 H locs hW hF rv_5 pv_5 => ?_)
          try dsimp only at pv_5
          obtain ⟨pv_5, fpv_5⟩ := pv_5
          have q_tried := pv_5
          have hR := fr_call hR fpv_5 (by decide)
          have hI := q_tried.1
          refine lv_istore (lv' := [(5, .int (jI v_5)), (0, .ref a0), (1, .int (jI x1)), (2, .int (jI v2_20)), (3, .int (jI v3_20)), (4, .int (jI v4_20))]) hx hb dX12_best_41 hl (by decide) rfl (fun ls hl => ?_)
          refine lv_iload hx hb dX12_best_43 (lv_at hl 0 rfl) ?_
          refine lv_iload_n hx hb dX12_best_45 rfl (lv_at hl 4 rfl) ?_
          refine j_icmp_ge (tgt := 52) hx hb (by omega) (by omega) dX12_best_46 (by decide) (fun c_7 => ?_) (fun c_7 => ?_)
          · refine lv_iload_n hx hb dX12_best_52 rfl (lv_at hl 4 rfl) ?_
            refine lv_iload hx hb dX12_best_53 (lv_at hl 0 rfl) ?_
            refine j_cR (j_runS (As := [.int (jI v3_20), .int (jI v_5)]) (rest := []) hx hb hml hown hts hK hW (kX12_min l hS σ_6 (x0 := v3_20) (r0 := (by omega)) (x1 := v_5) (r1 := (by omega))) 2 gX12_best_X12_min rfl hsX12_min ⟨Nat.le_of_ble_eq_true rfl, Nat.le_of_ble_eq_true rfl⟩ rfl rfl rfl hl.1 rfl (Nat.le_of_ble_eq_true rfl) dX12_best_55 ⟨Nat.le_of_ble_eq_true rfl, Nat.le_of_ble_eq_true rfl⟩) (fun v_8 rv_8 pv_8 => ?_)
            try dsimp only at pv_8
            have q_min := pv_8
            refine lv_istore_n (lv' := [(3, .int (jI v_8)), (5, .int (jI v_5)), (0, .ref a0), (1, .int (jI x1)), (2, .int (jI v2_20)), (4, .int (jI v4_20))]) hx hb dX12_best_58 rfl hl (by decide) rfl (fun ls hl => ?_)
            refine j_iinc (lv' := [(4, .int (jI (v4_20 + 1))), (3, .int (jI v_8)), (5, .int (jI v_5)), (0, .ref a0), (1, .int (jI x1)), (2, .int (jI v2_20))]) hx hb dX12_best_59 hl (k := 5) rfl (by decide) rfl (fun ls hl => ?_)
            refine lv_goto (tgt := 20) hx hb dX12_best_62 (by decide) ?_
            exact ih_20 ((30 - (v4_20 + 1) : Int).toNat) (by omega) v2_20 v_8 (v4_20 + 1) σ_6 _ _ _ rfl (by omega) (by omega) (by first | exact q0 | exact q_tried.2) (by omega) (by omega) (by omega) hW hF hR hI (lv_sub hl [3, 4, 5, 1, 0] rfl)
          · refine lv_iload hx hb dX12_best_49 (lv_at hl 5 rfl) ?_
            refine lv_istore_n (lv' := [(2, .int (jI v4_20)), (5, .int (jI v_5)), (0, .ref a0), (1, .int (jI x1)), (3, .int (jI v3_20)), (4, .int (jI v4_20))]) hx hb dX12_best_51 rfl hl (by decide) rfl (fun ls hl => ?_)
            refine lv_iload_n hx hb dX12_best_52 rfl (lv_at hl 4 rfl) ?_
            refine lv_iload hx hb dX12_best_53 (lv_at hl 1 rfl) ?_
            refine j_cR (j_runS (As := [.int (jI v3_20), .int (jI v_5)]) (rest := []) hx hb hml hown hts hK hW (kX12_min l hS σ_6 (x0 := v3_20) (r0 := (by omega)) (x1 := v_5) (r1 := (by omega))) 2 gX12_best_X12_min rfl hsX12_min ⟨Nat.le_of_ble_eq_true rfl, Nat.le_of_ble_eq_true rfl⟩ rfl rfl rfl hl.1 rfl (Nat.le_of_ble_eq_true rfl) dX12_best_55 ⟨Nat.le_of_ble_eq_true rfl, Nat.le_of_ble_eq_true rfl⟩) (fun v_9 rv_9 pv_9 => ?_)
            try dsimp only at pv_9
            have q_min := pv_9
            refine lv_istore_n (lv' := [(3, .int (jI v_9)), (2, .int (jI v4_20)), (5, .int (jI v_5)), (0, .ref a0), (1, .int (jI x1)), (4, .int (jI v4_20))]) hx hb dX12_best_58 rfl hl (by decide) rfl (fun ls hl => ?_)
            refine j_iinc (lv' := [(4, .int (jI (v4_20 + 1))), (3, .int (jI v_9)), (2, .int (jI v4_20)), (5, .int (jI v_5)), (0, .ref a0), (1, .int (jI x1))]) hx hb dX12_best_59 hl (k := 5) rfl (by decide) rfl (fun ls hl => ?_)
            refine lv_goto (tgt := 20) hx hb dX12_best_62 (by decide) ?_
            exact ih_20 ((30 - (v4_20 + 1) : Int).toNat) (by omega) v4_20 v_9 (v4_20 + 1) σ_6 _ _ _ rfl (by omega) (by omega) (by first | exact q0 | exact q_tried.2) (by omega) (by omega) (by omega) hW hF hR hI (lv_sub hl [4, 5, 2, 1, 0] rfl)
    exact L_20 ((30 - 1 : Int).toNat) 1 1000000000 1 σ _ _ _ rfl (by omega) (by omega) (by first | exact q0 | exact q_tried.2) (by decide) (by decide) (by decide) hW hF hR hI (lv_sub hl [3, 4, 2, 1, 0] rfl)
  · refine j_const hx hb dX12_best_9 ?_
    exact hRet 10 _ _ _ (-1) _ dX12_best_10 hW hF (by decide) ⟨⟨hI, q0⟩, hR⟩
