abbrev wr_X12_goesDown : List Nat := [13004, 13005, 13009, 40000]
theorem flX12_goesDown_7 : Cond.fieldLink RX12 7 "PageTrieModel" "file" "[I" ∈ wsX12_goesDown := List.mem_of_getElem? (i := 2) rfl
theorem flX12_goesDown_70 : Cond.fieldLink RX12 70 "PageTrieModel" "handLong" "I" ∈ wsX12_goesDown := List.mem_of_getElem? (i := 3) rfl
theorem flX12_goesDown_84 : Cond.fieldLink RX12 84 "PageTrieModel" "low" "I" ∈ wsX12_goesDown := List.mem_of_getElem? (i := 4) rfl
theorem flX12_goesDown_90 : Cond.fieldLink RX12 90 "PageTrieModel" "high" "I" ∈ wsX12_goesDown := List.mem_of_getElem? (i := 5) rfl
theorem flX12_goesDown_109 : Cond.fieldLink RX12 109 "PageTrieModel" "newBits" "I" ∈ wsX12_goesDown := List.mem_of_getElem? (i := 1) rfl
theorem inX12_goesDown_X12 : ∀ w ∈ u_ws RX12 TX12 41, w ∈ wsX12_goesDown := mem_r _ [40, 41, 42, 43, 44, 45, 46, 47, 48, 49, 50, 51, 52, 53, 54, 55, 56, 57, 58, 59, 60, 61, 62, 63, 64, 65, 66, 67, 68, 69, 70, 71, 72, 73, 74, 75, 76, 77, 78, 79, 80] rfl
theorem hvX12_goesDown : yX12_goesDown.cls = RX12 ∧ yX12_goesDown.cls ≠ "java/lang/invoke/MethodHandle" ∧ yX12_goesDown.cls ≠ "java/lang/invoke/VarHandle" ∧ (parseMethodDescriptor yX12_goesDown.desc).map (fun d => d.parameters.length) = some 0 := by decide +kernel
set_option maxHeartbeats 4000000 in
set_option maxRecDepth 100000 in
theorem kX12_goesDown (l : Launch) {D : va_G} {cA : Nat → ClassId} {τ : Nat → Nat} {G : Nat → Nat → Nat} {L : List Nat} (hS : SW τ G L) (σ : Nat → Nat → Int) {a0 : Nat} (h0 : τ a0 = 13) {t : Int} (hI : FI G a0 σ) (q0 : PL (σ (G a0 0) 0) t (fun i => kO (σ (G a0 0)) i 0) (fun i => kB (σ (G a0 0)) i) (σ a0 3) (hB (σ (G a0 2)))) (q1 : FM (σ (G a0 0))) (q2 : 1 ≤ σ a0 3) : Met l yX12_goesDown wsX12_goesDown ({ frames := 3, cells := 0, slots := 0, locals := 66 }) (jP D cA τ G L σ [.ref a0]) (jQI D cA τ G L (fun r σ' => ((FC (σ (G a0 0)) (σ' (G a0 0))) ∧ (0 ≤ r) ∧ (r ≤ 23) ∧ (GDI (σ (G a0 0) 0) (σ (G a0 0) 1) t r (fun i => kO (σ (G a0 0)) i 0) (fun i => kB (σ (G a0 0)) i) (fun i => kO (σ (G a0 0)) i 2) (fun i => kO (σ' (G a0 0)) i 2) (σ' a0 9) (σ a0 3) (hB (σ (G a0 2)))) ∧ (∀ j : Int, 0 ≤ j → j < σ (G a0 0) 0 → ¬ ksh ((r + 1) * σ (G a0 0) 1) (kO (σ (G a0 0)) j 0) (kB (σ (G a0 0)) j) (σ a0 3) (hB (σ (G a0 2))))) ∧ fr wr_X12_goesDown τ σ σ')) 0 0 (fun q => q ∈ L) := by
  refine j_metI (by decide +kernel) rfl (Nat.le_of_ble_eq_true rfl) ?_
  intro p e s m args below meth c Q hx hb hml hown hts hK hW hRet ls hl
  have hl : lv_has ls 3 [(0, .ref a0)] := hl
  have hA : ∀ q ∈ L, (fun q => q ∈ L) q := fun _ h => h
  have hF : va_S (fun q => q ∈ L) s.heap s.heap [] := va_S.rf
  have hR : fr wr_X12_goesDown τ σ σ := fr_rf
  have hk_file : τ (G a0 0) = 40 := gty hS h0 (k := 0) rfl rfl
  have hk_hand : τ (G a0 2) = 41 := gty hS h0 (k := 2) rfl rfl
  have hI0 := hI
  have hFC : FC (σ (G a0 0)) (σ (G a0 0)) := FC_rf
  have := FI_bd hI
  have := fbd hW h0 (k := 3) (lo := 0) (hi := 24) rfl rfl
  have hsr := hI.1.2.2.2.2.2
  have htn := q0.2.1
  refine j_const hx hb dX12_goesDown_0 ?_
  refine lv_istore_n (lv' := [(1, .int (jI 0)), (0, .ref a0)]) hx hb dX12_goesDown_1 rfl hl (by decide) rfl (fun ls hl => ?_)
  refine lv_aload_n hx hb dX12_goesDown_2 rfl (lv_at hl 1 rfl) ?_
  refine j_const hx hb dX12_goesDown_3 ?_
  refine j_putI hx hb (C := RX12) (T := TX12) (N := 41) hts inX12_goesDown_X12 tyX12 tyX12_ok nmX12 hown hK hS hA hW hF h0 rfl 9 (lo := -2147483648) (hi := 2147483647) rfl rfl (by decide) (hts _ flX12_goesDown_109) rfl .int rfl (by omega) rfl rfl dX12_goesDown_4 (fun σ_1 H locs e_2 hW hF => ?_)
  have hR := fr_up hR e_2 h0 13009 rfl (by decide)
  have Efile : σ_1 (G a0 0) = σ (G a0 0) := row_up e_2 h0 hk_file (by decide)
  have := congrFun Efile 0
  have Ehl : σ_1 a0 3 = σ a0 3 := fld_up e_2 h0 h0 (fun q => absurd q.2 (by decide))
  have Ehand : σ_1 (G a0 2) = σ (G a0 2) := row_up e_2 h0 hk_hand (by decide)
  have Elow : σ_1 a0 4 = σ a0 4 := fld_up e_2 h0 h0 (fun q => absurd q.2 (by decide))
  have Ehigh : σ_1 a0 5 = σ a0 5 := fld_up e_2 h0 h0 (fun q => absurd q.2 (by decide))
  have Ekept : σ_1 a0 1 = σ a0 1 := fld_up e_2 h0 h0 (fun q => absurd q.2 (by decide))
  have hI := FI_dep hS h0 hI (kp_up e_2 h0 13009 rfl (by decide))
  have hfk : σ_1 a0 9 = 0 := by rw [e_2]; exact up2_at _ _ _ _
  have L_7 : ∀ (N : Nat) (v1_7 : Int) (σL_7 : Nat → Nat → Int) (H : Heap) (locs : List Loc) (ls : Array Slot), N = (24 - v1_7 : Int).toNat → (0 ≤ v1_7) → (v1_7 ≤ 23) → (FC (σ (G a0 0)) (σL_7 (G a0 0))) → (GDI (σ (G a0 0) 0) (σ (G a0 0) 1) t v1_7 (fun i => kO (σ (G a0 0)) i 0) (fun i => kB (σ (G a0 0)) i) (fun i => kO (σ (G a0 0)) i 2) (fun i => kO (σL_7 (G a0 0)) i 2) ((σL_7 a0 9)) (σ a0 3) (hB (σ (G a0 2)))) → rg v1_7 → PW D cA τ G L σL_7 H → va_S (fun q => q ∈ L) s.heap H locs → fr wr_X12_goesDown τ σ σL_7 → FI G a0 σL_7 → σL_7 a0 3 = σ a0 3 → σL_7 (G a0 2) = σ (G a0 2) → σL_7 a0 1 = σ a0 1 → lv_has ls 3 [(0, .ref a0), (1, .int (jI v1_7))] → W p l e ({ frames := 3, cells := 0, slots := 0, locals := 66 }) s m args below meth c H locs 0 0 Q (F0 m 7 ls []) := by
    intro N
    induction N using Nat.strongRecOn with
    | ind N ih_7 =>
      intro v1_7 σL_7 H locs ls hN i0_7 i1_7 i2_7 i3_7 rv1_7 hW hF hR hI Ehl Ehand Ekept hl
      have hFC := i2_7
      have hf0 := hFC.2 0 (by omega)
      have hf1 := hFC.2 1 (by omega)
      have hf2 := hFC.2 2 (by omega)
      have hmb := mul_bd (a := v1_7 + 1) (b := σ (G a0 0) 1) (A := 24) (B := 8) (by omega) (by omega) (by omega) (by omega)
      have hml_ := mul_le (a := v1_7 + 1) (w := σ (G a0 0) 1) (by omega) (by omega)
      refine lv_iload_n hx hb dX12_goesDown_7 rfl (lv_at hl 1 rfl) ?_
      refine j_const hx hb dX12_goesDown_8 ?_
      refine j_add hx hb dX12_goesDown_9 ?_
      refine lv_aload_n hx hb dX12_goesDown_10 rfl (lv_at hl 0 rfl) ?_
      refine j_getR hx hb (C := RX12) (T := TX12) (N := 41) hts inX12_goesDown_X12 hown hK hS hW h0 rfl 0 rfl rfl (by decide) (hts _ flX12_goesDown_7) dX12_goesDown_11 ?_
      refine j_const hx hb dX12_goesDown_14 ?_
      refine j_ald hx hb hK hS hW hk_file (n := 17624) rfl (by omega) (by omega) (by decide) dX12_goesDown_15 ?_
      have : -2147483648 ≤ σL_7 (G a0 0) 1 ∧ σL_7 (G a0 0) 1 ≤ 2147483647 := abd hW hk_file (n := 17624) (lo := -2147483648) (hi := 2147483647) (i := 1) rfl (by decide) (by decide)
      refine j_eq (z := σL_7 (G a0 0) 1) rfl ?_
      have := FI_bd hI
      rw [hf1]
      refine j_mul hx hb dX12_goesDown_16 ?_
      refine lv_istore_n (lv' := [(2, .int (jI ((v1_7 + 1) * (σ (G a0 0) 1)))), (0, .ref a0), (1, .int (jI v1_7))]) hx hb dX12_goesDown_17 rfl hl (by decide) rfl (fun ls hl => ?_)
      refine lv_aload_n hx hb dX12_goesDown_18 rfl (lv_at hl 1 rfl) ?_
      refine j_getI hx hb (C := RX12) (T := TX12) (N := 41) hts inX12_goesDown_X12 hown hK hS hW h0 rfl 3 rfl rfl (by decide) (hts _ flX12_goesDown_70) dX12_goesDown_19 ?_
      rw [Ehl]
      have := fbd hW h0 (k := 3) (lo := 0) (hi := 24) rfl rfl
      try simp only [Ehl] at this
      refine lv_iload_n hx hb dX12_goesDown_22 rfl (lv_at hl 0 rfl) ?_
      refine j_icmp_gt (tgt := 28) hx hb (by omega) (by omega) dX12_goesDown_23 (by decide) (fun c_3 => ?_) (fun c_3 => ?_)
      · refine lv_aload_n hx hb dX12_goesDown_28 rfl (lv_at hl 1 rfl) ?_
        refine lv_iload_n hx hb dX12_goesDown_29 rfl (lv_at hl 0 rfl) ?_
        refine j_cV (j_runV (As := [.int (jI ((v1_7 + 1) * (σ (G a0 0) 1)))]) (rest := []) hx hb hml hown hts hK hS hW (kX12_findsRange l hS σL_7 (a0 := a0) (h0 := h0) (x1 := (v1_7 + 1) * (σ (G a0 0) 1)) (r1 := (by omega)) (hI := hI) (q0 := (by omega)) (q1 := (by omega))) 1 gX12_goesDown_X12_findsRange rfl hvX12_findsRange ⟨Nat.le_of_ble_eq_true rfl, Nat.le_of_ble_eq_true rfl⟩ rfl rfl h0 rfl rfl rfl rfl hl.1 rfl (Nat.le_of_ble_eq_true rfl) dX12_goesDown_30 ⟨Nat.le_of_ble_eq_true rfl, Nat.le_of_ble_eq_true rfl⟩) hA hF (fun σ_4 H locs hW hF pσ_4 => ?_)
        try dsimp only at pσ_4
        obtain ⟨pσ_4, fpσ_4⟩ := pσ_4
        try simp only [Ehl, Ehand, Ekept] at pσ_4
        have q_findsRange := pσ_4
        have hR := fr_call hR fpσ_4 (by decide)
        have Efile : σ_4 (G a0 0) = σL_7 (G a0 0) := row_fr fpσ_4 hk_file 40 (by decide) (by decide)
        have := congrFun Efile 0
        have Ehl : σ_4 a0 3 = σ a0 3 := (fr_at fpσ_4 h0 3 13003 rfl (by decide)).trans Ehl
        have Ehand : σ_4 (G a0 2) = σ (G a0 2) := (row_fr fpσ_4 hk_hand 41 (by decide) (by decide)).trans Ehand
        have Enb : σ_4 a0 9 = σL_7 a0 9 := fr_at fpσ_4 h0 9 13009 rfl (by decide)
        have Ekept : σ_4 a0 1 = σ a0 1 := (fr_at fpσ_4 h0 1 13001 rfl (by decide)).trans Ekept
        have hI := FI_dep hS h0 hI (kp_fr fpσ_4 (by decide))
        have hrg := q_findsRange.1; have hrn := q_findsRange.2
        have : 0 ≤ σ_4 a0 4 ∧ σ_4 a0 4 ≤ σ_4 a0 5 ∧ σ_4 a0 5 ≤ σL_7 (G a0 0) 0 := ⟨hrg.1, hrg.2.1, hrg.2.2.1⟩
        have hrg0 := RG_FC hFC (by omega) (by omega) hrg
        rw [hf0] at hrg0 hrn
        refine lv_aload_n hx hb dX12_goesDown_33 rfl (lv_at hl 1 rfl) ?_
        refine j_getI hx hb (C := RX12) (T := TX12) (N := 41) hts inX12_goesDown_X12 hown hK hS hW h0 rfl 4 rfl rfl (by decide) (hts _ flX12_goesDown_84) dX12_goesDown_34 ?_
        have := fbd hW h0 (k := 4) (lo := 0) (hi := 150) rfl rfl
        refine lv_aload_n hx hb dX12_goesDown_37 rfl (lv_at hl 1 rfl) ?_
        refine j_getI hx hb (C := RX12) (T := TX12) (N := 41) hts inX12_goesDown_X12 hown hK hS hW h0 rfl 5 rfl rfl (by decide) (hts _ flX12_goesDown_90) dX12_goesDown_38 ?_
        have := fbd hW h0 (k := 5) (lo := 0) (hi := 150) rfl rfl
        refine j_icmp_ne (tgt := 46) hx hb (by omega) (by omega) dX12_goesDown_41 (by decide) (fun c_5 => ?_) (fun c_5 => ?_)
        · refine lv_aload_n hx hb dX12_goesDown_46 rfl (lv_at hl 1 rfl) ?_
          refine j_getI hx hb (C := RX12) (T := TX12) (N := 41) hts inX12_goesDown_X12 hown hK hS hW h0 rfl 5 rfl rfl (by decide) (hts _ flX12_goesDown_90) dX12_goesDown_47 ?_
          refine lv_aload_n hx hb dX12_goesDown_50 rfl (lv_at hl 1 rfl) ?_
          refine j_getI hx hb (C := RX12) (T := TX12) (N := 41) hts inX12_goesDown_X12 hown hK hS hW h0 rfl 4 rfl rfl (by decide) (hts _ flX12_goesDown_84) dX12_goesDown_51 ?_
          refine j_sub hx hb dX12_goesDown_54 ?_
          refine j_const hx hb dX12_goesDown_55 ?_
          refine j_icmp_ne (tgt := 85) hx hb (by omega) (by decide) dX12_goesDown_56 (by decide) (fun c_6 => ?_) (fun c_6 => ?_)
          · have hGA : GDA (σ (G a0 0) 0) (σ (G a0 0) 1) t v1_7 (fun i => kO (σ (G a0 0)) i 0) (fun i => kB (σ (G a0 0)) i) (fun i => kO (σ (G a0 0)) i 2) (fun i => kO (σL_7 (G a0 0)) i 2) ((σL_7 a0 9)) (σ a0 3) (hB (σ (G a0 2))) := by first | exact GDA_1 i3_7 hsr htn hrg0 hrn (by omega) (by omega) (by omega) (fun i i0 i1 ne => (hmrow i 2 i0 (by omega) (by omega) (fun z => ne z.1)).trans (hcn i 2 i0 (by omega))) (fun k k0 k1 => by (show bit (kO _ _ 2) k ↔ _; rw [hmat, hmv3 k k0 k1, if_neg (by decide), hcn _ 2 (by omega) (by omega)])) | exact GDA_2 i3_7 hsr hrg0 hrn (by omega) (by omega)
            refine lv_aload_n hx hb dX12_goesDown_85 rfl (lv_at hl 1 rfl) ?_
            refine lv_aload_n hx hb dX12_goesDown_86 rfl (lv_at hl 1 rfl) ?_
            refine j_getI hx hb (C := RX12) (T := TX12) (N := 41) hts inX12_goesDown_X12 hown hK hS hW h0 rfl 4 rfl rfl (by decide) (hts _ flX12_goesDown_84) dX12_goesDown_87 ?_
            refine j_cR (j_runV (As := [.int (jI (σ_4 a0 4))]) (rest := []) hx hb hml hown hts hK hS hW (kX12_against l hS σ_4 (a0 := a0) (h0 := h0) (x1 := σ_4 a0 4) (r1 := (by omega)) (hI := hI) (q0 := (by omega)) (q1 := (by omega))) 1 gX12_goesDown_X12_against rfl hvX12_against ⟨Nat.le_of_ble_eq_true rfl, Nat.le_of_ble_eq_true rfl⟩ rfl rfl h0 rfl rfl rfl rfl hl.1 rfl (Nat.le_of_ble_eq_true rfl) dX12_goesDown_90 ⟨Nat.le_of_ble_eq_true rfl, Nat.le_of_ble_eq_true rfl⟩) (fun v_7 rv_7 pv_7 => ?_)
            try dsimp only at pv_7
            try simp only [Efile, Ehl, Ehand, Enb, Ekept] at pv_7
            have q_against := pv_7
            have hll := FI_len hI0 (i := (σ_4 a0 4)) (by omega) (by omega)
            have hcp := cmp_FC hFC (by omega) (by omega) hll.2 q_against
            refine j_if_le (tgt := 128) hx hb (by omega) dX12_goesDown_93 (by decide) (fun c_8 => ?_) (fun c_8 => ?_)
            · refine lv_iload_n hx hb dX12_goesDown_128 rfl (lv_at hl 2 rfl) ?_
              refine j_const hx hb dX12_goesDown_129 ?_
              refine j_add hx hb dX12_goesDown_130 ?_
              refine lv_istore_n (lv' := [(1, .int (jI (v1_7 + 1))), (2, .int (jI ((v1_7 + 1) * (σ (G a0 0) 1)))), (0, .ref a0)]) hx hb dX12_goesDown_131 rfl hl (by decide) rfl (fun ls hl => ?_)
              refine lv_goto (tgt := 7) hx hb dX12_goesDown_132 (by decide) ?_
              exact ih_7 ((24 - (v1_7 + 1) : Int).toNat) (by omega) (v1_7 + 1) σ_4 _ _ _ rfl (by omega) (by omega) (by first | exact (by first | exact FC_rf | exact hFC) | (simp only [Efile, Ehl, Ehand, Enb, Ekept]; exact (by first | exact FC_rf | exact hFC))) (by first | exact (by first | exact GDI_0 (by omega) | exact GDB_2 hGA hsr (by omega) q0 hrg0 hrn (by omega) (by omega) (cmp_lt q0 (by omega) (by omega) hcp (by omega)) | exact GDB_1 hGA hsr (by omega) (fun i i0 i1 => FI_len hI0 i0 i1) q1 q0 hrg0 hrn (by omega) (by omega) (hcp.2.1 (by omega)) (by omega) (fun i i0 i1 ne => hmrow i 2 i0 (by omega) (by omega) (fun z => ne z.1)) (fun k k0 k1 => by (show bit (kO _ _ 2) k ↔ _; rw [hmat, hmv3 k k0 k1, if_pos (by decide)])) (fun k k0 k1 => by rw [hfk, bit_or z_or, bit_and z_and, bit_shl z_shl (by omega) (by omega) k k0 k1, ← q_of])) | (simp only [Efile, Ehl, Ehand, Enb, Ekept]; exact (by first | exact GDI_0 (by omega) | exact GDB_2 hGA hsr (by omega) q0 hrg0 hrn (by omega) (by omega) (cmp_lt q0 (by omega) (by omega) hcp (by omega)) | exact GDB_1 hGA hsr (by omega) (fun i i0 i1 => FI_len hI0 i0 i1) q1 q0 hrg0 hrn (by omega) (by omega) (hcp.2.1 (by omega)) (by omega) (fun i i0 i1 ne => hmrow i 2 i0 (by omega) (by omega) (fun z => ne z.1)) (fun k k0 k1 => by (show bit (kO _ _ 2) k ↔ _; rw [hmat, hmv3 k k0 k1, if_pos (by decide)])) (fun k k0 k1 => by rw [hfk, bit_or z_or, bit_and z_and, bit_shl z_shl (by omega) (by omega) k k0 k1, ← q_of])))) (by omega) hW hF hR hI Ehl Ehand Ekept (lv_sub hl [2, 0] rfl)
            · refine lv_aload_n hx hb dX12_goesDown_96 rfl (lv_at hl 1 rfl) ?_
              refine lv_aload_n hx hb dX12_goesDown_97 rfl (lv_at hl 1 rfl) ?_
              refine j_getI hx hb (C := RX12) (T := TX12) (N := 41) hts inX12_goesDown_X12 hown hK hS hW h0 rfl 9 rfl rfl (by decide) (hts _ flX12_goesDown_109) dX12_goesDown_98 ?_
              rw [Enb]
              have := fbd hW h0 (k := 9) (lo := -2147483648) (hi := 2147483647) rfl rfl
              try simp only [Enb] at this
              refine lv_aload_n hx hb dX12_goesDown_101 rfl (lv_at hl 1 rfl) ?_
              refine lv_aload_n hx hb dX12_goesDown_102 rfl (lv_at hl 1 rfl) ?_
              refine j_getI hx hb (C := RX12) (T := TX12) (N := 41) hts inX12_goesDown_X12 hown hK hS hW h0 rfl 4 rfl rfl (by decide) (hts _ flX12_goesDown_84) dX12_goesDown_103 ?_
              refine j_const hx hb dX12_goesDown_106 ?_
              refine j_cR (j_runV (As := [.int (jI (σ_4 a0 4)), .int (jI 2)]) (rest := [.int (jI (σL_7 a0 9)), .ref a0]) hx hb hml hown hts hK hS hW (kX12_of l hS σ_4 (a0 := a0) (h0 := h0) (x1 := σ_4 a0 4) (r1 := (by omega)) (x2 := 2) (r2 := (by decide)) (q0 := (by omega)) (q1 := (by omega))) 2 gX12_goesDown_X12_of rfl hvX12_of ⟨Nat.le_of_ble_eq_true rfl, Nat.le_of_ble_eq_true rfl⟩ rfl rfl h0 rfl rfl rfl rfl hl.1 rfl (Nat.le_of_ble_eq_true rfl) dX12_goesDown_107 ⟨Nat.le_of_ble_eq_true rfl, Nat.le_of_ble_eq_true rfl⟩) (fun v_9 rv_9 pv_9 => ?_)
              try dsimp only at pv_9
              try simp only [Efile, Ehl, Ehand, Enb, Ekept] at pv_9
              have q_of := pv_9
              refine j_const hx hb dX12_goesDown_110 ?_
              refine lv_iload_n hx hb dX12_goesDown_111 rfl (lv_at hl 2 rfl) ?_
              refine lv_ishl hx hb dX12_goesDown_112 (j_raw fun z_10 rz_10 ez_10 => ?_)
              have z_shl := ez_10
              refine lv_iand hx hb dX12_goesDown_113 (j_raw fun z_11 rz_11 ez_11 => ?_)
              have z_and := ez_11
              refine lv_ior hx hb dX12_goesDown_114 (j_raw fun z_12 rz_12 ez_12 => ?_)
              have z_or := ez_12
              refine j_putI hx hb (C := RX12) (T := TX12) (N := 41) hts inX12_goesDown_X12 tyX12 tyX12_ok nmX12 hown hK hS hA hW hF h0 rfl 9 (lo := -2147483648) (hi := 2147483647) rfl rfl (by decide) (hts _ flX12_goesDown_109) rfl .int rfl (by omega) rfl rfl dX12_goesDown_115 (fun σ_13 H locs e_14 hW hF => ?_)
              have hR := fr_up hR e_14 h0 13009 rfl (by decide)
              have Efile : σ_13 (G a0 0) = σL_7 (G a0 0) := (row_up e_14 h0 hk_file (by decide)).trans Efile
              have := congrFun Efile 0
              have Ehl : σ_13 a0 3 = σ a0 3 := (fld_up e_14 h0 h0 (fun q => absurd q.2 (by decide))).trans Ehl
              have Ehand : σ_13 (G a0 2) = σ (G a0 2) := (row_up e_14 h0 hk_hand (by decide)).trans Ehand
              have Elow : σ_13 a0 4 = σ_4 a0 4 := fld_up e_14 h0 h0 (fun q => absurd q.2 (by decide))
              have Ehigh : σ_13 a0 5 = σ_4 a0 5 := fld_up e_14 h0 h0 (fun q => absurd q.2 (by decide))
              have Ekept : σ_13 a0 1 = σ a0 1 := (fld_up e_14 h0 h0 (fun q => absurd q.2 (by decide))).trans Ekept
              have hI := FI_dep hS h0 hI (kp_up e_14 h0 13009 rfl (by decide))
              have hfk : σ_13 a0 9 = z_12 := by rw [e_14]; exact up2_at _ _ _ _
              refine lv_aload_n hx hb dX12_goesDown_118 rfl (lv_at hl 1 rfl) ?_
              refine lv_aload_n hx hb dX12_goesDown_119 rfl (lv_at hl 1 rfl) ?_
              refine j_getI hx hb (C := RX12) (T := TX12) (N := 41) hts inX12_goesDown_X12 hown hK hS hW h0 rfl 4 rfl rfl (by decide) (hts _ flX12_goesDown_84) dX12_goesDown_120 ?_
              rw [Elow]
              refine lv_iload_n hx hb dX12_goesDown_123 rfl (lv_at hl 2 rfl) ?_
              refine j_const hx hb dX12_goesDown_124 ?_
              refine j_cV (j_runV (As := [.int (jI (σ_4 a0 4)), .int (jI v1_7), .int (jI 0)]) (rest := []) hx hb hml hown hts hK hS hW (kX12_marks l hS σ_13 (a0 := a0) (h0 := h0) (x1 := σ_4 a0 4) (r1 := (by omega)) (x2 := v1_7) (r2 := (by omega)) (x3 := 0) (r3 := (by decide)) (q0 := (by omega)) (q1 := (by omega)) (q2 := (by omega)) (q3 := (by omega)) (q4 := (by omega)) (q5 := (by omega))) 3 gX12_goesDown_X12_marks rfl hvX12_marks ⟨Nat.le_of_ble_eq_true rfl, Nat.le_of_ble_eq_true rfl⟩ rfl rfl h0 rfl rfl rfl rfl hl.1 rfl (Nat.le_of_ble_eq_true rfl) dX12_goesDown_125 ⟨Nat.le_of_ble_eq_true rfl, Nat.le_of_ble_eq_true rfl⟩) hA hF (fun σ_15 H locs hW hF pσ_15 => ?_)
              try dsimp only at pσ_15
              obtain ⟨pσ_15, fpσ_15⟩ := pσ_15
              try simp only [Efile, Ehl, Ehand, Elow, Ehigh, Ekept] at pσ_15
              have q_marks := pσ_15
              have hR := fr_call hR fpσ_15 (by decide)
              have Ehl : σ_15 a0 3 = σ a0 3 := (fr_at fpσ_15 h0 3 13003 rfl (by decide)).trans Ehl
              have Ehand : σ_15 (G a0 2) = σ (G a0 2) := (row_fr fpσ_15 hk_hand 41 (by decide) (by decide)).trans Ehand
              have Elow : σ_15 a0 4 = σ_4 a0 4 := (fr_at fpσ_15 h0 4 13004 rfl (by decide)).trans Elow
              have Ehigh : σ_15 a0 5 = σ_4 a0 5 := (fr_at fpσ_15 h0 5 13005 rfl (by decide)).trans Ehigh
              have Enb : σ_15 a0 9 = σ_13 a0 9 := fr_at fpσ_15 h0 9 13009 rfl (by decide)
              have Ekept : σ_15 a0 1 = σ a0 1 := (fr_at fpσ_15 h0 1 13001 rfl (by decide)).trans Ekept
              obtain ⟨mv, hmv1, hmv2, hmv3⟩ := q_marks
              have hmrow : ∀ i w : Int, 0 ≤ i → 0 ≤ w → w < 27 → ¬ (i = (σ_4 a0 4) ∧ w = 2) → kO (σ_15 (G a0 0)) i w = kO (σL_7 (G a0 0)) i w := fun i w i0 w0 w1 ne => by (rw [hmv2, up2_row]; first | exact kO_up i0 (by omega) ⟨w0, w1⟩ ⟨by omega, by omega⟩ ne | (rw [Efile]; exact kO_up i0 (by omega) ⟨w0, w1⟩ ⟨by omega, by omega⟩ ne))
              have hmat : kO (σ_15 (G a0 0)) (σ_4 a0 4) 2 = mv := by (rw [hmv2, up2_row]; exact kO_up_at)
              have hFC : FC (σ (G a0 0)) (σ_15 (G a0 0)) := by first | exact FC_col hFC hmv2 (by omega) (by omega) | exact FC_col (by rw [Efile]; exact hFC) hmv2 (by omega) (by omega)
              have hI := FI_FC hI0 hFC (show σ_15 a0 1 = σ a0 1 from by first | rfl | exact Ekept)
              have hf0 := hFC.2 0 (by omega)
              have hf1 := hFC.2 1 (by omega)
              have hf2 := hFC.2 2 (by omega)
              refine lv_iload_n hx hb dX12_goesDown_128 rfl (lv_at hl 2 rfl) ?_
              refine j_const hx hb dX12_goesDown_129 ?_
              refine j_add hx hb dX12_goesDown_130 ?_
              refine lv_istore_n (lv' := [(1, .int (jI (v1_7 + 1))), (2, .int (jI ((v1_7 + 1) * (σ (G a0 0) 1)))), (0, .ref a0)]) hx hb dX12_goesDown_131 rfl hl (by decide) rfl (fun ls hl => ?_)
              refine lv_goto (tgt := 7) hx hb dX12_goesDown_132 (by decide) ?_
              exact ih_7 ((24 - (v1_7 + 1) : Int).toNat) (by omega) (v1_7 + 1) σ_15 _ _ _ rfl (by omega) (by omega) (by first | exact (by first | exact FC_rf | exact hFC) | (simp only [Ehl, Ehand, Elow, Ehigh, Enb, Ekept]; exact (by first | exact FC_rf | exact hFC))) (by first | exact (by first | exact GDI_0 (by omega) | exact GDB_2 hGA hsr (by omega) q0 hrg0 hrn (by omega) (by omega) (cmp_lt q0 (by omega) (by omega) hcp (by omega)) | exact GDB_1 hGA hsr (by omega) (fun i i0 i1 => FI_len hI0 i0 i1) q1 q0 hrg0 hrn (by omega) (by omega) (hcp.2.1 (by omega)) (by omega) (fun i i0 i1 ne => hmrow i 2 i0 (by omega) (by omega) (fun z => ne z.1)) (fun k k0 k1 => by (show bit (kO _ _ 2) k ↔ _; rw [hmat, hmv3 k k0 k1, if_pos (by decide)])) (fun k k0 k1 => by rw [hfk, bit_or z_or, bit_and z_and, bit_shl z_shl (by omega) (by omega) k k0 k1, ← q_of])) | (simp only [Ehl, Ehand, Elow, Ehigh, Enb, Ekept]; exact (by first | exact GDI_0 (by omega) | exact GDB_2 hGA hsr (by omega) q0 hrg0 hrn (by omega) (by omega) (cmp_lt q0 (by omega) (by omega) hcp (by omega)) | exact GDB_1 hGA hsr (by omega) (fun i i0 i1 => FI_len hI0 i0 i1) q1 q0 hrg0 hrn (by omega) (by omega) (hcp.2.1 (by omega)) (by omega) (fun i i0 i1 ne => hmrow i 2 i0 (by omega) (by omega) (fun z => ne z.1)) (fun k k0 k1 => by (show bit (kO _ _ 2) k ↔ _; rw [hmat, hmv3 k k0 k1, if_pos (by decide)])) (fun k k0 k1 => by rw [hfk, bit_or z_or, bit_and z_and, bit_shl z_shl (by omega) (by omega) k k0 k1, ← q_of])))) (by omega) hW hF hR hI Ehl Ehand Ekept (lv_sub hl [2, 0] rfl)
          · refine lv_aload_n hx hb dX12_goesDown_59 rfl (lv_at hl 1 rfl) ?_
            refine j_getR hx hb (C := RX12) (T := TX12) (N := 41) hts inX12_goesDown_X12 hown hK hS hW h0 rfl 0 rfl rfl (by decide) (hts _ flX12_goesDown_7) dX12_goesDown_60 ?_
            refine j_const hx hb dX12_goesDown_63 ?_
            refine lv_aload_n hx hb dX12_goesDown_64 rfl (lv_at hl 1 rfl) ?_
            refine j_getR hx hb (C := RX12) (T := TX12) (N := 41) hts inX12_goesDown_X12 hown hK hS hW h0 rfl 0 rfl rfl (by decide) (hts _ flX12_goesDown_7) dX12_goesDown_65 ?_
            refine j_const hx hb dX12_goesDown_68 ?_
            refine j_ald hx hb hK hS hW hk_file (n := 17624) rfl (by omega) (by omega) (by decide) dX12_goesDown_69 ?_
            have : -2147483648 ≤ σ_4 (G a0 0) 5 ∧ σ_4 (G a0 0) 5 ≤ 2147483647 := abd hW hk_file (n := 17624) (lo := -2147483648) (hi := 2147483647) (i := 5) rfl (by decide) (by decide)
            rw [Efile]
            try simp only [Efile] at this
            refine j_eq (z := σL_7 (G a0 0) 5) rfl ?_
            refine j_const hx hb dX12_goesDown_70 ?_
            refine j_add hx hb dX12_goesDown_71 ?_
            refine j_wrap (fun z_16 rz_16 ez_16 => ?_)
            refine j_ast hx hb hK hS hA hW hF hk_file (n := 17624) (lo := -2147483648) (hi := 2147483647) rfl (by omega) (by omega) (by decide) (by omega) dX12_goesDown_72 (fun σ_17 H locs e_18 hW hF => ?_)
            have st_file := e_18
            have hR := fr_up hR e_18 hk_file 40000 (cdA 40 (by decide) _) (by decide)
            have Ehl : σ_17 a0 3 = σ a0 3 := (fld_up e_18 hk_file h0 (fun q => absurd q.1 (by decide))).trans Ehl
            have Ehand : σ_17 (G a0 2) = σ (G a0 2) := (row_up e_18 hk_file hk_hand (by decide)).trans Ehand
            have Elow : σ_17 a0 4 = σ_4 a0 4 := fld_up e_18 hk_file h0 (fun q => absurd q.1 (by decide))
            have Ehigh : σ_17 a0 5 = σ_4 a0 5 := fld_up e_18 hk_file h0 (fun q => absurd q.1 (by decide))
            have Enb : σ_17 a0 9 = σL_7 a0 9 := (fld_up e_18 hk_file h0 (fun q => absurd q.1 (by decide))).trans Enb
            have Ekept : σ_17 a0 1 = σ a0 1 := (fld_up e_18 hk_file h0 (fun q => absurd q.1 (by decide))).trans Ekept
            have hFC : FC (σ (G a0 0)) (σ_17 (G a0 0)) := by first | exact FC_cnt hFC e_18 (by decide) (by decide) | exact FC_cnt (by rw [Efile]; exact hFC) e_18 (by decide) (by decide)
            have hcn := kO_cnt e_18 (by decide)
            try simp only [Efile] at hcn
            have hI := FI_FC hI0 hFC (show σ_17 a0 1 = σ a0 1 from by first | rfl | exact Ekept)
            have hf0 := hFC.2 0 (by omega)
            have hf1 := hFC.2 1 (by omega)
            have hf2 := hFC.2 2 (by omega)
            refine lv_aload_n hx hb dX12_goesDown_73 rfl (lv_at hl 1 rfl) ?_
            refine lv_aload_n hx hb dX12_goesDown_74 rfl (lv_at hl 1 rfl) ?_
            refine j_getI hx hb (C := RX12) (T := TX12) (N := 41) hts inX12_goesDown_X12 hown hK hS hW h0 rfl 4 rfl rfl (by decide) (hts _ flX12_goesDown_84) dX12_goesDown_75 ?_
            rw [Elow]
            refine lv_iload_n hx hb dX12_goesDown_78 rfl (lv_at hl 2 rfl) ?_
            refine j_const hx hb dX12_goesDown_79 ?_
            refine j_add hx hb dX12_goesDown_80 ?_
            refine j_const hx hb dX12_goesDown_81 ?_
            refine j_cV (j_runV (As := [.int (jI (σ_4 a0 4)), .int (jI (v1_7 + 1)), .int (jI 1)]) (rest := []) hx hb hml hown hts hK hS hW (kX12_marks l hS σ_17 (a0 := a0) (h0 := h0) (x1 := σ_4 a0 4) (r1 := (by omega)) (x2 := v1_7 + 1) (r2 := (by omega)) (x3 := 1) (r3 := (by decide)) (q0 := (by omega)) (q1 := (by omega)) (q2 := (by omega)) (q3 := (by omega)) (q4 := (by omega)) (q5 := (by omega))) 3 gX12_goesDown_X12_marks rfl hvX12_marks ⟨Nat.le_of_ble_eq_true rfl, Nat.le_of_ble_eq_true rfl⟩ rfl rfl h0 rfl rfl rfl rfl hl.1 rfl (Nat.le_of_ble_eq_true rfl) dX12_goesDown_82 ⟨Nat.le_of_ble_eq_true rfl, Nat.le_of_ble_eq_true rfl⟩) hA hF (fun σ_19 H locs hW hF pσ_19 => ?_)
            try dsimp only at pσ_19
            obtain ⟨pσ_19, fpσ_19⟩ := pσ_19
            try simp only [Ehl, Ehand, Elow, Ehigh, Enb, Ekept] at pσ_19
            have q_marks := pσ_19
            have hR := fr_call hR fpσ_19 (by decide)
            have Ehl : σ_19 a0 3 = σ a0 3 := (fr_at fpσ_19 h0 3 13003 rfl (by decide)).trans Ehl
            have Ehand : σ_19 (G a0 2) = σ (G a0 2) := (row_fr fpσ_19 hk_hand 41 (by decide) (by decide)).trans Ehand
            have Elow : σ_19 a0 4 = σ_4 a0 4 := (fr_at fpσ_19 h0 4 13004 rfl (by decide)).trans Elow
            have Ehigh : σ_19 a0 5 = σ_4 a0 5 := (fr_at fpσ_19 h0 5 13005 rfl (by decide)).trans Ehigh
            have Enb : σ_19 a0 9 = σL_7 a0 9 := (fr_at fpσ_19 h0 9 13009 rfl (by decide)).trans Enb
            have Ekept : σ_19 a0 1 = σ a0 1 := (fr_at fpσ_19 h0 1 13001 rfl (by decide)).trans Ekept
            obtain ⟨mv, hmv1, hmv2, hmv3⟩ := q_marks
            have hmrow : ∀ i w : Int, 0 ≤ i → 0 ≤ w → w < 27 → ¬ (i = (σ_4 a0 4) ∧ w = 2) → kO (σ_19 (G a0 0)) i w = kO (σ_17 (G a0 0)) i w := fun i w i0 w0 w1 ne => by (rw [hmv2, up2_row]; first | exact kO_up i0 (by omega) ⟨w0, w1⟩ ⟨by omega, by omega⟩ ne | (rw [Efile]; exact kO_up i0 (by omega) ⟨w0, w1⟩ ⟨by omega, by omega⟩ ne))
            have hmat : kO (σ_19 (G a0 0)) (σ_4 a0 4) 2 = mv := by (rw [hmv2, up2_row]; exact kO_up_at)
            have hFC : FC (σ (G a0 0)) (σ_19 (G a0 0)) := by first | exact FC_col hFC hmv2 (by omega) (by omega) | exact FC_col (by rw [Efile]; exact hFC) hmv2 (by omega) (by omega)
            have hI := FI_FC hI0 hFC (show σ_19 a0 1 = σ a0 1 from by first | rfl | exact Ekept)
            have hf0 := hFC.2 0 (by omega)
            have hf1 := hFC.2 1 (by omega)
            have hf2 := hFC.2 2 (by omega)
            have hGA : GDA (σ (G a0 0) 0) (σ (G a0 0) 1) t v1_7 (fun i => kO (σ (G a0 0)) i 0) (fun i => kB (σ (G a0 0)) i) (fun i => kO (σ (G a0 0)) i 2) (fun i => kO (σ_19 (G a0 0)) i 2) ((σL_7 a0 9)) (σ a0 3) (hB (σ (G a0 2))) := by first | exact GDA_1 i3_7 hsr htn hrg0 hrn (by omega) (by omega) (by omega) (fun i i0 i1 ne => (hmrow i 2 i0 (by omega) (by omega) (fun z => ne z.1)).trans (hcn i 2 i0 (by omega))) (fun k k0 k1 => by (show bit (kO _ _ 2) k ↔ _; rw [hmat, hmv3 k k0 k1, if_neg (by decide), hcn _ 2 (by omega) (by omega)])) | exact GDA_2 i3_7 hsr hrg0 hrn (by omega) (by omega)
            refine lv_aload_n hx hb dX12_goesDown_85 rfl (lv_at hl 1 rfl) ?_
            refine lv_aload_n hx hb dX12_goesDown_86 rfl (lv_at hl 1 rfl) ?_
            refine j_getI hx hb (C := RX12) (T := TX12) (N := 41) hts inX12_goesDown_X12 hown hK hS hW h0 rfl 4 rfl rfl (by decide) (hts _ flX12_goesDown_84) dX12_goesDown_87 ?_
            rw [Elow]
            refine j_cR (j_runV (As := [.int (jI (σ_4 a0 4))]) (rest := []) hx hb hml hown hts hK hS hW (kX12_against l hS σ_19 (a0 := a0) (h0 := h0) (x1 := σ_4 a0 4) (r1 := (by omega)) (hI := hI) (q0 := (by omega)) (q1 := (by omega))) 1 gX12_goesDown_X12_against rfl hvX12_against ⟨Nat.le_of_ble_eq_true rfl, Nat.le_of_ble_eq_true rfl⟩ rfl rfl h0 rfl rfl rfl rfl hl.1 rfl (Nat.le_of_ble_eq_true rfl) dX12_goesDown_90 ⟨Nat.le_of_ble_eq_true rfl, Nat.le_of_ble_eq_true rfl⟩) (fun v_20 rv_20 pv_20 => ?_)
            try dsimp only at pv_20
            try simp only [Ehl, Ehand, Elow, Ehigh, Enb, Ekept] at pv_20
            have q_against := pv_20
            have hll := FI_len hI0 (i := (σ_4 a0 4)) (by omega) (by omega)
            have hcp := cmp_FC hFC (by omega) (by omega) hll.2 q_against
            refine j_if_le (tgt := 128) hx hb (by omega) dX12_goesDown_93 (by decide) (fun c_21 => ?_) (fun c_21 => ?_)
            · refine lv_iload_n hx hb dX12_goesDown_128 rfl (lv_at hl 2 rfl) ?_
              refine j_const hx hb dX12_goesDown_129 ?_
              refine j_add hx hb dX12_goesDown_130 ?_
              refine lv_istore_n (lv' := [(1, .int (jI (v1_7 + 1))), (2, .int (jI ((v1_7 + 1) * (σ (G a0 0) 1)))), (0, .ref a0)]) hx hb dX12_goesDown_131 rfl hl (by decide) rfl (fun ls hl => ?_)
              refine lv_goto (tgt := 7) hx hb dX12_goesDown_132 (by decide) ?_
              exact ih_7 ((24 - (v1_7 + 1) : Int).toNat) (by omega) (v1_7 + 1) σ_19 _ _ _ rfl (by omega) (by omega) (by first | exact (by first | exact FC_rf | exact hFC) | (simp only [Ehl, Ehand, Elow, Ehigh, Enb, Ekept]; exact (by first | exact FC_rf | exact hFC))) (by first | exact (by first | exact GDI_0 (by omega) | exact GDB_2 hGA hsr (by omega) q0 hrg0 hrn (by omega) (by omega) (cmp_lt q0 (by omega) (by omega) hcp (by omega)) | exact GDB_1 hGA hsr (by omega) (fun i i0 i1 => FI_len hI0 i0 i1) q1 q0 hrg0 hrn (by omega) (by omega) (hcp.2.1 (by omega)) (by omega) (fun i i0 i1 ne => hmrow i 2 i0 (by omega) (by omega) (fun z => ne z.1)) (fun k k0 k1 => by (show bit (kO _ _ 2) k ↔ _; rw [hmat, hmv3 k k0 k1, if_pos (by decide)])) (fun k k0 k1 => by rw [hfk, bit_or z_or, bit_and z_and, bit_shl z_shl (by omega) (by omega) k k0 k1, ← q_of])) | (simp only [Ehl, Ehand, Elow, Ehigh, Enb, Ekept]; exact (by first | exact GDI_0 (by omega) | exact GDB_2 hGA hsr (by omega) q0 hrg0 hrn (by omega) (by omega) (cmp_lt q0 (by omega) (by omega) hcp (by omega)) | exact GDB_1 hGA hsr (by omega) (fun i i0 i1 => FI_len hI0 i0 i1) q1 q0 hrg0 hrn (by omega) (by omega) (hcp.2.1 (by omega)) (by omega) (fun i i0 i1 ne => hmrow i 2 i0 (by omega) (by omega) (fun z => ne z.1)) (fun k k0 k1 => by (show bit (kO _ _ 2) k ↔ _; rw [hmat, hmv3 k k0 k1, if_pos (by decide)])) (fun k k0 k1 => by rw [hfk, bit_or z_or, bit_and z_and, bit_shl z_shl (by omega) (by omega) k k0 k1, ← q_of])))) (by omega) hW hF hR hI Ehl Ehand Ekept (lv_sub hl [2, 0] rfl)
            · refine lv_aload_n hx hb dX12_goesDown_96 rfl (lv_at hl 1 rfl) ?_
              refine lv_aload_n hx hb dX12_goesDown_97 rfl (lv_at hl 1 rfl) ?_
              refine j_getI hx hb (C := RX12) (T := TX12) (N := 41) hts inX12_goesDown_X12 hown hK hS hW h0 rfl 9 rfl rfl (by decide) (hts _ flX12_goesDown_109) dX12_goesDown_98 ?_
              rw [Enb]
              have := fbd hW h0 (k := 9) (lo := -2147483648) (hi := 2147483647) rfl rfl
              try simp only [Enb] at this
              refine lv_aload_n hx hb dX12_goesDown_101 rfl (lv_at hl 1 rfl) ?_
              refine lv_aload_n hx hb dX12_goesDown_102 rfl (lv_at hl 1 rfl) ?_
              refine j_getI hx hb (C := RX12) (T := TX12) (N := 41) hts inX12_goesDown_X12 hown hK hS hW h0 rfl 4 rfl rfl (by decide) (hts _ flX12_goesDown_84) dX12_goesDown_103 ?_
              rw [Elow]
              refine j_const hx hb dX12_goesDown_106 ?_
              refine j_cR (j_runV (As := [.int (jI (σ_4 a0 4)), .int (jI 2)]) (rest := [.int (jI (σL_7 a0 9)), .ref a0]) hx hb hml hown hts hK hS hW (kX12_of l hS σ_19 (a0 := a0) (h0 := h0) (x1 := σ_4 a0 4) (r1 := (by omega)) (x2 := 2) (r2 := (by decide)) (q0 := (by omega)) (q1 := (by omega))) 2 gX12_goesDown_X12_of rfl hvX12_of ⟨Nat.le_of_ble_eq_true rfl, Nat.le_of_ble_eq_true rfl⟩ rfl rfl h0 rfl rfl rfl rfl hl.1 rfl (Nat.le_of_ble_eq_true rfl) dX12_goesDown_107 ⟨Nat.le_of_ble_eq_true rfl, Nat.le_of_ble_eq_true rfl⟩) (fun v_22 rv_22 pv_22 => ?_)
              try dsimp only at pv_22
              try simp only [Ehl, Ehand, Elow, Ehigh, Enb, Ekept] at pv_22
              have q_of := pv_22
              refine j_const hx hb dX12_goesDown_110 ?_
              refine lv_iload_n hx hb dX12_goesDown_111 rfl (lv_at hl 2 rfl) ?_
              refine lv_ishl hx hb dX12_goesDown_112 (j_raw fun z_23 rz_23 ez_23 => ?_)
              have z_shl := ez_23
              refine lv_iand hx hb dX12_goesDown_113 (j_raw fun z_24 rz_24 ez_24 => ?_)
              have z_and := ez_24
              refine lv_ior hx hb dX12_goesDown_114 (j_raw fun z_25 rz_25 ez_25 => ?_)
              have z_or := ez_25
              refine j_putI hx hb (C := RX12) (T := TX12) (N := 41) hts inX12_goesDown_X12 tyX12 tyX12_ok nmX12 hown hK hS hA hW hF h0 rfl 9 (lo := -2147483648) (hi := 2147483647) rfl rfl (by decide) (hts _ flX12_goesDown_109) rfl .int rfl (by omega) rfl rfl dX12_goesDown_115 (fun σ_26 H locs e_27 hW hF => ?_)
              have hR := fr_up hR e_27 h0 13009 rfl (by decide)
              have Efile : σ_26 (G a0 0) = σ_19 (G a0 0) := row_up e_27 h0 hk_file (by decide)
              have := congrFun Efile 0
              have Ehl : σ_26 a0 3 = σ a0 3 := (fld_up e_27 h0 h0 (fun q => absurd q.2 (by decide))).trans Ehl
              have Ehand : σ_26 (G a0 2) = σ (G a0 2) := (row_up e_27 h0 hk_hand (by decide)).trans Ehand
              have Elow : σ_26 a0 4 = σ_4 a0 4 := (fld_up e_27 h0 h0 (fun q => absurd q.2 (by decide))).trans Elow
              have Ehigh : σ_26 a0 5 = σ_4 a0 5 := (fld_up e_27 h0 h0 (fun q => absurd q.2 (by decide))).trans Ehigh
              have Ekept : σ_26 a0 1 = σ a0 1 := (fld_up e_27 h0 h0 (fun q => absurd q.2 (by decide))).trans Ekept
              have hI := FI_dep hS h0 hI (kp_up e_27 h0 13009 rfl (by decide))
              have hfk : σ_26 a0 9 = z_25 := by rw [e_27]; exact up2_at _ _ _ _
              refine lv_aload_n hx hb dX12_goesDown_118 rfl (lv_at hl 1 rfl) ?_
              refine lv_aload_n hx hb dX12_goesDown_119 rfl (lv_at hl 1 rfl) ?_
              refine j_getI hx hb (C := RX12) (T := TX12) (N := 41) hts inX12_goesDown_X12 hown hK hS hW h0 rfl 4 rfl rfl (by decide) (hts _ flX12_goesDown_84) dX12_goesDown_120 ?_
              rw [Elow]
              refine lv_iload_n hx hb dX12_goesDown_123 rfl (lv_at hl 2 rfl) ?_
              refine j_const hx hb dX12_goesDown_124 ?_
              refine j_cV (j_runV (As := [.int (jI (σ_4 a0 4)), .int (jI v1_7), .int (jI 0)]) (rest := []) hx hb hml hown hts hK hS hW (kX12_marks l hS σ_26 (a0 := a0) (h0 := h0) (x1 := σ_4 a0 4) (r1 := (by omega)) (x2 := v1_7) (r2 := (by omega)) (x3 := 0) (r3 := (by decide)) (q0 := (by omega)) (q1 := (by omega)) (q2 := (by omega)) (q3 := (by omega)) (q4 := (by omega)) (q5 := (by omega))) 3 gX12_goesDown_X12_marks rfl hvX12_marks ⟨Nat.le_of_ble_eq_true rfl, Nat.le_of_ble_eq_true rfl⟩ rfl rfl h0 rfl rfl rfl rfl hl.1 rfl (Nat.le_of_ble_eq_true rfl) dX12_goesDown_125 ⟨Nat.le_of_ble_eq_true rfl, Nat.le_of_ble_eq_true rfl⟩) hA hF (fun σ_28 H locs hW hF pσ_28 => ?_)
              try dsimp only at pσ_28
              obtain ⟨pσ_28, fpσ_28⟩ := pσ_28
              try simp only [Efile, Ehl, Ehand, Elow, Ehigh, Ekept] at pσ_28
              have q_marks := pσ_28
              have hR := fr_call hR fpσ_28 (by decide)
              have Ehl : σ_28 a0 3 = σ a0 3 := (fr_at fpσ_28 h0 3 13003 rfl (by decide)).trans Ehl
              have Ehand : σ_28 (G a0 2) = σ (G a0 2) := (row_fr fpσ_28 hk_hand 41 (by decide) (by decide)).trans Ehand
              have Elow : σ_28 a0 4 = σ_4 a0 4 := (fr_at fpσ_28 h0 4 13004 rfl (by decide)).trans Elow
              have Ehigh : σ_28 a0 5 = σ_4 a0 5 := (fr_at fpσ_28 h0 5 13005 rfl (by decide)).trans Ehigh
              have Enb : σ_28 a0 9 = σ_26 a0 9 := fr_at fpσ_28 h0 9 13009 rfl (by decide)
              have Ekept : σ_28 a0 1 = σ a0 1 := (fr_at fpσ_28 h0 1 13001 rfl (by decide)).trans Ekept
              obtain ⟨mv, hmv1, hmv2, hmv3⟩ := q_marks
              have hmrow : ∀ i w : Int, 0 ≤ i → 0 ≤ w → w < 27 → ¬ (i = (σ_4 a0 4) ∧ w = 2) → kO (σ_28 (G a0 0)) i w = kO (σ_19 (G a0 0)) i w := fun i w i0 w0 w1 ne => by (rw [hmv2, up2_row]; first | exact kO_up i0 (by omega) ⟨w0, w1⟩ ⟨by omega, by omega⟩ ne | (rw [Efile]; exact kO_up i0 (by omega) ⟨w0, w1⟩ ⟨by omega, by omega⟩ ne))
              have hmat : kO (σ_28 (G a0 0)) (σ_4 a0 4) 2 = mv := by (rw [hmv2, up2_row]; exact kO_up_at)
              have hFC : FC (σ (G a0 0)) (σ_28 (G a0 0)) := by first | exact FC_col hFC hmv2 (by omega) (by omega) | exact FC_col (by rw [Efile]; exact hFC) hmv2 (by omega) (by omega)
              have hI := FI_FC hI0 hFC (show σ_28 a0 1 = σ a0 1 from by first | rfl | exact Ekept)
              have hf0 := hFC.2 0 (by omega)
              have hf1 := hFC.2 1 (by omega)
              have hf2 := hFC.2 2 (by omega)
              refine lv_iload_n hx hb dX12_goesDown_128 rfl (lv_at hl 2 rfl) ?_
              refine j_const hx hb dX12_goesDown_129 ?_
              refine j_add hx hb dX12_goesDown_130 ?_
              refine lv_istore_n (lv' := [(1, .int (jI (v1_7 + 1))), (2, .int (jI ((v1_7 + 1) * (σ (G a0 0) 1)))), (0, .ref a0)]) hx hb dX12_goesDown_131 rfl hl (by decide) rfl (fun ls hl => ?_)
              refine lv_goto (tgt := 7) hx hb dX12_goesDown_132 (by decide) ?_
              exact ih_7 ((24 - (v1_7 + 1) : Int).toNat) (by omega) (v1_7 + 1) σ_28 _ _ _ rfl (by omega) (by omega) (by first | exact (by first | exact FC_rf | exact hFC) | (simp only [Ehl, Ehand, Elow, Ehigh, Enb, Ekept]; exact (by first | exact FC_rf | exact hFC))) (by first | exact (by first | exact GDI_0 (by omega) | exact GDB_2 hGA hsr (by omega) q0 hrg0 hrn (by omega) (by omega) (cmp_lt q0 (by omega) (by omega) hcp (by omega)) | exact GDB_1 hGA hsr (by omega) (fun i i0 i1 => FI_len hI0 i0 i1) q1 q0 hrg0 hrn (by omega) (by omega) (hcp.2.1 (by omega)) (by omega) (fun i i0 i1 ne => hmrow i 2 i0 (by omega) (by omega) (fun z => ne z.1)) (fun k k0 k1 => by (show bit (kO _ _ 2) k ↔ _; rw [hmat, hmv3 k k0 k1, if_pos (by decide)])) (fun k k0 k1 => by rw [hfk, bit_or z_or, bit_and z_and, bit_shl z_shl (by omega) (by omega) k k0 k1, ← q_of])) | (simp only [Ehl, Ehand, Elow, Ehigh, Enb, Ekept]; exact (by first | exact GDI_0 (by omega) | exact GDB_2 hGA hsr (by omega) q0 hrg0 hrn (by omega) (by omega) (cmp_lt q0 (by omega) (by omega) hcp (by omega)) | exact GDB_1 hGA hsr (by omega) (fun i i0 i1 => FI_len hI0 i0 i1) q1 q0 hrg0 hrn (by omega) (by omega) (hcp.2.1 (by omega)) (by omega) (fun i i0 i1 ne => hmrow i 2 i0 (by omega) (by omega) (fun z => ne z.1)) (fun k k0 k1 => by (show bit (kO _ _ 2) k ↔ _; rw [hmat, hmv3 k k0 k1, if_pos (by decide)])) (fun k k0 k1 => by rw [hfk, bit_or z_or, bit_and z_and, bit_shl z_shl (by omega) (by omega) k k0 k1, ← q_of])))) (by omega) hW hF hR hI Ehl Ehand Ekept (lv_sub hl [2, 0] rfl)
        · refine lv_iload_n hx hb dX12_goesDown_44 rfl (lv_at hl 2 rfl) ?_
          exact hRet 45 _ _ _ v1_7 _ dX12_goesDown_45 hW hF (by omega) ⟨(by first | exact ⟨hFC, by omega, by omega, i3_7, (by first | exact fun j j0 j1 z => by (have := z.2.1; omega) | exact fun j j0 j1 z => by (have := (RG_new hsr hrg0 hrn (by omega) j0 j1).mp z; omega))⟩ | (simp only [Efile, Ehl, Ehand, Enb, Ekept]; exact ⟨hFC, by omega, by omega, i3_7, (by first | exact fun j j0 j1 z => by (have := z.2.1; omega) | exact fun j j0 j1 z => by (have := (RG_new hsr hrg0 hrn (by omega) j0 j1).mp z; omega))⟩)), hR⟩
      · refine lv_iload_n hx hb dX12_goesDown_26 rfl (lv_at hl 2 rfl) ?_
        exact hRet 27 _ _ _ v1_7 _ dX12_goesDown_27 hW hF (by omega) ⟨(by first | exact ⟨hFC, by omega, by omega, i3_7, (by first | exact fun j j0 j1 z => by (have := z.2.1; omega) | exact fun j j0 j1 z => by (have := (RG_new hsr hrg0 hrn (by omega) j0 j1).mp z; omega))⟩ | (simp only [Ehl, Ehand, Ekept]; exact ⟨hFC, by omega, by omega, i3_7, (by first | exact fun j j0 j1 z => by (have := z.2.1; omega) | exact fun j j0 j1 z => by (have := (RG_new hsr hrg0 hrn (by omega) j0 j1).mp z; omega))⟩)), hR⟩
  exact L_7 ((24 - 0 : Int).toNat) 0 σ_1 _ _ _ rfl (by omega) (by omega) (by first | exact (by first | exact FC_rf | exact hFC) | (simp only [Efile, Ehl, Ehand, Elow, Ehigh, Ekept]; exact (by first | exact FC_rf | exact hFC))) (by first | exact (by first | exact GDI_0 (by omega) | exact GDB_2 hGA hsr (by omega) q0 hrg0 hrn (by omega) (by omega) (cmp_lt q0 (by omega) (by omega) hcp (by omega)) | exact GDB_1 hGA hsr (by omega) (fun i i0 i1 => FI_len hI0 i0 i1) q1 q0 hrg0 hrn (by omega) (by omega) (hcp.2.1 (by omega)) (by omega) (fun i i0 i1 ne => hmrow i 2 i0 (by omega) (by omega) (fun z => ne z.1)) (fun k k0 k1 => by (show bit (kO _ _ 2) k ↔ _; rw [hmat, hmv3 k k0 k1, if_pos (by decide)])) (fun k k0 k1 => by rw [hfk, bit_or z_or, bit_and z_and, bit_shl z_shl (by omega) (by omega) k k0 k1, ← q_of])) | (simp only [Efile, Ehl, Ehand, Elow, Ehigh, Ekept]; exact (by first | exact GDI_0 (by omega) | exact GDB_2 hGA hsr (by omega) q0 hrg0 hrn (by omega) (by omega) (cmp_lt q0 (by omega) (by omega) hcp (by omega)) | exact GDB_1 hGA hsr (by omega) (fun i i0 i1 => FI_len hI0 i0 i1) q1 q0 hrg0 hrn (by omega) (by omega) (hcp.2.1 (by omega)) (by omega) (fun i i0 i1 ne => hmrow i 2 i0 (by omega) (by omega) (fun z => ne z.1)) (fun k k0 k1 => by (show bit (kO _ _ 2) k ↔ _; rw [hmat, hmv3 k k0 k1, if_pos (by decide)])) (fun k k0 k1 => by rw [hfk, bit_or z_or, bit_and z_and, bit_shl z_shl (by omega) (by omega) k k0 k1, ← q_of])))) (by decide) hW hF hR hI Ehl Ehand Ekept (lv_sub hl [1, 0] rfl)
