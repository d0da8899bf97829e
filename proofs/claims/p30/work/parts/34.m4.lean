abbrev wr_X12_laysRow : List Nat := [40000]
theorem flX12_laysRow_7 : Cond.fieldLink RX12 7 "PageTrieModel" "file" "[I" ∈ wsX12_laysRow := List.mem_of_getElem? (i := 1) rfl
theorem flX12_laysRow_13 : Cond.fieldLink RX12 13 "PageTrieModel" "hand" "[I" ∈ wsX12_laysRow := List.mem_of_getElem? (i := 4) rfl
theorem flX12_laysRow_70 : Cond.fieldLink RX12 70 "PageTrieModel" "handLong" "I" ∈ wsX12_laysRow := List.mem_of_getElem? (i := 2) rfl
theorem flX12_laysRow_109 : Cond.fieldLink RX12 109 "PageTrieModel" "newBits" "I" ∈ wsX12_laysRow := List.mem_of_getElem? (i := 3) rfl
theorem inX12_laysRow_X12 : ∀ w ∈ u_ws RX12 TX12 41, w ∈ wsX12_laysRow := mem_r _ [18, 19, 20, 21, 22, 23, 24, 25, 26, 27, 28, 29, 30, 31, 32, 33, 34, 35, 36, 37, 38, 39, 40, 41, 42, 43, 44, 45, 46, 47, 48, 49, 50, 51, 52, 53, 54, 55, 56, 57, 58] rfl
theorem hvX12_laysRow : yX12_laysRow.cls = RX12 ∧ yX12_laysRow.cls ≠ "java/lang/invoke/MethodHandle" ∧ yX12_laysRow.cls ≠ "java/lang/invoke/VarHandle" ∧ (parseMethodDescriptor yX12_laysRow.desc).map (fun d => d.parameters.length) = some 2 := by decide +kernel
set_option maxHeartbeats 4000000 in
set_option maxRecDepth 100000 in
theorem kX12_laysRow (l : Launch) {D : va_G} {cA : Nat → ClassId} {τ : Nat → Nat} {G : Nat → Nat → Nat} {L : List Nat} (hS : SW τ G L) (σ : Nat → Nat → Int) {a0 : Nat} (h0 : τ a0 = 13) {x1 : Int} (r1 : rg x1) {x2 : Int} (r2 : rg x2) (q0 : 0 ≤ x1) (q1 : x1 ≤ σ (G a0 0) 0) (q2 : σ (G a0 0) 0 < 150) (q3 : 0 ≤ σ (G a0 0) 0) : Met l yX12_laysRow wsX12_laysRow ({ frames := 1, cells := 0, slots := 0, locals := 23 }) (jP D cA τ G L σ [.ref a0, .int (jI x1), .int (jI x2)]) (jQV D cA τ G L (fun σ' => ((FR (σ (G a0 0)) (σ' (G a0 0)) (σ (G a0 0) 0) x1) ∧ (kO (σ' (G a0 0)) x1 0 = σ a0 3) ∧ (kO (σ' (G a0 0)) x1 2 = σ a0 9) ∧ (∀ k : Int, 0 ≤ k → k < σ a0 3 → kO (σ' (G a0 0)) x1 (3 + k) = σ (G a0 2) k.toNat)) ∧ fr wr_X12_laysRow τ σ σ')) 0 0 (fun q => q ∈ L) := by
  refine j_metV (by decide +kernel) rfl (Nat.le_of_ble_eq_true rfl) ?_
  intro p e s m args below meth c Q hx hb hml hown hts hK hW hRet ls hl
  have hl : lv_has ls 5 [(0, .ref a0), (1, .int (jI x1)), (2, .int (jI x2))] := hl
  have hA : ∀ q ∈ L, (fun q => q ∈ L) q := fun _ h => h
  have hF : va_S (fun q => q ∈ L) s.heap s.heap [] := va_S.rf
  have hR : fr wr_X12_laysRow τ σ σ := fr_rf
  have hk_file : τ (G a0 0) = 40 := gty hS h0 (k := 0) rfl rfl
  have hk_hand : τ (G a0 2) = 41 := gty hS h0 (k := 2) rfl rfl
  have := fbd hW h0 (k := 3) (lo := 0) (hi := 24) rfl rfl
  have := fbd hW h0 (k := 9) (lo := -2147483648) (hi := 2147483647) rfl rfl
  refine lv_aload_n hx hb dX12_laysRow_0 rfl (lv_at hl 0 rfl) ?_
  refine j_cR (j_runV (As := []) (rest := []) hx hb hml hown hts hK hS hW (kX12_many l hS σ (a0 := a0) (h0 := h0)) 0 gX12_laysRow_X12_many rfl hvX12_many ⟨Nat.le_of_ble_eq_true rfl, Nat.le_of_ble_eq_true rfl⟩ rfl rfl h0 rfl rfl rfl rfl hl.1 rfl (Nat.le_of_ble_eq_true rfl) dX12_laysRow_1 ⟨Nat.le_of_ble_eq_true rfl, Nat.le_of_ble_eq_true rfl⟩) (fun v_1 rv_1 pv_1 => ?_)
  try dsimp only at pv_1
  have q_many := pv_1
  refine lv_istore_n (lv' := [(3, .int (jI v_1)), (0, .ref a0), (1, .int (jI x1)), (2, .int (jI x2))]) hx hb dX12_laysRow_4 rfl hl (by decide) rfl (fun ls hl => ?_)
  have L_5 : ∀ (N : Nat) (v3_5 : Int) (σL_5 : Nat → Nat → Int) (H : Heap) (locs : List Loc) (ls : Array Slot), N = (v3_5 : Int).toNat → (x1 ≤ v3_5) → (v3_5 ≤ σ (G a0 0) 0) → (SH (σ (G a0 0)) (σL_5 (G a0 0)) (σ (G a0 0) 0) v3_5 0) → rg v3_5 → PW D cA τ G L σL_5 H → va_S (fun q => q ∈ L) s.heap H locs → fr wr_X12_laysRow τ σ σL_5 → σL_5 a0 3 = σ a0 3 → σL_5 (G a0 2) = σ (G a0 2) → σL_5 a0 9 = σ a0 9 → lv_has ls 5 [(0, .ref a0), (1, .int (jI x1)), (2, .int (jI x2)), (3, .int (jI v3_5))] → W p l e ({ frames := 1, cells := 0, slots := 0, locals := 23 }) s m args below meth c H locs 0 0 Q (F0 m 5 ls []) := by
    intro N
    induction N using Nat.strongRecOn with
    | ind N ih_5 =>
      intro v3_5 σL_5 H locs ls hN i0_5 i1_5 i2_5 rv3_5 hW hF hR Ehl Ehand Enb hl
      refine lv_iload_n hx hb dX12_laysRow_5 rfl (lv_at hl 3 rfl) ?_
      refine lv_iload_n hx hb dX12_laysRow_6 rfl (lv_at hl 1 rfl) ?_
      refine j_icmp_le (tgt := 48) hx hb (by omega) (by omega) dX12_laysRow_7 (by decide) (fun c_2 => ?_) (fun c_2 => ?_)
      · refine lv_aload_n hx hb dX12_laysRow_48 rfl (lv_at hl 0 rfl) ?_
        refine j_getR hx hb (C := RX12) (T := TX12) (N := 41) hts inX12_laysRow_X12 hown hK hS hW h0 rfl 0 rfl rfl (by decide) (hts _ flX12_laysRow_7) dX12_laysRow_49 ?_
        have hs0 := i2_5.2.2.2 0 (by omega)
        refine j_const hx hb dX12_laysRow_52 ?_
        refine lv_aload_n hx hb dX12_laysRow_53 rfl (lv_at hl 0 rfl) ?_
        refine j_cR (j_runV (As := []) (rest := [.int (jI 0), .ref (G a0 0)]) hx hb hml hown hts hK hS hW (kX12_many l hS σL_5 (a0 := a0) (h0 := h0)) 0 gX12_laysRow_X12_many rfl hvX12_many ⟨Nat.le_of_ble_eq_true rfl, Nat.le_of_ble_eq_true rfl⟩ rfl rfl h0 rfl rfl rfl rfl hl.1 rfl (Nat.le_of_ble_eq_true rfl) dX12_laysRow_54 ⟨Nat.le_of_ble_eq_true rfl, Nat.le_of_ble_eq_true rfl⟩) (fun v_3 rv_3 pv_3 => ?_)
        try dsimp only at pv_3
        try simp only [Ehl, Ehand, Enb] at pv_3
        have q_many := pv_3
        refine j_const hx hb dX12_laysRow_57 ?_
        refine j_add hx hb dX12_laysRow_58 ?_
        refine j_ast hx hb hK hS hA hW hF hk_file (n := 17624) (lo := -2147483648) (hi := 2147483647) rfl (by omega) (by omega) (by decide) (by omega) dX12_laysRow_59 (fun σ_4 H locs e_5 hW hF => ?_)
        have st_file := e_5
        have hR := fr_up hR e_5 hk_file 40000 (cdA 40 (by decide) _) (by decide)
        have Ehl : σ_4 a0 3 = σ a0 3 := (fld_up e_5 hk_file h0 (fun q => absurd q.1 (by decide))).trans Ehl
        have Ehand : σ_4 (G a0 2) = σ (G a0 2) := (row_up e_5 hk_file hk_hand (by decide)).trans Ehand
        have Enb : σ_4 a0 9 = σ a0 9 := (fld_up e_5 hk_file h0 (fun q => absurd q.1 (by decide))).trans Enb
        refine j_const hx hb dX12_laysRow_60 ?_
        refine lv_istore_n (lv' := [(3, .int (jI 0)), (0, .ref a0), (1, .int (jI x1)), (2, .int (jI x2))]) hx hb dX12_laysRow_61 rfl hl (by decide) rfl (fun ls hl => ?_)
        have L_62 : ∀ (N : Nat) (v3_62 : Int) (σL_62 : Nat → Nat → Int) (H : Heap) (locs : List Loc) (ls : Array Slot), N = (30 - v3_62 : Int).toNat → (0 ≤ v3_62) → (v3_62 ≤ 27) → (FR (σ (G a0 0)) (σL_62 (G a0 0)) (σ (G a0 0) 0) x1) → rg v3_62 → PW D cA τ G L σL_62 H → va_S (fun q => q ∈ L) s.heap H locs → fr wr_X12_laysRow τ σ σL_62 → σL_62 a0 3 = σ a0 3 → σL_62 (G a0 2) = σ (G a0 2) → σL_62 a0 9 = σ a0 9 → lv_has ls 5 [(0, .ref a0), (1, .int (jI x1)), (2, .int (jI x2)), (3, .int (jI v3_62))] → W p l e ({ frames := 1, cells := 0, slots := 0, locals := 23 }) s m args below meth c H locs 0 0 Q (F0 m 62 ls []) := by
          intro N
          induction N using Nat.strongRecOn with
          | ind N ih_62 =>
            intro v3_62 σL_62 H locs ls hN i0_62 i1_62 i2_62 rv3_62 hW hF hR Ehl Ehand Enb hl
            refine lv_iload_n hx hb dX12_laysRow_62 rfl (lv_at hl 3 rfl) ?_
            refine j_bi hx hb dX12_laysRow_63 (by decide) ?_
            refine j_icmp_ge (tgt := 81) hx hb (by omega) (by decide) dX12_laysRow_65 (by decide) (fun c_6 => ?_) (fun c_6 => ?_)
            · refine lv_aload_n hx hb dX12_laysRow_81 rfl (lv_at hl 0 rfl) ?_
              refine lv_iload_n hx hb dX12_laysRow_82 rfl (lv_at hl 1 rfl) ?_
              refine j_const hx hb dX12_laysRow_83 ?_
              refine lv_aload_n hx hb dX12_laysRow_84 rfl (lv_at hl 0 rfl) ?_
              refine j_getI hx hb (C := RX12) (T := TX12) (N := 41) hts inX12_laysRow_X12 hown hK hS hW h0 rfl 3 rfl rfl (by decide) (hts _ flX12_laysRow_70) dX12_laysRow_85 ?_
              rw [Ehl]
              have := fbd hW h0 (k := 3) (lo := 0) (hi := 24) rfl rfl
              try simp only [Ehl] at this
              refine j_cV (j_runV (As := [.int (jI x1), .int (jI 0), .int (jI (σ a0 3))]) (rest := []) hx hb hml hown hts hK hS hW (kX12_sets l hS σL_62 (a0 := a0) (h0 := h0) (x1 := x1) (r1 := (by omega)) (x2 := 0) (r2 := (by decide)) (x3 := σ a0 3) (r3 := (by omega)) (q0 := (by omega)) (q1 := (by omega))) 3 gX12_laysRow_X12_sets rfl hvX12_sets ⟨Nat.le_of_ble_eq_true rfl, Nat.le_of_ble_eq_true rfl⟩ rfl rfl h0 rfl rfl rfl rfl hl.1 rfl (Nat.le_of_ble_eq_true rfl) dX12_laysRow_88 ⟨Nat.le_of_ble_eq_true rfl, Nat.le_of_ble_eq_true rfl⟩) hA hF (fun σ_7 H locs hW hF pσ_7 => ?_)
              try dsimp only at pσ_7
              obtain ⟨pσ_7, fpσ_7⟩ := pσ_7
              try simp only [Ehl, Ehand, Enb] at pσ_7
              have q_sets := pσ_7
              have hR := fr_call hR fpσ_7 (by decide)
              have Ehl : σ_7 a0 3 = σ a0 3 := (fr_at fpσ_7 h0 3 13003 rfl (by decide)).trans Ehl
              have Ehand : σ_7 (G a0 2) = σ (G a0 2) := (row_fr fpσ_7 hk_hand 41 (by decide) (by decide)).trans Ehand
              have Enb : σ_7 a0 9 = σ a0 9 := (fr_at fpσ_7 h0 9 13009 rfl (by decide)).trans Enb
              have hrow := st_row q_sets (by omega) (by omega) (by omega)
              have hat_ := st_at q_sets
              have hoth := st_oth q_sets (by omega) (by omega) (by omega) (by omega)
              try simp only [Efile] at hrow hoth
              have hfr1 := FR_set i2_62 q0 hrow hoth
              have ha1 := hat_
              refine lv_aload_n hx hb dX12_laysRow_91 rfl (lv_at hl 0 rfl) ?_
              refine lv_iload_n hx hb dX12_laysRow_92 rfl (lv_at hl 1 rfl) ?_
              refine j_const hx hb dX12_laysRow_93 ?_
              refine lv_iload_n hx hb dX12_laysRow_94 rfl (lv_at hl 2 rfl) ?_
              refine j_cV (j_runV (As := [.int (jI x1), .int (jI 1), .int (jI x2)]) (rest := []) hx hb hml hown hts hK hS hW (kX12_sets l hS σ_7 (a0 := a0) (h0 := h0) (x1 := x1) (r1 := (by omega)) (x2 := 1) (r2 := (by decide)) (x3 := x2) (r3 := (by omega)) (q0 := (by omega)) (q1 := (by omega))) 3 gX12_laysRow_X12_sets rfl hvX12_sets ⟨Nat.le_of_ble_eq_true rfl, Nat.le_of_ble_eq_true rfl⟩ rfl rfl h0 rfl rfl rfl rfl hl.1 rfl (Nat.le_of_ble_eq_true rfl) dX12_laysRow_95 ⟨Nat.le_of_ble_eq_true rfl, Nat.le_of_ble_eq_true rfl⟩) hA hF (fun σ_8 H locs hW hF pσ_8 => ?_)
              try dsimp only at pσ_8
              obtain ⟨pσ_8, fpσ_8⟩ := pσ_8
              try simp only [Ehl, Ehand, Enb] at pσ_8
              have q_sets := pσ_8
              have hR := fr_call hR fpσ_8 (by decide)
              have Ehl : σ_8 a0 3 = σ a0 3 := (fr_at fpσ_8 h0 3 13003 rfl (by decide)).trans Ehl
              have Ehand : σ_8 (G a0 2) = σ (G a0 2) := (row_fr fpσ_8 hk_hand 41 (by decide) (by decide)).trans Ehand
              have Enb : σ_8 a0 9 = σ a0 9 := (fr_at fpσ_8 h0 9 13009 rfl (by decide)).trans Enb
              have hrow := st_row q_sets (by omega) (by omega) (by omega)
              have hat_ := st_at q_sets
              have hoth := st_oth q_sets (by omega) (by omega) (by omega) (by omega)
              try simp only [Efile] at hrow hoth
              have hfr2 := FR_set hfr1 q0 hrow hoth
              have ha2 := (hrow x1 0 q0 (by omega) (by omega) (by omega)).trans ha1
              refine lv_aload_n hx hb dX12_laysRow_98 rfl (lv_at hl 0 rfl) ?_
              refine lv_iload_n hx hb dX12_laysRow_99 rfl (lv_at hl 1 rfl) ?_
              refine j_const hx hb dX12_laysRow_100 ?_
              refine lv_aload_n hx hb dX12_laysRow_101 rfl (lv_at hl 0 rfl) ?_
              refine j_getI hx hb (C := RX12) (T := TX12) (N := 41) hts inX12_laysRow_X12 hown hK hS hW h0 rfl 9 rfl rfl (by decide) (hts _ flX12_laysRow_109) dX12_laysRow_102 ?_
              rw [Enb]
              have := fbd hW h0 (k := 9) (lo := -2147483648) (hi := 2147483647) rfl rfl
              try simp only [Enb] at this
              refine j_cV (j_runV (As := [.int (jI x1), .int (jI 2), .int (jI (σ a0 9))]) (rest := []) hx hb hml hown hts hK hS hW (kX12_sets l hS σ_8 (a0 := a0) (h0 := h0) (x1 := x1) (r1 := (by omega)) (x2 := 2) (r2 := (by decide)) (x3 := σ a0 9) (r3 := (by omega)) (q0 := (by omega)) (q1 := (by omega))) 3 gX12_laysRow_X12_sets rfl hvX12_sets ⟨Nat.le_of_ble_eq_true rfl, Nat.le_of_ble_eq_true rfl⟩ rfl rfl h0 rfl rfl rfl rfl hl.1 rfl (Nat.le_of_ble_eq_true rfl) dX12_laysRow_105 ⟨Nat.le_of_ble_eq_true rfl, Nat.le_of_ble_eq_true rfl⟩) hA hF (fun σ_9 H locs hW hF pσ_9 => ?_)
              try dsimp only at pσ_9
              obtain ⟨pσ_9, fpσ_9⟩ := pσ_9
              try simp only [Ehl, Ehand, Enb] at pσ_9
              have q_sets := pσ_9
              have hR := fr_call hR fpσ_9 (by decide)
              have Ehl : σ_9 a0 3 = σ a0 3 := (fr_at fpσ_9 h0 3 13003 rfl (by decide)).trans Ehl
              have Ehand : σ_9 (G a0 2) = σ (G a0 2) := (row_fr fpσ_9 hk_hand 41 (by decide) (by decide)).trans Ehand
              have Enb : σ_9 a0 9 = σ a0 9 := (fr_at fpσ_9 h0 9 13009 rfl (by decide)).trans Enb
              have hrow := st_row q_sets (by omega) (by omega) (by omega)
              have hat_ := st_at q_sets
              have hoth := st_oth q_sets (by omega) (by omega) (by omega) (by omega)
              try simp only [Efile] at hrow hoth
              have hfr3 := FR_set hfr2 q0 hrow hoth
              refine j_const hx hb dX12_laysRow_108 ?_
              refine lv_istore_n (lv' := [(3, .int (jI 0)), (0, .ref a0), (1, .int (jI x1)), (2, .int (jI x2))]) hx hb dX12_laysRow_109 rfl hl (by decide) rfl (fun ls hl => ?_)
              have L_110 : ∀ (N : Nat) (v3_110 : Int) (σL_110 : Nat → Nat → Int) (H : Heap) (locs : List Loc) (ls : Array Slot), N = (2147483647 - v3_110 : Int).toNat → (0 ≤ v3_110) → (v3_110 ≤ σ a0 3) → (FR (σ (G a0 0)) (σL_110 (G a0 0)) (σ (G a0 0) 0) x1) → (kO (σL_110 (G a0 0)) x1 0 = σ a0 3) → (kO (σL_110 (G a0 0)) x1 2 = σ a0 9) → (∀ k : Int, 0 ≤ k → k < v3_110 → kO (σL_110 (G a0 0)) x1 (3 + k) = σ (G a0 2) k.toNat) → rg v3_110 → PW D cA τ G L σL_110 H → va_S (fun q => q ∈ L) s.heap H locs → fr wr_X12_laysRow τ σ σL_110 → σL_110 a0 3 = σ a0 3 → σL_110 (G a0 2) = σ (G a0 2) → σL_110 a0 9 = σ a0 9 → lv_has ls 5 [(0, .ref a0), (1, .int (jI x1)), (3, .int (jI v3_110))] → W p l e ({ frames := 1, cells := 0, slots := 0, locals := 23 }) s m args below meth c H locs 0 0 Q (F0 m 110 ls []) := by
                intro N
                induction N using Nat.strongRecOn with
                | ind N ih_110 =>
                  intro v3_110 σL_110 H locs ls hN i0_110 i1_110 i2_110 i3_110 i4_110 i5_110 rv3_110 hW hF hR Ehl Ehand Enb hl
                  refine lv_iload_n hx hb dX12_laysRow_110 rfl (lv_at hl 2 rfl) ?_
                  refine lv_aload_n hx hb dX12_laysRow_111 rfl (lv_at hl 0 rfl) ?_
                  refine j_getI hx hb (C := RX12) (T := TX12) (N := 41) hts inX12_laysRow_X12 hown hK hS hW h0 rfl 3 rfl rfl (by decide) (hts _ flX12_laysRow_70) dX12_laysRow_112 ?_
                  rw [Ehl]
                  refine j_icmp_ge (tgt := 138) hx hb (by omega) (by omega) dX12_laysRow_115 (by decide) (fun c_10 => ?_) (fun c_10 => ?_)
                  · exact hRet 138 _ _ _ _ dX12_laysRow_138 hW hF ⟨(by first | exact ⟨i2_110, i3_110, i4_110, fun k k0 k1 => i5_110 k k0 (by omega)⟩ | (simp only [Ehl, Ehand, Enb]; exact ⟨i2_110, i3_110, i4_110, fun k k0 k1 => i5_110 k k0 (by omega)⟩)), hR⟩
                  · refine lv_aload_n hx hb dX12_laysRow_118 rfl (lv_at hl 0 rfl) ?_
                    refine lv_iload_n hx hb dX12_laysRow_119 rfl (lv_at hl 1 rfl) ?_
                    refine j_const hx hb dX12_laysRow_120 ?_
                    refine lv_iload_n hx hb dX12_laysRow_121 rfl (lv_at hl 2 rfl) ?_
                    refine j_add hx hb dX12_laysRow_122 ?_
                    refine lv_aload_n hx hb dX12_laysRow_123 rfl (lv_at hl 0 rfl) ?_
                    refine j_getR hx hb (C := RX12) (T := TX12) (N := 41) hts inX12_laysRow_X12 hown hK hS hW h0 rfl 2 rfl rfl (by decide) (hts _ flX12_laysRow_13) dX12_laysRow_124 ?_
                    refine lv_iload_n hx hb dX12_laysRow_127 rfl (lv_at hl 2 rfl) ?_
                    refine j_ald hx hb hK hS hW hk_hand (n := 24) rfl (by omega) (by omega) (by decide) dX12_laysRow_128 ?_
                    have := abd hW hk_hand (n := 24) (lo := 0) (hi := 255) (i := v3_110) rfl (by omega) (by omega)
                    rw [Ehand]
                    try simp only [Ehand] at this
                    refine j_cV (j_runV (As := [.int (jI x1), .int (jI (3 + v3_110)), .int (jI (σ (G a0 2) (v3_110).toNat))]) (rest := []) hx hb hml hown hts hK hS hW (kX12_sets l hS σL_110 (a0 := a0) (h0 := h0) (x1 := x1) (r1 := (by omega)) (x2 := 3 + v3_110) (r2 := (by omega)) (x3 := σ (G a0 2) (v3_110).toNat) (r3 := (by omega)) (q0 := (by omega)) (q1 := (by omega))) 3 gX12_laysRow_X12_sets rfl hvX12_sets ⟨Nat.le_of_ble_eq_true rfl, Nat.le_of_ble_eq_true rfl⟩ rfl rfl h0 rfl rfl rfl rfl hl.1 rfl (Nat.le_of_ble_eq_true rfl) dX12_laysRow_129 ⟨Nat.le_of_ble_eq_true rfl, Nat.le_of_ble_eq_true rfl⟩) hA hF (fun σ_11 H locs hW hF pσ_11 => ?_)
                    try dsimp only at pσ_11
                    obtain ⟨pσ_11, fpσ_11⟩ := pσ_11
                    try simp only [Ehl, Ehand, Enb] at pσ_11
                    have q_sets := pσ_11
                    have hR := fr_call hR fpσ_11 (by decide)
                    have Ehl : σ_11 a0 3 = σ a0 3 := (fr_at fpσ_11 h0 3 13003 rfl (by decide)).trans Ehl
                    have Ehand : σ_11 (G a0 2) = σ (G a0 2) := (row_fr fpσ_11 hk_hand 41 (by decide) (by decide)).trans Ehand
                    have Enb : σ_11 a0 9 = σ a0 9 := (fr_at fpσ_11 h0 9 13009 rfl (by decide)).trans Enb
                    have hrow := st_row q_sets (by omega) (by omega) (by omega)
                    have hat_ := st_at q_sets
                    have hoth := st_oth q_sets (by omega) (by omega) (by omega) (by omega)
                    try simp only [Efile] at hrow hoth
                    refine j_iinc (lv' := [(3, .int (jI (v3_110 + 1))), (0, .ref a0), (1, .int (jI x1))]) hx hb dX12_laysRow_132 hl (k := 2) rfl (by decide) rfl (fun ls hl => ?_)
                    refine lv_goto (tgt := 110) hx hb dX12_laysRow_135 (by decide) ?_
                    exact ih_110 ((2147483647 - (v3_110 + 1) : Int).toNat) (by omega) (v3_110 + 1) σ_11 _ _ _ rfl (by omega) (by omega) (by first | exact (by first | exact FR_set i2_110 q0 hrow hoth | exact hfr3) | (simp only [Ehl, Ehand, Enb]; exact (by first | exact FR_set i2_110 q0 hrow hoth | exact hfr3))) (by first | exact (by first | exact (hrow x1 0 q0 (by omega) (by omega) (by omega)).trans i3_110 | exact (hrow x1 0 q0 (by omega) (by omega) (by omega)).trans ha2) | (simp only [Ehl, Ehand, Enb]; exact (by first | exact (hrow x1 0 q0 (by omega) (by omega) (by omega)).trans i3_110 | exact (hrow x1 0 q0 (by omega) (by omega) (by omega)).trans ha2))) (by first | exact (by first | exact (hrow x1 2 q0 (by omega) (by omega) (by omega)).trans i4_110 | exact hat_) | (simp only [Ehl, Ehand, Enb]; exact (by first | exact (hrow x1 2 q0 (by omega) (by omega) (by omega)).trans i4_110 | exact hat_))) (by first | exact (by first | exact agree_succ (fun j j0 j1 => (hrow x1 (3 + j) q0 (by omega) (by omega) (by omega)).trans (i5_110 j j0 j1)) hat_ | (intro j j0 j1; exfalso; omega)) | (simp only [Ehl, Ehand, Enb]; exact (by first | exact agree_succ (fun j j0 j1 => (hrow x1 (3 + j) q0 (by omega) (by omega) (by omega)).trans (i5_110 j j0 j1)) hat_ | (intro j j0 j1; exfalso; omega)))) (by omega) hW hF hR Ehl Ehand Enb (lv_sub hl [1, 2, 0] rfl)
              exact L_110 ((2147483647 - 0 : Int).toNat) 0 σ_9 _ _ _ rfl (by omega) (by omega) (by first | exact (by first | exact FR_set i2_110 q0 hrow hoth | exact hfr3) | (simp only [Ehl, Ehand, Enb]; exact (by first | exact FR_set i2_110 q0 hrow hoth | exact hfr3))) (by first | exact (by first | exact (hrow x1 0 q0 (by omega) (by omega) (by omega)).trans i3_110 | exact (hrow x1 0 q0 (by omega) (by omega) (by omega)).trans ha2) | (simp only [Ehl, Ehand, Enb]; exact (by first | exact (hrow x1 0 q0 (by omega) (by omega) (by omega)).trans i3_110 | exact (hrow x1 0 q0 (by omega) (by omega) (by omega)).trans ha2))) (by first | exact (by first | exact (hrow x1 2 q0 (by omega) (by omega) (by omega)).trans i4_110 | exact hat_) | (simp only [Ehl, Ehand, Enb]; exact (by first | exact (hrow x1 2 q0 (by omega) (by omega) (by omega)).trans i4_110 | exact hat_))) (by first | exact (by first | exact agree_succ (fun j j0 j1 => (hrow x1 (3 + j) q0 (by omega) (by omega) (by omega)).trans (i5_110 j j0 j1)) hat_ | (intro j j0 j1; exfalso; omega)) | (simp only [Ehl, Ehand, Enb]; exact (by first | exact agree_succ (fun j j0 j1 => (hrow x1 (3 + j) q0 (by omega) (by omega) (by omega)).trans (i5_110 j j0 j1)) hat_ | (intro j j0 j1; exfalso; omega)))) (by decide) hW hF hR Ehl Ehand Enb (lv_sub hl [1, 2, 0] rfl)
            · refine lv_aload_n hx hb dX12_laysRow_68 rfl (lv_at hl 0 rfl) ?_
              refine lv_iload_n hx hb dX12_laysRow_69 rfl (lv_at hl 1 rfl) ?_
              refine lv_iload_n hx hb dX12_laysRow_70 rfl (lv_at hl 3 rfl) ?_
              refine j_const hx hb dX12_laysRow_71 ?_
              refine j_cV (j_runV (As := [.int (jI x1), .int (jI v3_62), .int (jI 0)]) (rest := []) hx hb hml hown hts hK hS hW (kX12_sets l hS σL_62 (a0 := a0) (h0 := h0) (x1 := x1) (r1 := (by omega)) (x2 := v3_62) (r2 := (by omega)) (x3 := 0) (r3 := (by decide)) (q0 := (by omega)) (q1 := (by omega))) 3 gX12_laysRow_X12_sets rfl hvX12_sets ⟨Nat.le_of_ble_eq_true rfl, Nat.le_of_ble_eq_true rfl⟩ rfl rfl h0 rfl rfl rfl rfl hl.1 rfl (Nat.le_of_ble_eq_true rfl) dX12_laysRow_72 ⟨Nat.le_of_ble_eq_true rfl, Nat.le_of_ble_eq_true rfl⟩) hA hF (fun σ_12 H locs hW hF pσ_12 => ?_)
              try dsimp only at pσ_12
              obtain ⟨pσ_12, fpσ_12⟩ := pσ_12
              try simp only [Ehl, Ehand, Enb] at pσ_12
              have q_sets := pσ_12
              have hR := fr_call hR fpσ_12 (by decide)
              have Ehl : σ_12 a0 3 = σ a0 3 := (fr_at fpσ_12 h0 3 13003 rfl (by decide)).trans Ehl
              have Ehand : σ_12 (G a0 2) = σ (G a0 2) := (row_fr fpσ_12 hk_hand 41 (by decide) (by decide)).trans Ehand
              have Enb : σ_12 a0 9 = σ a0 9 := (fr_at fpσ_12 h0 9 13009 rfl (by decide)).trans Enb
              have hrow := st_row q_sets (by omega) (by omega) (by omega)
              have hat_ := st_at q_sets
              have hoth := st_oth q_sets (by omega) (by omega) (by omega) (by omega)
              try simp only [Efile] at hrow hoth
              refine j_iinc (lv' := [(3, .int (jI (v3_62 + 1))), (0, .ref a0), (1, .int (jI x1)), (2, .int (jI x2))]) hx hb dX12_laysRow_75 hl (k := 3) rfl (by decide) rfl (fun ls hl => ?_)
              refine lv_goto (tgt := 62) hx hb dX12_laysRow_78 (by decide) ?_
              exact ih_62 ((30 - (v3_62 + 1) : Int).toNat) (by omega) (v3_62 + 1) σ_12 _ _ _ rfl (by omega) (by omega) (by first | exact (by first | exact FR_set i2_62 q0 hrow hoth | exact FR_of (by rw [show x1 = v3_5 by omega]; exact i2_5) st_file (by first | rfl | exact Efile) (by omega) q0) | (simp only [Ehl, Ehand, Enb]; exact (by first | exact FR_set i2_62 q0 hrow hoth | exact FR_of (by rw [show x1 = v3_5 by omega]; exact i2_5) st_file (by first | rfl | exact Efile) (by omega) q0))) (by omega) hW hF hR Ehl Ehand Enb (lv_sub hl [1, 2, 3, 0] rfl)
        exact L_62 ((30 - 0 : Int).toNat) 0 σ_4 _ _ _ rfl (by omega) (by omega) (by first | exact (by first | exact FR_set i2_62 q0 hrow hoth | exact FR_of (by rw [show x1 = v3_5 by omega]; exact i2_5) st_file (by first | rfl | exact Efile) (by omega) q0) | (simp only [Ehl, Ehand, Enb]; exact (by first | exact FR_set i2_62 q0 hrow hoth | exact FR_of (by rw [show x1 = v3_5 by omega]; exact i2_5) st_file (by first | rfl | exact Efile) (by omega) q0))) (by decide) hW hF hR Ehl Ehand Enb (lv_sub hl [1, 2, 3, 0] rfl)
      · refine j_const hx hb dX12_laysRow_10 ?_
        refine lv_istore (lv' := [(4, .int (jI 0)), (0, .ref a0), (1, .int (jI x1)), (2, .int (jI x2)), (3, .int (jI v3_5))]) hx hb dX12_laysRow_11 hl (by decide) rfl (fun ls hl => ?_)
        have L_13 : ∀ (N : Nat) (v4_13 : Int) (σL_13 : Nat → Nat → Int) (H : Heap) (locs : List Loc) (ls : Array Slot), N = (30 - v4_13 : Int).toNat → (0 ≤ v4_13) → (v4_13 ≤ 27) → (SH (σ (G a0 0)) (σL_13 (G a0 0)) (σ (G a0 0) 0) v3_5 v4_13) → rg v4_13 → PW D cA τ G L σL_13 H → va_S (fun q => q ∈ L) s.heap H locs → fr wr_X12_laysRow τ σ σL_13 → σL_13 a0 3 = σ a0 3 → σL_13 (G a0 2) = σ (G a0 2) → σL_13 a0 9 = σ a0 9 → lv_has ls 5 [(0, .ref a0), (1, .int (jI x1)), (2, .int (jI x2)), (3, .int (jI v3_5)), (4, .int (jI v4_13))] → W p l e ({ frames := 1, cells := 0, slots := 0, locals := 23 }) s m args below meth c H locs 0 0 Q (F0 m 13 ls []) := by
          intro N
          induction N using Nat.strongRecOn with
          | ind N ih_13 =>
            intro v4_13 σL_13 H locs ls hN i0_13 i1_13 i2_13 rv4_13 hW hF hR Ehl Ehand Enb hl
            refine lv_iload hx hb dX12_laysRow_13 (lv_at hl 4 rfl) ?_
            refine j_bi hx hb dX12_laysRow_15 (by decide) ?_
            refine j_icmp_ge (tgt := 42) hx hb (by omega) (by decide) dX12_laysRow_17 (by decide) (fun c_13 => ?_) (fun c_13 => ?_)
            · refine j_iinc (lv' := [(3, .int (jI (v3_5 + (-1)))), (0, .ref a0), (1, .int (jI x1)), (2, .int (jI x2)), (4, .int (jI v4_13))]) hx hb dX12_laysRow_42 hl (k := 3) rfl (by decide) rfl (fun ls hl => ?_)
              refine lv_goto (tgt := 5) hx hb dX12_laysRow_45 (by decide) ?_
              exact ih_5 (((v3_5 + (-1)) : Int).toNat) (by omega) (v3_5 + (-1)) σL_13 _ _ _ rfl (by omega) (by omega) (by first | exact (by first | exact SH_next i2_13 (by omega) | (rw [q_many]; exact SH_0)) | (simp only [Ehl, Ehand, Enb]; exact (by first | exact SH_next i2_13 (by omega) | (rw [q_many]; exact SH_0)))) (by omega) hW hF hR Ehl Ehand Enb (lv_sub hl [1, 2, 3, 0] rfl)
            · refine lv_aload_n hx hb dX12_laysRow_20 rfl (lv_at hl 0 rfl) ?_
              refine lv_iload_n hx hb dX12_laysRow_21 rfl (lv_at hl 3 rfl) ?_
              refine lv_iload hx hb dX12_laysRow_22 (lv_at hl 4 rfl) ?_
              refine lv_aload_n hx hb dX12_laysRow_24 rfl (lv_at hl 0 rfl) ?_
              refine lv_iload_n hx hb dX12_laysRow_25 rfl (lv_at hl 3 rfl) ?_
              refine j_const hx hb dX12_laysRow_26 ?_
              refine j_sub hx hb dX12_laysRow_27 ?_
              refine lv_iload hx hb dX12_laysRow_28 (lv_at hl 4 rfl) ?_
              refine j_cR (j_runV (As := [.int (jI (v3_5 - 1)), .int (jI v4_13)]) (rest := [.int (jI v4_13), .int (jI v3_5), .ref a0]) hx hb hml hown hts hK hS hW (kX12_of l hS σL_13 (a0 := a0) (h0 := h0) (x1 := v3_5 - 1) (r1 := (by omega)) (x2 := v4_13) (r2 := (by omega)) (q0 := (by omega)) (q1 := (by omega))) 2 gX12_laysRow_X12_of rfl hvX12_of ⟨Nat.le_of_ble_eq_true rfl, Nat.le_of_ble_eq_true rfl⟩ rfl rfl h0 rfl rfl rfl rfl hl.1 rfl (Nat.le_of_ble_eq_true rfl) dX12_laysRow_30 ⟨Nat.le_of_ble_eq_true rfl, Nat.le_of_ble_eq_true rfl⟩) (fun v_14 rv_14 pv_14 => ?_)
              try dsimp only at pv_14
              try simp only [Ehl, Ehand, Enb] at pv_14
              have q_of := pv_14
              refine j_cV (j_runV (As := [.int (jI v3_5), .int (jI v4_13), .int (jI v_14)]) (rest := []) hx hb hml hown hts hK hS hW (kX12_sets l hS σL_13 (a0 := a0) (h0 := h0) (x1 := v3_5) (r1 := (by omega)) (x2 := v4_13) (r2 := (by omega)) (x3 := v_14) (r3 := (by omega)) (q0 := (by omega)) (q1 := (by omega))) 3 gX12_laysRow_X12_sets rfl hvX12_sets ⟨Nat.le_of_ble_eq_true rfl, Nat.le_of_ble_eq_true rfl⟩ rfl rfl h0 rfl rfl rfl rfl hl.1 rfl (Nat.le_of_ble_eq_true rfl) dX12_laysRow_33 ⟨Nat.le_of_ble_eq_true rfl, Nat.le_of_ble_eq_true rfl⟩) hA hF (fun σ_15 H locs hW hF pσ_15 => ?_)
              try dsimp only at pσ_15
              obtain ⟨pσ_15, fpσ_15⟩ := pσ_15
              try simp only [Ehl, Ehand, Enb] at pσ_15
              have q_sets := pσ_15
              have hR := fr_call hR fpσ_15 (by decide)
              have Ehl : σ_15 a0 3 = σ a0 3 := (fr_at fpσ_15 h0 3 13003 rfl (by decide)).trans Ehl
              have Ehand : σ_15 (G a0 2) = σ (G a0 2) := (row_fr fpσ_15 hk_hand 41 (by decide) (by decide)).trans Ehand
              have Enb : σ_15 a0 9 = σ a0 9 := (fr_at fpσ_15 h0 9 13009 rfl (by decide)).trans Enb
              have hrow := st_row q_sets (by omega) (by omega) (by omega)
              have hat_ := st_at q_sets
              have hoth := st_oth q_sets (by omega) (by omega) (by omega) (by omega)
              try simp only [Efile] at hrow hoth
              refine j_iinc (lv' := [(4, .int (jI (v4_13 + 1))), (0, .ref a0), (1, .int (jI x1)), (2, .int (jI x2)), (3, .int (jI v3_5))]) hx hb dX12_laysRow_36 hl (k := 4) rfl (by decide) rfl (fun ls hl => ?_)
              refine lv_goto (tgt := 13) hx hb dX12_laysRow_39 (by decide) ?_
              exact ih_13 ((30 - (v4_13 + 1) : Int).toNat) (by omega) (v4_13 + 1) σ_15 _ _ _ rfl (by omega) (by omega) (by first | exact (by first | exact SH_step i2_13 (by omega) (by omega) hrow (hat_.trans q_of) (by omega) hoth | exact i2_5) | (simp only [Ehl, Ehand, Enb]; exact (by first | exact SH_step i2_13 (by omega) (by omega) hrow (hat_.trans q_of) (by omega) hoth | exact i2_5))) (by omega) hW hF hR Ehl Ehand Enb (lv_sub hl [1, 2, 3, 4, 0] rfl)
        exact L_13 ((30 - 0 : Int).toNat) 0 σL_5 _ _ _ rfl (by omega) (by omega) (by first | exact (by first | exact SH_step i2_13 (by omega) (by omega) hrow (hat_.trans q_of) (by omega) hoth | exact i2_5) | (simp only [Ehl, Ehand, Enb]; exact (by first | exact SH_step i2_13 (by omega) (by omega) hrow (hat_.trans q_of) (by omega) hoth | exact i2_5))) (by decide) hW hF hR Ehl Ehand Enb (lv_sub hl [1, 2, 3, 4, 0] rfl)
  exact L_5 ((v_1 : Int).toNat) v_1 σ _ _ _ rfl (by omega) (by omega) (by first | exact SH_next i2_13 (by omega) | (rw [q_many]; exact SH_0)) (by omega) hW hF hR rfl rfl rfl (lv_sub hl [1, 2, 3, 0] rfl)
abbrev wr_X12_dropsRow : List Nat := [40000]
theorem flX12_dropsRow_7 : Cond.fieldLink RX12 7 "PageTrieModel" "file" "[I" ∈ wsX12_dropsRow := List.mem_of_getElem? (i := 1) rfl
theorem inX12_dropsRow_X12 : ∀ w ∈ u_ws RX12 TX12 41, w ∈ wsX12_dropsRow := mem_r _ [15, 16, 17, 18, 19, 20, 21, 22, 23, 24, 25, 26, 27, 28, 29, 30, 31, 32, 33, 34, 35, 36, 37, 38, 39, 40, 41, 42, 43, 44, 45, 46, 47, 48, 49, 50, 51, 52, 53, 54, 55] rfl
theorem hvX12_dropsRow : yX12_dropsRow.cls = RX12 ∧ yX12_dropsRow.cls ≠ "java/lang/invoke/MethodHandle" ∧ yX12_dropsRow.cls ≠ "java/lang/invoke/VarHandle" ∧ (parseMethodDescriptor yX12_dropsRow.desc).map (fun d => d.parameters.length) = some 1 := by decide +kernel
set_option maxHeartbeats 4000000 in
set_option maxRecDepth 100000 in
theorem kX12_dropsRow (l : Launch) {D : va_G} {cA : Nat → ClassId} {τ : Nat → Nat} {G : Nat → Nat → Nat} {L : List Nat} (hS : SW τ G L) (σ : Nat → Nat → Int) {a0 : Nat} (h0 : τ a0 = 13) {x1 : Int} (r1 : rg x1) (q0 : 0 ≤ x1) (q1 : x1 < σ (G a0 0) 0) (q2 : σ (G a0 0) 0 ≤ 150) : Met l yX12_dropsRow wsX12_dropsRow ({ frames := 1, cells := 0, slots := 0, locals := 23 }) (jP D cA τ G L σ [.ref a0, .int (jI x1)]) (jQV D cA τ G L (fun σ' => ((SD (σ (G a0 0)) (σ' (G a0 0)) (σ (G a0 0) 0) x1 (σ (G a0 0) 0 - 1) 0)) ∧ fr wr_X12_dropsRow τ σ σ')) 0 0 (fun q => q ∈ L) := by
  refine j_metV (by decide +kernel) rfl (Nat.le_of_ble_eq_true rfl) ?_
  intro p e s m args below meth c Q hx hb hml hown hts hK hW hRet ls hl
  have hl : lv_has ls 4 [(0, .ref a0), (1, .int (jI x1))] := hl
  have hA : ∀ q ∈ L, (fun q => q ∈ L) q := fun _ h => h
  have hF : va_S (fun q => q ∈ L) s.heap s.heap [] := va_S.rf
  have hR : fr wr_X12_dropsRow τ σ σ := fr_rf
  have hk_file : τ (G a0 0) = 40 := gty hS h0 (k := 0) rfl rfl
  refine lv_aload_n hx hb dX12_dropsRow_0 rfl (lv_at hl 0 rfl) ?_
  refine j_getR hx hb (C := RX12) (T := TX12) (N := 41) hts inX12_dropsRow_X12 hown hK hS hW h0 rfl 0 rfl rfl (by decide) (hts _ flX12_dropsRow_7) dX12_dropsRow_1 ?_
  refine j_const hx hb dX12_dropsRow_4 ?_
  refine lv_aload_n hx hb dX12_dropsRow_5 rfl (lv_at hl 0 rfl) ?_
  refine j_cR (j_runV (As := []) (rest := [.int (jI 0), .ref (G a0 0)]) hx hb hml hown hts hK hS hW (kX12_many l hS σ (a0 := a0) (h0 := h0)) 0 gX12_dropsRow_X12_many rfl hvX12_many ⟨Nat.le_of_ble_eq_true rfl, Nat.le_of_ble_eq_true rfl⟩ rfl rfl h0 rfl rfl rfl rfl hl.1 rfl (Nat.le_of_ble_eq_true rfl) dX12_dropsRow_6 ⟨Nat.le_of_ble_eq_true rfl, Nat.le_of_ble_eq_true rfl⟩) (fun v_1 rv_1 pv_1 => ?_)
  try dsimp only at pv_1
  have q_many := pv_1
  refine j_const hx hb dX12_dropsRow_9 ?_
  refine j_sub hx hb dX12_dropsRow_10 ?_
  refine j_ast hx hb hK hS hA hW hF hk_file (n := 17624) (lo := -2147483648) (hi := 2147483647) rfl (by omega) (by omega) (by decide) (by omega) dX12_dropsRow_11 (fun σ_2 H locs e_3 hW hF => ?_)
  have st_file := e_3
  have hR := fr_up hR e_3 hk_file 40000 (cdA 40 (by decide) _) (by decide)
  refine lv_iload_n hx hb dX12_dropsRow_12 rfl (lv_at hl 1 rfl) ?_
  refine lv_istore_n (lv' := [(2, .int (jI x1)), (0, .ref a0), (1, .int (jI x1))]) hx hb dX12_dropsRow_13 rfl hl (by decide) rfl (fun ls hl => ?_)
  have L_14 : ∀ (N : Nat) (v2_14 : Int) (σL_14 : Nat → Nat → Int) (H : Heap) (locs : List Loc) (ls : Array Slot), N = (200 - v2_14 : Int).toNat → (x1 ≤ v2_14) → (v2_14 ≤ σ (G a0 0) 0 - 1) → (SD (σ (G a0 0)) (σL_14 (G a0 0)) (σ (G a0 0) 0) x1 v2_14 0) → rg v2_14 → PW D cA τ G L σL_14 H → va_S (fun q => q ∈ L) s.heap H locs → fr wr_X12_dropsRow τ σ σL_14 → lv_has ls 4 [(0, .ref a0), (2, .int (jI v2_14))] → W p l e ({ frames := 1, cells := 0, slots := 0, locals := 23 }) s m args below meth c H locs 0 0 Q (F0 m 14 ls []) := by
    intro N
    induction N using Nat.strongRecOn with
    | ind N ih_14 =>
      intro v2_14 σL_14 H locs ls hN i0_14 i1_14 i2_14 rv2_14 hW hF hR hl
      have hs0 := i2_14.1
      refine lv_iload_n hx hb dX12_dropsRow_14 rfl (lv_at hl 1 rfl) ?_
      refine lv_aload_n hx hb dX12_dropsRow_15 rfl (lv_at hl 0 rfl) ?_
      refine j_cR (j_runV (As := []) (rest := [.int (jI v2_14)]) hx hb hml hown hts hK hS hW (kX12_many l hS σL_14 (a0 := a0) (h0 := h0)) 0 gX12_dropsRow_X12_many rfl hvX12_many ⟨Nat.le_of_ble_eq_true rfl, Nat.le_of_ble_eq_true rfl⟩ rfl rfl h0 rfl rfl rfl rfl hl.1 rfl (Nat.le_of_ble_eq_true rfl) dX12_dropsRow_16 ⟨Nat.le_of_ble_eq_true rfl, Nat.le_of_ble_eq_true rfl⟩) (fun v_4 rv_4 pv_4 => ?_)
      try dsimp only at pv_4
      have q_many := pv_4
      refine j_icmp_ge (tgt := 56) hx hb (by omega) (by omega) dX12_dropsRow_19 (by decide) (fun c_5 => ?_) (fun c_5 => ?_)
      · exact hRet 56 _ _ _ _ dX12_dropsRow_56 hW hF ⟨(by rw [show σ (G a0 0) 0 - 1 = v2_14 by omega]; exact i2_14), hR⟩
      · refine j_const hx hb dX12_dropsRow_22 ?_
        refine lv_istore_n (lv' := [(3, .int (jI 0)), (0, .ref a0), (2, .int (jI v2_14))]) hx hb dX12_dropsRow_23 rfl hl (by decide) rfl (fun ls hl => ?_)
        have L_24 : ∀ (N : Nat) (v3_24 : Int) (σL_24 : Nat → Nat → Int) (H : Heap) (locs : List Loc) (ls : Array Slot), N = (30 - v3_24 : Int).toNat → (0 ≤ v3_24) → (v3_24 ≤ 27) → (SD (σ (G a0 0)) (σL_24 (G a0 0)) (σ (G a0 0) 0) x1 v2_14 v3_24) → rg v3_24 → PW D cA τ G L σL_24 H → va_S (fun q => q ∈ L) s.heap H locs → fr wr_X12_dropsRow τ σ σL_24 → lv_has ls 4 [(0, .ref a0), (2, .int (jI v2_14)), (3, .int (jI v3_24))] → W p l e ({ frames := 1, cells := 0, slots := 0, locals := 23 }) s m args below meth c H locs 0 0 Q (F0 m 24 ls []) := by
          intro N
          induction N using Nat.strongRecOn with
          | ind N ih_24 =>
            intro v3_24 σL_24 H locs ls hN i0_24 i1_24 i2_24 rv3_24 hW hF hR hl
            refine lv_iload_n hx hb dX12_dropsRow_24 rfl (lv_at hl 2 rfl) ?_
            refine j_bi hx hb dX12_dropsRow_25 (by decide) ?_
            refine j_icmp_ge (tgt := 50) hx hb (by omega) (by decide) dX12_dropsRow_27 (by decide) (fun c_6 => ?_) (fun c_6 => ?_)
            · refine j_iinc (lv' := [(2, .int (jI (v2_14 + 1))), (0, .ref a0), (3, .int (jI v3_24))]) hx hb dX12_dropsRow_50 hl (k := 1) rfl (by decide) rfl (fun ls hl => ?_)
              refine lv_goto (tgt := 14) hx hb dX12_dropsRow_53 (by decide) ?_
              exact ih_14 ((200 - (v2_14 + 1) : Int).toNat) (by omega) (v2_14 + 1) σL_24 _ _ _ rfl (by omega) (by omega) (by first | exact SD_next i2_24 (by omega) | exact SD_0 st_file rfl (by omega)) (by omega) hW hF hR (lv_sub hl [1, 0] rfl)
            · refine lv_aload_n hx hb dX12_dropsRow_30 rfl (lv_at hl 0 rfl) ?_
              refine lv_iload_n hx hb dX12_dropsRow_31 rfl (lv_at hl 1 rfl) ?_
              refine lv_iload_n hx hb dX12_dropsRow_32 rfl (lv_at hl 2 rfl) ?_
              refine lv_aload_n hx hb dX12_dropsRow_33 rfl (lv_at hl 0 rfl) ?_
              refine lv_iload_n hx hb dX12_dropsRow_34 rfl (lv_at hl 1 rfl) ?_
              refine j_const hx hb dX12_dropsRow_35 ?_
              refine j_add hx hb dX12_dropsRow_36 ?_
              refine lv_iload_n hx hb dX12_dropsRow_37 rfl (lv_at hl 2 rfl) ?_
              refine j_cR (j_runV (As := [.int (jI (v2_14 + 1)), .int (jI v3_24)]) (rest := [.int (jI v3_24), .int (jI v2_14), .ref a0]) hx hb hml hown hts hK hS hW (kX12_of l hS σL_24 (a0 := a0) (h0 := h0) (x1 := v2_14 + 1) (r1 := (by omega)) (x2 := v3_24) (r2 := (by omega)) (q0 := (by omega)) (q1 := (by omega))) 2 gX12_dropsRow_X12_of rfl hvX12_of ⟨Nat.le_of_ble_eq_true rfl, Nat.le_of_ble_eq_true rfl⟩ rfl rfl h0 rfl rfl rfl rfl hl.1 rfl (Nat.le_of_ble_eq_true rfl) dX12_dropsRow_38 ⟨Nat.le_of_ble_eq_true rfl, Nat.le_of_ble_eq_true rfl⟩) (fun v_7 rv_7 pv_7 => ?_)
              try dsimp only at pv_7
              have q_of := pv_7
              refine j_cV (j_runV (As := [.int (jI v2_14), .int (jI v3_24), .int (jI v_7)]) (rest := []) hx hb hml hown hts hK hS hW (kX12_sets l hS σL_24 (a0 := a0) (h0 := h0) (x1 := v2_14) (r1 := (by omega)) (x2 := v3_24) (r2 := (by omega)) (x3 := v_7) (r3 := (by omega)) (q0 := (by omega)) (q1 := (by omega))) 3 gX12_dropsRow_X12_sets rfl hvX12_sets ⟨Nat.le_of_ble_eq_true rfl, Nat.le_of_ble_eq_true rfl⟩ rfl rfl h0 rfl rfl rfl rfl hl.1 rfl (Nat.le_of_ble_eq_true rfl) dX12_dropsRow_41 ⟨Nat.le_of_ble_eq_true rfl, Nat.le_of_ble_eq_true rfl⟩) hA hF (fun σ_8 H locs hW hF pσ_8 => ?_)
              try dsimp only at pσ_8
              obtain ⟨pσ_8, fpσ_8⟩ := pσ_8
              have q_sets := pσ_8
              have hR := fr_call hR fpσ_8 (by decide)
              have hrow := st_row q_sets (by omega) (by omega) (by omega)
              have hat_ := st_at q_sets
              have hoth := st_oth q_sets (by omega) (by omega) (by omega) (by omega)
              try simp only [Efile] at hrow hoth
              refine j_iinc (lv' := [(3, .int (jI (v3_24 + 1))), (0, .ref a0), (2, .int (jI v2_14))]) hx hb dX12_dropsRow_44 hl (k := 2) rfl (by decide) rfl (fun ls hl => ?_)
              refine lv_goto (tgt := 24) hx hb dX12_dropsRow_47 (by decide) ?_
              exact ih_24 ((30 - (v3_24 + 1) : Int).toNat) (by omega) (v3_24 + 1) σ_8 _ _ _ rfl (by omega) (by omega) (by first | exact SD_step i2_24 q0 (by omega) (by omega) hrow (hat_.trans q_of) (by omega) hoth | exact i2_14) (by omega) hW hF hR (lv_sub hl [1, 2, 0] rfl)
        exact L_24 ((30 - 0 : Int).toNat) 0 σL_14 _ _ _ rfl (by omega) (by omega) (by first | exact SD_step i2_24 q0 (by omega) (by omega) hrow (hat_.trans q_of) (by omega) hoth | exact i2_14) (by decide) hW hF hR (lv_sub hl [1, 2, 0] rfl)
  exact L_14 ((200 - x1 : Int).toNat) x1 σ_2 _ _ _ rfl (by omega) (by omega) (by first | exact SD_next i2_24 (by omega) | exact SD_0 st_file rfl (by omega)) (by omega) hW hF hR (lv_sub hl [1, 0] rfl)
