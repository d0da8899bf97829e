abbrev wr_X12_change : List Nat := [13003, 13040, 40000, 41000, 52000]
theorem flX12_change_47 : Cond.fieldLink RX12 47 "PageTrieModel" "foundOf" "[I" ∈ wsX12_change := List.mem_of_getElem? (i := 3) rfl
theorem flX12_change_360 : Cond.fieldLink RX12 360 "PageTrieModel" "foundMany" "I" ∈ wsX12_change := List.mem_of_getElem? (i := 2) rfl
theorem inX12_change_X12 : ∀ w ∈ u_ws RX12 TX12 41, w ∈ wsX12_change := mem_r _ [48, 49, 50, 51, 52, 53, 54, 55, 56, 57, 58, 59, 60, 61, 62, 63, 64, 65, 66, 67, 68, 69, 70, 71, 72, 73, 74, 75, 76, 77, 78, 79, 80, 81, 82, 83, 84, 85, 86, 87, 88] rfl
theorem hvX12_change : yX12_change.cls = RX12 ∧ yX12_change.cls ≠ "java/lang/invoke/MethodHandle" ∧ yX12_change.cls ≠ "java/lang/invoke/VarHandle" ∧ (parseMethodDescriptor yX12_change.desc).map (fun d => d.parameters.length) = some 2 := by decide +kernel
set_option maxHeartbeats 4000000 in
set_option maxRecDepth 100000 in
theorem kX12_change (l : Launch) {D : va_G} {cA : Nat → ClassId} {τ : Nat → Nat} {G : Nat → Nat → Nat} {L : List Nat} (hS : SW τ G L) (σ : Nat → Nat → Int) {a0 : Nat} (h0 : τ a0 = 13) {x1 : Int} (r1 : rg x1) {x2 : Int} (r2 : rg x2) (hI : FI G a0 σ) (q0 : FM (σ (G a0 0))) : Met l yX12_change wsX12_change ({ frames := 5, cells := 0, slots := 0, locals := 113 }) (jP D cA τ G L σ [.ref a0, .int (jI x1), .int (jI x2)]) (jQI D cA τ G L (fun r σ' => ((FI G a0 σ') ∧ (FM (σ' (G a0 0)))) ∧ fr wr_X12_change τ σ σ')) 0 0 (fun q => q ∈ L) := by
  refine j_metI (by decide +kernel) rfl (Nat.le_of_ble_eq_true rfl) ?_
  intro p e s m args below meth c Q hx hb hml hown hts hK hW hRet ls hl
  have hl : lv_has ls 8 [(0, .ref a0), (1, .int (jI x1)), (2, .int (jI x2))] := hl
  have hA : ∀ q ∈ L, (fun q => q ∈ L) q := fun _ h => h
  have hF : va_S (fun q => q ∈ L) s.heap s.heap [] := va_S.rf
  have hR : fr wr_X12_change τ σ σ := fr_rf
  have hk_file : τ (G a0 0) = 40 := gty hS h0 (k := 0) rfl rfl
  have hk_fo : τ (G a0 39) = 52 := gty hS h0 (k := 39) rfl rfl
  have := FI_bd hI
  have := fbd hW h0 (k := 3) (lo := 0) (hi := 24) rfl rfl
  refine lv_iload_n hx hb dX12_change_0 rfl (lv_at hl 1 rfl) ?_
  refine j_const hx hb dX12_change_1 ?_
  refine j_const hx hb dX12_change_2 ?_
  refine j_cR (j_runS (As := [.int (jI x1), .int (jI 0), .int (jI 2)]) (rest := []) hx hb hml hown hts hK hW (kX12_in l hS σ (x0 := x1) (r0 := (by omega)) (x1 := 0) (r1 := (by decide)) (x2 := 2) (r2 := (by decide))) 3 gX12_change_X12_in rfl hsX12_in ⟨Nat.le_of_ble_eq_true rfl, Nat.le_of_ble_eq_true rfl⟩ rfl rfl rfl hl.1 rfl (Nat.le_of_ble_eq_true rfl) dX12_change_3 ⟨Nat.le_of_ble_eq_true rfl, Nat.le_of_ble_eq_true rfl⟩) (fun v_1 rv_1 pv_1 => ?_)
  try dsimp only at pv_1
  have q_in := pv_1
  refine j_if_eq (tgt := 19) hx hb (by omega) dX12_change_6 (by decide) (fun c_2 => ?_) (fun c_2 => ?_)
  · refine j_const hx hb dX12_change_19 ?_
    exact hRet 20 _ _ _ (-1) _ dX12_change_20 hW hF (by decide) ⟨⟨hI, q0⟩, hR⟩
  · refine lv_iload_n hx hb dX12_change_9 rfl (lv_at hl 2 rfl) ?_
    refine j_const hx hb dX12_change_10 ?_
    refine j_ldc hx hb hown (hts (.constant RX12 160 (99999)) (by decide +kernel)) (n := 99999) rfl dX12_change_11 ?_
    refine j_cR (j_runS (As := [.int (jI x2), .int (jI 0), .int (jI 99999)]) (rest := []) hx hb hml hown hts hK hW (kX12_in l hS σ (x0 := x2) (r0 := (by omega)) (x1 := 0) (r1 := (by decide)) (x2 := 99999) (r2 := (by decide))) 3 gX12_change_X12_in rfl hsX12_in ⟨Nat.le_of_ble_eq_true rfl, Nat.le_of_ble_eq_true rfl⟩ rfl rfl rfl hl.1 rfl (Nat.le_of_ble_eq_true rfl) dX12_change_13 ⟨Nat.le_of_ble_eq_true rfl, Nat.le_of_ble_eq_true rfl⟩) (fun v_3 rv_3 pv_3 => ?_)
    try dsimp only at pv_3
    have q_in := pv_3
    refine j_if_ne (tgt := 21) hx hb (by omega) dX12_change_16 (by decide) (fun c_4 => ?_) (fun c_4 => ?_)
    · refine lv_aload_n hx hb dX12_change_21 rfl (lv_at hl 0 rfl) ?_
      refine j_cV (j_runV (As := []) (rest := []) hx hb hml hown hts hK hS hW (kX12_finds l hS σ (a0 := a0) (h0 := h0) (hI := hI)) 0 gX12_change_X12_finds rfl hvX12_finds ⟨Nat.le_of_ble_eq_true rfl, Nat.le_of_ble_eq_true rfl⟩ rfl rfl h0 rfl rfl rfl rfl hl.1 rfl (Nat.le_of_ble_eq_true rfl) dX12_change_22 ⟨Nat.le_of_ble_eq_true rfl, Nat.le_of_ble_eq_true rfl⟩) hA hF (fun σ_5 H locs hW hF pσ_5 => ?_)
      try dsimp only at pσ_5
      obtain ⟨pσ_5, fpσ_5⟩ := pσ_5
      have q_finds := pσ_5
      have hR := fr_call hR fpσ_5 (by decide)
      have Efile : σ_5 (G a0 0) = σ (G a0 0) := row_fr fpσ_5 hk_file 40 (by decide) (by decide)
      try clear hcf
      have hcf := congrFun Efile 0
      have Ekept : σ_5 a0 1 = σ a0 1 := fr_at fpσ_5 h0 1 13001 rfl (by decide)
      have hI := FI_dep hS h0 hI (kp_fr fpσ_5 (by decide))
      refine j_const hx hb dX12_change_25 ?_
      refine lv_istore_n (lv' := [(3, .int (jI 0)), (0, .ref a0), (1, .int (jI x1)), (2, .int (jI x2))]) hx hb dX12_change_26 rfl hl (by decide) rfl (fun ls hl => ?_)
      have L_27 : ∀ (N : Nat) (v3_27 : Int) (σL_27 : Nat → Nat → Int) (H : Heap) (locs : List Loc) (ls : Array Slot), N = (2147483647 - v3_27 : Int).toNat → (0 ≤ v3_27) → (FM (σL_27 (G a0 0))) → rg v3_27 → PW D cA τ G L σL_27 H → va_S (fun q => q ∈ L) s.heap H locs → fr wr_X12_change τ σ σL_27 → FI G a0 σL_27 → σL_27 (G a0 39) = σ_5 (G a0 39) → σL_27 a0 40 = σ_5 a0 40 → σL_27 a0 1 = σ a0 1 → lv_has ls 8 [(0, .ref a0), (1, .int (jI x1)), (2, .int (jI x2)), (3, .int (jI v3_27))] → W p l e ({ frames := 5, cells := 0, slots := 0, locals := 113 }) s m args below meth c H locs 0 0 Q (F0 m 27 ls []) := by
        intro N
        induction N using Nat.strongRecOn with
        | ind N ih_27 =>
          intro v3_27 σL_27 H locs ls hN i0_27 i1_27 rv3_27 hW hF hR hI Efo Efm Ekept hl
          refine lv_iload_n hx hb dX12_change_27 rfl (lv_at hl 3 rfl) ?_
          refine lv_aload_n hx hb dX12_change_28 rfl (lv_at hl 0 rfl) ?_
          refine j_getI hx hb (C := RX12) (T := TX12) (N := 41) hts inX12_change_X12 hown hK hS hW h0 rfl 40 rfl rfl (by decide) (hts _ flX12_change_360) dX12_change_29 ?_
          rw [Efm]
          have := fbd hW h0 (k := 40) (lo := 0) (hi := 150) rfl rfl
          try simp only [Efm] at this
          refine j_icmp_ge (tgt := 112) hx hb (by omega) (by omega) dX12_change_32 (by decide) (fun c_6 => ?_) (fun c_6 => ?_)
          · refine lv_aload_n hx hb dX12_change_112 rfl (lv_at hl 0 rfl) ?_
            refine j_getI hx hb (C := RX12) (T := TX12) (N := 41) hts inX12_change_X12 hown hK hS hW h0 rfl 40 rfl rfl (by decide) (hts _ flX12_change_360) dX12_change_113 ?_
            rw [Efm]
            exact hRet 116 _ _ _ (σ_5 a0 40) _ dX12_change_116 hW hF (by omega) ⟨(by first | exact ⟨hI, i1_27⟩ | (simp only [Efo, Efm, Ekept]; exact ⟨hI, i1_27⟩)), hR⟩
          · refine lv_aload_n hx hb dX12_change_35 rfl (lv_at hl 0 rfl) ?_
            have hke := Ekept
            refine lv_aload_n hx hb dX12_change_36 rfl (lv_at hl 0 rfl) ?_
            refine j_getR hx hb (C := RX12) (T := TX12) (N := 41) hts inX12_change_X12 hown hK hS hW h0 rfl 39 rfl rfl (by decide) (hts _ flX12_change_47) dX12_change_37 ?_
            refine lv_iload_n hx hb dX12_change_40 rfl (lv_at hl 3 rfl) ?_
            refine j_ald hx hb hK hS hW hk_fo (n := 150) rfl (by omega) (by omega) (by decide) dX12_change_41 ?_
            have := abd hW hk_fo (n := 150) (lo := 0) (hi := 149) (i := v3_27) rfl (by omega) (by omega)
            rw [Efo]
            try simp only [Efo] at this
            refine j_const hx hb dX12_change_42 ?_
            refine j_cR (j_runV (As := [.int (jI (σ_5 (G a0 39) (v3_27).toNat)), .int (jI 1)]) (rest := []) hx hb hml hown hts hK hS hW (kX12_of l hS σL_27 (a0 := a0) (h0 := h0) (x1 := σ_5 (G a0 39) (v3_27).toNat) (r1 := (by omega)) (x2 := 1) (r2 := (by decide)) (q0 := (by omega)) (q1 := (by omega))) 2 gX12_change_X12_of rfl hvX12_of ⟨Nat.le_of_ble_eq_true rfl, Nat.le_of_ble_eq_true rfl⟩ rfl rfl h0 rfl rfl rfl rfl hl.1 rfl (Nat.le_of_ble_eq_true rfl) dX12_change_43 ⟨Nat.le_of_ble_eq_true rfl, Nat.le_of_ble_eq_true rfl⟩) (fun v_7 rv_7 pv_7 => ?_)
            try dsimp only at pv_7
            try simp only [Efo, Efm, Ekept] at pv_7
            have q_of := pv_7
            refine lv_i2l hx hb dX12_change_46 rfl ?_
            refine lv_lstore (lv' := [(4, .long ((jI v_7).toInt64)), (0, .ref a0), (1, .int (jI x1)), (2, .int (jI x2)), (3, .int (jI v3_27))]) hx hb dX12_change_47 hl (by decide) rfl (fun ls hl => ?_)
            refine lv_iload_n hx hb dX12_change_49 rfl (lv_at hl 2 rfl) ?_
            refine j_if_ne (tgt := 61) hx hb (by omega) dX12_change_50 (by decide) (fun c_8 => ?_) (fun c_8 => ?_)
            · refine lv_iload_n hx hb dX12_change_61 rfl (lv_at hl 2 rfl) ?_
              refine j_const hx hb dX12_change_62 ?_
              refine j_icmp_ne (tgt := 74) hx hb (by omega) (by decide) dX12_change_63 (by decide) (fun c_9 => ?_) (fun c_9 => ?_)
              · refine lv_iload_n hx hb dX12_change_74 rfl (lv_at hl 3 rfl) ?_
                refine lv_i2l hx hb dX12_change_75 rfl ?_
                refine lv_lstore (lv' := [(6, .long ((jI x2).toInt64)), (4, .long ((jI v_7).toInt64)), (0, .ref a0), (1, .int (jI x1)), (2, .int (jI x2)), (3, .int (jI v3_27))]) hx hb dX12_change_76 hl (by decide) rfl (fun ls hl => ?_)
                refine lv_aload_n hx hb dX12_change_78 rfl (lv_at hl 2 rfl) ?_
                refine lv_aload_n hx hb dX12_change_79 rfl (lv_at hl 2 rfl) ?_
                refine j_getR hx hb (C := RX12) (T := TX12) (N := 41) hts inX12_change_X12 hown hK hS hW h0 rfl 39 rfl rfl (by decide) (hts _ flX12_change_47) dX12_change_80 ?_
                refine lv_iload_n hx hb dX12_change_83 rfl (lv_at hl 5 rfl) ?_
                refine j_ald hx hb hK hS hW hk_fo (n := 150) rfl (by omega) (by omega) (by decide) dX12_change_84 ?_
                rw [Efo]
                refine j_const hx hb dX12_change_85 ?_
                refine lv_lload hx hb dX12_change_86 (lv_at hl 0 rfl) ?_
                refine lv_ldc2 hx hb hown (hts (.constantLong RX12 376 (99999)) (by decide +kernel)) dX12_change_88 ?_
                refine W.lcmp hx hb dX12_change_91 (j_raw fun z_10 rz_10 ez_10 => ?_)
                refine j_if_le (tgt := 100) hx hb (by omega) dX12_change_92 (by decide) (fun c_11 => ?_) (fun c_11 => ?_)
                · refine lv_lload hx hb dX12_change_100 (lv_at hl 0 rfl) ?_
                  refine lv_l2i hx hb dX12_change_102 rfl (j_raw fun z_12 rz_12 ez_12 => ?_)
                  refine j_cV (j_runV (As := [.int (jI (σ_5 (G a0 39) (v3_27).toNat)), .int (jI 1), .int (jI z_12)]) (rest := []) hx hb hml hown hts hK hS hW (kX12_sets l hS σL_27 (a0 := a0) (h0 := h0) (x1 := σ_5 (G a0 39) (v3_27).toNat) (r1 := (by omega)) (x2 := 1) (r2 := (by decide)) (x3 := z_12) (r3 := (by omega)) (q0 := (by omega)) (q1 := (by omega))) 3 gX12_change_X12_sets rfl hvX12_sets ⟨Nat.le_of_ble_eq_true rfl, Nat.le_of_ble_eq_true rfl⟩ rfl rfl h0 rfl rfl rfl rfl hl.1 rfl (Nat.le_of_ble_eq_true rfl) dX12_change_103 ⟨Nat.le_of_ble_eq_true rfl, Nat.le_of_ble_eq_true rfl⟩) hA hF (fun σ_13 H locs hW hF pσ_13 => ?_)
                  try dsimp only at pσ_13
                  obtain ⟨pσ_13, fpσ_13⟩ := pσ_13
                  try simp only [Efo, Efm, Ekept] at pσ_13
                  have q_sets := pσ_13
                  have hR := fr_call hR fpσ_13 (by decide)
                  have Efo : σ_13 (G a0 39) = σ_5 (G a0 39) := (row_fr fpσ_13 hk_fo 52 (by decide) (by decide)).trans Efo
                  have Efm : σ_13 a0 40 = σ_5 a0 40 := (fr_at fpσ_13 h0 40 13040 rfl (by decide)).trans Efm
                  have Ekept : σ_13 a0 1 = σ a0 1 := (fr_at fpσ_13 h0 1 13001 rfl (by decide)).trans Ekept
                  have hrow := st_row q_sets (by omega) (by omega) (by omega)
                  have hat_ := st_at q_sets
                  have hoth := st_oth q_sets (by omega) (by omega) (by omega) (by omega)
                  try simp only [Efile] at hrow hoth
                  have hfv := FI_val hI i1_27 q_sets (by omega) (by omega) (Ekept.trans hke.symm)
                  have hI := hfv.1
                  refine j_iinc (lv' := [(3, .int (jI (v3_27 + 1))), (6, .long ((jI x2).toInt64)), (4, .long ((jI v_7).toInt64)), (0, .ref a0), (1, .int (jI x1)), (2, .int (jI x2))]) hx hb dX12_change_106 hl (k := 5) rfl (by decide) rfl (fun ls hl => ?_)
                  refine lv_goto (tgt := 27) hx hb dX12_change_109 (by decide) ?_
                  exact ih_27 ((2147483647 - (v3_27 + 1) : Int).toNat) (by omega) (v3_27 + 1) σ_13 _ _ _ rfl (by omega) (by first | exact (by first | exact hfv.2 | exact q0 | (rw [Efile]; exact q0)) | (simp only [Efo, Efm, Ekept]; exact (by first | exact hfv.2 | exact q0 | (rw [Efile]; exact q0)))) (by omega) hW hF hR hI Efo Efm Ekept (lv_sub hl [3, 4, 5, 0] rfl)
                · refine j_ldc hx hb hown (hts (.constant RX12 160 (99999)) (by decide +kernel)) (n := 99999) rfl dX12_change_95 ?_
                  refine lv_goto (tgt := 103) hx hb dX12_change_97 (by decide) ?_
                  refine j_cV (j_runV (As := [.int (jI (σ_5 (G a0 39) (v3_27).toNat)), .int (jI 1), .int (jI 99999)]) (rest := []) hx hb hml hown hts hK hS hW (kX12_sets l hS σL_27 (a0 := a0) (h0 := h0) (x1 := σ_5 (G a0 39) (v3_27).toNat) (r1 := (by omega)) (x2 := 1) (r2 := (by decide)) (x3 := 99999) (r3 := (by decide)) (q0 := (by omega)) (q1 := (by omega))) 3 gX12_change_X12_sets rfl hvX12_sets ⟨Nat.le_of_ble_eq_true rfl, Nat.le_of_ble_eq_true rfl⟩ rfl rfl h0 rfl rfl rfl rfl hl.1 rfl (Nat.le_of_ble_eq_true rfl) dX12_change_103 ⟨Nat.le_of_ble_eq_true rfl, Nat.le_of_ble_eq_true rfl⟩) hA hF (fun σ_14 H locs hW hF pσ_14 => ?_)
                  try dsimp only at pσ_14
                  obtain ⟨pσ_14, fpσ_14⟩ := pσ_14
                  try simp only [Efo, Efm, Ekept] at pσ_14
                  have q_sets := pσ_14
                  have hR := fr_call hR fpσ_14 (by decide)
                  have Efo : σ_14 (G a0 39) = σ_5 (G a0 39) := (row_fr fpσ_14 hk_fo 52 (by decide) (by decide)).trans Efo
                  have Efm : σ_14 a0 40 = σ_5 a0 40 := (fr_at fpσ_14 h0 40 13040 rfl (by decide)).trans Efm
                  have Ekept : σ_14 a0 1 = σ a0 1 := (fr_at fpσ_14 h0 1 13001 rfl (by decide)).trans Ekept
                  have hrow := st_row q_sets (by omega) (by omega) (by omega)
                  have hat_ := st_at q_sets
                  have hoth := st_oth q_sets (by omega) (by omega) (by omega) (by omega)
                  try simp only [Efile] at hrow hoth
                  have hfv := FI_val hI i1_27 q_sets (by omega) (by omega) (Ekept.trans hke.symm)
                  have hI := hfv.1
                  refine j_iinc (lv' := [(3, .int (jI (v3_27 + 1))), (6, .long ((jI x2).toInt64)), (4, .long ((jI v_7).toInt64)), (0, .ref a0), (1, .int (jI x1)), (2, .int (jI x2))]) hx hb dX12_change_106 hl (k := 5) rfl (by decide) rfl (fun ls hl => ?_)
                  refine lv_goto (tgt := 27) hx hb dX12_change_109 (by decide) ?_
                  exact ih_27 ((2147483647 - (v3_27 + 1) : Int).toNat) (by omega) (v3_27 + 1) σ_14 _ _ _ rfl (by omega) (by first | exact (by first | exact hfv.2 | exact q0 | (rw [Efile]; exact q0)) | (simp only [Efo, Efm, Ekept]; exact (by first | exact hfv.2 | exact q0 | (rw [Efile]; exact q0)))) (by omega) hW hF hR hI Efo Efm Ekept (lv_sub hl [3, 4, 5, 0] rfl)
              · refine lv_lload hx hb dX12_change_66 (lv_at hl 0 rfl) ?_
                refine lv_iload_n hx hb dX12_change_68 rfl (lv_at hl 3 rfl) ?_
                refine lv_i2l hx hb dX12_change_69 rfl ?_
                refine lv_lmul hx hb dX12_change_70 ?_
                refine lv_goto (tgt := 76) hx hb dX12_change_71 (by decide) ?_
                refine lv_lstore (lv' := [(6, .long (((jI v_7).toInt64) * ((jI x2).toInt64))), (4, .long ((jI v_7).toInt64)), (0, .ref a0), (1, .int (jI x1)), (2, .int (jI x2)), (3, .int (jI v3_27))]) hx hb dX12_change_76 hl (by decide) rfl (fun ls hl => ?_)
                refine lv_aload_n hx hb dX12_change_78 rfl (lv_at hl 2 rfl) ?_
                refine lv_aload_n hx hb dX12_change_79 rfl (lv_at hl 2 rfl) ?_
                refine j_getR hx hb (C := RX12) (T := TX12) (N := 41) hts inX12_change_X12 hown hK hS hW h0 rfl 39 rfl rfl (by decide) (hts _ flX12_change_47) dX12_change_80 ?_
                refine lv_iload_n hx hb dX12_change_83 rfl (lv_at hl 5 rfl) ?_
                refine j_ald hx hb hK hS hW hk_fo (n := 150) rfl (by omega) (by omega) (by decide) dX12_change_84 ?_
                rw [Efo]
                refine j_const hx hb dX12_change_85 ?_
                refine lv_lload hx hb dX12_change_86 (lv_at hl 0 rfl) ?_
                refine lv_ldc2 hx hb hown (hts (.constantLong RX12 376 (99999)) (by decide +kernel)) dX12_change_88 ?_
                refine W.lcmp hx hb dX12_change_91 (j_raw fun z_15 rz_15 ez_15 => ?_)
                refine j_if_le (tgt := 100) hx hb (by omega) dX12_change_92 (by decide) (fun c_16 => ?_) (fun c_16 => ?_)
                · refine lv_lload hx hb dX12_change_100 (lv_at hl 0 rfl) ?_
                  refine lv_l2i hx hb dX12_change_102 rfl (j_raw fun z_17 rz_17 ez_17 => ?_)
                  refine j_cV (j_runV (As := [.int (jI (σ_5 (G a0 39) (v3_27).toNat)), .int (jI 1), .int (jI z_17)]) (rest := []) hx hb hml hown hts hK hS hW (kX12_sets l hS σL_27 (a0 := a0) (h0 := h0) (x1 := σ_5 (G a0 39) (v3_27).toNat) (r1 := (by omega)) (x2 := 1) (r2 := (by decide)) (x3 := z_17) (r3 := (by omega)) (q0 := (by omega)) (q1 := (by omega))) 3 gX12_change_X12_sets rfl hvX12_sets ⟨Nat.le_of_ble_eq_true rfl, Nat.le_of_ble_eq_true rfl⟩ rfl rfl h0 rfl rfl rfl rfl hl.1 rfl (Nat.le_of_ble_eq_true rfl) dX12_change_103 ⟨Nat.le_of_ble_eq_true rfl, Nat.le_of_ble_eq_true rfl⟩) hA hF (fun σ_18 H locs hW hF pσ_18 => ?_)
                  try dsimp only at pσ_18
                  obtain ⟨pσ_18, fpσ_18⟩ := pσ_18
                  try simp only [Efo, Efm, Ekept] at pσ_18
                  have q_sets := pσ_18
                  have hR := fr_call hR fpσ_18 (by decide)
                  have Efo : σ_18 (G a0 39) = σ_5 (G a0 39) := (row_fr fpσ_18 hk_fo 52 (by decide) (by decide)).trans Efo
                  have Efm : σ_18 a0 40 = σ_5 a0 40 := (fr_at fpσ_18 h0 40 13040 rfl (by decide)).trans Efm
                  have Ekept : σ_18 a0 1 = σ a0 1 := (fr_at fpσ_18 h0 1 13001 rfl (by decide)).trans Ekept
                  have hrow := st_row q_sets (by omega) (by omega) (by omega)
                  have hat_ := st_at q_sets
                  have hoth := st_oth q_sets (by omega) (by omega) (by omega) (by omega)
                  try simp only [Efile] at hrow hoth
                  have hfv := FI_val hI i1_27 q_sets (by omega) (by omega) (Ekept.trans hke.symm)
                  have hI := hfv.1
                  refine j_iinc (lv' := [(3, .int (jI (v3_27 + 1))), (6, .long (((jI v_7).toInt64) * ((jI x2).toInt64))), (4, .long ((jI v_7).toInt64)), (0, .ref a0), (1, .int (jI x1)), (2, .int (jI x2))]) hx hb dX12_change_106 hl (k := 5) rfl (by decide) rfl (fun ls hl => ?_)
                  refine lv_goto (tgt := 27) hx hb dX12_change_109 (by decide) ?_
                  exact ih_27 ((2147483647 - (v3_27 + 1) : Int).toNat) (by omega) (v3_27 + 1) σ_18 _ _ _ rfl (by omega) (by first | exact (by first | exact hfv.2 | exact q0 | (rw [Efile]; exact q0)) | (simp only [Efo, Efm, Ekept]; exact (by first | exact hfv.2 | exact q0 | (rw [Efile]; exact q0)))) (by omega) hW hF hR hI Efo Efm Ekept (lv_sub hl [3, 4, 5, 0] rfl)
                · refine j_ldc hx hb hown (hts (.constant RX12 160 (99999)) (by decide +kernel)) (n := 99999) rfl dX12_change_95 ?_
                  refine lv_goto (tgt := 103) hx hb dX12_change_97 (by decide) ?_
                  refine j_cV (j_runV (As := [.int (jI (σ_5 (G a0 39) (v3_27).toNat)), .int (jI 1), .int (jI 99999)]) (rest := []) hx hb hml hown hts hK hS hW (kX12_sets l hS σL_27 (a0 := a0) (h0 := h0) (x1 := σ_5 (G a0 39) (v3_27).toNat) (r1 := (by omega)) (x2 := 1) (r2 := (by decide)) (x3 := 99999) (r3 := (by decide)) (q0 := (by omega)) (q1 := (by omega))) 3 gX12_change_X12_sets rfl hvX12_sets ⟨Nat.le_of_ble_eq_true rfl, Nat.le_of_ble_eq_true rfl⟩ rfl rfl h0 rfl rfl rfl rfl hl.1 rfl (Nat.le_of_ble_eq_true rfl) dX12_change_103 ⟨Nat.le_of_ble_eq_true rfl, Nat.le_of_ble_eq_true rfl⟩) hA hF (fun σ_19 H locs hW hF pσ_19 => ?_)
                  try dsimp only at pσ_19
                  obtain ⟨pσ_19, fpσ_19⟩ := pσ_19
                  try simp only [Efo, Efm, Ekept] at pσ_19
                  have q_sets := pσ_19
                  have hR := fr_call hR fpσ_19 (by decide)
                  have Efo : σ_19 (G a0 39) = σ_5 (G a0 39) := (row_fr fpσ_19 hk_fo 52 (by decide) (by decide)).trans Efo
                  have Efm : σ_19 a0 40 = σ_5 a0 40 := (fr_at fpσ_19 h0 40 13040 rfl (by decide)).trans Efm
                  have Ekept : σ_19 a0 1 = σ a0 1 := (fr_at fpσ_19 h0 1 13001 rfl (by decide)).trans Ekept
                  have hrow := st_row q_sets (by omega) (by omega) (by omega)
                  have hat_ := st_at q_sets
                  have hoth := st_oth q_sets (by omega) (by omega) (by omega) (by omega)
                  try simp only [Efile] at hrow hoth
                  have hfv := FI_val hI i1_27 q_sets (by omega) (by omega) (Ekept.trans hke.symm)
                  have hI := hfv.1
                  refine j_iinc (lv' := [(3, .int (jI (v3_27 + 1))), (6, .long (((jI v_7).toInt64) * ((jI x2).toInt64))), (4, .long ((jI v_7).toInt64)), (0, .ref a0), (1, .int (jI x1)), (2, .int (jI x2))]) hx hb dX12_change_106 hl (k := 5) rfl (by decide) rfl (fun ls hl => ?_)
                  refine lv_goto (tgt := 27) hx hb dX12_change_109 (by decide) ?_
                  exact ih_27 ((2147483647 - (v3_27 + 1) : Int).toNat) (by omega) (v3_27 + 1) σ_19 _ _ _ rfl (by omega) (by first | exact (by first | exact hfv.2 | exact q0 | (rw [Efile]; exact q0)) | (simp only [Efo, Efm, Ekept]; exact (by first | exact hfv.2 | exact q0 | (rw [Efile]; exact q0)))) (by omega) hW hF hR hI Efo Efm Ekept (lv_sub hl [3, 4, 5, 0] rfl)
            · refine lv_lload hx hb dX12_change_53 (lv_at hl 0 rfl) ?_
              refine lv_iload_n hx hb dX12_change_55 rfl (lv_at hl 3 rfl) ?_
              refine lv_i2l hx hb dX12_change_56 rfl ?_
              refine lv_ladd hx hb dX12_change_57 ?_
              refine lv_goto (tgt := 76) hx hb dX12_change_58 (by decide) ?_
              refine lv_lstore (lv' := [(6, .long (((jI v_7).toInt64) + ((jI x2).toInt64))), (4, .long ((jI v_7).toInt64)), (0, .ref a0), (1, .int (jI x1)), (2, .int (jI x2)), (3, .int (jI v3_27))]) hx hb dX12_change_76 hl (by decide) rfl (fun ls hl => ?_)
              refine lv_aload_n hx hb dX12_change_78 rfl (lv_at hl 2 rfl) ?_
              refine lv_aload_n hx hb dX12_change_79 rfl (lv_at hl 2 rfl) ?_
              refine j_getR hx hb (C := RX12) (T := TX12) (N := 41) hts inX12_change_X12 hown hK hS hW h0 rfl 39 rfl rfl (by decide) (hts _ flX12_change_47) dX12_change_80 ?_
              refine lv_iload_n hx hb dX12_change_83 rfl (lv_at hl 5 rfl) ?_
              refine j_ald hx hb hK hS hW hk_fo (n := 150) rfl (by omega) (by omega) (by decide) dX12_change_84 ?_
              rw [Efo]
              refine j_const hx hb dX12_change_85 ?_
              refine lv_lload hx hb dX12_change_86 (lv_at hl 0 rfl) ?_
              refine lv_ldc2 hx hb hown (hts (.constantLong RX12 376 (99999)) (by decide +kernel)) dX12_change_88 ?_
              refine W.lcmp hx hb dX12_change_91 (j_raw fun z_20 rz_20 ez_20 => ?_)
              refine j_if_le (tgt := 100) hx hb (by omega) dX12_change_92 (by decide) (fun c_21 => ?_) (fun c_21 => ?_)
              · refine lv_lload hx hb dX12_change_100 (lv_at hl 0 rfl) ?_
                refine lv_l2i hx hb dX12_change_102 rfl (j_raw fun z_22 rz_22 ez_22 => ?_)
                refine j_cV (j_runV (As := [.int (jI (σ_5 (G a0 39) (v3_27).toNat)), .int (jI 1), .int (jI z_22)]) (rest := []) hx hb hml hown hts hK hS hW (kX12_sets l hS σL_27 (a0 := a0) (h0 := h0) (x1 := σ_5 (G a0 39) (v3_27).toNat) (r1 := (by omega)) (x2 := 1) (r2 := (by decide)) (x3 := z_22) (r3 := (by omega)) (q0 := (by omega)) (q1 := (by omega))) 3 gX12_change_X12_sets rfl hvX12_sets ⟨Nat.le_of_ble_eq_true rfl, Nat.le_of_ble_eq_true rfl⟩ rfl rfl h0 rfl rfl rfl rfl hl.1 rfl (Nat.le_of_ble_eq_true rfl) dX12_change_103 ⟨Nat.le_of_ble_eq_true rfl, Nat.le_of_ble_eq_true rfl⟩) hA hF (fun σ_23 H locs hW hF pσ_23 => ?_)
                try dsimp only at pσ_23
                obtain ⟨pσ_23, fpσ_23⟩ := pσ_23
                try simp only [Efo, Efm, Ekept] at pσ_23
                have q_sets := pσ_23
                have hR := fr_call hR fpσ_23 (by decide)
                have Efo : σ_23 (G a0 39) = σ_5 (G a0 39) := (row_fr fpσ_23 hk_fo 52 (by decide) (by decide)).trans Efo
                have Efm : σ_23 a0 40 = σ_5 a0 40 := (fr_at fpσ_23 h0 40 13040 rfl (by decide)).trans Efm
                have Ekept : σ_23 a0 1 = σ a0 1 := (fr_at fpσ_23 h0 1 13001 rfl (by decide)).trans Ekept
                have hrow := st_row q_sets (by omega) (by omega) (by omega)
                have hat_ := st_at q_sets
                have hoth := st_oth q_sets (by omega) (by omega) (by omega) (by omega)
                try simp only [Efile] at hrow hoth
                have hfv := FI_val hI i1_27 q_sets (by omega) (by omega) (Ekept.trans hke.symm)
                have hI := hfv.1
                refine j_iinc (lv' := [(3, .int (jI (v3_27 + 1))), (6, .long (((jI v_7).toInt64) + ((jI x2).toInt64))), (4, .long ((jI v_7).toInt64)), (0, .ref a0), (1, .int (jI x1)), (2, .int (jI x2))]) hx hb dX12_change_106 hl (k := 5) rfl (by decide) rfl (fun ls hl => ?_)
                refine lv_goto (tgt := 27) hx hb dX12_change_109 (by decide) ?_
                exact ih_27 ((2147483647 - (v3_27 + 1) : Int).toNat) (by omega) (v3_27 + 1) σ_23 _ _ _ rfl (by omega) (by first | exact (by first | exact hfv.2 | exact q0 | (rw [Efile]; exact q0)) | (simp only [Efo, Efm, Ekept]; exact (by first | exact hfv.2 | exact q0 | (rw [Efile]; exact q0)))) (by omega) hW hF hR hI Efo Efm Ekept (lv_sub hl [3, 4, 5, 0] rfl)
              · refine j_ldc hx hb hown (hts (.constant RX12 160 (99999)) (by decide +kernel)) (n := 99999) rfl dX12_change_95 ?_
                refine lv_goto (tgt := 103) hx hb dX12_change_97 (by decide) ?_
                refine j_cV (j_runV (As := [.int (jI (σ_5 (G a0 39) (v3_27).toNat)), .int (jI 1), .int (jI 99999)]) (rest := []) hx hb hml hown hts hK hS hW (kX12_sets l hS σL_27 (a0 := a0) (h0 := h0) (x1 := σ_5 (G a0 39) (v3_27).toNat) (r1 := (by omega)) (x2 := 1) (r2 := (by decide)) (x3 := 99999) (r3 := (by decide)) (q0 := (by omega)) (q1 := (by omega))) 3 gX12_change_X12_sets rfl hvX12_sets ⟨Nat.le_of_ble_eq_true rfl, Nat.le_of_ble_eq_true rfl⟩ rfl rfl h0 rfl rfl rfl rfl hl.1 rfl (Nat.le_of_ble_eq_true rfl) dX12_change_103 ⟨Nat.le_of_ble_eq_true rfl, Nat.le_of_ble_eq_true rfl⟩) hA hF (fun σ_24 H locs hW hF pσ_24 => ?_)
                try dsimp only at pσ_24
                obtain ⟨pσ_24, fpσ_24⟩ := pσ_24
                try simp only [Efo, Efm, Ekept] at pσ_24
                have q_sets := pσ_24
                have hR := fr_call hR fpσ_24 (by decide)
                have Efo : σ_24 (G a0 39) = σ_5 (G a0 39) := (row_fr fpσ_24 hk_fo 52 (by decide) (by decide)).trans Efo
                have Efm : σ_24 a0 40 = σ_5 a0 40 := (fr_at fpσ_24 h0 40 13040 rfl (by decide)).trans Efm
                have Ekept : σ_24 a0 1 = σ a0 1 := (fr_at fpσ_24 h0 1 13001 rfl (by decide)).trans Ekept
                have hrow := st_row q_sets (by omega) (by omega) (by omega)
                have hat_ := st_at q_sets
                have hoth := st_oth q_sets (by omega) (by omega) (by omega) (by omega)
                try simp only [Efile] at hrow hoth
                have hfv := FI_val hI i1_27 q_sets (by omega) (by omega) (Ekept.trans hke.symm)
                have hI := hfv.1
                refine j_iinc (lv' := [(3, .int (jI (v3_27 + 1))), (6, .long (((jI v_7).toInt64) + ((jI x2).toInt64))), (4, .long ((jI v_7).toInt64)), (0, .ref a0), (1, .int (jI x1)), (2, .int (jI x2))]) hx hb dX12_change_106 hl (k := 5) rfl (by decide) rfl (fun ls hl => ?_)
                refine lv_goto (tgt := 27) hx hb dX12_change_109 (by decide) ?_
                exact ih_27 ((2147483647 - (v3_27 + 1) : Int).toNat) (by omega) (v3_27 + 1) σ_24 _ _ _ rfl (by omega) (by first | exact (by first | exact hfv.2 | exact q0 | (rw [Efile]; exact q0)) | (simp only [Efo, Efm, Ekept]; exact (by first | exact hfv.2 | exact q0 | (rw [Efile]; exact q0)))) (by omega) hW hF hR hI Efo Efm Ekept (lv_sub hl [3, 4, 5, 0] rfl)
      exact L_27 ((2147483647 - 0 : Int).toNat) 0 σ_5 _ _ _ rfl (by omega) (by first | exact (by first | exact hfv.2 | exact q0 | (rw [Efile]; exact q0)) | (simp only [Efile, Ekept]; exact (by first | exact hfv.2 | exact q0 | (rw [Efile]; exact q0)))) (by decide) hW hF hR hI rfl rfl Ekept (lv_sub hl [1, 2, 3, 0] rfl)
    · refine j_const hx hb dX12_change_19 ?_
      exact hRet 20 _ _ _ (-1) _ dX12_change_20 hW hF (by decide) ⟨⟨hI, q0⟩, hR⟩
