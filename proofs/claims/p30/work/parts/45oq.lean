abbrev wr_X12_query : List Nat := [13003, 13011, 13012, 13013, 13014, 13015, 13023, 13024, 13038, 13040, 40000, 41000, 51000, 52000]
theorem flX12_query_7 : Cond.fieldLink RX12 7 "PageTrieModel" "file" "[I" ∈ wsX12_query := List.mem_of_getElem? (i := 6) rfl
theorem flX12_query_44 : Cond.fieldLink RX12 44 "PageTrieModel" "draft" "[I" ∈ wsX12_query := List.mem_of_getElem? (i := 7) rfl
theorem flX12_query_147 : Cond.fieldLink RX12 147 "PageTrieModel" "taped" "I" ∈ wsX12_query := List.mem_of_getElem? (i := 3) rfl
theorem flX12_query_180 : Cond.fieldLink RX12 180 "PageTrieModel" "place0" "I" ∈ wsX12_query := List.mem_of_getElem? (i := 1) rfl
theorem flX12_query_183 : Cond.fieldLink RX12 183 "PageTrieModel" "length0" "I" ∈ wsX12_query := List.mem_of_getElem? (i := 2) rfl
theorem flX12_query_186 : Cond.fieldLink RX12 186 "PageTrieModel" "fault" "I" ∈ wsX12_query := List.mem_of_getElem? (i := 5) rfl
theorem flX12_query_351 : Cond.fieldLink RX12 351 "PageTrieModel" "drafted" "I" ∈ wsX12_query := List.mem_of_getElem? (i := 4) rfl
theorem flX12_query_360 : Cond.fieldLink RX12 360 "PageTrieModel" "foundMany" "I" ∈ wsX12_query := List.mem_of_getElem? (i := 8) rfl
theorem inX12_query_X12 : ∀ w ∈ u_ws RX12 TX12 41, w ∈ wsX12_query := mem_r _ [83, 84, 85, 86, 87, 88, 89, 90, 91, 92, 93, 94, 95, 96, 97, 98, 99, 100, 101, 102, 103, 104, 105, 106, 107, 108, 109, 110, 111, 112, 113, 114, 115, 116, 117, 118, 119, 120, 121, 122, 123] rfl
theorem hvX12_query : yX12_query.cls = RX12 ∧ yX12_query.cls ≠ "java/lang/invoke/MethodHandle" ∧ yX12_query.cls ≠ "java/lang/invoke/VarHandle" ∧ (parseMethodDescriptor yX12_query.desc).map (fun d => d.parameters.length) = some 1 := by decide +kernel
set_option maxHeartbeats 4000000 in
set_option maxRecDepth 100000 in
theorem kX12_query (l : Launch) {D : va_G} {cA : Nat → ClassId} {τ : Nat → Nat} {G : Nat → Nat → Nat} {L : List Nat} (hS : SW τ G L) (σ : Nat → Nat → Int) {a0 : Nat} (h0 : τ a0 = 13) {x1 : Int} (r1 : rg x1) (hI : FI G a0 σ) (q0 : FM (σ (G a0 0))) : Met l yX12_query wsX12_query ({ frames := 5, cells := 0, slots := 0, locals := 113 }) (jP D cA τ G L σ [.ref a0, .int (jI x1)]) (jQI D cA τ G L (fun r σ' => ((FI G a0 σ') ∧ (FM (σ' (G a0 0)))) ∧ fr wr_X12_query τ σ σ')) 0 0 (fun q => q ∈ L) := by
  refine j_metI (by decide +kernel) rfl (Nat.le_of_ble_eq_true rfl) ?_
  intro p e s m args below meth c Q hx hb hml hown hts hK hW hRet ls hl
  have hl : lv_has ls 4 [(0, .ref a0), (1, .int (jI x1))] := hl
  have hA : ∀ q ∈ L, (fun q => q ∈ L) q := fun _ h => h
  have hF : va_S (fun q => q ∈ L) s.heap s.heap [] := va_S.rf
  have hR : fr wr_X12_query τ σ σ := fr_rf
  have hk_file : τ (G a0 0) = 40 := gty hS h0 (k := 0) rfl rfl
  have hk_draft : τ (G a0 37) = 51 := gty hS h0 (k := 37) rfl rfl
  have := FI_bd hI
  have := fbd hW h0 (k := 3) (lo := 0) (hi := 24) rfl rfl
  have hI0 := hI
  refine lv_aload_n hx hb dX12_query_0 rfl (lv_at hl 0 rfl) ?_
  refine lv_iload_n hx hb dX12_query_1 rfl (lv_at hl 1 rfl) ?_
  refine j_const hx hb dX12_query_2 ?_
  refine j_bi hx hb dX12_query_3 (by decide) ?_
  refine j_cR (j_runV (As := [.int (jI x1), .int (jI 0), .int (jI 60)]) (rest := []) hx hb hml hown hts hK hS hW (kX12_isText l hS σ (a0 := a0) (h0 := h0) (x1 := x1) (r1 := (by omega)) (x2 := 0) (r2 := (by decide)) (x3 := 60) (r3 := (by decide))) 3 gX12_query_X12_isText rfl hvX12_isText ⟨Nat.le_of_ble_eq_true rfl, Nat.le_of_ble_eq_true rfl⟩ rfl rfl h0 rfl rfl rfl rfl hl.1 rfl (Nat.le_of_ble_eq_true rfl) dX12_query_5 ⟨Nat.le_of_ble_eq_true rfl, Nat.le_of_ble_eq_true rfl⟩) (fun v_1 rv_1 pv_1 => ?_)
  try dsimp only at pv_1
  have q_isText := pv_1
  refine j_if_ne (tgt := 13) hx hb (by omega) dX12_query_8 (by decide) (fun c_2 => ?_) (fun c_2 => ?_)
  · refine lv_aload_n hx hb dX12_query_13 rfl (lv_at hl 0 rfl) ?_
    refine j_const hx hb dX12_query_14 ?_
    refine j_putI hx hb (C := RX12) (T := TX12) (N := 41) hts inX12_query_X12 tyX12 tyX12_ok nmX12 hown hK hS hA hW hF h0 rfl 12 (lo := 0) (hi := 200) rfl rfl (by decide) (hts _ flX12_query_180) rfl .int rfl (by omega) rfl rfl dX12_query_15 (fun σ_3 H locs e_4 hW hF => ?_)
    have hR := fr_up hR e_4 h0 13012 rfl (by decide)
    have Efile : σ_3 (G a0 0) = σ (G a0 0) := row_up e_4 h0 hk_file (by decide)
    try clear hcf
    have hcf := congrFun Efile 0
    have Ekept : σ_3 a0 1 = σ a0 1 := fld_up e_4 h0 h0 (fun q => absurd q.2 (by decide))
    have Edraft : σ_3 (G a0 37) = σ (G a0 37) := row_up e_4 h0 hk_draft (by decide)
    have Edrafted : σ_3 a0 38 = σ a0 38 := fld_up e_4 h0 h0 (fun q => absurd q.2 (by decide))
    have hI := FI_dep hS h0 hI (kp_up e_4 h0 13012 rfl (by decide))
    try clear hfk
    have hfk : σ_3 a0 12 = 0 := by rw [e_4]; exact up2_at _ _ _ _
    refine lv_aload_n hx hb dX12_query_18 rfl (lv_at hl 0 rfl) ?_
    refine lv_iload_n hx hb dX12_query_19 rfl (lv_at hl 1 rfl) ?_
    refine j_putI hx hb (C := RX12) (T := TX12) (N := 41) hts inX12_query_X12 tyX12 tyX12_ok nmX12 hown hK hS hA hW hF h0 rfl 13 (lo := 0) (hi := 200) rfl rfl (by decide) (hts _ flX12_query_183) rfl .int rfl (by omega) rfl rfl dX12_query_20 (fun σ_5 H locs e_6 hW hF => ?_)
    have hR := fr_up hR e_6 h0 13013 rfl (by decide)
    have Efile : σ_5 (G a0 0) = σ (G a0 0) := (row_up e_6 h0 hk_file (by decide)).trans Efile
    try clear hcf
    have hcf := congrFun Efile 0
    have Ekept : σ_5 a0 1 = σ a0 1 := (fld_up e_6 h0 h0 (fun q => absurd q.2 (by decide))).trans Ekept
    have Eplace0 : σ_5 a0 12 = σ_3 a0 12 := fld_up e_6 h0 h0 (fun q => absurd q.2 (by decide))
    have Edraft : σ_5 (G a0 37) = σ (G a0 37) := (row_up e_6 h0 hk_draft (by decide)).trans Edraft
    have Edrafted : σ_5 a0 38 = σ a0 38 := (fld_up e_6 h0 h0 (fun q => absurd q.2 (by decide))).trans Edrafted
    have hI := FI_dep hS h0 hI (kp_up e_6 h0 13013 rfl (by decide))
    try clear hfk
    have hfk : σ_5 a0 13 = x1 := by rw [e_6]; exact up2_at _ _ _ _
    refine lv_aload_n hx hb dX12_query_23 rfl (lv_at hl 0 rfl) ?_
    refine j_const hx hb dX12_query_24 ?_
    refine j_putI hx hb (C := RX12) (T := TX12) (N := 41) hts inX12_query_X12 tyX12 tyX12_ok nmX12 hown hK hS hA hW hF h0 rfl 11 (lo := 0) (hi := 240) rfl rfl (by decide) (hts _ flX12_query_147) rfl .int rfl (by omega) rfl rfl dX12_query_25 (fun σ_7 H locs e_8 hW hF => ?_)
    have hR := fr_up hR e_8 h0 13011 rfl (by decide)
    have Efile : σ_7 (G a0 0) = σ (G a0 0) := (row_up e_8 h0 hk_file (by decide)).trans Efile
    try clear hcf
    have hcf := congrFun Efile 0
    have Ekept : σ_7 a0 1 = σ a0 1 := (fld_up e_8 h0 h0 (fun q => absurd q.2 (by decide))).trans Ekept
    have Eplace0 : σ_7 a0 12 = σ_3 a0 12 := (fld_up e_8 h0 h0 (fun q => absurd q.2 (by decide))).trans Eplace0
    have Edraft : σ_7 (G a0 37) = σ (G a0 37) := (row_up e_8 h0 hk_draft (by decide)).trans Edraft
    have Edrafted : σ_7 a0 38 = σ a0 38 := (fld_up e_8 h0 h0 (fun q => absurd q.2 (by decide))).trans Edrafted
    have hI := FI_dep hS h0 hI (kp_up e_8 h0 13011 rfl (by decide))
    try clear hfk
    have hfk : σ_7 a0 11 = 0 := by rw [e_8]; exact up2_at _ _ _ _
    refine lv_aload_n hx hb dX12_query_28 rfl (lv_at hl 0 rfl) ?_
    refine j_const hx hb dX12_query_29 ?_
    refine j_putI hx hb (C := RX12) (T := TX12) (N := 41) hts inX12_query_X12 tyX12 tyX12_ok nmX12 hown hK hS hA hW hF h0 rfl 38 (lo := 0) (hi := 8) rfl rfl (by decide) (hts _ flX12_query_351) rfl .int rfl (by omega) rfl rfl dX12_query_30 (fun σ_9 H locs e_10 hW hF => ?_)
    have hR := fr_up hR e_10 h0 13038 rfl (by decide)
    have Efile : σ_9 (G a0 0) = σ (G a0 0) := (row_up e_10 h0 hk_file (by decide)).trans Efile
    try clear hcf
    have hcf := congrFun Efile 0
    have Ekept : σ_9 a0 1 = σ a0 1 := (fld_up e_10 h0 h0 (fun q => absurd q.2 (by decide))).trans Ekept
    have Eplace0 : σ_9 a0 12 = σ_3 a0 12 := (fld_up e_10 h0 h0 (fun q => absurd q.2 (by decide))).trans Eplace0
    have Edraft : σ_9 (G a0 37) = σ (G a0 37) := (row_up e_10 h0 hk_draft (by decide)).trans Edraft
    have hI := FI_dep hS h0 hI (kp_up e_10 h0 13038 rfl (by decide))
    try clear hfk
    have hfk : σ_9 a0 38 = 0 := by rw [e_10]; exact up2_at _ _ _ _
    have hdz := hfk
    refine lv_iload_n hx hb dX12_query_33 rfl (lv_at hl 1 rfl) ?_
    refine j_if_eq (tgt := 44) hx hb (by omega) dX12_query_34 (by decide) (fun c_11 => ?_) (fun c_11 => ?_)
    · refine j_const hx hb dX12_query_44 ?_
      refine lv_goto (tgt := 49) hx hb dX12_query_45 (by decide) ?_
      refine lv_istore_n (lv' := [(2, .int (jI 1)), (0, .ref a0), (1, .int (jI x1))]) hx hb dX12_query_49 rfl hl (by decide) rfl (fun ls hl => ?_)
      have L_50 : ∀ (N : Nat) (v2_50 : Int) (σL_50 : Nat → Nat → Int) (H : Heap) (locs : List Loc) (ls : Array Slot), N = (2 * (300 - σL_50 a0 12) + v2_50 : Int).toNat → (0 ≤ v2_50) → (v2_50 ≤ 1) → (v2_50 = 1 → DR (σL_50 (G a0 37)) (σL_50 a0 38)) → rg v2_50 → PW D cA τ G L σL_50 H → va_S (fun q => q ∈ L) s.heap H locs → fr wr_X12_query τ σ σL_50 → FI G a0 σL_50 → σL_50 (G a0 0) = σ (G a0 0) → σL_50 a0 1 = σ a0 1 → lv_has ls 4 [(0, .ref a0), (2, .int (jI v2_50))] → W p l e ({ frames := 5, cells := 0, slots := 0, locals := 113 }) s m args below meth c H locs 0 0 Q (F0 m 50 ls []) := by
        intro N
        induction N using Nat.strongRecOn with
        | ind N ih_50 =>
          intro v2_50 σL_50 H locs ls hN i0_50 i1_50 i2_50 rv2_50 hW hF hR hI Efile Ekept hl
          try clear hcf
          try clear hfk
          have hcf := congrFun Efile 0
          have := fbd hW h0 (k := 38) (lo := 0) (hi := 8) rfl rfl
          have := fbd hW h0 (k := 12) (lo := 0) (hi := 200) rfl rfl
          refine lv_iload_n hx hb dX12_query_50 rfl (lv_at hl 1 rfl) ?_
          refine j_if_eq (tgt := 90) hx hb (by omega) dX12_query_51 (by decide) (fun c_12 => ?_) (fun c_12 => ?_)
          · refine lv_iload_n hx hb dX12_query_90 rfl (lv_at hl 1 rfl) ?_
            refine j_if_ne (tgt := 99) hx hb (by omega) dX12_query_91 (by decide) (fun c_13 => ?_) (fun c_13 => ?_)
            · have hDR := i2_50 (by omega)
              refine lv_aload_n hx hb dX12_query_99 rfl (lv_at hl 0 rfl) ?_
              refine j_getR hx hb (C := RX12) (T := TX12) (N := 41) hts inX12_query_X12 hown hK hS hW h0 rfl 0 rfl rfl (by decide) (hts _ flX12_query_7) dX12_query_100 ?_
              refine j_bi hx hb dX12_query_103 (by decide) ?_
              refine lv_aload_n hx hb dX12_query_105 rfl (lv_at hl 0 rfl) ?_
              refine j_getI hx hb (C := RX12) (T := TX12) (N := 41) hts inX12_query_X12 hown hK hS hW h0 rfl 38 rfl rfl (by decide) (hts _ flX12_query_351) dX12_query_106 ?_
              have := fbd hW h0 (k := 38) (lo := 0) (hi := 8) rfl rfl
              refine j_ast hx hb hK hS hA hW hF hk_file (n := 17624) (lo := -2147483648) (hi := 2147483647) rfl (by omega) (by omega) (by decide) (by omega) dX12_query_109 (fun σ_14 H locs e_15 hW hF => ?_)
              have st_file := e_15
              have hR := fr_up hR e_15 hk_file 40000 (cdA 40 (by decide) _) (by decide)
              have Ekept : σ_14 a0 1 = σ a0 1 := (fld_up e_15 hk_file h0 (fun q => absurd q.1 (by decide))).trans Ekept
              have Eplace0 : σ_14 a0 12 = σL_50 a0 12 := fld_up e_15 hk_file h0 (fun q => absurd q.1 (by decide))
              have Edraft : σ_14 (G a0 37) = σL_50 (G a0 37) := row_up e_15 hk_file hk_draft (by decide)
              have Edrafted : σ_14 a0 38 = σL_50 a0 38 := fld_up e_15 hk_file h0 (fun q => absurd q.1 (by decide))
              have sf7 := st_file
              refine j_const hx hb dX12_query_110 ?_
              refine lv_istore_n (lv' := [(3, .int (jI 0)), (0, .ref a0), (2, .int (jI v2_50))]) hx hb dX12_query_111 rfl hl (by decide) rfl (fun ls hl => ?_)
              have L_112 : ∀ (N : Nat) (v3_112 : Int) (σL_112 : Nat → Nat → Int) (H : Heap) (locs : List Loc) (ls : Array Slot), N = (2147483647 - v3_112 : Int).toNat → (0 ≤ v3_112) → (v3_112 ≤ 28 * (σL_50 a0 38)) → ((σL_112 (G a0 0)) 7 = (σL_50 a0 38)) → (∀ q : Nat, q < 7 ∨ 240 ≤ q → (σL_112 (G a0 0)) q = σ (G a0 0) q) → (∀ q : Nat, 16 + v3_112 ≤ (q : Int) → (σL_112 (G a0 0)) q = σ (G a0 0) q) → (∀ j : Int, 0 ≤ j → j < v3_112 → (σL_112 (G a0 0)) (16 + j).toNat = (σL_50 (G a0 37)) j.toNat) → rg v3_112 → PW D cA τ G L σL_112 H → va_S (fun q => q ∈ L) s.heap H locs → fr wr_X12_query τ σ σL_112 → σL_112 a0 1 = σ a0 1 → σL_112 a0 12 = σL_50 a0 12 → σL_112 (G a0 37) = σL_50 (G a0 37) → σL_112 a0 38 = σL_50 a0 38 → lv_has ls 4 [(0, .ref a0), (3, .int (jI v3_112))] → W p l e ({ frames := 5, cells := 0, slots := 0, locals := 113 }) s m args below meth c H locs 0 0 Q (F0 m 112 ls []) := by
                intro N
                induction N using Nat.strongRecOn with
                | ind N ih_112 =>
                  intro v3_112 σL_112 H locs ls hN i0_112 i1_112 i2_112 i3_112 i4_112 i5_112 rv3_112 hW hF hR Ekept Eplace0 Edraft Edrafted hl
                  refine lv_iload_n hx hb dX12_query_112 rfl (lv_at hl 1 rfl) ?_
                  refine j_bi hx hb dX12_query_113 (by decide) ?_
                  refine lv_aload_n hx hb dX12_query_115 rfl (lv_at hl 0 rfl) ?_
                  refine j_getI hx hb (C := RX12) (T := TX12) (N := 41) hts inX12_query_X12 hown hK hS hW h0 rfl 38 rfl rfl (by decide) (hts _ flX12_query_351) dX12_query_116 ?_
                  rw [Edrafted]
                  refine j_mul hx hb dX12_query_119 ?_
                  refine j_icmp_ge (tgt := 144) hx hb (by omega) (by omega) dX12_query_120 (by decide) (fun c_16 => ?_) (fun c_16 => ?_)
                  · have hfq := FI_mid hI0 q0 (fun q hq => i3_112 q (by omega)) (FQ_query hI0.2.1 hDR (by omega) (by omega) i2_112 i5_112 (by omega) (by omega) i4_112) Ekept
                    have hI := hfq.1
                    refine lv_aload_n hx hb dX12_query_144 rfl (lv_at hl 0 rfl) ?_
                    refine j_cV (j_runV (As := []) (rest := []) hx hb hml hown hts hK hS hW (kX12_finds l hS σL_112 (a0 := a0) (h0 := h0) (hI := hI)) 0 gX12_query_X12_finds rfl hvX12_finds ⟨Nat.le_of_ble_eq_true rfl, Nat.le_of_ble_eq_true rfl⟩ rfl rfl h0 rfl rfl rfl rfl hl.1 rfl (Nat.le_of_ble_eq_true rfl) dX12_query_145 ⟨Nat.le_of_ble_eq_true rfl, Nat.le_of_ble_eq_true rfl⟩) hA hF (fun σ_17 H locs hW hF pσ_17 => ?_)
                    try dsimp only at pσ_17
                    obtain ⟨pσ_17, fpσ_17⟩ := pσ_17
                    try simp only [Ekept, Eplace0, Edraft, Edrafted] at pσ_17
                    have q_finds := pσ_17
                    have hR := fr_call hR fpσ_17 (by decide)
                    have Efile : σ_17 (G a0 0) = σL_112 (G a0 0) := row_fr fpσ_17 hk_file 40 (by decide) (by decide)
                    try clear hcf
                    have hcf := congrFun Efile 0
                    have Ekept : σ_17 a0 1 = σ a0 1 := (fr_at fpσ_17 h0 1 13001 rfl (by decide)).trans Ekept
                    have Eplace0 : σ_17 a0 12 = σL_50 a0 12 := (fr_at fpσ_17 h0 12 13012 rfl (by decide)).trans Eplace0
                    have Edraft : σ_17 (G a0 37) = σL_50 (G a0 37) := (row_fr fpσ_17 hk_draft 51 (by decide) (by decide)).trans Edraft
                    have Edrafted : σ_17 a0 38 = σL_50 a0 38 := (fr_at fpσ_17 h0 38 13038 rfl (by decide)).trans Edrafted
                    have hI := FI_dep hS h0 hI (kp_fr fpσ_17 (by decide))
                    refine lv_aload_n hx hb dX12_query_148 rfl (lv_at hl 0 rfl) ?_
                    refine j_getI hx hb (C := RX12) (T := TX12) (N := 41) hts inX12_query_X12 hown hK hS hW h0 rfl 40 rfl rfl (by decide) (hts _ flX12_query_360) dX12_query_149 ?_
                    have := fbd hW h0 (k := 40) (lo := 0) (hi := 150) rfl rfl
                    exact hRet 152 _ _ _ (σ_17 a0 40) _ dX12_query_152 hW hF (by omega) ⟨(by first | exact ⟨hI, (by first | exact hfq.2 | (rw [Efile]; exact hfq.2))⟩ | (simp only [Efile, Ekept, Eplace0, Edraft, Edrafted]; exact ⟨hI, (by first | exact hfq.2 | (rw [Efile]; exact hfq.2))⟩)), hR⟩
                  · refine lv_aload_n hx hb dX12_query_123 rfl (lv_at hl 0 rfl) ?_
                    refine j_getR hx hb (C := RX12) (T := TX12) (N := 41) hts inX12_query_X12 hown hK hS hW h0 rfl 0 rfl rfl (by decide) (hts _ flX12_query_7) dX12_query_124 ?_
                    refine j_bi hx hb dX12_query_127 (by decide) ?_
                    refine lv_iload_n hx hb dX12_query_129 rfl (lv_at hl 1 rfl) ?_
                    refine j_add hx hb dX12_query_130 ?_
                    refine lv_aload_n hx hb dX12_query_131 rfl (lv_at hl 0 rfl) ?_
                    refine j_getR hx hb (C := RX12) (T := TX12) (N := 41) hts inX12_query_X12 hown hK hS hW h0 rfl 37 rfl rfl (by decide) (hts _ flX12_query_44) dX12_query_132 ?_
                    refine lv_iload_n hx hb dX12_query_135 rfl (lv_at hl 1 rfl) ?_
                    refine j_ald hx hb hK hS hW hk_draft (n := 224) rfl (by omega) (by omega) (by decide) dX12_query_136 ?_
                    have := abd hW hk_draft (n := 224) (lo := -2147483648) (hi := 2147483647) (i := v3_112) rfl (by omega) (by omega)
                    rw [Edraft]
                    try simp only [Edraft] at this
                    refine j_ast hx hb hK hS hA hW hF hk_file (n := 17624) (lo := -2147483648) (hi := 2147483647) rfl (by omega) (by omega) (by decide) (by omega) dX12_query_137 (fun σ_18 H locs e_19 hW hF => ?_)
                    have st_file := e_19
                    have hR := fr_up hR e_19 hk_file 40000 (cdA 40 (by decide) _) (by decide)
                    have Ekept : σ_18 a0 1 = σ a0 1 := (fld_up e_19 hk_file h0 (fun q => absurd q.1 (by decide))).trans Ekept
                    have Eplace0 : σ_18 a0 12 = σL_50 a0 12 := (fld_up e_19 hk_file h0 (fun q => absurd q.1 (by decide))).trans Eplace0
                    have Edraft : σ_18 (G a0 37) = σL_50 (G a0 37) := (row_up e_19 hk_file hk_draft (by decide)).trans Edraft
                    have Edrafted : σ_18 a0 38 = σL_50 a0 38 := (fld_up e_19 hk_file h0 (fun q => absurd q.1 (by decide))).trans Edrafted
                    refine j_iinc (lv' := [(3, .int (jI (v3_112 + 1))), (0, .ref a0)]) hx hb dX12_query_138 hl (k := 1) rfl (by decide) rfl (fun ls hl => ?_)
                    refine lv_goto (tgt := 112) hx hb dX12_query_141 (by decide) ?_
                    exact ih_112 ((2147483647 - (v3_112 + 1) : Int).toNat) (by omega) (v3_112 + 1) σ_18 _ _ _ rfl (by omega) (by omega) (by first | exact (by first | (rw [st_file, up2_ne _ _ (by omega)]; exact i2_112) | (rw [st_file]; exact up2_at _ _ _ _)) | (simp only [Ekept, Eplace0, Edraft, Edrafted]; exact (by first | (rw [st_file, up2_ne _ _ (by omega)]; exact i2_112) | (rw [st_file]; exact up2_at _ _ _ _)))) (by first | exact (fun q hq => by (rw [st_file, up2_ne _ _ (by omega)]; first | exact i3_112 q hq | rfl | (rw [Efile]))) | (simp only [Ekept, Eplace0, Edraft, Edrafted]; exact (fun q hq => by (rw [st_file, up2_ne _ _ (by omega)]; first | exact i3_112 q hq | rfl | (rw [Efile]))))) (by first | exact (fun q hq => by (rw [st_file, up2_ne _ _ (by omega)]; first | exact i4_112 q (by omega) | rfl | (rw [Efile]))) | (simp only [Ekept, Eplace0, Edraft, Edrafted]; exact (fun q hq => by (rw [st_file, up2_ne _ _ (by omega)]; first | exact i4_112 q (by omega) | rfl | (rw [Efile]))))) (by first | exact (by first | exact qy_s i5_112 st_file (by omega) (by rfl) | (intro j j0 j1; exfalso; omega)) | (simp only [Ekept, Eplace0, Edraft, Edrafted]; exact (by first | exact qy_s i5_112 st_file (by omega) (by rfl) | (intro j j0 j1; exfalso; omega)))) (by omega) hW hF hR Ekept Eplace0 Edraft Edrafted (lv_sub hl [1, 0] rfl)
              exact L_112 ((2147483647 - 0 : Int).toNat) 0 σ_14 _ _ _ rfl (by omega) (by omega) (by first | exact (by first | (rw [st_file, up2_ne _ _ (by omega)]; exact i2_112) | (rw [st_file]; exact up2_at _ _ _ _)) | (simp only [Ekept, Eplace0, Edraft, Edrafted]; exact (by first | (rw [st_file, up2_ne _ _ (by omega)]; exact i2_112) | (rw [st_file]; exact up2_at _ _ _ _)))) (by first | exact (fun q hq => by (rw [st_file, up2_ne _ _ (by omega)]; first | exact i3_112 q hq | rfl | (rw [Efile]))) | (simp only [Ekept, Eplace0, Edraft, Edrafted]; exact (fun q hq => by (rw [st_file, up2_ne _ _ (by omega)]; first | exact i3_112 q hq | rfl | (rw [Efile]))))) (by first | exact (fun q hq => by (rw [st_file, up2_ne _ _ (by omega)]; first | exact i4_112 q (by omega) | rfl | (rw [Efile]))) | (simp only [Ekept, Eplace0, Edraft, Edrafted]; exact (fun q hq => by (rw [st_file, up2_ne _ _ (by omega)]; first | exact i4_112 q (by omega) | rfl | (rw [Efile]))))) (by first | exact (by first | exact qy_s i5_112 st_file (by omega) (by rfl) | (intro j j0 j1; exfalso; omega)) | (simp only [Ekept, Eplace0, Edraft, Edrafted]; exact (by first | exact qy_s i5_112 st_file (by omega) (by rfl) | (intro j j0 j1; exfalso; omega)))) (by decide) hW hF hR Ekept Eplace0 Edraft Edrafted (lv_sub hl [1, 0] rfl)
            · refine lv_aload_n hx hb dX12_query_94 rfl (lv_at hl 0 rfl) ?_
              refine j_getI hx hb (C := RX12) (T := TX12) (N := 41) hts inX12_query_X12 hown hK hS hW h0 rfl 14 rfl rfl (by decide) (hts _ flX12_query_186) dX12_query_95 ?_
              have := fbd hW h0 (k := 14) (lo := -2147483648) (hi := 2147483647) rfl rfl
              exact hRet 98 _ _ _ (σL_50 a0 14) _ dX12_query_98 hW hF (by omega) ⟨(by first | exact ⟨hI, q0⟩ | (simp only [Efile, Ekept]; exact ⟨hI, q0⟩)), hR⟩
          · refine lv_aload_n hx hb dX12_query_54 rfl (lv_at hl 0 rfl) ?_
            refine j_getI hx hb (C := RX12) (T := TX12) (N := 41) hts inX12_query_X12 hown hK hS hW h0 rfl 12 rfl rfl (by decide) (hts _ flX12_query_180) dX12_query_55 ?_
            have := fbd hW h0 (k := 12) (lo := 0) (hi := 200) rfl rfl
            refine lv_aload_n hx hb dX12_query_58 rfl (lv_at hl 0 rfl) ?_
            refine j_getI hx hb (C := RX12) (T := TX12) (N := 41) hts inX12_query_X12 hown hK hS hW h0 rfl 13 rfl rfl (by decide) (hts _ flX12_query_183) dX12_query_59 ?_
            have := fbd hW h0 (k := 13) (lo := 0) (hi := 200) rfl rfl
            refine j_icmp_ge (tgt := 90) hx hb (by omega) (by omega) dX12_query_62 (by decide) (fun c_20 => ?_) (fun c_20 => ?_)
            · refine lv_iload_n hx hb dX12_query_90 rfl (lv_at hl 1 rfl) ?_
              refine j_if_ne (tgt := 99) hx hb (by omega) dX12_query_91 (by decide) (fun c_21 => ?_) (fun c_21 => ?_)
              · have hDR := i2_50 (by omega)
                refine lv_aload_n hx hb dX12_query_99 rfl (lv_at hl 0 rfl) ?_
                refine j_getR hx hb (C := RX12) (T := TX12) (N := 41) hts inX12_query_X12 hown hK hS hW h0 rfl 0 rfl rfl (by decide) (hts _ flX12_query_7) dX12_query_100 ?_
                refine j_bi hx hb dX12_query_103 (by decide) ?_
                refine lv_aload_n hx hb dX12_query_105 rfl (lv_at hl 0 rfl) ?_
                refine j_getI hx hb (C := RX12) (T := TX12) (N := 41) hts inX12_query_X12 hown hK hS hW h0 rfl 38 rfl rfl (by decide) (hts _ flX12_query_351) dX12_query_106 ?_
                have := fbd hW h0 (k := 38) (lo := 0) (hi := 8) rfl rfl
                refine j_ast hx hb hK hS hA hW hF hk_file (n := 17624) (lo := -2147483648) (hi := 2147483647) rfl (by omega) (by omega) (by decide) (by omega) dX12_query_109 (fun σ_22 H locs e_23 hW hF => ?_)
                have st_file := e_23
                have hR := fr_up hR e_23 hk_file 40000 (cdA 40 (by decide) _) (by decide)
                have Ekept : σ_22 a0 1 = σ a0 1 := (fld_up e_23 hk_file h0 (fun q => absurd q.1 (by decide))).trans Ekept
                have Eplace0 : σ_22 a0 12 = σL_50 a0 12 := fld_up e_23 hk_file h0 (fun q => absurd q.1 (by decide))
                have Edraft : σ_22 (G a0 37) = σL_50 (G a0 37) := row_up e_23 hk_file hk_draft (by decide)
                have Edrafted : σ_22 a0 38 = σL_50 a0 38 := fld_up e_23 hk_file h0 (fun q => absurd q.1 (by decide))
                have sf7 := st_file
                refine j_const hx hb dX12_query_110 ?_
                refine lv_istore_n (lv' := [(3, .int (jI 0)), (0, .ref a0), (2, .int (jI v2_50))]) hx hb dX12_query_111 rfl hl (by decide) rfl (fun ls hl => ?_)
                have L_112 : ∀ (N : Nat) (v3_112 : Int) (σL_112 : Nat → Nat → Int) (H : Heap) (locs : List Loc) (ls : Array Slot), N = (2147483647 - v3_112 : Int).toNat → (0 ≤ v3_112) → (v3_112 ≤ 28 * (σL_50 a0 38)) → ((σL_112 (G a0 0)) 7 = (σL_50 a0 38)) → (∀ q : Nat, q < 7 ∨ 240 ≤ q → (σL_112 (G a0 0)) q = σ (G a0 0) q) → (∀ q : Nat, 16 + v3_112 ≤ (q : Int) → (σL_112 (G a0 0)) q = σ (G a0 0) q) → (∀ j : Int, 0 ≤ j → j < v3_112 → (σL_112 (G a0 0)) (16 + j).toNat = (σL_50 (G a0 37)) j.toNat) → rg v3_112 → PW D cA τ G L σL_112 H → va_S (fun q => q ∈ L) s.heap H locs → fr wr_X12_query τ σ σL_112 → σL_112 a0 1 = σ a0 1 → σL_112 a0 12 = σL_50 a0 12 → σL_112 (G a0 37) = σL_50 (G a0 37) → σL_112 a0 38 = σL_50 a0 38 → lv_has ls 4 [(0, .ref a0), (3, .int (jI v3_112))] → W p l e ({ frames := 5, cells := 0, slots := 0, locals := 113 }) s m args below meth c H locs 0 0 Q (F0 m 112 ls []) := by
                  intro N
                  induction N using Nat.strongRecOn with
                  | ind N ih_112 =>
                    intro v3_112 σL_112 H locs ls hN i0_112 i1_112 i2_112 i3_112 i4_112 i5_112 rv3_112 hW hF hR Ekept Eplace0 Edraft Edrafted hl
                    refine lv_iload_n hx hb dX12_query_112 rfl (lv_at hl 1 rfl) ?_
                    refine j_bi hx hb dX12_query_113 (by decide) ?_
                    refine lv_aload_n hx hb dX12_query_115 rfl (lv_at hl 0 rfl) ?_
                    refine j_getI hx hb (C := RX12) (T := TX12) (N := 41) hts inX12_query_X12 hown hK hS hW h0 rfl 38 rfl rfl (by decide) (hts _ flX12_query_351) dX12_query_116 ?_
                    rw [Edrafted]
                    refine j_mul hx hb dX12_query_119 ?_
                    refine j_icmp_ge (tgt := 144) hx hb (by omega) (by omega) dX12_query_120 (by decide) (fun c_24 => ?_) (fun c_24 => ?_)
                    · have hfq := FI_mid hI0 q0 (fun q hq => i3_112 q (by omega)) (FQ_query hI0.2.1 hDR (by omega) (by omega) i2_112 i5_112 (by omega) (by omega) i4_112) Ekept
                      have hI := hfq.1
                      refine lv_aload_n hx hb dX12_query_144 rfl (lv_at hl 0 rfl) ?_
                      refine j_cV (j_runV (As := []) (rest := []) hx hb hml hown hts hK hS hW (kX12_finds l hS σL_112 (a0 := a0) (h0 := h0) (hI := hI)) 0 gX12_query_X12_finds rfl hvX12_finds ⟨Nat.le_of_ble_eq_true rfl, Nat.le_of_ble_eq_true rfl⟩ rfl rfl h0 rfl rfl rfl rfl hl.1 rfl (Nat.le_of_ble_eq_true rfl) dX12_query_145 ⟨Nat.le_of_ble_eq_true rfl, Nat.le_of_ble_eq_true rfl⟩) hA hF (fun σ_25 H locs hW hF pσ_25 => ?_)
                      try dsimp only at pσ_25
                      obtain ⟨pσ_25, fpσ_25⟩ := pσ_25
                      try simp only [Ekept, Eplace0, Edraft, Edrafted] at pσ_25
                      have q_finds := pσ_25
                      have hR := fr_call hR fpσ_25 (by decide)
                      have Efile : σ_25 (G a0 0) = σL_112 (G a0 0) := row_fr fpσ_25 hk_file 40 (by decide) (by decide)
                      try clear hcf
                      have hcf := congrFun Efile 0
                      have Ekept : σ_25 a0 1 = σ a0 1 := (fr_at fpσ_25 h0 1 13001 rfl (by decide)).trans Ekept
                      have Eplace0 : σ_25 a0 12 = σL_50 a0 12 := (fr_at fpσ_25 h0 12 13012 rfl (by decide)).trans Eplace0
                      have Edraft : σ_25 (G a0 37) = σL_50 (G a0 37) := (row_fr fpσ_25 hk_draft 51 (by decide) (by decide)).trans Edraft
                      have Edrafted : σ_25 a0 38 = σL_50 a0 38 := (fr_at fpσ_25 h0 38 13038 rfl (by decide)).trans Edrafted
                      have hI := FI_dep hS h0 hI (kp_fr fpσ_25 (by decide))
                      refine lv_aload_n hx hb dX12_query_148 rfl (lv_at hl 0 rfl) ?_
                      refine j_getI hx hb (C := RX12) (T := TX12) (N := 41) hts inX12_query_X12 hown hK hS hW h0 rfl 40 rfl rfl (by decide) (hts _ flX12_query_360) dX12_query_149 ?_
                      have := fbd hW h0 (k := 40) (lo := 0) (hi := 150) rfl rfl
                      exact hRet 152 _ _ _ (σ_25 a0 40) _ dX12_query_152 hW hF (by omega) ⟨(by first | exact ⟨hI, (by first | exact hfq.2 | (rw [Efile]; exact hfq.2))⟩ | (simp only [Efile, Ekept, Eplace0, Edraft, Edrafted]; exact ⟨hI, (by first | exact hfq.2 | (rw [Efile]; exact hfq.2))⟩)), hR⟩
                    · refine lv_aload_n hx hb dX12_query_123 rfl (lv_at hl 0 rfl) ?_
                      refine j_getR hx hb (C := RX12) (T := TX12) (N := 41) hts inX12_query_X12 hown hK hS hW h0 rfl 0 rfl rfl (by decide) (hts _ flX12_query_7) dX12_query_124 ?_
                      refine j_bi hx hb dX12_query_127 (by decide) ?_
                      refine lv_iload_n hx hb dX12_query_129 rfl (lv_at hl 1 rfl) ?_
                      refine j_add hx hb dX12_query_130 ?_
                      refine lv_aload_n hx hb dX12_query_131 rfl (lv_at hl 0 rfl) ?_
                      refine j_getR hx hb (C := RX12) (T := TX12) (N := 41) hts inX12_query_X12 hown hK hS hW h0 rfl 37 rfl rfl (by decide) (hts _ flX12_query_44) dX12_query_132 ?_
                      refine lv_iload_n hx hb dX12_query_135 rfl (lv_at hl 1 rfl) ?_
                      refine j_ald hx hb hK hS hW hk_draft (n := 224) rfl (by omega) (by omega) (by decide) dX12_query_136 ?_
                      have := abd hW hk_draft (n := 224) (lo := -2147483648) (hi := 2147483647) (i := v3_112) rfl (by omega) (by omega)
                      rw [Edraft]
                      try simp only [Edraft] at this
                      refine j_ast hx hb hK hS hA hW hF hk_file (n := 17624) (lo := -2147483648) (hi := 2147483647) rfl (by omega) (by omega) (by decide) (by omega) dX12_query_137 (fun σ_26 H locs e_27 hW hF => ?_)
                      have st_file := e_27
                      have hR := fr_up hR e_27 hk_file 40000 (cdA 40 (by decide) _) (by decide)
                      have Ekept : σ_26 a0 1 = σ a0 1 := (fld_up e_27 hk_file h0 (fun q => absurd q.1 (by decide))).trans Ekept
                      have Eplace0 : σ_26 a0 12 = σL_50 a0 12 := (fld_up e_27 hk_file h0 (fun q => absurd q.1 (by decide))).trans Eplace0
                      have Edraft : σ_26 (G a0 37) = σL_50 (G a0 37) := (row_up e_27 hk_file hk_draft (by decide)).trans Edraft
                      have Edrafted : σ_26 a0 38 = σL_50 a0 38 := (fld_up e_27 hk_file h0 (fun q => absurd q.1 (by decide))).trans Edrafted
                      refine j_iinc (lv' := [(3, .int (jI (v3_112 + 1))), (0, .ref a0)]) hx hb dX12_query_138 hl (k := 1) rfl (by decide) rfl (fun ls hl => ?_)
                      refine lv_goto (tgt := 112) hx hb dX12_query_141 (by decide) ?_
                      exact ih_112 ((2147483647 - (v3_112 + 1) : Int).toNat) (by omega) (v3_112 + 1) σ_26 _ _ _ rfl (by omega) (by omega) (by first | exact (by first | (rw [st_file, up2_ne _ _ (by omega)]; exact i2_112) | (rw [st_file]; exact up2_at _ _ _ _)) | (simp only [Ekept, Eplace0, Edraft, Edrafted]; exact (by first | (rw [st_file, up2_ne _ _ (by omega)]; exact i2_112) | (rw [st_file]; exact up2_at _ _ _ _)))) (by first | exact (fun q hq => by (rw [st_file, up2_ne _ _ (by omega)]; first | exact i3_112 q hq | rfl | (rw [Efile]))) | (simp only [Ekept, Eplace0, Edraft, Edrafted]; exact (fun q hq => by (rw [st_file, up2_ne _ _ (by omega)]; first | exact i3_112 q hq | rfl | (rw [Efile]))))) (by first | exact (fun q hq => by (rw [st_file, up2_ne _ _ (by omega)]; first | exact i4_112 q (by omega) | rfl | (rw [Efile]))) | (simp only [Ekept, Eplace0, Edraft, Edrafted]; exact (fun q hq => by (rw [st_file, up2_ne _ _ (by omega)]; first | exact i4_112 q (by omega) | rfl | (rw [Efile]))))) (by first | exact (by first | exact qy_s i5_112 st_file (by omega) (by rfl) | (intro j j0 j1; exfalso; omega)) | (simp only [Ekept, Eplace0, Edraft, Edrafted]; exact (by first | exact qy_s i5_112 st_file (by omega) (by rfl) | (intro j j0 j1; exfalso; omega)))) (by omega) hW hF hR Ekept Eplace0 Edraft Edrafted (lv_sub hl [1, 0] rfl)
                exact L_112 ((2147483647 - 0 : Int).toNat) 0 σ_22 _ _ _ rfl (by omega) (by omega) (by first | exact (by first | (rw [st_file, up2_ne _ _ (by omega)]; exact i2_112) | (rw [st_file]; exact up2_at _ _ _ _)) | (simp only [Ekept, Eplace0, Edraft, Edrafted]; exact (by first | (rw [st_file, up2_ne _ _ (by omega)]; exact i2_112) | (rw [st_file]; exact up2_at _ _ _ _)))) (by first | exact (fun q hq => by (rw [st_file, up2_ne _ _ (by omega)]; first | exact i3_112 q hq | rfl | (rw [Efile]))) | (simp only [Ekept, Eplace0, Edraft, Edrafted]; exact (fun q hq => by (rw [st_file, up2_ne _ _ (by omega)]; first | exact i3_112 q hq | rfl | (rw [Efile]))))) (by first | exact (fun q hq => by (rw [st_file, up2_ne _ _ (by omega)]; first | exact i4_112 q (by omega) | rfl | (rw [Efile]))) | (simp only [Ekept, Eplace0, Edraft, Edrafted]; exact (fun q hq => by (rw [st_file, up2_ne _ _ (by omega)]; first | exact i4_112 q (by omega) | rfl | (rw [Efile]))))) (by first | exact (by first | exact qy_s i5_112 st_file (by omega) (by rfl) | (intro j j0 j1; exfalso; omega)) | (simp only [Ekept, Eplace0, Edraft, Edrafted]; exact (by first | exact qy_s i5_112 st_file (by omega) (by rfl) | (intro j j0 j1; exfalso; omega)))) (by decide) hW hF hR Ekept Eplace0 Edraft Edrafted (lv_sub hl [1, 0] rfl)
              · refine lv_aload_n hx hb dX12_query_94 rfl (lv_at hl 0 rfl) ?_
                refine j_getI hx hb (C := RX12) (T := TX12) (N := 41) hts inX12_query_X12 hown hK hS hW h0 rfl 14 rfl rfl (by decide) (hts _ flX12_query_186) dX12_query_95 ?_
                have := fbd hW h0 (k := 14) (lo := -2147483648) (hi := 2147483647) rfl rfl
                exact hRet 98 _ _ _ (σL_50 a0 14) _ dX12_query_98 hW hF (by omega) ⟨(by first | exact ⟨hI, q0⟩ | (simp only [Efile, Ekept]; exact ⟨hI, q0⟩)), hR⟩
            · refine lv_aload_n hx hb dX12_query_65 rfl (lv_at hl 0 rfl) ?_
              refine j_bi hx hb dX12_query_66 (by decide) ?_
              refine j_cI (j_runV (As := [.int (jI 59)]) (rest := []) hx hb hml hown hts hK hS hW (kX12_takesSign l hS σL_50 (a0 := a0) (h0 := h0) (x1 := 59) (r1 := (by decide)) (q0 := (by omega))) 1 gX12_query_X12_takesSign rfl hvX12_takesSign ⟨Nat.le_of_ble_eq_true rfl, Nat.le_of_ble_eq_true rfl⟩ rfl rfl h0 rfl rfl rfl rfl hl.1 rfl (Nat.le_of_ble_eq_true rfl) dX12_query_68 ⟨Nat.le_of_ble_eq_true rfl, Nat.le_of_ble_eq_true rfl⟩) hA hF (fun v_28 σ_29 H locs hW hF rv_28 pv_28 => ?_)
              try dsimp only at pv_28
              obtain ⟨bpv_28, pv_28, fpv_28⟩ := pv_28
              try simp only [Efile, Ekept] at pv_28
              have q_takesSign := pv_28
              have hR := fr_call hR fpv_28 (by decide)
              have Efile : σ_29 (G a0 0) = σ (G a0 0) := (row_fr fpv_28 hk_file 40 (by decide) (by decide)).trans Efile
              try clear hcf
              have hcf := congrFun Efile 0
              have Ekept : σ_29 a0 1 = σ a0 1 := (fr_at fpv_28 h0 1 13001 rfl (by decide)).trans Ekept
              have Edraft : σ_29 (G a0 37) = σL_50 (G a0 37) := row_fr fpv_28 hk_draft 51 (by decide) (by decide)
              have Edrafted : σ_29 a0 38 = σL_50 a0 38 := fr_at fpv_28 h0 38 13038 rfl (by decide)
              have hI := FI_dep hS h0 hI (kp_fr fpv_28 (by decide))
              refine j_if_eq (tgt := 85) hx hb (by omega) dX12_query_71 (by decide) (fun c_30 => ?_) (fun c_30 => ?_)
              · refine j_const hx hb dX12_query_85 ?_
                refine lv_istore_n (lv' := [(2, .int (jI 0)), (0, .ref a0)]) hx hb dX12_query_86 rfl hl (by decide) rfl (fun ls hl => ?_)
                refine lv_goto (tgt := 50) hx hb dX12_query_87 (by decide) ?_
                exact ih_50 ((2 * (300 - σ_29 a0 12) + 0 : Int).toNat) (by omega) 0 σ_29 _ _ _ rfl (by omega) (by omega) (by first | exact (by first | exact q_readsStep.1 | (intro h; exfalso; omega) | (intro _; exact q_readsStep.1 (by omega)) | exact fun _ s s0 s1 => by (exfalso; omega)) | (simp only [Efile, Ekept, Edraft, Edrafted]; exact (by first | exact q_readsStep.1 | (intro h; exfalso; omega) | (intro _; exact q_readsStep.1 (by omega)) | exact fun _ s s0 s1 => by (exfalso; omega)))) (by decide) hW hF hR hI Efile Ekept (lv_sub hl [1, 0] rfl)
              · refine lv_aload_n hx hb dX12_query_74 rfl (lv_at hl 0 rfl) ?_
                refine j_cI (j_runV (As := []) (rest := []) hx hb hml hown hts hK hS hW (kX12_readsStep l hS σ_29 (a0 := a0) (h0 := h0) (q0 := (by first | exact i2_50 (by omega) | (simp only [Edraft, Edrafted]; exact i2_50 (by omega))))) 0 gX12_query_X12_readsStep rfl hvX12_readsStep ⟨Nat.le_of_ble_eq_true rfl, Nat.le_of_ble_eq_true rfl⟩ rfl rfl h0 rfl rfl rfl rfl hl.1 rfl (Nat.le_of_ble_eq_true rfl) dX12_query_75 ⟨Nat.le_of_ble_eq_true rfl, Nat.le_of_ble_eq_true rfl⟩) hA hF (fun v_31 σ_32 H locs hW hF rv_31 pv_31 => ?_)
                try dsimp only at pv_31
                obtain ⟨bpv_31, pv_31, fpv_31⟩ := pv_31
                try simp only [Efile, Ekept, Edraft, Edrafted] at pv_31
                have q_readsStep := pv_31
                have hR := fr_call hR fpv_31 (by decide)
                have Efile : σ_32 (G a0 0) = σ (G a0 0) := (row_fr fpv_31 hk_file 40 (by decide) (by decide)).trans Efile
                try clear hcf
                have hcf := congrFun Efile 0
                have Ekept : σ_32 a0 1 = σ a0 1 := (fr_at fpv_31 h0 1 13001 rfl (by decide)).trans Ekept
                have hI := FI_dep hS h0 hI (kp_fr fpv_31 (by decide))
                refine j_if_eq (tgt := 85) hx hb (by omega) dX12_query_78 (by decide) (fun c_33 => ?_) (fun c_33 => ?_)
                · refine j_const hx hb dX12_query_85 ?_
                  refine lv_istore_n (lv' := [(2, .int (jI 0)), (0, .ref a0)]) hx hb dX12_query_86 rfl hl (by decide) rfl (fun ls hl => ?_)
                  refine lv_goto (tgt := 50) hx hb dX12_query_87 (by decide) ?_
                  exact ih_50 ((2 * (300 - σ_32 a0 12) + 0 : Int).toNat) (by omega) 0 σ_32 _ _ _ rfl (by omega) (by omega) (by first | exact (by first | exact q_readsStep.1 | (intro h; exfalso; omega) | (intro _; exact q_readsStep.1 (by omega)) | exact fun _ s s0 s1 => by (exfalso; omega)) | (simp only [Efile, Ekept]; exact (by first | exact q_readsStep.1 | (intro h; exfalso; omega) | (intro _; exact q_readsStep.1 (by omega)) | exact fun _ s s0 s1 => by (exfalso; omega)))) (by decide) hW hF hR hI Efile Ekept (lv_sub hl [1, 0] rfl)
                · refine j_const hx hb dX12_query_81 ?_
                  refine lv_goto (tgt := 86) hx hb dX12_query_82 (by decide) ?_
                  refine lv_istore_n (lv' := [(2, .int (jI 1)), (0, .ref a0)]) hx hb dX12_query_86 rfl hl (by decide) rfl (fun ls hl => ?_)
                  refine lv_goto (tgt := 50) hx hb dX12_query_87 (by decide) ?_
                  exact ih_50 ((2 * (300 - σ_32 a0 12) + 1 : Int).toNat) (by omega) 1 σ_32 _ _ _ rfl (by omega) (by omega) (by first | exact (by first | exact q_readsStep.1 | (intro h; exfalso; omega) | (intro _; exact q_readsStep.1 (by omega)) | exact fun _ s s0 s1 => by (exfalso; omega)) | (simp only [Efile, Ekept]; exact (by first | exact q_readsStep.1 | (intro h; exfalso; omega) | (intro _; exact q_readsStep.1 (by omega)) | exact fun _ s s0 s1 => by (exfalso; omega)))) (by decide) hW hF hR hI Efile Ekept (lv_sub hl [1, 0] rfl)
      exact L_50 ((2 * (300 - σ_9 a0 12) + 1 : Int).toNat) 1 σ_9 _ _ _ rfl (by omega) (by omega) (by first | exact (by first | exact q_readsStep.1 | (intro h; exfalso; omega) | (intro _; exact q_readsStep.1 (by omega)) | exact fun _ s s0 s1 => by (exfalso; omega)) | (simp only [Efile, Ekept, Eplace0, Edraft]; exact (by first | exact q_readsStep.1 | (intro h; exfalso; omega) | (intro _; exact q_readsStep.1 (by omega)) | exact fun _ s s0 s1 => by (exfalso; omega)))) (by decide) hW hF hR hI Efile Ekept (lv_sub hl [1, 0] rfl)
    · refine lv_aload_n hx hb dX12_query_37 rfl (lv_at hl 0 rfl) ?_
      refine j_cI (j_runV (As := []) (rest := []) hx hb hml hown hts hK hS hW (kX12_readsStep l hS σ_9 (a0 := a0) (h0 := h0) (q0 := (fun s s0 s1 => by (exfalso; omega)))) 0 gX12_query_X12_readsStep rfl hvX12_readsStep ⟨Nat.le_of_ble_eq_true rfl, Nat.le_of_ble_eq_true rfl⟩ rfl rfl h0 rfl rfl rfl rfl hl.1 rfl (Nat.le_of_ble_eq_true rfl) dX12_query_38 ⟨Nat.le_of_ble_eq_true rfl, Nat.le_of_ble_eq_true rfl⟩) hA hF (fun v_34 σ_35 H locs hW hF rv_34 pv_34 => ?_)
      try dsimp only at pv_34
      obtain ⟨bpv_34, pv_34, fpv_34⟩ := pv_34
      try simp only [Efile, Ekept, Eplace0, Edraft] at pv_34
      have q_readsStep := pv_34
      have hR := fr_call hR fpv_34 (by decide)
      have Efile : σ_35 (G a0 0) = σ (G a0 0) := (row_fr fpv_34 hk_file 40 (by decide) (by decide)).trans Efile
      try clear hcf
      have hcf := congrFun Efile 0
      have Ekept : σ_35 a0 1 = σ a0 1 := (fr_at fpv_34 h0 1 13001 rfl (by decide)).trans Ekept
      have hI := FI_dep hS h0 hI (kp_fr fpv_34 (by decide))
      refine j_if_eq (tgt := 48) hx hb (by omega) dX12_query_41 (by decide) (fun c_36 => ?_) (fun c_36 => ?_)
      · refine j_const hx hb dX12_query_48 ?_
        refine lv_istore_n (lv' := [(2, .int (jI 0)), (0, .ref a0), (1, .int (jI x1))]) hx hb dX12_query_49 rfl hl (by decide) rfl (fun ls hl => ?_)
        have L_50 : ∀ (N : Nat) (v2_50 : Int) (σL_50 : Nat → Nat → Int) (H : Heap) (locs : List Loc) (ls : Array Slot), N = (2 * (300 - σL_50 a0 12) + v2_50 : Int).toNat → (0 ≤ v2_50) → (v2_50 ≤ 1) → (v2_50 = 1 → DR (σL_50 (G a0 37)) (σL_50 a0 38)) → rg v2_50 → PW D cA τ G L σL_50 H → va_S (fun q => q ∈ L) s.heap H locs → fr wr_X12_query τ σ σL_50 → FI G a0 σL_50 → σL_50 (G a0 0) = σ (G a0 0) → σL_50 a0 1 = σ a0 1 → lv_has ls 4 [(0, .ref a0), (2, .int (jI v2_50))] → W p l e ({ frames := 5, cells := 0, slots := 0, locals := 113 }) s m args below meth c H locs 0 0 Q (F0 m 50 ls []) := by
          intro N
          induction N using Nat.strongRecOn with
          | ind N ih_50 =>
            intro v2_50 σL_50 H locs ls hN i0_50 i1_50 i2_50 rv2_50 hW hF hR hI Efile Ekept hl
            try clear hcf
            try clear hfk
            have hcf := congrFun Efile 0
            have := fbd hW h0 (k := 38) (lo := 0) (hi := 8) rfl rfl
            have := fbd hW h0 (k := 12) (lo := 0) (hi := 200) rfl rfl
            refine lv_iload_n hx hb dX12_query_50 rfl (lv_at hl 1 rfl) ?_
            refine j_if_eq (tgt := 90) hx hb (by omega) dX12_query_51 (by decide) (fun c_37 => ?_) (fun c_37 => ?_)
            · refine lv_iload_n hx hb dX12_query_90 rfl (lv_at hl 1 rfl) ?_
              refine j_if_ne (tgt := 99) hx hb (by omega) dX12_query_91 (by decide) (fun c_38 => ?_) (fun c_38 => ?_)
              · have hDR := i2_50 (by omega)
                refine lv_aload_n hx hb dX12_query_99 rfl (lv_at hl 0 rfl) ?_
                refine j_getR hx hb (C := RX12) (T := TX12) (N := 41) hts inX12_query_X12 hown hK hS hW h0 rfl 0 rfl rfl (by decide) (hts _ flX12_query_7) dX12_query_100 ?_
                refine j_bi hx hb dX12_query_103 (by decide) ?_
                refine lv_aload_n hx hb dX12_query_105 rfl (lv_at hl 0 rfl) ?_
                refine j_getI hx hb (C := RX12) (T := TX12) (N := 41) hts inX12_query_X12 hown hK hS hW h0 rfl 38 rfl rfl (by decide) (hts _ flX12_query_351) dX12_query_106 ?_
                have := fbd hW h0 (k := 38) (lo := 0) (hi := 8) rfl rfl
                refine j_ast hx hb hK hS hA hW hF hk_file (n := 17624) (lo := -2147483648) (hi := 2147483647) rfl (by omega) (by omega) (by decide) (by omega) dX12_query_109 (fun σ_39 H locs e_40 hW hF => ?_)
                have st_file := e_40
                have hR := fr_up hR e_40 hk_file 40000 (cdA 40 (by decide) _) (by decide)
                have Ekept : σ_39 a0 1 = σ a0 1 := (fld_up e_40 hk_file h0 (fun q => absurd q.1 (by decide))).trans Ekept
                have Eplace0 : σ_39 a0 12 = σL_50 a0 12 := fld_up e_40 hk_file h0 (fun q => absurd q.1 (by decide))
                have Edraft : σ_39 (G a0 37) = σL_50 (G a0 37) := row_up e_40 hk_file hk_draft (by decide)
                have Edrafted : σ_39 a0 38 = σL_50 a0 38 := fld_up e_40 hk_file h0 (fun q => absurd q.1 (by decide))
                have sf7 := st_file
                refine j_const hx hb dX12_query_110 ?_
                refine lv_istore_n (lv' := [(3, .int (jI 0)), (0, .ref a0), (2, .int (jI v2_50))]) hx hb dX12_query_111 rfl hl (by decide) rfl (fun ls hl => ?_)
                have L_112 : ∀ (N : Nat) (v3_112 : Int) (σL_112 : Nat → Nat → Int) (H : Heap) (locs : List Loc) (ls : Array Slot), N = (2147483647 - v3_112 : Int).toNat → (0 ≤ v3_112) → (v3_112 ≤ 28 * (σL_50 a0 38)) → ((σL_112 (G a0 0)) 7 = (σL_50 a0 38)) → (∀ q : Nat, q < 7 ∨ 240 ≤ q → (σL_112 (G a0 0)) q = σ (G a0 0) q) → (∀ q : Nat, 16 + v3_112 ≤ (q : Int) → (σL_112 (G a0 0)) q = σ (G a0 0) q) → (∀ j : Int, 0 ≤ j → j < v3_112 → (σL_112 (G a0 0)) (16 + j).toNat = (σL_50 (G a0 37)) j.toNat) → rg v3_112 → PW D cA τ G L σL_112 H → va_S (fun q => q ∈ L) s.heap H locs → fr wr_X12_query τ σ σL_112 → σL_112 a0 1 = σ a0 1 → σL_112 a0 12 = σL_50 a0 12 → σL_112 (G a0 37) = σL_50 (G a0 37) → σL_112 a0 38 = σL_50 a0 38 → lv_has ls 4 [(0, .ref a0), (3, .int (jI v3_112))] → W p l e ({ frames := 5, cells := 0, slots := 0, locals := 113 }) s m args below meth c H locs 0 0 Q (F0 m 112 ls []) := by
                  intro N
                  induction N using Nat.strongRecOn with
                  | ind N ih_112 =>
                    intro v3_112 σL_112 H locs ls hN i0_112 i1_112 i2_112 i3_112 i4_112 i5_112 rv3_112 hW hF hR Ekept Eplace0 Edraft Edrafted hl
                    refine lv_iload_n hx hb dX12_query_112 rfl (lv_at hl 1 rfl) ?_
                    refine j_bi hx hb dX12_query_113 (by decide) ?_
                    refine lv_aload_n hx hb dX12_query_115 rfl (lv_at hl 0 rfl) ?_
                    refine j_getI hx hb (C := RX12) (T := TX12) (N := 41) hts inX12_query_X12 hown hK hS hW h0 rfl 38 rfl rfl (by decide) (hts _ flX12_query_351) dX12_query_116 ?_
                    rw [Edrafted]
                    refine j_mul hx hb dX12_query_119 ?_
                    refine j_icmp_ge (tgt := 144) hx hb (by omega) (by omega) dX12_query_120 (by decide) (fun c_41 => ?_) (fun c_41 => ?_)
                    · have hfq := FI_mid hI0 q0 (fun q hq => i3_112 q (by omega)) (FQ_query hI0.2.1 hDR (by omega) (by omega) i2_112 i5_112 (by omega) (by omega) i4_112) Ekept
                      have hI := hfq.1
                      refine lv_aload_n hx hb dX12_query_144 rfl (lv_at hl 0 rfl) ?_
                      refine j_cV (j_runV (As := []) (rest := []) hx hb hml hown hts hK hS hW (kX12_finds l hS σL_112 (a0 := a0) (h0 := h0) (hI := hI)) 0 gX12_query_X12_finds rfl hvX12_finds ⟨Nat.le_of_ble_eq_true rfl, Nat.le_of_ble_eq_true rfl⟩ rfl rfl h0 rfl rfl rfl rfl hl.1 rfl (Nat.le_of_ble_eq_true rfl) dX12_query_145 ⟨Nat.le_of_ble_eq_true rfl, Nat.le_of_ble_eq_true rfl⟩) hA hF (fun σ_42 H locs hW hF pσ_42 => ?_)
                      try dsimp only at pσ_42
                      obtain ⟨pσ_42, fpσ_42⟩ := pσ_42
                      try simp only [Ekept, Eplace0, Edraft, Edrafted] at pσ_42
                      have q_finds := pσ_42
                      have hR := fr_call hR fpσ_42 (by decide)
                      have Efile : σ_42 (G a0 0) = σL_112 (G a0 0) := row_fr fpσ_42 hk_file 40 (by decide) (by decide)
                      try clear hcf
                      have hcf := congrFun Efile 0
                      have Ekept : σ_42 a0 1 = σ a0 1 := (fr_at fpσ_42 h0 1 13001 rfl (by decide)).trans Ekept
                      have Eplace0 : σ_42 a0 12 = σL_50 a0 12 := (fr_at fpσ_42 h0 12 13012 rfl (by decide)).trans Eplace0
                      have Edraft : σ_42 (G a0 37) = σL_50 (G a0 37) := (row_fr fpσ_42 hk_draft 51 (by decide) (by decide)).trans Edraft
                      have Edrafted : σ_42 a0 38 = σL_50 a0 38 := (fr_at fpσ_42 h0 38 13038 rfl (by decide)).trans Edrafted
                      have hI := FI_dep hS h0 hI (kp_fr fpσ_42 (by decide))
                      refine lv_aload_n hx hb dX12_query_148 rfl (lv_at hl 0 rfl) ?_
                      refine j_getI hx hb (C := RX12) (T := TX12) (N := 41) hts inX12_query_X12 hown hK hS hW h0 rfl 40 rfl rfl (by decide) (hts _ flX12_query_360) dX12_query_149 ?_
                      have := fbd hW h0 (k := 40) (lo := 0) (hi := 150) rfl rfl
                      exact hRet 152 _ _ _ (σ_42 a0 40) _ dX12_query_152 hW hF (by omega) ⟨(by first | exact ⟨hI, (by first | exact hfq.2 | (rw [Efile]; exact hfq.2))⟩ | (simp only [Efile, Ekept, Eplace0, Edraft, Edrafted]; exact ⟨hI, (by first | exact hfq.2 | (rw [Efile]; exact hfq.2))⟩)), hR⟩
                    · refine lv_aload_n hx hb dX12_query_123 rfl (lv_at hl 0 rfl) ?_
                      refine j_getR hx hb (C := RX12) (T := TX12) (N := 41) hts inX12_query_X12 hown hK hS hW h0 rfl 0 rfl rfl (by decide) (hts _ flX12_query_7) dX12_query_124 ?_
                      refine j_bi hx hb dX12_query_127 (by decide) ?_
                      refine lv_iload_n hx hb dX12_query_129 rfl (lv_at hl 1 rfl) ?_
                      refine j_add hx hb dX12_query_130 ?_
                      refine lv_aload_n hx hb dX12_query_131 rfl (lv_at hl 0 rfl) ?_
                      refine j_getR hx hb (C := RX12) (T := TX12) (N := 41) hts inX12_query_X12 hown hK hS hW h0 rfl 37 rfl rfl (by decide) (hts _ flX12_query_44) dX12_query_132 ?_
                      refine lv_iload_n hx hb dX12_query_135 rfl (lv_at hl 1 rfl) ?_
                      refine j_ald hx hb hK hS hW hk_draft (n := 224) rfl (by omega) (by omega) (by decide) dX12_query_136 ?_
                      have := abd hW hk_draft (n := 224) (lo := -2147483648) (hi := 2147483647) (i := v3_112) rfl (by omega) (by omega)
                      rw [Edraft]
                      try simp only [Edraft] at this
                      refine j_ast hx hb hK hS hA hW hF hk_file (n := 17624) (lo := -2147483648) (hi := 2147483647) rfl (by omega) (by omega) (by decide) (by omega) dX12_query_137 (fun σ_43 H locs e_44 hW hF => ?_)
                      have st_file := e_44
                      have hR := fr_up hR e_44 hk_file 40000 (cdA 40 (by decide) _) (by decide)
                      have Ekept : σ_43 a0 1 = σ a0 1 := (fld_up e_44 hk_file h0 (fun q => absurd q.1 (by decide))).trans Ekept
                      have Eplace0 : σ_43 a0 12 = σL_50 a0 12 := (fld_up e_44 hk_file h0 (fun q => absurd q.1 (by decide))).trans Eplace0
                      have Edraft : σ_43 (G a0 37) = σL_50 (G a0 37) := (row_up e_44 hk_file hk_draft (by decide)).trans Edraft
                      have Edrafted : σ_43 a0 38 = σL_50 a0 38 := (fld_up e_44 hk_file h0 (fun q => absurd q.1 (by decide))).trans Edrafted
                      refine j_iinc (lv' := [(3, .int (jI (v3_112 + 1))), (0, .ref a0)]) hx hb dX12_query_138 hl (k := 1) rfl (by decide) rfl (fun ls hl => ?_)
                      refine lv_goto (tgt := 112) hx hb dX12_query_141 (by decide) ?_
                      exact ih_112 ((2147483647 - (v3_112 + 1) : Int).toNat) (by omega) (v3_112 + 1) σ_43 _ _ _ rfl (by omega) (by omega) (by first | exact (by first | (rw [st_file, up2_ne _ _ (by omega)]; exact i2_112) | (rw [st_file]; exact up2_at _ _ _ _)) | (simp only [Ekept, Eplace0, Edraft, Edrafted]; exact (by first | (rw [st_file, up2_ne _ _ (by omega)]; exact i2_112) | (rw [st_file]; exact up2_at _ _ _ _)))) (by first | exact (fun q hq => by (rw [st_file, up2_ne _ _ (by omega)]; first | exact i3_112 q hq | rfl | (rw [Efile]))) | (simp only [Ekept, Eplace0, Edraft, Edrafted]; exact (fun q hq => by (rw [st_file, up2_ne _ _ (by omega)]; first | exact i3_112 q hq | rfl | (rw [Efile]))))) (by first | exact (fun q hq => by (rw [st_file, up2_ne _ _ (by omega)]; first | exact i4_112 q (by omega) | rfl | (rw [Efile]))) | (simp only [Ekept, Eplace0, Edraft, Edrafted]; exact (fun q hq => by (rw [st_file, up2_ne _ _ (by omega)]; first | exact i4_112 q (by omega) | rfl | (rw [Efile]))))) (by first | exact (by first | exact qy_s i5_112 st_file (by omega) (by rfl) | (intro j j0 j1; exfalso; omega)) | (simp only [Ekept, Eplace0, Edraft, Edrafted]; exact (by first | exact qy_s i5_112 st_file (by omega) (by rfl) | (intro j j0 j1; exfalso; omega)))) (by omega) hW hF hR Ekept Eplace0 Edraft Edrafted (lv_sub hl [1, 0] rfl)
                exact L_112 ((2147483647 - 0 : Int).toNat) 0 σ_39 _ _ _ rfl (by omega) (by omega) (by first | exact (by first | (rw [st_file, up2_ne _ _ (by omega)]; exact i2_112) | (rw [st_file]; exact up2_at _ _ _ _)) | (simp only [Ekept, Eplace0, Edraft, Edrafted]; exact (by first | (rw [st_file, up2_ne _ _ (by omega)]; exact i2_112) | (rw [st_file]; exact up2_at _ _ _ _)))) (by first | exact (fun q hq => by (rw [st_file, up2_ne _ _ (by omega)]; first | exact i3_112 q hq | rfl | (rw [Efile]))) | (simp only [Ekept, Eplace0, Edraft, Edrafted]; exact (fun q hq => by (rw [st_file, up2_ne _ _ (by omega)]; first | exact i3_112 q hq | rfl | (rw [Efile]))))) (by first | exact (fun q hq => by (rw [st_file, up2_ne _ _ (by omega)]; first | exact i4_112 q (by omega) | rfl | (rw [Efile]))) | (simp only [Ekept, Eplace0, Edraft, Edrafted]; exact (fun q hq => by (rw [st_file, up2_ne _ _ (by omega)]; first | exact i4_112 q (by omega) | rfl | (rw [Efile]))))) (by first | exact (by first | exact qy_s i5_112 st_file (by omega) (by rfl) | (intro j j0 j1; exfalso; omega)) | (simp only [Ekept, Eplace0, Edraft, Edrafted]; exact (by first | exact qy_s i5_112 st_file (by omega) (by rfl) | (intro j j0 j1; exfalso; omega)))) (by decide) hW hF hR Ekept Eplace0 Edraft Edrafted (lv_sub hl [1, 0] rfl)
              · refine lv_aload_n hx hb dX12_query_94 rfl (lv_at hl 0 rfl) ?_
                refine j_getI hx hb (C := RX12) (T := TX12) (N := 41) hts inX12_query_X12 hown hK hS hW h0 rfl 14 rfl rfl (by decide) (hts _ flX12_query_186) dX12_query_95 ?_
                have := fbd hW h0 (k := 14) (lo := -2147483648) (hi := 2147483647) rfl rfl
                exact hRet 98 _ _ _ (σL_50 a0 14) _ dX12_query_98 hW hF (by omega) ⟨(by first | exact ⟨hI, q0⟩ | (simp only [Efile, Ekept]; exact ⟨hI, q0⟩)), hR⟩
            · refine lv_aload_n hx hb dX12_query_54 rfl (lv_at hl 0 rfl) ?_
              refine j_getI hx hb (C := RX12) (T := TX12) (N := 41) hts inX12_query_X12 hown hK hS hW h0 rfl 12 rfl rfl (by decide) (hts _ flX12_query_180) dX12_query_55 ?_
              have := fbd hW h0 (k := 12) (lo := 0) (hi := 200) rfl rfl
              refine lv_aload_n hx hb dX12_query_58 rfl (lv_at hl 0 rfl) ?_
              refine j_getI hx hb (C := RX12) (T := TX12) (N := 41) hts inX12_query_X12 hown hK hS hW h0 rfl 13 rfl rfl (by decide) (hts _ flX12_query_183) dX12_query_59 ?_
              have := fbd hW h0 (k := 13) (lo := 0) (hi := 200) rfl rfl
              refine j_icmp_ge (tgt := 90) hx hb (by omega) (by omega) dX12_query_62 (by decide) (fun c_45 => ?_) (fun c_45 => ?_)
              · refine lv_iload_n hx hb dX12_query_90 rfl (lv_at hl 1 rfl) ?_
                refine j_if_ne (tgt := 99) hx hb (by omega) dX12_query_91 (by decide) (fun c_46 => ?_) (fun c_46 => ?_)
                · have hDR := i2_50 (by omega)
                  refine lv_aload_n hx hb dX12_query_99 rfl (lv_at hl 0 rfl) ?_
                  refine j_getR hx hb (C := RX12) (T := TX12) (N := 41) hts inX12_query_X12 hown hK hS hW h0 rfl 0 rfl rfl (by decide) (hts _ flX12_query_7) dX12_query_100 ?_
                  refine j_bi hx hb dX12_query_103 (by decide) ?_
                  refine lv_aload_n hx hb dX12_query_105 rfl (lv_at hl 0 rfl) ?_
                  refine j_getI hx hb (C := RX12) (T := TX12) (N := 41) hts inX12_query_X12 hown hK hS hW h0 rfl 38 rfl rfl (by decide) (hts _ flX12_query_351) dX12_query_106 ?_
                  have := fbd hW h0 (k := 38) (lo := 0) (hi := 8) rfl rfl
                  refine j_ast hx hb hK hS hA hW hF hk_file (n := 17624) (lo := -2147483648) (hi := 2147483647) rfl (by omega) (by omega) (by decide) (by omega) dX12_query_109 (fun σ_47 H locs e_48 hW hF => ?_)
                  have st_file := e_48
                  have hR := fr_up hR e_48 hk_file 40000 (cdA 40 (by decide) _) (by decide)
                  have Ekept : σ_47 a0 1 = σ a0 1 := (fld_up e_48 hk_file h0 (fun q => absurd q.1 (by decide))).trans Ekept
                  have Eplace0 : σ_47 a0 12 = σL_50 a0 12 := fld_up e_48 hk_file h0 (fun q => absurd q.1 (by decide))
                  have Edraft : σ_47 (G a0 37) = σL_50 (G a0 37) := row_up e_48 hk_file hk_draft (by decide)
                  have Edrafted : σ_47 a0 38 = σL_50 a0 38 := fld_up e_48 hk_file h0 (fun q => absurd q.1 (by decide))
                  have sf7 := st_file
                  refine j_const hx hb dX12_query_110 ?_
                  refine lv_istore_n (lv' := [(3, .int (jI 0)), (0, .ref a0), (2, .int (jI v2_50))]) hx hb dX12_query_111 rfl hl (by decide) rfl (fun ls hl => ?_)
                  have L_112 : ∀ (N : Nat) (v3_112 : Int) (σL_112 : Nat → Nat → Int) (H : Heap) (locs : List Loc) (ls : Array Slot), N = (2147483647 - v3_112 : Int).toNat → (0 ≤ v3_112) → (v3_112 ≤ 28 * (σL_50 a0 38)) → ((σL_112 (G a0 0)) 7 = (σL_50 a0 38)) → (∀ q : Nat, q < 7 ∨ 240 ≤ q → (σL_112 (G a0 0)) q = σ (G a0 0) q) → (∀ q : Nat, 16 + v3_112 ≤ (q : Int) → (σL_112 (G a0 0)) q = σ (G a0 0) q) → (∀ j : Int, 0 ≤ j → j < v3_112 → (σL_112 (G a0 0)) (16 + j).toNat = (σL_50 (G a0 37)) j.toNat) → rg v3_112 → PW D cA τ G L σL_112 H → va_S (fun q => q ∈ L) s.heap H locs → fr wr_X12_query τ σ σL_112 → σL_112 a0 1 = σ a0 1 → σL_112 a0 12 = σL_50 a0 12 → σL_112 (G a0 37) = σL_50 (G a0 37) → σL_112 a0 38 = σL_50 a0 38 → lv_has ls 4 [(0, .ref a0), (3, .int (jI v3_112))] → W p l e ({ frames := 5, cells := 0, slots := 0, locals := 113 }) s m args below meth c H locs 0 0 Q (F0 m 112 ls []) := by
                    intro N
                    induction N using Nat.strongRecOn with
                    | ind N ih_112 =>
                      intro v3_112 σL_112 H locs ls hN i0_112 i1_112 i2_112 i3_112 i4_112 i5_112 rv3_112 hW hF hR Ekept Eplace0 Edraft Edrafted hl
                      refine lv_iload_n hx hb dX12_query_112 rfl (lv_at hl 1 rfl) ?_
                      refine j_bi hx hb dX12_query_113 (by decide) ?_
                      refine lv_aload_n hx hb dX12_query_115 rfl (lv_at hl 0 rfl) ?_
                      refine j_getI hx hb (C := RX12) (T := TX12) (N := 41) hts inX12_query_X12 hown hK hS hW h0 rfl 38 rfl rfl (by decide) (hts _ flX12_query_351) dX12_query_116 ?_
                      rw [Edrafted]
                      refine j_mul hx hb dX12_query_119 ?_
                      refine j_icmp_ge (tgt := 144) hx hb (by omega) (by omega) dX12_query_120 (by decide) (fun c_49 => ?_) (fun c_49 => ?_)
                      · have hfq := FI_mid hI0 q0 (fun q hq => i3_112 q (by omega)) (FQ_query hI0.2.1 hDR (by omega) (by omega) i2_112 i5_112 (by omega) (by omega) i4_112) Ekept
                        have hI := hfq.1
                        refine lv_aload_n hx hb dX12_query_144 rfl (lv_at hl 0 rfl) ?_
                        refine j_cV (j_runV (As := []) (rest := []) hx hb hml hown hts hK hS hW (kX12_finds l hS σL_112 (a0 := a0) (h0 := h0) (hI := hI)) 0 gX12_query_X12_finds rfl hvX12_finds ⟨Nat.le_of_ble_eq_true rfl, Nat.le_of_ble_eq_true rfl⟩ rfl rfl h0 rfl rfl rfl rfl hl.1 rfl (Nat.le_of_ble_eq_true rfl) dX12_query_145 ⟨Nat.le_of_ble_eq_true rfl, Nat.le_of_ble_eq_true rfl⟩) hA hF (fun σ_50 H locs hW hF pσ_50 => ?_)
                        try dsimp only at pσ_50
                        obtain ⟨pσ_50, fpσ_50⟩ := pσ_50
                        try simp only [Ekept, Eplace0, Edraft, Edrafted] at pσ_50
                        have q_finds := pσ_50
                        have hR := fr_call hR fpσ_50 (by decide)
                        have Efile : σ_50 (G a0 0) = σL_112 (G a0 0) := row_fr fpσ_50 hk_file 40 (by decide) (by decide)
                        try clear hcf
                        have hcf := congrFun Efile 0
                        have Ekept : σ_50 a0 1 = σ a0 1 := (fr_at fpσ_50 h0 1 13001 rfl (by decide)).trans Ekept
                        have Eplace0 : σ_50 a0 12 = σL_50 a0 12 := (fr_at fpσ_50 h0 12 13012 rfl (by decide)).trans Eplace0
                        have Edraft : σ_50 (G a0 37) = σL_50 (G a0 37) := (row_fr fpσ_50 hk_draft 51 (by decide) (by decide)).trans Edraft
                        have Edrafted : σ_50 a0 38 = σL_50 a0 38 := (fr_at fpσ_50 h0 38 13038 rfl (by decide)).trans Edrafted
                        have hI := FI_dep hS h0 hI (kp_fr fpσ_50 (by decide))
                        refine lv_aload_n hx hb dX12_query_148 rfl (lv_at hl 0 rfl) ?_
                        refine j_getI hx hb (C := RX12) (T := TX12) (N := 41) hts inX12_query_X12 hown hK hS hW h0 rfl 40 rfl rfl (by decide) (hts _ flX12_query_360) dX12_query_149 ?_
                        have := fbd hW h0 (k := 40) (lo := 0) (hi := 150) rfl rfl
                        exact hRet 152 _ _ _ (σ_50 a0 40) _ dX12_query_152 hW hF (by omega) ⟨(by first | exact ⟨hI, (by first | exact hfq.2 | (rw [Efile]; exact hfq.2))⟩ | (simp only [Efile, Ekept, Eplace0, Edraft, Edrafted]; exact ⟨hI, (by first | exact hfq.2 | (rw [Efile]; exact hfq.2))⟩)), hR⟩
                      · refine lv_aload_n hx hb dX12_query_123 rfl (lv_at hl 0 rfl) ?_
                        refine j_getR hx hb (C := RX12) (T := TX12) (N := 41) hts inX12_query_X12 hown hK hS hW h0 rfl 0 rfl rfl (by decide) (hts _ flX12_query_7) dX12_query_124 ?_
                        refine j_bi hx hb dX12_query_127 (by decide) ?_
                        refine lv_iload_n hx hb dX12_query_129 rfl (lv_at hl 1 rfl) ?_
                        refine j_add hx hb dX12_query_130 ?_
                        refine lv_aload_n hx hb dX12_query_131 rfl (lv_at hl 0 rfl) ?_
                        refine j_getR hx hb (C := RX12) (T := TX12) (N := 41) hts inX12_query_X12 hown hK hS hW h0 rfl 37 rfl rfl (by decide) (hts _ flX12_query_44) dX12_query_132 ?_
                        refine lv_iload_n hx hb dX12_query_135 rfl (lv_at hl 1 rfl) ?_
                        refine j_ald hx hb hK hS hW hk_draft (n := 224) rfl (by omega) (by omega) (by decide) dX12_query_136 ?_
                        have := abd hW hk_draft (n := 224) (lo := -2147483648) (hi := 2147483647) (i := v3_112) rfl (by omega) (by omega)
                        rw [Edraft]
                        try simp only [Edraft] at this
                        refine j_ast hx hb hK hS hA hW hF hk_file (n := 17624) (lo := -2147483648) (hi := 2147483647) rfl (by omega) (by omega) (by decide) (by omega) dX12_query_137 (fun σ_51 H locs e_52 hW hF => ?_)
                        have st_file := e_52
                        have hR := fr_up hR e_52 hk_file 40000 (cdA 40 (by decide) _) (by decide)
                        have Ekept : σ_51 a0 1 = σ a0 1 := (fld_up e_52 hk_file h0 (fun q => absurd q.1 (by decide))).trans Ekept
                        have Eplace0 : σ_51 a0 12 = σL_50 a0 12 := (fld_up e_52 hk_file h0 (fun q => absurd q.1 (by decide))).trans Eplace0
                        have Edraft : σ_51 (G a0 37) = σL_50 (G a0 37) := (row_up e_52 hk_file hk_draft (by decide)).trans Edraft
                        have Edrafted : σ_51 a0 38 = σL_50 a0 38 := (fld_up e_52 hk_file h0 (fun q => absurd q.1 (by decide))).trans Edrafted
                        refine j_iinc (lv' := [(3, .int (jI (v3_112 + 1))), (0, .ref a0)]) hx hb dX12_query_138 hl (k := 1) rfl (by decide) rfl (fun ls hl => ?_)
                        refine lv_goto (tgt := 112) hx hb dX12_query_141 (by decide) ?_
                        exact ih_112 ((2147483647 - (v3_112 + 1) : Int).toNat) (by omega) (v3_112 + 1) σ_51 _ _ _ rfl (by omega) (by omega) (by first | exact (by first | (rw [st_file, up2_ne _ _ (by omega)]; exact i2_112) | (rw [st_file]; exact up2_at _ _ _ _)) | (simp only [Ekept, Eplace0, Edraft, Edrafted]; exact (by first | (rw [st_file, up2_ne _ _ (by omega)]; exact i2_112) | (rw [st_file]; exact up2_at _ _ _ _)))) (by first | exact (fun q hq => by (rw [st_file, up2_ne _ _ (by omega)]; first | exact i3_112 q hq | rfl | (rw [Efile]))) | (simp only [Ekept, Eplace0, Edraft, Edrafted]; exact (fun q hq => by (rw [st_file, up2_ne _ _ (by omega)]; first | exact i3_112 q hq | rfl | (rw [Efile]))))) (by first | exact (fun q hq => by (rw [st_file, up2_ne _ _ (by omega)]; first | exact i4_112 q (by omega) | rfl | (rw [Efile]))) | (simp only [Ekept, Eplace0, Edraft, Edrafted]; exact (fun q hq => by (rw [st_file, up2_ne _ _ (by omega)]; first | exact i4_112 q (by omega) | rfl | (rw [Efile]))))) (by first | exact (by first | exact qy_s i5_112 st_file (by omega) (by rfl) | (intro j j0 j1; exfalso; omega)) | (simp only [Ekept, Eplace0, Edraft, Edrafted]; exact (by first | exact qy_s i5_112 st_file (by omega) (by rfl) | (intro j j0 j1; exfalso; omega)))) (by omega) hW hF hR Ekept Eplace0 Edraft Edrafted (lv_sub hl [1, 0] rfl)
                  exact L_112 ((2147483647 - 0 : Int).toNat) 0 σ_47 _ _ _ rfl (by omega) (by omega) (by first | exact (by first | (rw [st_file, up2_ne _ _ (by omega)]; exact i2_112) | (rw [st_file]; exact up2_at _ _ _ _)) | (simp only [Ekept, Eplace0, Edraft, Edrafted]; exact (by first | (rw [st_file, up2_ne _ _ (by omega)]; exact i2_112) | (rw [st_file]; exact up2_at _ _ _ _)))) (by first | exact (fun q hq => by (rw [st_file, up2_ne _ _ (by omega)]; first | exact i3_112 q hq | rfl | (rw [Efile]))) | (simp only [Ekept, Eplace0, Edraft, Edrafted]; exact (fun q hq => by (rw [st_file, up2_ne _ _ (by omega)]; first | exact i3_112 q hq | rfl | (rw [Efile]))))) (by first | exact (fun q hq => by (rw [st_file, up2_ne _ _ (by omega)]; first | exact i4_112 q (by omega) | rfl | (rw [Efile]))) | (simp only [Ekept, Eplace0, Edraft, Edrafted]; exact (fun q hq => by (rw [st_file, up2_ne _ _ (by omega)]; first | exact i4_112 q (by omega) | rfl | (rw [Efile]))))) (by first | exact (by first | exact qy_s i5_112 st_file (by omega) (by rfl) | (intro j j0 j1; exfalso; omega)) | (simp only [Ekept, Eplace0, Edraft, Edrafted]; exact (by first | exact qy_s i5_112 st_file (by omega) (by rfl) | (intro j j0 j1; exfalso; omega)))) (by decide) hW hF hR Ekept Eplace0 Edraft Edrafted (lv_sub hl [1, 0] rfl)
                · refine lv_aload_n hx hb dX12_query_94 rfl (lv_at hl 0 rfl) ?_
                  refine j_getI hx hb (C := RX12) (T := TX12) (N := 41) hts inX12_query_X12 hown hK hS hW h0 rfl 14 rfl rfl (by decide) (hts _ flX12_query_186) dX12_query_95 ?_
                  have := fbd hW h0 (k := 14) (lo := -2147483648) (hi := 2147483647) rfl rfl
                  exact hRet 98 _ _ _ (σL_50 a0 14) _ dX12_query_98 hW hF (by omega) ⟨(by first | exact ⟨hI, q0⟩ | (simp only [Efile, Ekept]; exact ⟨hI, q0⟩)), hR⟩
              · refine lv_aload_n hx hb dX12_query_65 rfl (lv_at hl 0 rfl) ?_
                refine j_bi hx hb dX12_query_66 (by decide) ?_
                refine j_cI (j_runV (As := [.int (jI 59)]) (rest := []) hx hb hml hown hts hK hS hW (kX12_takesSign l hS σL_50 (a0 := a0) (h0 := h0) (x1 := 59) (r1 := (by decide)) (q0 := (by omega))) 1 gX12_query_X12_takesSign rfl hvX12_takesSign ⟨Nat.le_of_ble_eq_true rfl, Nat.le_of_ble_eq_true rfl⟩ rfl rfl h0 rfl rfl rfl rfl hl.1 rfl (Nat.le_of_ble_eq_true rfl) dX12_query_68 ⟨Nat.le_of_ble_eq_true rfl, Nat.le_of_ble_eq_true rfl⟩) hA hF (fun v_53 σ_54 H locs hW hF rv_53 pv_53 => ?_)
                try dsimp only at pv_53
                obtain ⟨bpv_53, pv_53, fpv_53⟩ := pv_53
                try simp only [Efile, Ekept] at pv_53
                have q_takesSign := pv_53
                have hR := fr_call hR fpv_53 (by decide)
                have Efile : σ_54 (G a0 0) = σ (G a0 0) := (row_fr fpv_53 hk_file 40 (by decide) (by decide)).trans Efile
                try clear hcf
                have hcf := congrFun Efile 0
                have Ekept : σ_54 a0 1 = σ a0 1 := (fr_at fpv_53 h0 1 13001 rfl (by decide)).trans Ekept
                have Edraft : σ_54 (G a0 37) = σL_50 (G a0 37) := row_fr fpv_53 hk_draft 51 (by decide) (by decide)
                have Edrafted : σ_54 a0 38 = σL_50 a0 38 := fr_at fpv_53 h0 38 13038 rfl (by decide)
                have hI := FI_dep hS h0 hI (kp_fr fpv_53 (by decide))
                refine j_if_eq (tgt := 85) hx hb (by omega) dX12_query_71 (by decide) (fun c_55 => ?_) (fun c_55 => ?_)
                · refine j_const hx hb dX12_query_85 ?_
                  refine lv_istore_n (lv' := [(2, .int (jI 0)), (0, .ref a0)]) hx hb dX12_query_86 rfl hl (by decide) rfl (fun ls hl => ?_)
                  refine lv_goto (tgt := 50) hx hb dX12_query_87 (by decide) ?_
                  exact ih_50 ((2 * (300 - σ_54 a0 12) + 0 : Int).toNat) (by omega) 0 σ_54 _ _ _ rfl (by omega) (by omega) (by first | exact (by first | exact q_readsStep.1 | (intro h; exfalso; omega) | (intro _; exact q_readsStep.1 (by omega)) | exact fun _ s s0 s1 => by (exfalso; omega)) | (simp only [Efile, Ekept, Edraft, Edrafted]; exact (by first | exact q_readsStep.1 | (intro h; exfalso; omega) | (intro _; exact q_readsStep.1 (by omega)) | exact fun _ s s0 s1 => by (exfalso; omega)))) (by decide) hW hF hR hI Efile Ekept (lv_sub hl [1, 0] rfl)
                · refine lv_aload_n hx hb dX12_query_74 rfl (lv_at hl 0 rfl) ?_
                  refine j_cI (j_runV (As := []) (rest := []) hx hb hml hown hts hK hS hW (kX12_readsStep l hS σ_54 (a0 := a0) (h0 := h0) (q0 := (by first | exact i2_50 (by omega) | (simp only [Edraft, Edrafted]; exact i2_50 (by omega))))) 0 gX12_query_X12_readsStep rfl hvX12_readsStep ⟨Nat.le_of_ble_eq_true rfl, Nat.le_of_ble_eq_true rfl⟩ rfl rfl h0 rfl rfl rfl rfl hl.1 rfl (Nat.le_of_ble_eq_true rfl) dX12_query_75 ⟨Nat.le_of_ble_eq_true rfl, Nat.le_of_ble_eq_true rfl⟩) hA hF (fun v_56 σ_57 H locs hW hF rv_56 pv_56 => ?_)
                  try dsimp only at pv_56
                  obtain ⟨bpv_56, pv_56, fpv_56⟩ := pv_56
                  try simp only [Efile, Ekept, Edraft, Edrafted] at pv_56
                  have q_readsStep := pv_56
                  have hR := fr_call hR fpv_56 (by decide)
                  have Efile : σ_57 (G a0 0) = σ (G a0 0) := (row_fr fpv_56 hk_file 40 (by decide) (by decide)).trans Efile
                  try clear hcf
                  have hcf := congrFun Efile 0
                  have Ekept : σ_57 a0 1 = σ a0 1 := (fr_at fpv_56 h0 1 13001 rfl (by decide)).trans Ekept
                  have hI := FI_dep hS h0 hI (kp_fr fpv_56 (by decide))
                  refine j_if_eq (tgt := 85) hx hb (by omega) dX12_query_78 (by decide) (fun c_58 => ?_) (fun c_58 => ?_)
                  · refine j_const hx hb dX12_query_85 ?_
                    refine lv_istore_n (lv' := [(2, .int (jI 0)), (0, .ref a0)]) hx hb dX12_query_86 rfl hl (by decide) rfl (fun ls hl => ?_)
                    refine lv_goto (tgt := 50) hx hb dX12_query_87 (by decide) ?_
                    exact ih_50 ((2 * (300 - σ_57 a0 12) + 0 : Int).toNat) (by omega) 0 σ_57 _ _ _ rfl (by omega) (by omega) (by first | exact (by first | exact q_readsStep.1 | (intro h; exfalso; omega) | (intro _; exact q_readsStep.1 (by omega)) | exact fun _ s s0 s1 => by (exfalso; omega)) | (simp only [Efile, Ekept]; exact (by first | exact q_readsStep.1 | (intro h; exfalso; omega) | (intro _; exact q_readsStep.1 (by omega)) | exact fun _ s s0 s1 => by (exfalso; omega)))) (by decide) hW hF hR hI Efile Ekept (lv_sub hl [1, 0] rfl)
                  · refine j_const hx hb dX12_query_81 ?_
                    refine lv_goto (tgt := 86) hx hb dX12_query_82 (by decide) ?_
                    refine lv_istore_n (lv' := [(2, .int (jI 1)), (0, .ref a0)]) hx hb dX12_query_86 rfl hl (by decide) rfl (fun ls hl => ?_)
                    refine lv_goto (tgt := 50) hx hb dX12_query_87 (by decide) ?_
                    exact ih_50 ((2 * (300 - σ_57 a0 12) + 1 : Int).toNat) (by omega) 1 σ_57 _ _ _ rfl (by omega) (by omega) (by first | exact (by first | exact q_readsStep.1 | (intro h; exfalso; omega) | (intro _; exact q_readsStep.1 (by omega)) | exact fun _ s s0 s1 => by (exfalso; omega)) | (simp only [Efile, Ekept]; exact (by first | exact q_readsStep.1 | (intro h; exfalso; omega) | (intro _; exact q_readsStep.1 (by omega)) | exact fun _ s s0 s1 => by (exfalso; omega)))) (by decide) hW hF hR hI Efile Ekept (lv_sub hl [1, 0] rfl)
        exact L_50 ((2 * (300 - σ_35 a0 12) + 0 : Int).toNat) 0 σ_35 _ _ _ rfl (by omega) (by omega) (by first | exact (by first | exact q_readsStep.1 | (intro h; exfalso; omega) | (intro _; exact q_readsStep.1 (by omega)) | exact fun _ s s0 s1 => by (exfalso; omega)) | (simp only [Efile, Ekept]; exact (by first | exact q_readsStep.1 | (intro h; exfalso; omega) | (intro _; exact q_readsStep.1 (by omega)) | exact fun _ s s0 s1 => by (exfalso; omega)))) (by decide) hW hF hR hI Efile Ekept (lv_sub hl [1, 0] rfl)
      · refine j_const hx hb dX12_query_44 ?_
        refine lv_goto (tgt := 49) hx hb dX12_query_45 (by decide) ?_
        refine lv_istore_n (lv' := [(2, .int (jI 1)), (0, .ref a0), (1, .int (jI x1))]) hx hb dX12_query_49 rfl hl (by decide) rfl (fun ls hl => ?_)
        have L_50 : ∀ (N : Nat) (v2_50 : Int) (σL_50 : Nat → Nat → Int) (H : Heap) (locs : List Loc) (ls : Array Slot), N = (2 * (300 - σL_50 a0 12) + v2_50 : Int).toNat → (0 ≤ v2_50) → (v2_50 ≤ 1) → (v2_50 = 1 → DR (σL_50 (G a0 37)) (σL_50 a0 38)) → rg v2_50 → PW D cA τ G L σL_50 H → va_S (fun q => q ∈ L) s.heap H locs → fr wr_X12_query τ σ σL_50 → FI G a0 σL_50 → σL_50 (G a0 0) = σ (G a0 0) → σL_50 a0 1 = σ a0 1 → lv_has ls 4 [(0, .ref a0), (2, .int (jI v2_50))] → W p l e ({ frames := 5, cells := 0, slots := 0, locals := 113 }) s m args below meth c H locs 0 0 Q (F0 m 50 ls []) := by
          intro N
          induction N using Nat.strongRecOn with
          | ind N ih_50 =>
            intro v2_50 σL_50 H locs ls hN i0_50 i1_50 i2_50 rv2_50 hW hF hR hI Efile Ekept hl
            try clear hcf
            try clear hfk
            have hcf := congrFun Efile 0
            have := fbd hW h0 (k := 38) (lo := 0) (hi := 8) rfl rfl
            have := fbd hW h0 (k := 12) (lo := 0) (hi := 200) rfl rfl
            refine lv_iload_n hx hb dX12_query_50 rfl (lv_at hl 1 rfl) ?_
            refine j_if_eq (tgt := 90) hx hb (by omega) dX12_query_51 (by decide) (fun c_59 => ?_) (fun c_59 => ?_)
            · refine lv_iload_n hx hb dX12_query_90 rfl (lv_at hl 1 rfl) ?_
              refine j_if_ne (tgt := 99) hx hb (by omega) dX12_query_91 (by decide) (fun c_60 => ?_) (fun c_60 => ?_)
              · have hDR := i2_50 (by omega)
                refine lv_aload_n hx hb dX12_query_99 rfl (lv_at hl 0 rfl) ?_
                refine j_getR hx hb (C := RX12) (T := TX12) (N := 41) hts inX12_query_X12 hown hK hS hW h0 rfl 0 rfl rfl (by decide) (hts _ flX12_query_7) dX12_query_100 ?_
                refine j_bi hx hb dX12_query_103 (by decide) ?_
                refine lv_aload_n hx hb dX12_query_105 rfl (lv_at hl 0 rfl) ?_
                refine j_getI hx hb (C := RX12) (T := TX12) (N := 41) hts inX12_query_X12 hown hK hS hW h0 rfl 38 rfl rfl (by decide) (hts _ flX12_query_351) dX12_query_106 ?_
                have := fbd hW h0 (k := 38) (lo := 0) (hi := 8) rfl rfl
                refine j_ast hx hb hK hS hA hW hF hk_file (n := 17624) (lo := -2147483648) (hi := 2147483647) rfl (by omega) (by omega) (by decide) (by omega) dX12_query_109 (fun σ_61 H locs e_62 hW hF => ?_)
                have st_file := e_62
                have hR := fr_up hR e_62 hk_file 40000 (cdA 40 (by decide) _) (by decide)
                have Ekept : σ_61 a0 1 = σ a0 1 := (fld_up e_62 hk_file h0 (fun q => absurd q.1 (by decide))).trans Ekept
                have Eplace0 : σ_61 a0 12 = σL_50 a0 12 := fld_up e_62 hk_file h0 (fun q => absurd q.1 (by decide))
                have Edraft : σ_61 (G a0 37) = σL_50 (G a0 37) := row_up e_62 hk_file hk_draft (by decide)
                have Edrafted : σ_61 a0 38 = σL_50 a0 38 := fld_up e_62 hk_file h0 (fun q => absurd q.1 (by decide))
                have sf7 := st_file
                refine j_const hx hb dX12_query_110 ?_
                refine lv_istore_n (lv' := [(3, .int (jI 0)), (0, .ref a0), (2, .int (jI v2_50))]) hx hb dX12_query_111 rfl hl (by decide) rfl (fun ls hl => ?_)
                have L_112 : ∀ (N : Nat) (v3_112 : Int) (σL_112 : Nat → Nat → Int) (H : Heap) (locs : List Loc) (ls : Array Slot), N = (2147483647 - v3_112 : Int).toNat → (0 ≤ v3_112) → (v3_112 ≤ 28 * (σL_50 a0 38)) → ((σL_112 (G a0 0)) 7 = (σL_50 a0 38)) → (∀ q : Nat, q < 7 ∨ 240 ≤ q → (σL_112 (G a0 0)) q = σ (G a0 0) q) → (∀ q : Nat, 16 + v3_112 ≤ (q : Int) → (σL_112 (G a0 0)) q = σ (G a0 0) q) → (∀ j : Int, 0 ≤ j → j < v3_112 → (σL_112 (G a0 0)) (16 + j).toNat = (σL_50 (G a0 37)) j.toNat) → rg v3_112 → PW D cA τ G L σL_112 H → va_S (fun q => q ∈ L) s.heap H locs → fr wr_X12_query τ σ σL_112 → σL_112 a0 1 = σ a0 1 → σL_112 a0 12 = σL_50 a0 12 → σL_112 (G a0 37) = σL_50 (G a0 37) → σL_112 a0 38 = σL_50 a0 38 → lv_has ls 4 [(0, .ref a0), (3, .int (jI v3_112))] → W p l e ({ frames := 5, cells := 0, slots := 0, locals := 113 }) s m args below meth c H locs 0 0 Q (F0 m 112 ls []) := by
                  intro N
                  induction N using Nat.strongRecOn with
                  | ind N ih_112 =>
                    intro v3_112 σL_112 H locs ls hN i0_112 i1_112 i2_112 i3_112 i4_112 i5_112 rv3_112 hW hF hR Ekept Eplace0 Edraft Edrafted hl
                    refine lv_iload_n hx hb dX12_query_112 rfl (lv_at hl 1 rfl) ?_
                    refine j_bi hx hb dX12_query_113 (by decide) ?_
                    refine lv_aload_n hx hb dX12_query_115 rfl (lv_at hl 0 rfl) ?_
                    refine j_getI hx hb (C := RX12) (T := TX12) (N := 41) hts inX12_query_X12 hown hK hS hW h0 rfl 38 rfl rfl (by decide) (hts _ flX12_query_351) dX12_query_116 ?_
                    rw [Edrafted]
                    refine j_mul hx hb dX12_query_119 ?_
                    refine j_icmp_ge (tgt := 144) hx hb (by omega) (by omega) dX12_query_120 (by decide) (fun c_63 => ?_) (fun c_63 => ?_)
                    · have hfq := FI_mid hI0 q0 (fun q hq => i3_112 q (by omega)) (FQ_query hI0.2.1 hDR (by omega) (by omega) i2_112 i5_112 (by omega) (by omega) i4_112) Ekept
                      have hI := hfq.1
                      refine lv_aload_n hx hb dX12_query_144 rfl (lv_at hl 0 rfl) ?_
                      refine j_cV (j_runV (As := []) (rest := []) hx hb hml hown hts hK hS hW (kX12_finds l hS σL_112 (a0 := a0) (h0 := h0) (hI := hI)) 0 gX12_query_X12_finds rfl hvX12_finds ⟨Nat.le_of_ble_eq_true rfl, Nat.le_of_ble_eq_true rfl⟩ rfl rfl h0 rfl rfl rfl rfl hl.1 rfl (Nat.le_of_ble_eq_true rfl) dX12_query_145 ⟨Nat.le_of_ble_eq_true rfl, Nat.le_of_ble_eq_true rfl⟩) hA hF (fun σ_64 H locs hW hF pσ_64 => ?_)
                      try dsimp only at pσ_64
                      obtain ⟨pσ_64, fpσ_64⟩ := pσ_64
                      try simp only [Ekept, Eplace0, Edraft, Edrafted] at pσ_64
                      have q_finds := pσ_64
                      have hR := fr_call hR fpσ_64 (by decide)
                      have Efile : σ_64 (G a0 0) = σL_112 (G a0 0) := row_fr fpσ_64 hk_file 40 (by decide) (by decide)
                      try clear hcf
                      have hcf := congrFun Efile 0
                      have Ekept : σ_64 a0 1 = σ a0 1 := (fr_at fpσ_64 h0 1 13001 rfl (by decide)).trans Ekept
                      have Eplace0 : σ_64 a0 12 = σL_50 a0 12 := (fr_at fpσ_64 h0 12 13012 rfl (by decide)).trans Eplace0
                      have Edraft : σ_64 (G a0 37) = σL_50 (G a0 37) := (row_fr fpσ_64 hk_draft 51 (by decide) (by decide)).trans Edraft
                      have Edrafted : σ_64 a0 38 = σL_50 a0 38 := (fr_at fpσ_64 h0 38 13038 rfl (by decide)).trans Edrafted
                      have hI := FI_dep hS h0 hI (kp_fr fpσ_64 (by decide))
                      refine lv_aload_n hx hb dX12_query_148 rfl (lv_at hl 0 rfl) ?_
                      refine j_getI hx hb (C := RX12) (T := TX12) (N := 41) hts inX12_query_X12 hown hK hS hW h0 rfl 40 rfl rfl (by decide) (hts _ flX12_query_360) dX12_query_149 ?_
                      have := fbd hW h0 (k := 40) (lo := 0) (hi := 150) rfl rfl
                      exact hRet 152 _ _ _ (σ_64 a0 40) _ dX12_query_152 hW hF (by omega) ⟨(by first | exact ⟨hI, (by first | exact hfq.2 | (rw [Efile]; exact hfq.2))⟩ | (simp only [Efile, Ekept, Eplace0, Edraft, Edrafted]; exact ⟨hI, (by first | exact hfq.2 | (rw [Efile]; exact hfq.2))⟩)), hR⟩
                    · refine lv_aload_n hx hb dX12_query_123 rfl (lv_at hl 0 rfl) ?_
                      refine j_getR hx hb (C := RX12) (T := TX12) (N := 41) hts inX12_query_X12 hown hK hS hW h0 rfl 0 rfl rfl (by decide) (hts _ flX12_query_7) dX12_query_124 ?_
                      refine j_bi hx hb dX12_query_127 (by decide) ?_
                      refine lv_iload_n hx hb dX12_query_129 rfl (lv_at hl 1 rfl) ?_
                      refine j_add hx hb dX12_query_130 ?_
                      refine lv_aload_n hx hb dX12_query_131 rfl (lv_at hl 0 rfl) ?_
                      refine j_getR hx hb (C := RX12) (T := TX12) (N := 41) hts inX12_query_X12 hown hK hS hW h0 rfl 37 rfl rfl (by decide) (hts _ flX12_query_44) dX12_query_132 ?_
                      refine lv_iload_n hx hb dX12_query_135 rfl (lv_at hl 1 rfl) ?_
                      refine j_ald hx hb hK hS hW hk_draft (n := 224) rfl (by omega) (by omega) (by decide) dX12_query_136 ?_
                      have := abd hW hk_draft (n := 224) (lo := -2147483648) (hi := 2147483647) (i := v3_112) rfl (by omega) (by omega)
                      rw [Edraft]
                      try simp only [Edraft] at this
                      refine j_ast hx hb hK hS hA hW hF hk_file (n := 17624) (lo := -2147483648) (hi := 2147483647) rfl (by omega) (by omega) (by decide) (by omega) dX12_query_137 (fun σ_65 H locs e_66 hW hF => ?_)
                      have st_file := e_66
                      have hR := fr_up hR e_66 hk_file 40000 (cdA 40 (by decide) _) (by decide)
                      have Ekept : σ_65 a0 1 = σ a0 1 := (fld_up e_66 hk_file h0 (fun q => absurd q.1 (by decide))).trans Ekept
                      have Eplace0 : σ_65 a0 12 = σL_50 a0 12 := (fld_up e_66 hk_file h0 (fun q => absurd q.1 (by decide))).trans Eplace0
                      have Edraft : σ_65 (G a0 37) = σL_50 (G a0 37) := (row_up e_66 hk_file hk_draft (by decide)).trans Edraft
                      have Edrafted : σ_65 a0 38 = σL_50 a0 38 := (fld_up e_66 hk_file h0 (fun q => absurd q.1 (by decide))).trans Edrafted
                      refine j_iinc (lv' := [(3, .int (jI (v3_112 + 1))), (0, .ref a0)]) hx hb dX12_query_138 hl (k := 1) rfl (by decide) rfl (fun ls hl => ?_)
                      refine lv_goto (tgt := 112) hx hb dX12_query_141 (by decide) ?_
                      exact ih_112 ((2147483647 - (v3_112 + 1) : Int).toNat) (by omega) (v3_112 + 1) σ_65 _ _ _ rfl (by omega) (by omega) (by first | exact (by first | (rw [st_file, up2_ne _ _ (by omega)]; exact i2_112) | (rw [st_file]; exact up2_at _ _ _ _)) | (simp only [Ekept, Eplace0, Edraft, Edrafted]; exact (by first | (rw [st_file, up2_ne _ _ (by omega)]; exact i2_112) | (rw [st_file]; exact up2_at _ _ _ _)))) (by first | exact (fun q hq => by (rw [st_file, up2_ne _ _ (by omega)]; first | exact i3_112 q hq | rfl | (rw [Efile]))) | (simp only [Ekept, Eplace0, Edraft, Edrafted]; exact (fun q hq => by (rw [st_file, up2_ne _ _ (by omega)]; first | exact i3_112 q hq | rfl | (rw [Efile]))))) (by first | exact (fun q hq => by (rw [st_file, up2_ne _ _ (by omega)]; first | exact i4_112 q (by omega) | rfl | (rw [Efile]))) | (simp only [Ekept, Eplace0, Edraft, Edrafted]; exact (fun q hq => by (rw [st_file, up2_ne _ _ (by omega)]; first | exact i4_112 q (by omega) | rfl | (rw [Efile]))))) (by first | exact (by first | exact qy_s i5_112 st_file (by omega) (by rfl) | (intro j j0 j1; exfalso; omega)) | (simp only [Ekept, Eplace0, Edraft, Edrafted]; exact (by first | exact qy_s i5_112 st_file (by omega) (by rfl) | (intro j j0 j1; exfalso; omega)))) (by omega) hW hF hR Ekept Eplace0 Edraft Edrafted (lv_sub hl [1, 0] rfl)
                exact L_112 ((2147483647 - 0 : Int).toNat) 0 σ_61 _ _ _ rfl (by omega) (by omega) (by first | exact (by first | (rw [st_file, up2_ne _ _ (by omega)]; exact i2_112) | (rw [st_file]; exact up2_at _ _ _ _)) | (simp only [Ekept, Eplace0, Edraft, Edrafted]; exact (by first | (rw [st_file, up2_ne _ _ (by omega)]; exact i2_112) | (rw [st_file]; exact up2_at _ _ _ _)))) (by first | exact (fun q hq => by (rw [st_file, up2_ne _ _ (by omega)]; first | exact i3_112 q hq | rfl | (rw [Efile]))) | (simp only [Ekept, Eplace0, Edraft, Edrafted]; exact (fun q hq => by (rw [st_file, up2_ne _ _ (by omega)]; first | exact i3_112 q hq | rfl | (rw [Efile]))))) (by first | exact (fun q hq => by (rw [st_file, up2_ne _ _ (by omega)]; first | exact i4_112 q (by omega) | rfl | (rw [Efile]))) | (simp only [Ekept, Eplace0, Edraft, Edrafted]; exact (fun q hq => by (rw [st_file, up2_ne _ _ (by omega)]; first | exact i4_112 q (by omega) | rfl | (rw [Efile]))))) (by first | exact (by first | exact qy_s i5_112 st_file (by omega) (by rfl) | (intro j j0 j1; exfalso; omega)) | (simp only [Ekept, Eplace0, Edraft, Edrafted]; exact (by first | exact qy_s i5_112 st_file (by omega) (by rfl) | (intro j j0 j1; exfalso; omega)))) (by decide) hW hF hR Ekept Eplace0 Edraft Edrafted (lv_sub hl [1, 0] rfl)
              · refine lv_aload_n hx hb dX12_query_94 rfl (lv_at hl 0 rfl) ?_
                refine j_getI hx hb (C := RX12) (T := TX12) (N := 41) hts inX12_query_X12 hown hK hS hW h0 rfl 14 rfl rfl (by decide) (hts _ flX12_query_186) dX12_query_95 ?_
                have := fbd hW h0 (k := 14) (lo := -2147483648) (hi := 2147483647) rfl rfl
                exact hRet 98 _ _ _ (σL_50 a0 14) _ dX12_query_98 hW hF (by omega) ⟨(by first | exact ⟨hI, q0⟩ | (simp only [Efile, Ekept]; exact ⟨hI, q0⟩)), hR⟩
            · refine lv_aload_n hx hb dX12_query_54 rfl (lv_at hl 0 rfl) ?_
              refine j_getI hx hb (C := RX12) (T := TX12) (N := 41) hts inX12_query_X12 hown hK hS hW h0 rfl 12 rfl rfl (by decide) (hts _ flX12_query_180) dX12_query_55 ?_
              have := fbd hW h0 (k := 12) (lo := 0) (hi := 200) rfl rfl
              refine lv_aload_n hx hb dX12_query_58 rfl (lv_at hl 0 rfl) ?_
              refine j_getI hx hb (C := RX12) (T := TX12) (N := 41) hts inX12_query_X12 hown hK hS hW h0 rfl 13 rfl rfl (by decide) (hts _ flX12_query_183) dX12_query_59 ?_
              have := fbd hW h0 (k := 13) (lo := 0) (hi := 200) rfl rfl
              refine j_icmp_ge (tgt := 90) hx hb (by omega) (by omega) dX12_query_62 (by decide) (fun c_67 => ?_) (fun c_67 => ?_)
              · refine lv_iload_n hx hb dX12_query_90 rfl (lv_at hl 1 rfl) ?_
                refine j_if_ne (tgt := 99) hx hb (by omega) dX12_query_91 (by decide) (fun c_68 => ?_) (fun c_68 => ?_)
                · have hDR := i2_50 (by omega)
                  refine lv_aload_n hx hb dX12_query_99 rfl (lv_at hl 0 rfl) ?_
                  refine j_getR hx hb (C := RX12) (T := TX12) (N := 41) hts inX12_query_X12 hown hK hS hW h0 rfl 0 rfl rfl (by decide) (hts _ flX12_query_7) dX12_query_100 ?_
                  refine j_bi hx hb dX12_query_103 (by decide) ?_
                  refine lv_aload_n hx hb dX12_query_105 rfl (lv_at hl 0 rfl) ?_
                  refine j_getI hx hb (C := RX12) (T := TX12) (N := 41) hts inX12_query_X12 hown hK hS hW h0 rfl 38 rfl rfl (by decide) (hts _ flX12_query_351) dX12_query_106 ?_
                  have := fbd hW h0 (k := 38) (lo := 0) (hi := 8) rfl rfl
                  refine j_ast hx hb hK hS hA hW hF hk_file (n := 17624) (lo := -2147483648) (hi := 2147483647) rfl (by omega) (by omega) (by decide) (by omega) dX12_query_109 (fun σ_69 H locs e_70 hW hF => ?_)
                  have st_file := e_70
                  have hR := fr_up hR e_70 hk_file 40000 (cdA 40 (by decide) _) (by decide)
                  have Ekept : σ_69 a0 1 = σ a0 1 := (fld_up e_70 hk_file h0 (fun q => absurd q.1 (by decide))).trans Ekept
                  have Eplace0 : σ_69 a0 12 = σL_50 a0 12 := fld_up e_70 hk_file h0 (fun q => absurd q.1 (by decide))
                  have Edraft : σ_69 (G a0 37) = σL_50 (G a0 37) := row_up e_70 hk_file hk_draft (by decide)
                  have Edrafted : σ_69 a0 38 = σL_50 a0 38 := fld_up e_70 hk_file h0 (fun q => absurd q.1 (by decide))
                  have sf7 := st_file
                  refine j_const hx hb dX12_query_110 ?_
                  refine lv_istore_n (lv' := [(3, .int (jI 0)), (0, .ref a0), (2, .int (jI v2_50))]) hx hb dX12_query_111 rfl hl (by decide) rfl (fun ls hl => ?_)
                  have L_112 : ∀ (N : Nat) (v3_112 : Int) (σL_112 : Nat → Nat → Int) (H : Heap) (locs : List Loc) (ls : Array Slot), N = (2147483647 - v3_112 : Int).toNat → (0 ≤ v3_112) → (v3_112 ≤ 28 * (σL_50 a0 38)) → ((σL_112 (G a0 0)) 7 = (σL_50 a0 38)) → (∀ q : Nat, q < 7 ∨ 240 ≤ q → (σL_112 (G a0 0)) q = σ (G a0 0) q) → (∀ q : Nat, 16 + v3_112 ≤ (q : Int) → (σL_112 (G a0 0)) q = σ (G a0 0) q) → (∀ j : Int, 0 ≤ j → j < v3_112 → (σL_112 (G a0 0)) (16 + j).toNat = (σL_50 (G a0 37)) j.toNat) → rg v3_112 → PW D cA τ G L σL_112 H → va_S (fun q => q ∈ L) s.heap H locs → fr wr_X12_query τ σ σL_112 → σL_112 a0 1 = σ a0 1 → σL_112 a0 12 = σL_50 a0 12 → σL_112 (G a0 37) = σL_50 (G a0 37) → σL_112 a0 38 = σL_50 a0 38 → lv_has ls 4 [(0, .ref a0), (3, .int (jI v3_112))] → W p l e ({ frames := 5, cells := 0, slots := 0, locals := 113 }) s m args below meth c H locs 0 0 Q (F0 m 112 ls []) := by
                    intro N
                    induction N using Nat.strongRecOn with
                    | ind N ih_112 =>
                      intro v3_112 σL_112 H locs ls hN i0_112 i1_112 i2_112 i3_112 i4_112 i5_112 rv3_112 hW hF hR Ekept Eplace0 Edraft Edrafted hl
                      refine lv_iload_n hx hb dX12_query_112 rfl (lv_at hl 1 rfl) ?_
                      refine j_bi hx hb dX12_query_113 (by decide) ?_
                      refine lv_aload_n hx hb dX12_query_115 rfl (lv_at hl 0 rfl) ?_
                      refine j_getI hx hb (C := RX12) (T := TX12) (N := 41) hts inX12_query_X12 hown hK hS hW h0 rfl 38 rfl rfl (by decide) (hts _ flX12_query_351) dX12_query_116 ?_
                      rw [Edrafted]
                      refine j_mul hx hb dX12_query_119 ?_
                      refine j_icmp_ge (tgt := 144) hx hb (by omega) (by omega) dX12_query_120 (by decide) (fun c_71 => ?_) (fun c_71 => ?_)
                      · have hfq := FI_mid hI0 q0 (fun q hq => i3_112 q (by omega)) (FQ_query hI0.2.1 hDR (by omega) (by omega) i2_112 i5_112 (by omega) (by omega) i4_112) Ekept
                        have hI := hfq.1
                        refine lv_aload_n hx hb dX12_query_144 rfl (lv_at hl 0 rfl) ?_
                        refine j_cV (j_runV (As := []) (rest := []) hx hb hml hown hts hK hS hW (kX12_finds l hS σL_112 (a0 := a0) (h0 := h0) (hI := hI)) 0 gX12_query_X12_finds rfl hvX12_finds ⟨Nat.le_of_ble_eq_true rfl, Nat.le_of_ble_eq_true rfl⟩ rfl rfl h0 rfl rfl rfl rfl hl.1 rfl (Nat.le_of_ble_eq_true rfl) dX12_query_145 ⟨Nat.le_of_ble_eq_true rfl, Nat.le_of_ble_eq_true rfl⟩) hA hF (fun σ_72 H locs hW hF pσ_72 => ?_)
                        try dsimp only at pσ_72
                        obtain ⟨pσ_72, fpσ_72⟩ := pσ_72
                        try simp only [Ekept, Eplace0, Edraft, Edrafted] at pσ_72
                        have q_finds := pσ_72
                        have hR := fr_call hR fpσ_72 (by decide)
                        have Efile : σ_72 (G a0 0) = σL_112 (G a0 0) := row_fr fpσ_72 hk_file 40 (by decide) (by decide)
                        try clear hcf
                        have hcf := congrFun Efile 0
                        have Ekept : σ_72 a0 1 = σ a0 1 := (fr_at fpσ_72 h0 1 13001 rfl (by decide)).trans Ekept
                        have Eplace0 : σ_72 a0 12 = σL_50 a0 12 := (fr_at fpσ_72 h0 12 13012 rfl (by decide)).trans Eplace0
                        have Edraft : σ_72 (G a0 37) = σL_50 (G a0 37) := (row_fr fpσ_72 hk_draft 51 (by decide) (by decide)).trans Edraft
                        have Edrafted : σ_72 a0 38 = σL_50 a0 38 := (fr_at fpσ_72 h0 38 13038 rfl (by decide)).trans Edrafted
                        have hI := FI_dep hS h0 hI (kp_fr fpσ_72 (by decide))
                        refine lv_aload_n hx hb dX12_query_148 rfl (lv_at hl 0 rfl) ?_
                        refine j_getI hx hb (C := RX12) (T := TX12) (N := 41) hts inX12_query_X12 hown hK hS hW h0 rfl 40 rfl rfl (by decide) (hts _ flX12_query_360) dX12_query_149 ?_
                        have := fbd hW h0 (k := 40) (lo := 0) (hi := 150) rfl rfl
                        exact hRet 152 _ _ _ (σ_72 a0 40) _ dX12_query_152 hW hF (by omega) ⟨(by first | exact ⟨hI, (by first | exact hfq.2 | (rw [Efile]; exact hfq.2))⟩ | (simp only [Efile, Ekept, Eplace0, Edraft, Edrafted]; exact ⟨hI, (by first | exact hfq.2 | (rw [Efile]; exact hfq.2))⟩)), hR⟩
                      · refine lv_aload_n hx hb dX12_query_123 rfl (lv_at hl 0 rfl) ?_
                        refine j_getR hx hb (C := RX12) (T := TX12) (N := 41) hts inX12_query_X12 hown hK hS hW h0 rfl 0 rfl rfl (by decide) (hts _ flX12_query_7) dX12_query_124 ?_
                        refine j_bi hx hb dX12_query_127 (by decide) ?_
                        refine lv_iload_n hx hb dX12_query_129 rfl (lv_at hl 1 rfl) ?_
                        refine j_add hx hb dX12_query_130 ?_
                        refine lv_aload_n hx hb dX12_query_131 rfl (lv_at hl 0 rfl) ?_
                        refine j_getR hx hb (C := RX12) (T := TX12) (N := 41) hts inX12_query_X12 hown hK hS hW h0 rfl 37 rfl rfl (by decide) (hts _ flX12_query_44) dX12_query_132 ?_
                        refine lv_iload_n hx hb dX12_query_135 rfl (lv_at hl 1 rfl) ?_
                        refine j_ald hx hb hK hS hW hk_draft (n := 224) rfl (by omega) (by omega) (by decide) dX12_query_136 ?_
                        have := abd hW hk_draft (n := 224) (lo := -2147483648) (hi := 2147483647) (i := v3_112) rfl (by omega) (by omega)
                        rw [Edraft]
                        try simp only [Edraft] at this
                        refine j_ast hx hb hK hS hA hW hF hk_file (n := 17624) (lo := -2147483648) (hi := 2147483647) rfl (by omega) (by omega) (by decide) (by omega) dX12_query_137 (fun σ_73 H locs e_74 hW hF => ?_)
                        have st_file := e_74
                        have hR := fr_up hR e_74 hk_file 40000 (cdA 40 (by decide) _) (by decide)
                        have Ekept : σ_73 a0 1 = σ a0 1 := (fld_up e_74 hk_file h0 (fun q => absurd q.1 (by decide))).trans Ekept
                        have Eplace0 : σ_73 a0 12 = σL_50 a0 12 := (fld_up e_74 hk_file h0 (fun q => absurd q.1 (by decide))).trans Eplace0
                        have Edraft : σ_73 (G a0 37) = σL_50 (G a0 37) := (row_up e_74 hk_file hk_draft (by decide)).trans Edraft
                        have Edrafted : σ_73 a0 38 = σL_50 a0 38 := (fld_up e_74 hk_file h0 (fun q => absurd q.1 (by decide))).trans Edrafted
                        refine j_iinc (lv' := [(3, .int (jI (v3_112 + 1))), (0, .ref a0)]) hx hb dX12_query_138 hl (k := 1) rfl (by decide) rfl (fun ls hl => ?_)
                        refine lv_goto (tgt := 112) hx hb dX12_query_141 (by decide) ?_
                        exact ih_112 ((2147483647 - (v3_112 + 1) : Int).toNat) (by omega) (v3_112 + 1) σ_73 _ _ _ rfl (by omega) (by omega) (by first | exact (by first | (rw [st_file, up2_ne _ _ (by omega)]; exact i2_112) | (rw [st_file]; exact up2_at _ _ _ _)) | (simp only [Ekept, Eplace0, Edraft, Edrafted]; exact (by first | (rw [st_file, up2_ne _ _ (by omega)]; exact i2_112) | (rw [st_file]; exact up2_at _ _ _ _)))) (by first | exact (fun q hq => by (rw [st_file, up2_ne _ _ (by omega)]; first | exact i3_112 q hq | rfl | (rw [Efile]))) | (simp only [Ekept, Eplace0, Edraft, Edrafted]; exact (fun q hq => by (rw [st_file, up2_ne _ _ (by omega)]; first | exact i3_112 q hq | rfl | (rw [Efile]))))) (by first | exact (fun q hq => by (rw [st_file, up2_ne _ _ (by omega)]; first | exact i4_112 q (by omega) | rfl | (rw [Efile]))) | (simp only [Ekept, Eplace0, Edraft, Edrafted]; exact (fun q hq => by (rw [st_file, up2_ne _ _ (by omega)]; first | exact i4_112 q (by omega) | rfl | (rw [Efile]))))) (by first | exact (by first | exact qy_s i5_112 st_file (by omega) (by rfl) | (intro j j0 j1; exfalso; omega)) | (simp only [Ekept, Eplace0, Edraft, Edrafted]; exact (by first | exact qy_s i5_112 st_file (by omega) (by rfl) | (intro j j0 j1; exfalso; omega)))) (by omega) hW hF hR Ekept Eplace0 Edraft Edrafted (lv_sub hl [1, 0] rfl)
                  exact L_112 ((2147483647 - 0 : Int).toNat) 0 σ_69 _ _ _ rfl (by omega) (by omega) (by first | exact (by first | (rw [st_file, up2_ne _ _ (by omega)]; exact i2_112) | (rw [st_file]; exact up2_at _ _ _ _)) | (simp only [Ekept, Eplace0, Edraft, Edrafted]; exact (by first | (rw [st_file, up2_ne _ _ (by omega)]; exact i2_112) | (rw [st_file]; exact up2_at _ _ _ _)))) (by first | exact (fun q hq => by (rw [st_file, up2_ne _ _ (by omega)]; first | exact i3_112 q hq | rfl | (rw [Efile]))) | (simp only [Ekept, Eplace0, Edraft, Edrafted]; exact (fun q hq => by (rw [st_file, up2_ne _ _ (by omega)]; first | exact i3_112 q hq | rfl | (rw [Efile]))))) (by first | exact (fun q hq => by (rw [st_file, up2_ne _ _ (by omega)]; first | exact i4_112 q (by omega) | rfl | (rw [Efile]))) | (simp only [Ekept, Eplace0, Edraft, Edrafted]; exact (fun q hq => by (rw [st_file, up2_ne _ _ (by omega)]; first | exact i4_112 q (by omega) | rfl | (rw [Efile]))))) (by first | exact (by first | exact qy_s i5_112 st_file (by omega) (by rfl) | (intro j j0 j1; exfalso; omega)) | (simp only [Ekept, Eplace0, Edraft, Edrafted]; exact (by first | exact qy_s i5_112 st_file (by omega) (by rfl) | (intro j j0 j1; exfalso; omega)))) (by decide) hW hF hR Ekept Eplace0 Edraft Edrafted (lv_sub hl [1, 0] rfl)
                · refine lv_aload_n hx hb dX12_query_94 rfl (lv_at hl 0 rfl) ?_
                  refine j_getI hx hb (C := RX12) (T := TX12) (N := 41) hts inX12_query_X12 hown hK hS hW h0 rfl 14 rfl rfl (by decide) (hts _ flX12_query_186) dX12_query_95 ?_
                  have := fbd hW h0 (k := 14) (lo := -2147483648) (hi := 2147483647) rfl rfl
                  exact hRet 98 _ _ _ (σL_50 a0 14) _ dX12_query_98 hW hF (by omega) ⟨(by first | exact ⟨hI, q0⟩ | (simp only [Efile, Ekept]; exact ⟨hI, q0⟩)), hR⟩
              · refine lv_aload_n hx hb dX12_query_65 rfl (lv_at hl 0 rfl) ?_
                refine j_bi hx hb dX12_query_66 (by decide) ?_
                refine j_cI (j_runV (As := [.int (jI 59)]) (rest := []) hx hb hml hown hts hK hS hW (kX12_takesSign l hS σL_50 (a0 := a0) (h0 := h0) (x1 := 59) (r1 := (by decide)) (q0 := (by omega))) 1 gX12_query_X12_takesSign rfl hvX12_takesSign ⟨Nat.le_of_ble_eq_true rfl, Nat.le_of_ble_eq_true rfl⟩ rfl rfl h0 rfl rfl rfl rfl hl.1 rfl (Nat.le_of_ble_eq_true rfl) dX12_query_68 ⟨Nat.le_of_ble_eq_true rfl, Nat.le_of_ble_eq_true rfl⟩) hA hF (fun v_75 σ_76 H locs hW hF rv_75 pv_75 => ?_)
                try dsimp only at pv_75
                obtain ⟨bpv_75, pv_75, fpv_75⟩ := pv_75
                try simp only [Efile, Ekept] at pv_75
                have q_takesSign := pv_75
                have hR := fr_call hR fpv_75 (by decide)
                have Efile : σ_76 (G a0 0) = σ (G a0 0) := (row_fr fpv_75 hk_file 40 (by decide) (by decide)).trans Efile
                try clear hcf
                have hcf := congrFun Efile 0
                have Ekept : σ_76 a0 1 = σ a0 1 := (fr_at fpv_75 h0 1 13001 rfl (by decide)).trans Ekept
                have Edraft : σ_76 (G a0 37) = σL_50 (G a0 37) := row_fr fpv_75 hk_draft 51 (by decide) (by decide)
                have Edrafted : σ_76 a0 38 = σL_50 a0 38 := fr_at fpv_75 h0 38 13038 rfl (by decide)
                have hI := FI_dep hS h0 hI (kp_fr fpv_75 (by decide))
                refine j_if_eq (tgt := 85) hx hb (by omega) dX12_query_71 (by decide) (fun c_77 => ?_) (fun c_77 => ?_)
                · refine j_const hx hb dX12_query_85 ?_
                  refine lv_istore_n (lv' := [(2, .int (jI 0)), (0, .ref a0)]) hx hb dX12_query_86 rfl hl (by decide) rfl (fun ls hl => ?_)
                  refine lv_goto (tgt := 50) hx hb dX12_query_87 (by decide) ?_
                  exact ih_50 ((2 * (300 - σ_76 a0 12) + 0 : Int).toNat) (by omega) 0 σ_76 _ _ _ rfl (by omega) (by omega) (by first | exact (by first | exact q_readsStep.1 | (intro h; exfalso; omega) | (intro _; exact q_readsStep.1 (by omega)) | exact fun _ s s0 s1 => by (exfalso; omega)) | (simp only [Efile, Ekept, Edraft, Edrafted]; exact (by first | exact q_readsStep.1 | (intro h; exfalso; omega) | (intro _; exact q_readsStep.1 (by omega)) | exact fun _ s s0 s1 => by (exfalso; omega)))) (by decide) hW hF hR hI Efile Ekept (lv_sub hl [1, 0] rfl)
                · refine lv_aload_n hx hb dX12_query_74 rfl (lv_at hl 0 rfl) ?_
                  refine j_cI (j_runV (As := []) (rest := []) hx hb hml hown hts hK hS hW (kX12_readsStep l hS σ_76 (a0 := a0) (h0 := h0) (q0 := (by first | exact i2_50 (by omega) | (simp only [Edraft, Edrafted]; exact i2_50 (by omega))))) 0 gX12_query_X12_readsStep rfl hvX12_readsStep ⟨Nat.le_of_ble_eq_true rfl, Nat.le_of_ble_eq_true rfl⟩ rfl rfl h0 rfl rfl rfl rfl hl.1 rfl (Nat.le_of_ble_eq_true rfl) dX12_query_75 ⟨Nat.le_of_ble_eq_true rfl, Nat.le_of_ble_eq_true rfl⟩) hA hF (fun v_78 σ_79 H locs hW hF rv_78 pv_78 => ?_)
                  try dsimp only at pv_78
                  obtain ⟨bpv_78, pv_78, fpv_78⟩ := pv_78
                  try simp only [Efile, Ekept, Edraft, Edrafted] at pv_78
                  have q_readsStep := pv_78
                  have hR := fr_call hR fpv_78 (by decide)
                  have Efile : σ_79 (G a0 0) = σ (G a0 0) := (row_fr fpv_78 hk_file 40 (by decide) (by decide)).trans Efile
                  try clear hcf
                  have hcf := congrFun Efile 0
                  have Ekept : σ_79 a0 1 = σ a0 1 := (fr_at fpv_78 h0 1 13001 rfl (by decide)).trans Ekept
                  have hI := FI_dep hS h0 hI (kp_fr fpv_78 (by decide))
                  refine j_if_eq (tgt := 85) hx hb (by omega) dX12_query_78 (by decide) (fun c_80 => ?_) (fun c_80 => ?_)
                  · refine j_const hx hb dX12_query_85 ?_
                    refine lv_istore_n (lv' := [(2, .int (jI 0)), (0, .ref a0)]) hx hb dX12_query_86 rfl hl (by decide) rfl (fun ls hl => ?_)
                    refine lv_goto (tgt := 50) hx hb dX12_query_87 (by decide) ?_
                    exact ih_50 ((2 * (300 - σ_79 a0 12) + 0 : Int).toNat) (by omega) 0 σ_79 _ _ _ rfl (by omega) (by omega) (by first | exact (by first | exact q_readsStep.1 | (intro h; exfalso; omega) | (intro _; exact q_readsStep.1 (by omega)) | exact fun _ s s0 s1 => by (exfalso; omega)) | (simp only [Efile, Ekept]; exact (by first | exact q_readsStep.1 | (intro h; exfalso; omega) | (intro _; exact q_readsStep.1 (by omega)) | exact fun _ s s0 s1 => by (exfalso; omega)))) (by decide) hW hF hR hI Efile Ekept (lv_sub hl [1, 0] rfl)
                  · refine j_const hx hb dX12_query_81 ?_
                    refine lv_goto (tgt := 86) hx hb dX12_query_82 (by decide) ?_
                    refine lv_istore_n (lv' := [(2, .int (jI 1)), (0, .ref a0)]) hx hb dX12_query_86 rfl hl (by decide) rfl (fun ls hl => ?_)
                    refine lv_goto (tgt := 50) hx hb dX12_query_87 (by decide) ?_
                    exact ih_50 ((2 * (300 - σ_79 a0 12) + 1 : Int).toNat) (by omega) 1 σ_79 _ _ _ rfl (by omega) (by omega) (by first | exact (by first | exact q_readsStep.1 | (intro h; exfalso; omega) | (intro _; exact q_readsStep.1 (by omega)) | exact fun _ s s0 s1 => by (exfalso; omega)) | (simp only [Efile, Ekept]; exact (by first | exact q_readsStep.1 | (intro h; exfalso; omega) | (intro _; exact q_readsStep.1 (by omega)) | exact fun _ s s0 s1 => by (exfalso; omega)))) (by decide) hW hF hR hI Efile Ekept (lv_sub hl [1, 0] rfl)
        exact L_50 ((2 * (300 - σ_35 a0 12) + 1 : Int).toNat) 1 σ_35 _ _ _ rfl (by omega) (by omega) (by first | exact (by first | exact q_readsStep.1 | (intro h; exfalso; omega) | (intro _; exact q_readsStep.1 (by omega)) | exact fun _ s s0 s1 => by (exfalso; omega)) | (simp only [Efile, Ekept]; exact (by first | exact q_readsStep.1 | (intro h; exfalso; omega) | (intro _; exact q_readsStep.1 (by omega)) | exact fun _ s s0 s1 => by (exfalso; omega)))) (by decide) hW hF hR hI Efile Ekept (lv_sub hl [1, 0] rfl)
  · refine j_const hx hb dX12_query_11 ?_
    exact hRet 12 _ _ _ (-1) _ dX12_query_12 hW hF (by decide) ⟨⟨hI, q0⟩, hR⟩
