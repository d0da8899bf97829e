abbrev wr_X12_entry : List Nat := [13003, 13004, 13005, 13008, 13025, 41000, 42000, 43000]
theorem flX12_entry_7 : Cond.fieldLink RX12 7 "PageTrieModel" "file" "[I" ∈ wsX12_entry := List.mem_of_getElem? (i := 4) rfl
theorem flX12_entry_16 : Cond.fieldLink RX12 16 "PageTrieModel" "entryAt" "[I" ∈ wsX12_entry := List.mem_of_getElem? (i := 3) rfl
theorem flX12_entry_19 : Cond.fieldLink RX12 19 "PageTrieModel" "entryKind" "[I" ∈ wsX12_entry := List.mem_of_getElem? (i := 5) rfl
theorem flX12_entry_97 : Cond.fieldLink RX12 97 "PageTrieModel" "entries" "I" ∈ wsX12_entry := List.mem_of_getElem? (i := 2) rfl
theorem flX12_entry_240 : Cond.fieldLink RX12 240 "PageTrieModel" "layerDepth" "I" ∈ wsX12_entry := List.mem_of_getElem? (i := 1) rfl
theorem inX12_entry_X12 : ∀ w ∈ u_ws RX12 TX12 41, w ∈ wsX12_entry := mem_r _ [76, 77, 78, 79, 80, 81, 82, 83, 84, 85, 86, 87, 88, 89, 90, 91, 92, 93, 94, 95, 96, 97, 98, 99, 100, 101, 102, 103, 104, 105, 106, 107, 108, 109, 110, 111, 112, 113, 114, 115, 116] rfl
theorem hvX12_entry : yX12_entry.cls = RX12 ∧ yX12_entry.cls ≠ "java/lang/invoke/MethodHandle" ∧ yX12_entry.cls ≠ "java/lang/invoke/VarHandle" ∧ (parseMethodDescriptor yX12_entry.desc).map (fun d => d.parameters.length) = some 3 := by decide +kernel
set_option maxHeartbeats 4000000 in
set_option maxRecDepth 100000 in
theorem kX12_entry (l : Launch) {D : va_G} {cA : Nat → ClassId} {τ : Nat → Nat} {G : Nat → Nat → Nat} {L : List Nat} (hS : SW τ G L) (σ : Nat → Nat → Int) {a0 : Nat} (h0 : τ a0 = 13) {x1 : Int} (r1 : rg x1) {x2 : Int} (r2 : rg x2) {x3 : Int} (r3 : rg x3) (hI : FI G a0 σ) : Met l yX12_entry wsX12_entry ({ frames := 5, cells := 0, slots := 0, locals := 112 }) (jP D cA τ G L σ [.ref a0, .int (jI x1), .int (jI x2), .int (jI x3)]) (jQI D cA τ G L (fun r σ' => (True) ∧ fr wr_X12_entry τ σ σ')) 0 0 (fun q => q ∈ L) := by
  refine j_metI (by decide +kernel) rfl (Nat.le_of_ble_eq_true rfl) ?_
  intro p e s m args below meth c Q hx hb hml hown hts hK hW hRet ls hl
  have hl : lv_has ls 7 [(0, .ref a0), (1, .int (jI x1)), (2, .int (jI x2)), (3, .int (jI x3))] := hl
  have hA : ∀ q ∈ L, (fun q => q ∈ L) q := fun _ h => h
  have hF : va_S (fun q => q ∈ L) s.heap s.heap [] := va_S.rf
  have hR : fr wr_X12_entry τ σ σ := fr_rf
  have hk_file : τ (G a0 0) = 40 := gty hS h0 (k := 0) rfl rfl
  have := FI_bd hI
  have := fbd hW h0 (k := 3) (lo := 0) (hi := 24) rfl rfl
  refine lv_iload_n hx hb dX12_entry_0 rfl (lv_at hl 3 rfl) ?_
  refine j_const hx hb dX12_entry_1 ?_
  refine j_const hx hb dX12_entry_2 ?_
  refine j_cR (j_runS (As := [.int (jI x3), .int (jI 0), .int (jI 4)]) (rest := []) hx hb hml hown hts hK hW (kX12_in l hS σ (x0 := x3) (r0 := (by omega)) (x1 := 0) (r1 := (by decide)) (x2 := 4) (r2 := (by decide))) 3 gX12_entry_X12_in rfl hsX12_in ⟨Nat.le_of_ble_eq_true rfl, Nat.le_of_ble_eq_true rfl⟩ rfl rfl rfl hl.1 rfl (Nat.le_of_ble_eq_true rfl) dX12_entry_3 ⟨Nat.le_of_ble_eq_true rfl, Nat.le_of_ble_eq_true rfl⟩) (fun v_1 rv_1 pv_1 => ?_)
  try dsimp only at pv_1
  have q_in := pv_1
  have L_36 : ∀ (t0_36 : Int) (ls : Array Slot), (t0_36 = 0 ∨ (0 ≤ x3 ∧ x3 ≤ 42)) → rg t0_36 → lv_has ls 7 [(0, .ref a0), (1, .int (jI x1)), (2, .int (jI x2)), (3, .int (jI x3))] → W p l e ({ frames := 5, cells := 0, slots := 0, locals := 112 }) s m args below meth c s.heap [] 0 0 Q (F0 m 36 ls [.int (jI t0_36)]) := by
    intro t0_36 ls i0_36 rt0_36 hl
    refine lv_istore (lv' := [(4, .int (jI t0_36)), (0, .ref a0), (1, .int (jI x1)), (2, .int (jI x2)), (3, .int (jI x3))]) hx hb dX12_entry_36 hl (by decide) rfl (fun ls hl => ?_)
    refine lv_iload_n hx hb dX12_entry_38 rfl (lv_at hl 2 rfl) ?_
    refine j_if_lt (tgt := 59) hx hb (by omega) dX12_entry_39 (by decide) (fun c_2 => ?_) (fun c_2 => ?_)
    · refine j_const hx hb dX12_entry_59 ?_
      exact hRet 60 _ _ _ (-1) _ dX12_entry_60 hW hF (by decide) ⟨trivial, hR⟩
    · refine lv_iload_n hx hb dX12_entry_42 rfl (lv_at hl 3 rfl) ?_
      refine j_if_lt (tgt := 59) hx hb (by omega) dX12_entry_43 (by decide) (fun c_3 => ?_) (fun c_3 => ?_)
      · refine j_const hx hb dX12_entry_59 ?_
        exact hRet 60 _ _ _ (-1) _ dX12_entry_60 hW hF (by decide) ⟨trivial, hR⟩
      · refine lv_iload hx hb dX12_entry_46 (lv_at hl 0 rfl) ?_
        refine j_if_eq (tgt := 59) hx hb (by omega) dX12_entry_48 (by decide) (fun c_4 => ?_) (fun c_4 => ?_)
        · refine j_const hx hb dX12_entry_59 ?_
          exact hRet 60 _ _ _ (-1) _ dX12_entry_60 hW hF (by decide) ⟨trivial, hR⟩
        · refine lv_aload_n hx hb dX12_entry_51 rfl (lv_at hl 1 rfl) ?_
          refine lv_iload_n hx hb dX12_entry_52 rfl (lv_at hl 2 rfl) ?_
          refine j_cI (j_runV (As := [.int (jI x1)]) (rest := []) hx hb hml hown hts hK hS hW (kX12_goesLayer l hS σ (a0 := a0) (h0 := h0) (x1 := x1) (r1 := (by omega)) (hI := hI)) 1 gX12_entry_X12_goesLayer rfl hvX12_goesLayer ⟨Nat.le_of_ble_eq_true rfl, Nat.le_of_ble_eq_true rfl⟩ rfl rfl h0 rfl rfl rfl rfl hl.1 rfl (Nat.le_of_ble_eq_true rfl) dX12_entry_53 ⟨Nat.le_of_ble_eq_true rfl, Nat.le_of_ble_eq_true rfl⟩) hA hF (fun v_5 σ_6 H locs hW hF rv_5 pv_5 => ?_)
          try dsimp only at pv_5
          obtain ⟨bpv_5, pv_5, fpv_5⟩ := pv_5
          have q_goesLayer := pv_5
          have hR := fr_call hR fpv_5 (by decide)
          have Efile : σ_6 (G a0 0) = σ (G a0 0) := row_fr fpv_5 hk_file 40 (by decide) (by decide)
          try clear hcf
          have hcf := congrFun Efile 0
          have hI := FI_dep hS h0 hI (kp_fr fpv_5 (by decide))
          refine j_if_ne (tgt := 61) hx hb (by omega) dX12_entry_56 (by decide) (fun c_7 => ?_) (fun c_7 => ?_)
          · refine lv_aload_n hx hb dX12_entry_61 rfl (lv_at hl 1 rfl) ?_
            refine lv_aload_n hx hb dX12_entry_62 rfl (lv_at hl 1 rfl) ?_
            refine j_getI hx hb (C := RX12) (T := TX12) (N := 41) hts inX12_entry_X12 hown hK hS hW h0 rfl 25 rfl rfl (by decide) (hts _ flX12_entry_240) dX12_entry_63 ?_
            have := fbd hW h0 (k := 25) (lo := -2147483648) (hi := 2147483647) rfl rfl
            have hldb := q_goesLayer (by omega)
            have hmb := mul_bd (a := (σ_6 a0 25)) (b := σ (G a0 0) 1) (A := 24) (B := 8) (by omega) (by omega) (by omega) (by omega)
            refine j_cV (j_runV (As := [.int (jI (σ_6 a0 25))]) (rest := []) hx hb hml hown hts hK hS hW (kX12_findsEntries l hS σ_6 (a0 := a0) (h0 := h0) (x1 := σ_6 a0 25) (r1 := (by omega)) (hI := hI) (q0 := (by omega)) (q1 := (by omega))) 1 gX12_entry_X12_findsEntries rfl hvX12_findsEntries ⟨Nat.le_of_ble_eq_true rfl, Nat.le_of_ble_eq_true rfl⟩ rfl rfl h0 rfl rfl rfl rfl hl.1 rfl (Nat.le_of_ble_eq_true rfl) dX12_entry_66 ⟨Nat.le_of_ble_eq_true rfl, Nat.le_of_ble_eq_true rfl⟩) hA hF (fun σ_8 H locs hW hF pσ_8 => ?_)
            try dsimp only at pσ_8
            obtain ⟨pσ_8, fpσ_8⟩ := pσ_8
            try simp only [Efile] at pσ_8
            have q_findsEntries := pσ_8
            have hR := fr_call hR fpσ_8 (by decide)
            have Efile : σ_8 (G a0 0) = σ (G a0 0) := (row_fr fpσ_8 hk_file 40 (by decide) (by decide)).trans Efile
            try clear hcf
            have hcf := congrFun Efile 0
            have Eld : σ_8 a0 25 = σ_6 a0 25 := fr_at fpσ_8 h0 25 13025 rfl (by decide)
            have hI := FI_dep hS h0 hI (kp_fr fpσ_8 (by decide))
            have := fbd hW h0 (k := 8) (lo := 0) (hi := 150) rfl rfl
            refine lv_iload_n hx hb dX12_entry_69 rfl (lv_at hl 3 rfl) ?_
            refine lv_aload_n hx hb dX12_entry_70 rfl (lv_at hl 1 rfl) ?_
            refine j_getI hx hb (C := RX12) (T := TX12) (N := 41) hts inX12_entry_X12 hown hK hS hW h0 rfl 8 rfl rfl (by decide) (hts _ flX12_entry_97) dX12_entry_71 ?_
            have := fbd hW h0 (k := 8) (lo := 0) (hi := 150) rfl rfl
            refine j_icmp_lt (tgt := 79) hx hb (by omega) (by omega) dX12_entry_74 (by decide) (fun c_9 => ?_) (fun c_9 => ?_)
            · refine lv_aload_n hx hb dX12_entry_79 rfl (lv_at hl 1 rfl) ?_
              refine j_getR hx hb (C := RX12) (T := TX12) (N := 41) hts inX12_entry_X12 hown hK hS hW h0 rfl 6 rfl rfl (by decide) (hts _ flX12_entry_16) dX12_entry_80 ?_
              have h_10 : τ (G a0 6) = 42 := gty hS h0 (k := 6) rfl rfl
              refine lv_iload_n hx hb dX12_entry_83 rfl (lv_at hl 3 rfl) ?_
              refine j_ald hx hb hK hS hW h_10 (n := 151) rfl (by omega) (by omega) (by decide) dX12_entry_84 ?_
              have := abd hW h_10 (n := 151) (lo := 0) (hi := 150) (i := x2) rfl (by omega) (by omega)
              refine lv_istore (lv' := [(5, .int (jI (σ_8 (G a0 6) (x2).toNat))), (4, .int (jI t0_36)), (0, .ref a0), (1, .int (jI x1)), (2, .int (jI x2)), (3, .int (jI x3))]) hx hb dX12_entry_85 hl (by decide) rfl (fun ls hl => ?_)
              refine lv_aload_n hx hb dX12_entry_87 rfl (lv_at hl 2 rfl) ?_
              refine j_getI hx hb (C := RX12) (T := TX12) (N := 41) hts inX12_entry_X12 hown hK hS hW h0 rfl 25 rfl rfl (by decide) (hts _ flX12_entry_240) dX12_entry_88 ?_
              rw [Eld]
              refine lv_aload_n hx hb dX12_entry_91 rfl (lv_at hl 2 rfl) ?_
              refine j_getR hx hb (C := RX12) (T := TX12) (N := 41) hts inX12_entry_X12 hown hK hS hW h0 rfl 0 rfl rfl (by decide) (hts _ flX12_entry_7) dX12_entry_92 ?_
              refine j_const hx hb dX12_entry_95 ?_
              refine j_ald hx hb hK hS hW hk_file (n := 17624) rfl (by omega) (by omega) (by decide) dX12_entry_96 ?_
              have : -2147483648 ≤ σ_8 (G a0 0) 1 ∧ σ_8 (G a0 0) 1 ≤ 2147483647 := abd hW hk_file (n := 17624) (lo := -2147483648) (hi := 2147483647) (i := 1) rfl (by decide) (by decide)
              rw [Efile]
              try simp only [Efile] at this
              refine j_eq (z := σ (G a0 0) 1) rfl ?_
              have := FI_bd hI; rw [Efile] at this
              refine j_mul hx hb dX12_entry_97 ?_
              refine lv_istore (lv' := [(6, .int (jI ((σ_6 a0 25) * (σ (G a0 0) 1)))), (5, .int (jI (σ_8 (G a0 6) (x2).toNat))), (4, .int (jI t0_36)), (0, .ref a0), (1, .int (jI x1)), (2, .int (jI x2)), (3, .int (jI x3))]) hx hb dX12_entry_98 hl (by decide) rfl (fun ls hl => ?_)
              refine lv_iload_n hx hb dX12_entry_100 rfl (lv_at hl 6 rfl) ?_
              refine j_bi hx hb dX12_entry_101 (by decide) ?_
              refine j_icmp_lt (tgt := 148) hx hb (by omega) (by decide) dX12_entry_103 (by decide) (fun c_11 => ?_) (fun c_11 => ?_)
              · refine lv_iload_n hx hb dX12_entry_148 rfl (lv_at hl 6 rfl) ?_
                refine j_bi hx hb dX12_entry_149 (by decide) ?_
                refine j_icmp_lt (tgt := 189) hx hb (by omega) (by decide) dX12_entry_151 (by decide) (fun c_12 => ?_) (fun c_12 => ?_)
                · refine lv_iload_n hx hb dX12_entry_189 rfl (lv_at hl 6 rfl) ?_
                  have hrc_13 : rg x3 := by omega
                  by_cases c_13_0 : x3 = 0
                  · refine lv_tableIn (tgt := 220) (off := 30) hx hb dX12_entry_190 (by rw [jI_toInt hrc_13]; omega) (by rw [jI_toInt hrc_13]; omega) (by rw [jI_toInt hrc_13, c_13_0]; rfl) (by decide) ?_
                    refine lv_aload_n hx hb dX12_entry_220 rfl (lv_at hl 3 rfl) ?_
                    refine j_getR hx hb (C := RX12) (T := TX12) (N := 41) hts inX12_entry_X12 hown hK hS hW h0 rfl 7 rfl rfl (by decide) (hts _ flX12_entry_19) dX12_entry_221 ?_
                    have h_14 : τ (G a0 7) = 43 := gty hS h0 (k := 7) rfl rfl
                    refine lv_iload_n hx hb dX12_entry_224 rfl (lv_at hl 5 rfl) ?_
                    refine j_ald hx hb hK hS hW h_14 (n := 150) rfl (by omega) (by omega) (by decide) dX12_entry_225 ?_
                    have := abd hW h_14 (n := 150) (lo := -2147483648) (hi := 2147483647) (i := x2) rfl (by omega) (by omega)
                    exact hRet 226 _ _ _ (σ_8 (G a0 7) (x2).toNat) _ dX12_entry_226 hW hF (by omega) ⟨trivial, hR⟩
                  by_cases c_13_1 : x3 = 1
                  · refine lv_tableIn (tgt := 227) (off := 37) hx hb dX12_entry_190 (by rw [jI_toInt hrc_13]; omega) (by rw [jI_toInt hrc_13]; omega) (by rw [jI_toInt hrc_13, c_13_1]; rfl) (by decide) ?_
                    refine lv_aload_n hx hb dX12_entry_227 rfl (lv_at hl 3 rfl) ?_
                    refine lv_iload_n hx hb dX12_entry_228 rfl (lv_at hl 5 rfl) ?_
                    refine lv_aload_n hx hb dX12_entry_229 rfl (lv_at hl 3 rfl) ?_
                    refine j_getI hx hb (C := RX12) (T := TX12) (N := 41) hts inX12_entry_X12 hown hK hS hW h0 rfl 25 rfl rfl (by decide) (hts _ flX12_entry_240) dX12_entry_230 ?_
                    rw [Eld]
                    refine j_cR (j_runV (As := [.int (jI x2), .int (jI (σ_6 a0 25))]) (rest := []) hx hb hml hown hts hK hS hW (kX12_partLong l hS σ_8 (a0 := a0) (h0 := h0) (x1 := x2) (r1 := (by omega)) (x2 := σ_6 a0 25) (r2 := (by omega)) (hI := hI) (q0 := (by omega)) (q1 := (by omega)) (q2 := (by omega)) (q3 := (by omega))) 2 gX12_entry_X12_partLong rfl hvX12_partLong ⟨Nat.le_of_ble_eq_true rfl, Nat.le_of_ble_eq_true rfl⟩ rfl rfl h0 rfl rfl rfl rfl hl.1 rfl (Nat.le_of_ble_eq_true rfl) dX12_entry_233 ⟨Nat.le_of_ble_eq_true rfl, Nat.le_of_ble_eq_true rfl⟩) (fun v_15 rv_15 pv_15 => ?_)
                    try dsimp only at pv_15
                    have q_partLong := pv_15
                    exact hRet 236 _ _ _ v_15 _ dX12_entry_236 hW hF (by omega) ⟨trivial, hR⟩
                  by_cases c_13_2 : x3 = 2
                  · refine lv_tableIn (tgt := 237) (off := 47) hx hb dX12_entry_190 (by rw [jI_toInt hrc_13]; omega) (by rw [jI_toInt hrc_13]; omega) (by rw [jI_toInt hrc_13, c_13_2]; rfl) (by decide) ?_
                    refine lv_aload_n hx hb dX12_entry_237 rfl (lv_at hl 3 rfl) ?_
                    refine j_getR hx hb (C := RX12) (T := TX12) (N := 41) hts inX12_entry_X12 hown hK hS hW h0 rfl 7 rfl rfl (by decide) (hts _ flX12_entry_19) dX12_entry_238 ?_
                    have h_16 : τ (G a0 7) = 43 := gty hS h0 (k := 7) rfl rfl
                    refine lv_iload_n hx hb dX12_entry_241 rfl (lv_at hl 5 rfl) ?_
                    refine j_ald hx hb hK hS hW h_16 (n := 150) rfl (by omega) (by omega) (by decide) dX12_entry_242 ?_
                    have := abd hW h_16 (n := 150) (lo := -2147483648) (hi := 2147483647) (i := x2) rfl (by omega) (by omega)
                    refine j_const hx hb dX12_entry_243 ?_
                    refine j_icmp_ne (tgt := 252) hx hb (by omega) (by decide) dX12_entry_244 (by decide) (fun c_17 => ?_) (fun c_17 => ?_)
                    · refine lv_aload_n hx hb dX12_entry_252 rfl (lv_at hl 3 rfl) ?_
                      refine lv_iload hx hb dX12_entry_253 (lv_at hl 1 rfl) ?_
                      refine j_const hx hb dX12_entry_255 ?_
                      refine j_cR (j_runV (As := [.int (jI (σ_8 (G a0 6) (x2).toNat)), .int (jI 1)]) (rest := []) hx hb hml hown hts hK hS hW (kX12_of l hS σ_8 (a0 := a0) (h0 := h0) (x1 := σ_8 (G a0 6) (x2).toNat) (r1 := (by omega)) (x2 := 1) (r2 := (by decide)) (q0 := (by omega)) (q1 := (by omega))) 2 gX12_entry_X12_of rfl hvX12_of ⟨Nat.le_of_ble_eq_true rfl, Nat.le_of_ble_eq_true rfl⟩ rfl rfl h0 rfl rfl rfl rfl hl.1 rfl (Nat.le_of_ble_eq_true rfl) dX12_entry_256 ⟨Nat.le_of_ble_eq_true rfl, Nat.le_of_ble_eq_true rfl⟩) (fun v_18 rv_18 pv_18 => ?_)
                      try dsimp only at pv_18
                      try simp only [Efile, Eld] at pv_18
                      have q_of := pv_18
                      exact hRet 259 _ _ _ v_18 _ dX12_entry_259 hW hF (by omega) ⟨trivial, hR⟩
                    · refine j_bi hx hb dX12_entry_247 (by decide) ?_
                      refine lv_goto (tgt := 259) hx hb dX12_entry_249 (by decide) ?_
                      exact hRet 259 _ _ _ (-2) _ dX12_entry_259 hW hF (by decide) ⟨trivial, hR⟩
                  by_cases c_13_3 : x3 = 3
                  · refine lv_tableIn (tgt := 260) (off := 70) hx hb dX12_entry_190 (by rw [jI_toInt hrc_13]; omega) (by rw [jI_toInt hrc_13]; omega) (by rw [jI_toInt hrc_13, c_13_3]; rfl) (by decide) ?_
                    refine lv_aload_n hx hb dX12_entry_260 rfl (lv_at hl 3 rfl) ?_
                    refine lv_iload_n hx hb dX12_entry_261 rfl (lv_at hl 5 rfl) ?_
                    refine lv_aload_n hx hb dX12_entry_262 rfl (lv_at hl 3 rfl) ?_
                    refine j_getI hx hb (C := RX12) (T := TX12) (N := 41) hts inX12_entry_X12 hown hK hS hW h0 rfl 25 rfl rfl (by decide) (hts _ flX12_entry_240) dX12_entry_263 ?_
                    rw [Eld]
                    refine j_cR (j_runV (As := [.int (jI x2), .int (jI (σ_6 a0 25))]) (rest := []) hx hb hml hown hts hK hS hW (kX12_restLong l hS σ_8 (a0 := a0) (h0 := h0) (x1 := x2) (r1 := (by omega)) (x2 := σ_6 a0 25) (r2 := (by omega)) (hI := hI) (q0 := (by omega)) (q1 := (by omega)) (q2 := (by omega)) (q3 := (by omega))) 2 gX12_entry_X12_restLong rfl hvX12_restLong ⟨Nat.le_of_ble_eq_true rfl, Nat.le_of_ble_eq_true rfl⟩ rfl rfl h0 rfl rfl rfl rfl hl.1 rfl (Nat.le_of_ble_eq_true rfl) dX12_entry_266 ⟨Nat.le_of_ble_eq_true rfl, Nat.le_of_ble_eq_true rfl⟩) (fun v_19 rv_19 pv_19 => ?_)
                    try dsimp only at pv_19
                    have q_restLong := pv_19
                    exact hRet 269 _ _ _ v_19 _ dX12_entry_269 hW hF (by omega) ⟨trivial, hR⟩
                  refine lv_tableOut (tgt := 270) hx hb dX12_entry_190 (by rw [jI_toInt hrc_13]; omega) (by decide) ?_
                  refine lv_aload_n hx hb dX12_entry_270 rfl (lv_at hl 3 rfl) ?_
                  refine lv_iload_n hx hb dX12_entry_271 rfl (lv_at hl 5 rfl) ?_
                  refine j_cR (j_runV (As := [.int (jI x2)]) (rest := []) hx hb hml hown hts hK hS hW (kX12_pageNumber l hS σ_8 (a0 := a0) (h0 := h0) (x1 := x2) (r1 := (by omega)) (q0 := (by omega)) (q1 := (by omega)) (q2 := (by omega))) 1 gX12_entry_X12_pageNumber rfl hvX12_pageNumber ⟨Nat.le_of_ble_eq_true rfl, Nat.le_of_ble_eq_true rfl⟩ rfl rfl h0 rfl rfl rfl rfl hl.1 rfl (Nat.le_of_ble_eq_true rfl) dX12_entry_272 ⟨Nat.le_of_ble_eq_true rfl, Nat.le_of_ble_eq_true rfl⟩) (fun v_20 rv_20 pv_20 => ?_)
                  try dsimp only at pv_20
                  have q_pageNumber := pv_20
                  exact hRet 275 _ _ _ v_20 _ dX12_entry_275 hW hF (by omega) ⟨trivial, hR⟩
                · refine lv_iload_n hx hb dX12_entry_154 rfl (lv_at hl 6 rfl) ?_
                  refine j_bi hx hb dX12_entry_155 (by decide) ?_
                  refine j_sub hx hb dX12_entry_157 ?_
                  refine lv_aload_n hx hb dX12_entry_158 rfl (lv_at hl 3 rfl) ?_
                  refine lv_iload_n hx hb dX12_entry_159 rfl (lv_at hl 5 rfl) ?_
                  refine lv_aload_n hx hb dX12_entry_160 rfl (lv_at hl 3 rfl) ?_
                  refine j_getI hx hb (C := RX12) (T := TX12) (N := 41) hts inX12_entry_X12 hown hK hS hW h0 rfl 25 rfl rfl (by decide) (hts _ flX12_entry_240) dX12_entry_161 ?_
                  rw [Eld]
                  refine j_cR (j_runV (As := [.int (jI x2), .int (jI (σ_6 a0 25))]) (rest := [.int (jI (x3 - 10))]) hx hb hml hown hts hK hS hW (kX12_partLong l hS σ_8 (a0 := a0) (h0 := h0) (x1 := x2) (r1 := (by omega)) (x2 := σ_6 a0 25) (r2 := (by omega)) (hI := hI) (q0 := (by omega)) (q1 := (by omega)) (q2 := (by omega)) (q3 := (by omega))) 2 gX12_entry_X12_partLong rfl hvX12_partLong ⟨Nat.le_of_ble_eq_true rfl, Nat.le_of_ble_eq_true rfl⟩ rfl rfl h0 rfl rfl rfl rfl hl.1 rfl (Nat.le_of_ble_eq_true rfl) dX12_entry_164 ⟨Nat.le_of_ble_eq_true rfl, Nat.le_of_ble_eq_true rfl⟩) (fun v_21 rv_21 pv_21 => ?_)
                  try dsimp only at pv_21
                  have q_partLong := pv_21
                  refine j_icmp_ge (tgt := 186) hx hb (by omega) (by omega) dX12_entry_167 (by decide) (fun c_22 => ?_) (fun c_22 => ?_)
                  · refine j_bi hx hb dX12_entry_186 (by decide) ?_
                    exact hRet 188 _ _ _ (-4) _ dX12_entry_188 hW hF (by decide) ⟨trivial, hR⟩
                  · refine lv_aload_n hx hb dX12_entry_170 rfl (lv_at hl 3 rfl) ?_
                    refine lv_iload hx hb dX12_entry_171 (lv_at hl 1 rfl) ?_
                    refine lv_iload hx hb dX12_entry_173 (lv_at hl 0 rfl) ?_
                    refine lv_iload_n hx hb dX12_entry_175 rfl (lv_at hl 6 rfl) ?_
                    refine j_add hx hb dX12_entry_176 ?_
                    refine j_bi hx hb dX12_entry_177 (by decide) ?_
                    refine j_sub hx hb dX12_entry_179 ?_
                    refine j_cR (j_runV (As := [.int (jI (σ_8 (G a0 6) (x2).toNat)), .int (jI ((((σ_6 a0 25) * (σ (G a0 0) 1)) + x3) - 10))]) (rest := []) hx hb hml hown hts hK hS hW (kX12_byteOf l hS σ_8 (a0 := a0) (h0 := h0) (x1 := σ_8 (G a0 6) (x2).toNat) (r1 := (by omega)) (x2 := (((σ_6 a0 25) * (σ (G a0 0) 1)) + x3) - 10) (r2 := (by omega)) (q0 := (by omega)) (q1 := (by omega))) 2 gX12_entry_X12_byteOf rfl hvX12_byteOf ⟨Nat.le_of_ble_eq_true rfl, Nat.le_of_ble_eq_true rfl⟩ rfl rfl h0 rfl rfl rfl rfl hl.1 rfl (Nat.le_of_ble_eq_true rfl) dX12_entry_180 ⟨Nat.le_of_ble_eq_true rfl, Nat.le_of_ble_eq_true rfl⟩) (fun v_23 rv_23 pv_23 => ?_)
                    try dsimp only at pv_23
                    try simp only [Efile, Eld] at pv_23
                    have q_byteOf := pv_23
                    have := @FI_byte _ _ _ hI (σ_8 (G a0 6) (x2).toNat) ((((σ_6 a0 25) * (σ (G a0 0) 1)) + x3) - 10)
                    try simp only [Efile] at this
                    refine lv_goto (tgt := 188) hx hb dX12_entry_183 (by decide) ?_
                    exact hRet 188 _ _ _ v_23 _ dX12_entry_188 hW hF (by omega) ⟨trivial, hR⟩
              · refine lv_iload_n hx hb dX12_entry_106 rfl (lv_at hl 6 rfl) ?_
                refine j_bi hx hb dX12_entry_107 (by decide) ?_
                refine j_sub hx hb dX12_entry_109 ?_
                refine lv_aload_n hx hb dX12_entry_110 rfl (lv_at hl 3 rfl) ?_
                refine lv_iload_n hx hb dX12_entry_111 rfl (lv_at hl 5 rfl) ?_
                refine lv_aload_n hx hb dX12_entry_112 rfl (lv_at hl 3 rfl) ?_
                refine j_getI hx hb (C := RX12) (T := TX12) (N := 41) hts inX12_entry_X12 hown hK hS hW h0 rfl 25 rfl rfl (by decide) (hts _ flX12_entry_240) dX12_entry_113 ?_
                rw [Eld]
                refine j_cR (j_runV (As := [.int (jI x2), .int (jI (σ_6 a0 25))]) (rest := [.int (jI (x3 - 20))]) hx hb hml hown hts hK hS hW (kX12_restLong l hS σ_8 (a0 := a0) (h0 := h0) (x1 := x2) (r1 := (by omega)) (x2 := σ_6 a0 25) (r2 := (by omega)) (hI := hI) (q0 := (by omega)) (q1 := (by omega)) (q2 := (by omega)) (q3 := (by omega))) 2 gX12_entry_X12_restLong rfl hvX12_restLong ⟨Nat.le_of_ble_eq_true rfl, Nat.le_of_ble_eq_true rfl⟩ rfl rfl h0 rfl rfl rfl rfl hl.1 rfl (Nat.le_of_ble_eq_true rfl) dX12_entry_116 ⟨Nat.le_of_ble_eq_true rfl, Nat.le_of_ble_eq_true rfl⟩) (fun v_24 rv_24 pv_24 => ?_)
                try dsimp only at pv_24
                have q_restLong := pv_24
                refine j_icmp_ge (tgt := 145) hx hb (by omega) (by omega) dX12_entry_119 (by decide) (fun c_25 => ?_) (fun c_25 => ?_)
                · refine j_bi hx hb dX12_entry_145 (by decide) ?_
                  exact hRet 147 _ _ _ (-4) _ dX12_entry_147 hW hF (by decide) ⟨trivial, hR⟩
                · refine lv_aload_n hx hb dX12_entry_122 rfl (lv_at hl 3 rfl) ?_
                  refine lv_iload hx hb dX12_entry_123 (lv_at hl 1 rfl) ?_
                  refine lv_iload hx hb dX12_entry_125 (lv_at hl 0 rfl) ?_
                  refine lv_aload_n hx hb dX12_entry_127 rfl (lv_at hl 3 rfl) ?_
                  refine j_getR hx hb (C := RX12) (T := TX12) (N := 41) hts inX12_entry_X12 hown hK hS hW h0 rfl 0 rfl rfl (by decide) (hts _ flX12_entry_7) dX12_entry_128 ?_
                  refine j_const hx hb dX12_entry_131 ?_
                  refine j_ald hx hb hK hS hW hk_file (n := 17624) rfl (by omega) (by omega) (by decide) dX12_entry_132 ?_
                  rw [Efile]
                  refine j_eq (z := σ (G a0 0) 1) rfl ?_
                  refine j_add hx hb dX12_entry_133 ?_
                  refine lv_iload_n hx hb dX12_entry_134 rfl (lv_at hl 6 rfl) ?_
                  refine j_add hx hb dX12_entry_135 ?_
                  refine j_bi hx hb dX12_entry_136 (by decide) ?_
                  refine j_sub hx hb dX12_entry_138 ?_
                  refine j_cR (j_runV (As := [.int (jI (σ_8 (G a0 6) (x2).toNat)), .int (jI (((((σ_6 a0 25) * (σ (G a0 0) 1)) + (σ (G a0 0) 1)) + x3) - 20))]) (rest := []) hx hb hml hown hts hK hS hW (kX12_byteOf l hS σ_8 (a0 := a0) (h0 := h0) (x1 := σ_8 (G a0 6) (x2).toNat) (r1 := (by omega)) (x2 := ((((σ_6 a0 25) * (σ (G a0 0) 1)) + (σ (G a0 0) 1)) + x3) - 20) (r2 := (by omega)) (q0 := (by omega)) (q1 := (by omega))) 2 gX12_entry_X12_byteOf rfl hvX12_byteOf ⟨Nat.le_of_ble_eq_true rfl, Nat.le_of_ble_eq_true rfl⟩ rfl rfl h0 rfl rfl rfl rfl hl.1 rfl (Nat.le_of_ble_eq_true rfl) dX12_entry_139 ⟨Nat.le_of_ble_eq_true rfl, Nat.le_of_ble_eq_true rfl⟩) (fun v_26 rv_26 pv_26 => ?_)
                  try dsimp only at pv_26
                  try simp only [Efile, Eld] at pv_26
                  have q_byteOf := pv_26
                  have := @FI_byte _ _ _ hI (σ_8 (G a0 6) (x2).toNat) (((((σ_6 a0 25) * (σ (G a0 0) 1)) + (σ (G a0 0) 1)) + x3) - 20)
                  try simp only [Efile] at this
                  refine lv_goto (tgt := 147) hx hb dX12_entry_142 (by decide) ?_
                  exact hRet 147 _ _ _ v_26 _ dX12_entry_147 hW hF (by omega) ⟨trivial, hR⟩
            · refine j_const hx hb dX12_entry_77 ?_
              exact hRet 78 _ _ _ (-1) _ dX12_entry_78 hW hF (by decide) ⟨trivial, hR⟩
          · refine j_const hx hb dX12_entry_59 ?_
            exact hRet 60 _ _ _ (-1) _ dX12_entry_60 hW hF (by decide) ⟨trivial, hR⟩
  refine j_if_ne (tgt := 31) hx hb (by omega) dX12_entry_6 (by decide) (fun c_27 => ?_) (fun c_27 => ?_)
  · refine j_const hx hb dX12_entry_31 ?_
    refine lv_goto (tgt := 36) hx hb dX12_entry_32 (by decide) ?_
    exact L_36 1 _ (by omega) (by decide) (lv_sub hl [0, 1, 2, 3] rfl)
  · refine lv_iload_n hx hb dX12_entry_9 rfl (lv_at hl 3 rfl) ?_
    refine j_bi hx hb dX12_entry_10 (by decide) ?_
    refine j_bi hx hb dX12_entry_12 (by decide) ?_
    refine j_cR (j_runS (As := [.int (jI x3), .int (jI 10), .int (jI 17)]) (rest := []) hx hb hml hown hts hK hW (kX12_in l hS σ (x0 := x3) (r0 := (by omega)) (x1 := 10) (r1 := (by decide)) (x2 := 17) (r2 := (by decide))) 3 gX12_entry_X12_in rfl hsX12_in ⟨Nat.le_of_ble_eq_true rfl, Nat.le_of_ble_eq_true rfl⟩ rfl rfl rfl hl.1 rfl (Nat.le_of_ble_eq_true rfl) dX12_entry_14 ⟨Nat.le_of_ble_eq_true rfl, Nat.le_of_ble_eq_true rfl⟩) (fun v_28 rv_28 pv_28 => ?_)
    try dsimp only at pv_28
    have q_in := pv_28
    refine j_if_ne (tgt := 31) hx hb (by omega) dX12_entry_17 (by decide) (fun c_29 => ?_) (fun c_29 => ?_)
    · refine j_const hx hb dX12_entry_31 ?_
      refine lv_goto (tgt := 36) hx hb dX12_entry_32 (by decide) ?_
      exact L_36 1 _ (by omega) (by decide) (lv_sub hl [0, 1, 2, 3] rfl)
    · refine lv_iload_n hx hb dX12_entry_20 rfl (lv_at hl 3 rfl) ?_
      refine j_bi hx hb dX12_entry_21 (by decide) ?_
      refine j_bi hx hb dX12_entry_23 (by decide) ?_
      refine j_cR (j_runS (As := [.int (jI x3), .int (jI 20), .int (jI 42)]) (rest := []) hx hb hml hown hts hK hW (kX12_in l hS σ (x0 := x3) (r0 := (by omega)) (x1 := 20) (r1 := (by decide)) (x2 := 42) (r2 := (by decide))) 3 gX12_entry_X12_in rfl hsX12_in ⟨Nat.le_of_ble_eq_true rfl, Nat.le_of_ble_eq_true rfl⟩ rfl rfl rfl hl.1 rfl (Nat.le_of_ble_eq_true rfl) dX12_entry_25 ⟨Nat.le_of_ble_eq_true rfl, Nat.le_of_ble_eq_true rfl⟩) (fun v_30 rv_30 pv_30 => ?_)
      try dsimp only at pv_30
      have q_in := pv_30
      refine j_if_eq (tgt := 35) hx hb (by omega) dX12_entry_28 (by decide) (fun c_31 => ?_) (fun c_31 => ?_)
      · refine j_const hx hb dX12_entry_35 ?_
        exact L_36 0 _ (by omega) (by decide) (lv_sub hl [0, 1, 2, 3] rfl)
      · refine j_const hx hb dX12_entry_31 ?_
        refine lv_goto (tgt := 36) hx hb dX12_entry_32 (by decide) ?_
        exact L_36 1 _ (by omega) (by decide) (lv_sub hl [0, 1, 2, 3] rfl)
