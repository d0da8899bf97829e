abbrev wr_X12_readsStep : List Nat := [13012, 13014, 13015, 13023, 13024, 13038, 51000]
theorem flX12_readsStep_22 : Cond.fieldLink RX12 22 "PageTrieModel" "tape" "[B" ∈ wsX12_readsStep := List.mem_of_getElem? (i := 6) rfl
theorem flX12_readsStep_44 : Cond.fieldLink RX12 44 "PageTrieModel" "draft" "[I" ∈ wsX12_readsStep := List.mem_of_getElem? (i := 3) rfl
theorem flX12_readsStep_180 : Cond.fieldLink RX12 180 "PageTrieModel" "place0" "I" ∈ wsX12_readsStep := List.mem_of_getElem? (i := 2) rfl
theorem flX12_readsStep_195 : Cond.fieldLink RX12 195 "PageTrieModel" "number0" "I" ∈ wsX12_readsStep := List.mem_of_getElem? (i := 4) rfl
theorem flX12_readsStep_198 : Cond.fieldLink RX12 198 "PageTrieModel" "keyAt" "I" ∈ wsX12_readsStep := List.mem_of_getElem? (i := 7) rfl
theorem flX12_readsStep_201 : Cond.fieldLink RX12 201 "PageTrieModel" "keyLong" "I" ∈ wsX12_readsStep := List.mem_of_getElem? (i := 5) rfl
theorem flX12_readsStep_351 : Cond.fieldLink RX12 351 "PageTrieModel" "drafted" "I" ∈ wsX12_readsStep := List.mem_of_getElem? (i := 1) rfl
theorem inX12_readsStep_X12 : ∀ w ∈ u_ws RX12 TX12 41, w ∈ wsX12_readsStep := mem_r _ [33, 34, 35, 36, 37, 38, 39, 40, 41, 42, 43, 44, 45, 46, 47, 48, 49, 50, 51, 52, 53, 54, 55, 56, 57, 58, 59, 60, 61, 62, 63, 64, 65, 66, 67, 68, 69, 70, 71, 72, 73] rfl
theorem hvX12_readsStep : yX12_readsStep.cls = RX12 ∧ yX12_readsStep.cls ≠ "java/lang/invoke/MethodHandle" ∧ yX12_readsStep.cls ≠ "java/lang/invoke/VarHandle" ∧ (parseMethodDescriptor yX12_readsStep.desc).map (fun d => d.parameters.length) = some 0 := by decide +kernel
set_option maxHeartbeats 4000000 in
set_option maxRecDepth 100000 in
theorem kX12_readsStep (l : Launch) {D : va_G} {cA : Nat → ClassId} {τ : Nat → Nat} {G : Nat → Nat → Nat} {L : List Nat} (hS : SW τ G L) (σ : Nat → Nat → Int) {a0 : Nat} (h0 : τ a0 = 13) (q0 : DR (σ (G a0 37)) (σ a0 38)) : Met l yX12_readsStep wsX12_readsStep ({ frames := 3, cells := 0, slots := 0, locals := 62 }) (jP D cA τ G L σ [.ref a0]) (jQI D cA τ G L (fun r σ' => (0 ≤ r ∧ r ≤ 1) ∧ (((r = 1 → DR (σ' (G a0 37)) (σ' a0 38)) ∧ (σ a0 12 ≤ σ' a0 12)) ∧ fr wr_X12_readsStep τ σ σ'))) 0 0 (fun q => q ∈ L) := by
  refine j_metZ (by decide +kernel) rfl (Nat.le_of_ble_eq_true rfl) ?_
  intro p e s m args below meth c Q hx hb hml hown hts hK hW hRet ls hl
  have hl : lv_has ls 6 [(0, .ref a0)] := hl
  have hA : ∀ q ∈ L, (fun q => q ∈ L) q := fun _ h => h
  have hF : va_S (fun q => q ∈ L) s.heap s.heap [] := va_S.rf
  have hR : fr wr_X12_readsStep τ σ σ := fr_rf
  have hk_draft : τ (G a0 37) = 51 := gty hS h0 (k := 37) rfl rfl
  have := fbd hW h0 (k := 12) (lo := 0) (hi := 200) rfl rfl
  have := fbd hW h0 (k := 13) (lo := 0) (hi := 200) rfl rfl
  have := fbd hW h0 (k := 38) (lo := 0) (hi := 8) rfl rfl
  refine lv_aload_n hx hb dX12_readsStep_0 rfl (lv_at hl 0 rfl) ?_
  refine j_getI hx hb (C := RX12) (T := TX12) (N := 41) hts inX12_readsStep_X12 hown hK hS hW h0 rfl 38 rfl rfl (by decide) (hts _ flX12_readsStep_351) dX12_readsStep_1 ?_
  have := fbd hW h0 (k := 38) (lo := 0) (hi := 8) rfl rfl
  refine j_bi hx hb dX12_readsStep_4 (by decide) ?_
  refine j_icmp_ne (tgt := 19) hx hb (by omega) (by decide) dX12_readsStep_6 (by decide) (fun c_1 => ?_) (fun c_1 => ?_)
  · refine lv_aload_n hx hb dX12_readsStep_19 rfl (lv_at hl 0 rfl) ?_
    refine j_cR (j_runV (As := []) (rest := []) hx hb hml hown hts hK hS hW (kX12_here l hS σ (a0 := a0) (h0 := h0)) 0 gX12_readsStep_X12_here rfl hvX12_here ⟨Nat.le_of_ble_eq_true rfl, Nat.le_of_ble_eq_true rfl⟩ rfl rfl h0 rfl rfl rfl rfl hl.1 rfl (Nat.le_of_ble_eq_true rfl) dX12_readsStep_20 ⟨Nat.le_of_ble_eq_true rfl, Nat.le_of_ble_eq_true rfl⟩) (fun v_2 rv_2 pv_2 => ?_)
    try dsimp only at pv_2
    have q_here := pv_2
    refine lv_istore_n (lv' := [(1, .int (jI v_2)), (0, .ref a0)]) hx hb dX12_readsStep_23 rfl hl (by decide) rfl (fun ls hl => ?_)
    refine j_bi hx hb dX12_readsStep_24 (by decide) ?_
    refine lv_aload_n hx hb dX12_readsStep_26 rfl (lv_at hl 1 rfl) ?_
    refine j_getI hx hb (C := RX12) (T := TX12) (N := 41) hts inX12_readsStep_X12 hown hK hS hW h0 rfl 38 rfl rfl (by decide) (hts _ flX12_readsStep_351) dX12_readsStep_27 ?_
    refine j_mul hx hb dX12_readsStep_30 ?_
    refine lv_istore_n (lv' := [(2, .int (jI (28 * (σ a0 38)))), (1, .int (jI v_2)), (0, .ref a0)]) hx hb dX12_readsStep_31 rfl hl (by decide) rfl (fun ls hl => ?_)
    refine lv_iload_n hx hb dX12_readsStep_32 rfl (lv_at hl 1 rfl) ?_
    refine j_bi hx hb dX12_readsStep_33 (by decide) ?_
    have L_55 : ∀ (t0_55 : Int) (ls : Array Slot), (0 ≤ t0_55) → (t0_55 ≤ 1) → (t0_55 = 0 ∨ 0 ≤ v_2) → rg t0_55 → lv_has ls 6 [(0, .ref a0), (1, .int (jI v_2)), (2, .int (jI (28 * (σ a0 38))))] → W p l e ({ frames := 3, cells := 0, slots := 0, locals := 62 }) s m args below meth c s.heap [] 0 0 Q (F0 m 55 ls [.int (jI t0_55)]) := by
      intro t0_55 ls i0_55 i1_55 i2_55 rt0_55 hl
      refine lv_istore_n (lv' := [(3, .int (jI t0_55)), (0, .ref a0), (1, .int (jI v_2)), (2, .int (jI (28 * (σ a0 38))))]) hx hb dX12_readsStep_55 rfl hl (by decide) rfl (fun ls hl => ?_)
      refine lv_iload_n hx hb dX12_readsStep_56 rfl (lv_at hl 2 rfl) ?_
      refine j_bi hx hb dX12_readsStep_57 (by decide) ?_
      have L_97 : ∀ (t0_97 : Int) (ls : Array Slot), (0 ≤ t0_97) → (t0_97 ≤ 1) → (t0_97 = 0 → ¬ v_2 = 107) → (t0_97 = 0 ∨ 0 ≤ v_2) → rg t0_97 → lv_has ls 6 [(0, .ref a0), (1, .int (jI v_2)), (2, .int (jI (28 * (σ a0 38)))), (3, .int (jI t0_55))] → W p l e ({ frames := 3, cells := 0, slots := 0, locals := 62 }) s m args below meth c s.heap [] 0 0 Q (F0 m 97 ls [.int (jI t0_97)]) := by
        intro t0_97 ls i0_97 i1_97 i2_97 i3_97 rt0_97 hl
        refine lv_istore (lv' := [(4, .int (jI t0_97)), (0, .ref a0), (1, .int (jI v_2)), (2, .int (jI (28 * (σ a0 38)))), (3, .int (jI t0_55))]) hx hb dX12_readsStep_97 hl (by decide) rfl (fun ls hl => ?_)
        refine lv_iload_n hx hb dX12_readsStep_99 rfl (lv_at hl 4 rfl) ?_
        have L_124 : ∀ (ls : Array Slot), (0 ≤ v_2) → lv_has ls 6 [(0, .ref a0), (1, .int (jI v_2)), (2, .int (jI (28 * (σ a0 38)))), (4, .int (jI t0_97))] → W p l e ({ frames := 3, cells := 0, slots := 0, locals := 62 }) s m args below meth c s.heap [] 0 0 Q (F0 m 124 ls []) := by
          intro ls i0_124 hl
          refine lv_aload_n hx hb dX12_readsStep_124 rfl (lv_at hl 0 rfl) ?_
          refine lv_aload_n hx hb dX12_readsStep_125 rfl (lv_at hl 0 rfl) ?_
          refine j_getI hx hb (C := RX12) (T := TX12) (N := 41) hts inX12_readsStep_X12 hown hK hS hW h0 rfl 12 rfl rfl (by decide) (hts _ flX12_readsStep_180) dX12_readsStep_126 ?_
          have := fbd hW h0 (k := 12) (lo := 0) (hi := 200) rfl rfl
          refine j_const hx hb dX12_readsStep_129 ?_
          refine j_add hx hb dX12_readsStep_130 ?_
          refine j_putI hx hb (C := RX12) (T := TX12) (N := 41) hts inX12_readsStep_X12 tyX12 tyX12_ok nmX12 hown hK hS hA hW hF h0 rfl 12 (lo := 0) (hi := 200) rfl rfl (by decide) (hts _ flX12_readsStep_180) rfl .int rfl (by omega) rfl rfl dX12_readsStep_131 (fun σ_3 H locs e_4 hW hF => ?_)
          have hR := fr_up hR e_4 h0 13012 rfl (by decide)
          have Elength0 : σ_3 a0 13 = σ a0 13 := fld_up e_4 h0 h0 (fun q => absurd q.2 (by decide))
          have Edraft : σ_3 (G a0 37) = σ (G a0 37) := row_up e_4 h0 hk_draft (by decide)
          have Edrafted : σ_3 a0 38 = σ a0 38 := fld_up e_4 h0 h0 (fun q => absurd q.2 (by decide))
          have EkeyLong : σ_3 a0 24 = σ a0 24 := fld_up e_4 h0 h0 (fun q => absurd q.2 (by decide))
          try clear hfk
          have hfk : σ_3 a0 12 = (σ a0 12) + 1 := by rw [e_4]; exact up2_at _ _ _ _
          have hpl := hfk
          refine lv_aload_n hx hb dX12_readsStep_134 rfl (lv_at hl 0 rfl) ?_
          refine j_getR hx hb (C := RX12) (T := TX12) (N := 41) hts inX12_readsStep_X12 hown hK hS hW h0 rfl 37 rfl rfl (by decide) (hts _ flX12_readsStep_44) dX12_readsStep_135 ?_
          refine lv_iload_n hx hb dX12_readsStep_138 rfl (lv_at hl 2 rfl) ?_
          refine lv_iload_n hx hb dX12_readsStep_139 rfl (lv_at hl 1 rfl) ?_
          refine j_ast hx hb hK hS hA hW hF hk_draft (n := 224) (lo := -2147483648) (hi := 2147483647) rfl (by omega) (by omega) (by decide) (by omega) dX12_readsStep_140 (fun σ_5 H locs e_6 hW hF => ?_)
          have st_draft := e_6
          have hR := fr_up hR e_6 hk_draft 51000 (cdA 51 (by decide) _) (by decide)
          have Eplace0 : σ_5 a0 12 = σ_3 a0 12 := fld_up e_6 hk_draft h0 (fun q => absurd q.1 (by decide))
          have Elength0 : σ_5 a0 13 = σ a0 13 := (fld_up e_6 hk_draft h0 (fun q => absurd q.1 (by decide))).trans Elength0
          have Edrafted : σ_5 a0 38 = σ a0 38 := (fld_up e_6 hk_draft h0 (fun q => absurd q.1 (by decide))).trans Edrafted
          have EkeyLong : σ_5 a0 24 = σ a0 24 := (fld_up e_6 hk_draft h0 (fun q => absurd q.1 (by decide))).trans EkeyLong
          have sd0 := st_draft
          refine lv_aload_n hx hb dX12_readsStep_141 rfl (lv_at hl 0 rfl) ?_
          refine j_getR hx hb (C := RX12) (T := TX12) (N := 41) hts inX12_readsStep_X12 hown hK hS hW h0 rfl 37 rfl rfl (by decide) (hts _ flX12_readsStep_44) dX12_readsStep_142 ?_
          refine lv_iload_n hx hb dX12_readsStep_145 rfl (lv_at hl 2 rfl) ?_
          refine j_const hx hb dX12_readsStep_146 ?_
          refine j_add hx hb dX12_readsStep_147 ?_
          refine j_const hx hb dX12_readsStep_148 ?_
          refine j_ast hx hb hK hS hA hW hF hk_draft (n := 224) (lo := -2147483648) (hi := 2147483647) rfl (by omega) (by omega) (by decide) (by omega) dX12_readsStep_149 (fun σ_7 H locs e_8 hW hF => ?_)
          have st_draft := e_8
          have hR := fr_up hR e_8 hk_draft 51000 (cdA 51 (by decide) _) (by decide)
          have Eplace0 : σ_7 a0 12 = σ_3 a0 12 := (fld_up e_8 hk_draft h0 (fun q => absurd q.1 (by decide))).trans Eplace0
          have Elength0 : σ_7 a0 13 = σ a0 13 := (fld_up e_8 hk_draft h0 (fun q => absurd q.1 (by decide))).trans Elength0
          have Edrafted : σ_7 a0 38 = σ a0 38 := (fld_up e_8 hk_draft h0 (fun q => absurd q.1 (by decide))).trans Edrafted
          have EkeyLong : σ_7 a0 24 = σ a0 24 := (fld_up e_8 hk_draft h0 (fun q => absurd q.1 (by decide))).trans EkeyLong
          have sd1 := st_draft
          refine lv_aload_n hx hb dX12_readsStep_150 rfl (lv_at hl 0 rfl) ?_
          refine j_getR hx hb (C := RX12) (T := TX12) (N := 41) hts inX12_readsStep_X12 hown hK hS hW h0 rfl 37 rfl rfl (by decide) (hts _ flX12_readsStep_44) dX12_readsStep_151 ?_
          refine lv_iload_n hx hb dX12_readsStep_154 rfl (lv_at hl 2 rfl) ?_
          refine j_const hx hb dX12_readsStep_155 ?_
          refine j_add hx hb dX12_readsStep_156 ?_
          refine j_const hx hb dX12_readsStep_157 ?_
          refine j_ast hx hb hK hS hA hW hF hk_draft (n := 224) (lo := -2147483648) (hi := 2147483647) rfl (by omega) (by omega) (by decide) (by omega) dX12_readsStep_158 (fun σ_9 H locs e_10 hW hF => ?_)
          have st_draft := e_10
          have hR := fr_up hR e_10 hk_draft 51000 (cdA 51 (by decide) _) (by decide)
          have Eplace0 : σ_9 a0 12 = σ_3 a0 12 := (fld_up e_10 hk_draft h0 (fun q => absurd q.1 (by decide))).trans Eplace0
          have Elength0 : σ_9 a0 13 = σ a0 13 := (fld_up e_10 hk_draft h0 (fun q => absurd q.1 (by decide))).trans Elength0
          have Edrafted : σ_9 a0 38 = σ a0 38 := (fld_up e_10 hk_draft h0 (fun q => absurd q.1 (by decide))).trans Edrafted
          have EkeyLong : σ_9 a0 24 = σ a0 24 := (fld_up e_10 hk_draft h0 (fun q => absurd q.1 (by decide))).trans EkeyLong
          have hD0 : DS0 (σ_9 (G a0 37)) (σ (G a0 37)) (28 * (σ a0 38)) v_2 := DS0_i (by first | rfl | exact Edraft) sd0 sd1 st_draft (by omega)
          refine lv_iload hx hb dX12_readsStep_159 (lv_at hl 3 rfl) ?_
          have L_212 : ∀ (σL_212 : Nat → Nat → Int) (H : Heap) (locs : List Loc) (ls : Array Slot), (DS1 (σL_212 (G a0 37)) (σ (G a0 37)) (28 * (σ a0 38))) → (σ a0 12 ≤ σL_212 a0 12) → PW D cA τ G L σL_212 H → va_S (fun q => q ∈ L) s.heap H locs → fr wr_X12_readsStep τ σ σL_212 → σL_212 a0 13 = σ a0 13 → σL_212 a0 38 = σ a0 38 → σL_212 a0 24 = σ a0 24 → lv_has ls 6 [(0, .ref a0), (1, .int (jI v_2)), (2, .int (jI (28 * (σ a0 38))))] → W p l e ({ frames := 3, cells := 0, slots := 0, locals := 62 }) s m args below meth c H locs 0 0 Q (F0 m 212 ls []) := by
            intro σL_212 H locs ls i0_212 i1_212 hW hF hR Elength0 Edrafted EkeyLong hl
            refine lv_iload_n hx hb dX12_readsStep_212 rfl (lv_at hl 1 rfl) ?_
            refine j_bi hx hb dX12_readsStep_213 (by decide) ?_
            have L_284 : ∀ (σL_284 : Nat → Nat → Int) (H : Heap) (locs : List Loc) (ls : Array Slot), (DSF (σL_284 (G a0 37)) (σ (G a0 37)) (28 * σ a0 38)) → (σ a0 12 ≤ σL_284 a0 12) → PW D cA τ G L σL_284 H → va_S (fun q => q ∈ L) s.heap H locs → fr wr_X12_readsStep τ σ σL_284 → σL_284 a0 13 = σ a0 13 → σL_284 a0 38 = σ a0 38 → lv_has ls 6 [(0, .ref a0)] → W p l e ({ frames := 3, cells := 0, slots := 0, locals := 62 }) s m args below meth c H locs 0 0 Q (F0 m 284 ls []) := by
              intro σL_284 H locs ls i0_284 i1_284 hW hF hR Elength0 Edrafted hl
              refine lv_aload_n hx hb dX12_readsStep_284 rfl (lv_at hl 0 rfl) ?_
              refine lv_aload_n hx hb dX12_readsStep_285 rfl (lv_at hl 0 rfl) ?_
              refine j_getI hx hb (C := RX12) (T := TX12) (N := 41) hts inX12_readsStep_X12 hown hK hS hW h0 rfl 38 rfl rfl (by decide) (hts _ flX12_readsStep_351) dX12_readsStep_286 ?_
              rw [Edrafted]
              refine j_const hx hb dX12_readsStep_289 ?_
              refine j_add hx hb dX12_readsStep_290 ?_
              refine j_putI hx hb (C := RX12) (T := TX12) (N := 41) hts inX12_readsStep_X12 tyX12 tyX12_ok nmX12 hown hK hS hA hW hF h0 rfl 38 (lo := 0) (hi := 8) rfl rfl (by decide) (hts _ flX12_readsStep_351) rfl .int rfl (by omega) rfl rfl dX12_readsStep_291 (fun σ_11 H locs e_12 hW hF => ?_)
              have hR := fr_up hR e_12 h0 13038 rfl (by decide)
              have Eplace0 : σ_11 a0 12 = σL_284 a0 12 := fld_up e_12 h0 h0 (fun q => absurd q.2 (by decide))
              have Elength0 : σ_11 a0 13 = σ a0 13 := (fld_up e_12 h0 h0 (fun q => absurd q.2 (by decide))).trans Elength0
              have Edraft : σ_11 (G a0 37) = σL_284 (G a0 37) := row_up e_12 h0 hk_draft (by decide)
              have EkeyLong : σ_11 a0 24 = σL_284 a0 24 := fld_up e_12 h0 h0 (fun q => absurd q.2 (by decide))
              try clear hfk
              have hfk : σ_11 a0 38 = (σ a0 38) + 1 := by rw [e_12]; exact up2_at _ _ _ _
              refine j_const hx hb dX12_readsStep_294 ?_
              exact hRet 295 _ _ _ 1 _ dX12_readsStep_295 hW hF (by omega) ⟨(by first | exact ⟨fun _ => DR_f (by omega) q0 i0_284 (by omega), by omega⟩ | (simp only [Eplace0, Elength0, Edraft, EkeyLong]; exact ⟨fun _ => DR_f (by omega) q0 i0_284 (by omega), by omega⟩)), hR⟩
            refine j_icmp_ne (tgt := 284) hx hb (by omega) (by decide) dX12_readsStep_215 (by decide) (fun c_13 => ?_) (fun c_13 => ?_)
            · exact L_284 σL_212 _ _ _ (by first | exact (by first | exact DSF_a i0_212 | exact DSF_b i1_242 (by omega) (by omega) (by omega)) | (simp only [Elength0, Edrafted, EkeyLong]; exact (by first | exact DSF_a i0_212 | exact DSF_b i1_242 (by omega) (by omega) (by omega)))) (by first | exact (by omega) | (simp only [Elength0, Edrafted, EkeyLong]; exact (by omega))) hW hF hR Elength0 Edrafted (lv_sub hl [0] rfl)
            · refine lv_aload_n hx hb dX12_readsStep_218 rfl (lv_at hl 0 rfl) ?_
              refine j_cI (j_runV (As := []) (rest := []) hx hb hml hown hts hK hS hW (kX12_readsKey l hS σL_212 (a0 := a0) (h0 := h0)) 0 gX12_readsStep_X12_readsKey rfl hvX12_readsKey ⟨Nat.le_of_ble_eq_true rfl, Nat.le_of_ble_eq_true rfl⟩ rfl rfl h0 rfl rfl rfl rfl hl.1 rfl (Nat.le_of_ble_eq_true rfl) dX12_readsStep_219 ⟨Nat.le_of_ble_eq_true rfl, Nat.le_of_ble_eq_true rfl⟩) hA hF (fun v_14 σ_15 H locs hW hF rv_14 pv_14 => ?_)
              try dsimp only at pv_14
              obtain ⟨bpv_14, pv_14, fpv_14⟩ := pv_14
              try simp only [Elength0, Edrafted, EkeyLong] at pv_14
              have q_readsKey := pv_14
              have hR := fr_call hR fpv_14 (by decide)
              have Elength0 : σ_15 a0 13 = σ a0 13 := (fr_at fpv_14 h0 13 13013 rfl (by decide)).trans Elength0
              have Edraft : σ_15 (G a0 37) = σL_212 (G a0 37) := row_fr fpv_14 hk_draft 51 (by decide) (by decide)
              have Edrafted : σ_15 a0 38 = σ a0 38 := (fr_at fpv_14 h0 38 13038 rfl (by decide)).trans Edrafted
              refine j_if_ne (tgt := 227) hx hb (by omega) dX12_readsStep_222 (by decide) (fun c_16 => ?_) (fun c_16 => ?_)
              · refine lv_aload_n hx hb dX12_readsStep_227 rfl (lv_at hl 0 rfl) ?_
                refine j_getR hx hb (C := RX12) (T := TX12) (N := 41) hts inX12_readsStep_X12 hown hK hS hW h0 rfl 37 rfl rfl (by decide) (hts _ flX12_readsStep_44) dX12_readsStep_228 ?_
                refine lv_iload_n hx hb dX12_readsStep_231 rfl (lv_at hl 2 rfl) ?_
                refine j_const hx hb dX12_readsStep_232 ?_
                refine j_add hx hb dX12_readsStep_233 ?_
                refine lv_aload_n hx hb dX12_readsStep_234 rfl (lv_at hl 0 rfl) ?_
                refine j_getI hx hb (C := RX12) (T := TX12) (N := 41) hts inX12_readsStep_X12 hown hK hS hW h0 rfl 24 rfl rfl (by decide) (hts _ flX12_readsStep_201) dX12_readsStep_235 ?_
                have := fbd hW h0 (k := 24) (lo := 0) (hi := 24) rfl rfl
                refine j_ast hx hb hK hS hA hW hF hk_draft (n := 224) (lo := -2147483648) (hi := 2147483647) rfl (by omega) (by omega) (by decide) (by omega) dX12_readsStep_238 (fun σ_17 H locs e_18 hW hF => ?_)
                have st_draft := e_18
                have hR := fr_up hR e_18 hk_draft 51000 (cdA 51 (by decide) _) (by decide)
                have Eplace0 : σ_17 a0 12 = σ_15 a0 12 := fld_up e_18 hk_draft h0 (fun q => absurd q.1 (by decide))
                have Elength0 : σ_17 a0 13 = σ a0 13 := (fld_up e_18 hk_draft h0 (fun q => absurd q.1 (by decide))).trans Elength0
                have Edrafted : σ_17 a0 38 = σ a0 38 := (fld_up e_18 hk_draft h0 (fun q => absurd q.1 (by decide))).trans Edrafted
                have EkeyLong : σ_17 a0 24 = σ_15 a0 24 := fld_up e_18 hk_draft h0 (fun q => absurd q.1 (by decide))
                refine j_const hx hb dX12_readsStep_239 ?_
                refine lv_istore (lv' := [(5, .int (jI 0)), (0, .ref a0), (1, .int (jI v_2)), (2, .int (jI (28 * (σ a0 38))))]) hx hb dX12_readsStep_240 hl (by decide) rfl (fun ls hl => ?_)
                have L_242 : ∀ (N : Nat) (v5_242 : Int) (σL_242 : Nat → Nat → Int) (H : Heap) (locs : List Loc) (ls : Array Slot), N = (2147483647 - v5_242 : Int).toNat → (0 ≤ v5_242) → (DS2 (σL_242 (G a0 37)) (σ (G a0 37)) (28 * (σ a0 38)) (σ_15 a0 24) v5_242) → rg v5_242 → PW D cA τ G L σL_242 H → va_S (fun q => q ∈ L) s.heap H locs → fr wr_X12_readsStep τ σ σL_242 → σL_242 a0 12 = σ_15 a0 12 → σL_242 a0 13 = σ a0 13 → σL_242 a0 38 = σ a0 38 → σL_242 a0 24 = σ_15 a0 24 → lv_has ls 6 [(0, .ref a0), (2, .int (jI (28 * (σ a0 38)))), (5, .int (jI v5_242))] → W p l e ({ frames := 3, cells := 0, slots := 0, locals := 62 }) s m args below meth c H locs 0 0 Q (F0 m 242 ls []) := by
                  intro N
                  induction N using Nat.strongRecOn with
                  | ind N ih_242 =>
                    intro v5_242 σL_242 H locs ls hN i0_242 i1_242 rv5_242 hW hF hR Eplace0 Elength0 Edrafted EkeyLong hl
                    refine lv_iload hx hb dX12_readsStep_242 (lv_at hl 2 rfl) ?_
                    refine lv_aload_n hx hb dX12_readsStep_244 rfl (lv_at hl 0 rfl) ?_
                    refine j_getI hx hb (C := RX12) (T := TX12) (N := 41) hts inX12_readsStep_X12 hown hK hS hW h0 rfl 24 rfl rfl (by decide) (hts _ flX12_readsStep_201) dX12_readsStep_245 ?_
                    rw [EkeyLong]
                    refine j_icmp_ge (tgt := 284) hx hb (by omega) (by omega) dX12_readsStep_248 (by decide) (fun c_19 => ?_) (fun c_19 => ?_)
                    · exact L_284 σL_242 _ _ _ (by first | exact (by first | exact DSF_a i0_212 | exact DSF_b i1_242 (by omega) (by omega) (by omega)) | (simp only [Eplace0, Elength0, Edrafted, EkeyLong]; exact (by first | exact DSF_a i0_212 | exact DSF_b i1_242 (by omega) (by omega) (by omega)))) (by first | exact (by omega) | (simp only [Eplace0, Elength0, Edrafted, EkeyLong]; exact (by omega))) hW hF hR Elength0 Edrafted (lv_sub hl [0] rfl)
                    · refine lv_aload_n hx hb dX12_readsStep_251 rfl (lv_at hl 0 rfl) ?_
                      refine j_getR hx hb (C := RX12) (T := TX12) (N := 41) hts inX12_readsStep_X12 hown hK hS hW h0 rfl 37 rfl rfl (by decide) (hts _ flX12_readsStep_44) dX12_readsStep_252 ?_
                      refine lv_iload_n hx hb dX12_readsStep_255 rfl (lv_at hl 1 rfl) ?_
                      refine j_const hx hb dX12_readsStep_256 ?_
                      refine j_add hx hb dX12_readsStep_257 ?_
                      refine lv_iload hx hb dX12_readsStep_258 (lv_at hl 2 rfl) ?_
                      refine j_add hx hb dX12_readsStep_260 ?_
                      refine lv_aload_n hx hb dX12_readsStep_261 rfl (lv_at hl 0 rfl) ?_
                      refine j_getR hx hb (C := RX12) (T := TX12) (N := 41) hts inX12_readsStep_X12 hown hK hS hW h0 rfl 10 rfl rfl (by decide) (hts _ flX12_readsStep_22) dX12_readsStep_262 ?_
                      have h_20 : τ (G a0 10) = 44 := gty hS h0 (k := 10) rfl rfl
                      refine lv_aload_n hx hb dX12_readsStep_265 rfl (lv_at hl 0 rfl) ?_
                      refine j_getI hx hb (C := RX12) (T := TX12) (N := 41) hts inX12_readsStep_X12 hown hK hS hW h0 rfl 23 rfl rfl (by decide) (hts _ flX12_readsStep_198) dX12_readsStep_266 ?_
                      have := fbd hW h0 (k := 23) (lo := 0) (hi := 200) rfl rfl
                      refine lv_iload hx hb dX12_readsStep_269 (lv_at hl 2 rfl) ?_
                      refine j_add hx hb dX12_readsStep_271 ?_
                      refine j_bald hx hb hK hS hW h_20 (n := 240) rfl (by omega) (by omega) (by decide) dX12_readsStep_272 ?_
                      have := abd hW h_20 (n := 240) (lo := -128) (hi := 127) (i := (σL_242 a0 23) + v5_242) rfl (by omega) (by omega)
                      refine j_si hx hb dX12_readsStep_273 (by decide) ?_
                      refine j_and255 hx hb dX12_readsStep_276 ?_
                      refine j_ast hx hb hK hS hA hW hF hk_draft (n := 224) (lo := -2147483648) (hi := 2147483647) rfl (by omega) (by omega) (by decide) (by omega) dX12_readsStep_277 (fun σ_21 H locs e_22 hW hF => ?_)
                      have st_draft := e_22
                      have hR := fr_up hR e_22 hk_draft 51000 (cdA 51 (by decide) _) (by decide)
                      have Eplace0 : σ_21 a0 12 = σ_15 a0 12 := (fld_up e_22 hk_draft h0 (fun q => absurd q.1 (by decide))).trans Eplace0
                      have Elength0 : σ_21 a0 13 = σ a0 13 := (fld_up e_22 hk_draft h0 (fun q => absurd q.1 (by decide))).trans Elength0
                      have Edrafted : σ_21 a0 38 = σ a0 38 := (fld_up e_22 hk_draft h0 (fun q => absurd q.1 (by decide))).trans Edrafted
                      have EkeyLong : σ_21 a0 24 = σ_15 a0 24 := (fld_up e_22 hk_draft h0 (fun q => absurd q.1 (by decide))).trans EkeyLong
                      refine j_iinc (lv' := [(5, .int (jI (v5_242 + 1))), (0, .ref a0), (2, .int (jI (28 * (σ a0 38))))]) hx hb dX12_readsStep_278 hl (k := 2) rfl (by decide) rfl (fun ls hl => ?_)
                      refine lv_goto (tgt := 242) hx hb dX12_readsStep_281 (by decide) ?_
                      exact ih_242 ((2147483647 - (v5_242 + 1) : Int).toNat) (by omega) (v5_242 + 1) σ_21 _ _ _ rfl (by omega) (by first | exact (by first | exact DS2_s i1_242 (by rfl) st_draft (by omega) (by omega) (by omega) | exact DS2_0 i0_212 Edraft st_draft (by omega)) | (simp only [Eplace0, Elength0, Edrafted, EkeyLong]; exact (by first | exact DS2_s i1_242 (by rfl) st_draft (by omega) (by omega) (by omega) | exact DS2_0 i0_212 Edraft st_draft (by omega)))) (by omega) hW hF hR Eplace0 Elength0 Edrafted EkeyLong (lv_sub hl [1, 2, 0] rfl)
                exact L_242 ((2147483647 - 0 : Int).toNat) 0 σ_17 _ _ _ rfl (by omega) (by first | exact (by first | exact DS2_s i1_242 (by rfl) st_draft (by omega) (by omega) (by omega) | exact DS2_0 i0_212 Edraft st_draft (by omega)) | (simp only [Eplace0, Elength0, Edrafted, EkeyLong]; exact (by first | exact DS2_s i1_242 (by rfl) st_draft (by omega) (by omega) (by omega) | exact DS2_0 i0_212 Edraft st_draft (by omega)))) (by decide) hW hF hR Eplace0 Elength0 Edrafted EkeyLong (lv_sub hl [1, 3, 0] rfl)
              · refine j_const hx hb dX12_readsStep_225 ?_
                exact hRet 226 _ _ _ 0 _ dX12_readsStep_226 hW hF (by omega) ⟨(by first | exact ⟨fun h => (by exfalso; omega), by omega⟩ | (simp only [Elength0, Edraft, Edrafted]; exact ⟨fun h => (by exfalso; omega), by omega⟩)), hR⟩
          refine j_if_eq (tgt := 212) hx hb (by omega) dX12_readsStep_161 (by decide) (fun c_23 => ?_) (fun c_23 => ?_)
          · exact L_212 σ_9 _ _ _ (by first | exact (by first | exact DS1_a hD0 (i2_97 (by omega)) | exact DS1_b hD0 (by first | rfl | exact Edraft) st_draft (by omega) (Or.inl (by omega)) | exact DS1_b hD0 (by first | rfl | exact Edraft) st_draft (by omega) (Or.inr (by omega))) | (simp only [Eplace0, Elength0, Edrafted, EkeyLong]; exact (by first | exact DS1_a hD0 (i2_97 (by omega)) | exact DS1_b hD0 (by first | rfl | exact Edraft) st_draft (by omega) (Or.inl (by omega)) | exact DS1_b hD0 (by first | rfl | exact Edraft) st_draft (by omega) (Or.inr (by omega))))) (by first | exact (by omega) | (simp only [Eplace0, Elength0, Edrafted, EkeyLong]; exact (by omega))) hW hF hR Elength0 Edrafted EkeyLong (lv_sub hl [0, 1, 2] rfl)
          · refine lv_aload_n hx hb dX12_readsStep_164 rfl (lv_at hl 0 rfl) ?_
            refine j_getI hx hb (C := RX12) (T := TX12) (N := 41) hts inX12_readsStep_X12 hown hK hS hW h0 rfl 12 rfl rfl (by decide) (hts _ flX12_readsStep_180) dX12_readsStep_165 ?_
            rw [Eplace0]
            have := fbd hW h0 (k := 12) (lo := 0) (hi := 200) rfl rfl
            try simp only [Eplace0] at this
            refine lv_istore (lv' := [(5, .int (jI (σ_3 a0 12))), (0, .ref a0), (1, .int (jI v_2)), (2, .int (jI (28 * (σ a0 38)))), (4, .int (jI t0_97))]) hx hb dX12_readsStep_168 hl (by decide) rfl (fun ls hl => ?_)
            refine lv_aload_n hx hb dX12_readsStep_170 rfl (lv_at hl 1 rfl) ?_
            refine j_cI (j_runV (As := []) (rest := []) hx hb hml hown hts hK hS hW (kX12_readsNumber l hS σ_9 (a0 := a0) (h0 := h0)) 0 gX12_readsStep_X12_readsNumber rfl hvX12_readsNumber ⟨Nat.le_of_ble_eq_true rfl, Nat.le_of_ble_eq_true rfl⟩ rfl rfl h0 rfl rfl rfl rfl hl.1 rfl (Nat.le_of_ble_eq_true rfl) dX12_readsStep_171 ⟨Nat.le_of_ble_eq_true rfl, Nat.le_of_ble_eq_true rfl⟩) hA hF (fun v_24 σ_25 H locs hW hF rv_24 pv_24 => ?_)
            try dsimp only at pv_24
            obtain ⟨bpv_24, pv_24, fpv_24⟩ := pv_24
            try simp only [Eplace0, Elength0, Edrafted, EkeyLong] at pv_24
            have q_readsNumber := pv_24
            have hR := fr_call hR fpv_24 (by decide)
            have Elength0 : σ_25 a0 13 = σ a0 13 := (fr_at fpv_24 h0 13 13013 rfl (by decide)).trans Elength0
            have Edraft : σ_25 (G a0 37) = σ_9 (G a0 37) := row_fr fpv_24 hk_draft 51 (by decide) (by decide)
            have Edrafted : σ_25 a0 38 = σ a0 38 := (fr_at fpv_24 h0 38 13038 rfl (by decide)).trans Edrafted
            have EkeyLong : σ_25 a0 24 = σ a0 24 := (fr_at fpv_24 h0 24 13024 rfl (by decide)).trans EkeyLong
            refine j_if_ne (tgt := 179) hx hb (by omega) dX12_readsStep_174 (by decide) (fun c_26 => ?_) (fun c_26 => ?_)
            · refine lv_iload_n hx hb dX12_readsStep_179 rfl (lv_at hl 2 rfl) ?_
              refine j_bi hx hb dX12_readsStep_180 (by decide) ?_
              refine j_icmp_ne (tgt := 200) hx hb (by omega) (by decide) dX12_readsStep_182 (by decide) (fun c_27 => ?_) (fun c_27 => ?_)
              · refine lv_aload_n hx hb dX12_readsStep_200 rfl (lv_at hl 1 rfl) ?_
                refine j_getR hx hb (C := RX12) (T := TX12) (N := 41) hts inX12_readsStep_X12 hown hK hS hW h0 rfl 37 rfl rfl (by decide) (hts _ flX12_readsStep_44) dX12_readsStep_201 ?_
                refine lv_iload_n hx hb dX12_readsStep_204 rfl (lv_at hl 3 rfl) ?_
                refine j_const hx hb dX12_readsStep_205 ?_
                refine j_add hx hb dX12_readsStep_206 ?_
                refine lv_aload_n hx hb dX12_readsStep_207 rfl (lv_at hl 1 rfl) ?_
                refine j_getI hx hb (C := RX12) (T := TX12) (N := 41) hts inX12_readsStep_X12 hown hK hS hW h0 rfl 15 rfl rfl (by decide) (hts _ flX12_readsStep_195) dX12_readsStep_208 ?_
                have := fbd hW h0 (k := 15) (lo := -2147483648) (hi := 2147483647) rfl rfl
                refine j_ast hx hb hK hS hA hW hF hk_draft (n := 224) (lo := -2147483648) (hi := 2147483647) rfl (by omega) (by omega) (by decide) (by omega) dX12_readsStep_211 (fun σ_28 H locs e_29 hW hF => ?_)
                have st_draft := e_29
                have hR := fr_up hR e_29 hk_draft 51000 (cdA 51 (by decide) _) (by decide)
                have Eplace0 : σ_28 a0 12 = σ_25 a0 12 := fld_up e_29 hk_draft h0 (fun q => absurd q.1 (by decide))
                have Elength0 : σ_28 a0 13 = σ a0 13 := (fld_up e_29 hk_draft h0 (fun q => absurd q.1 (by decide))).trans Elength0
                have Edrafted : σ_28 a0 38 = σ a0 38 := (fld_up e_29 hk_draft h0 (fun q => absurd q.1 (by decide))).trans Edrafted
                have EkeyLong : σ_28 a0 24 = σ a0 24 := (fld_up e_29 hk_draft h0 (fun q => absurd q.1 (by decide))).trans EkeyLong
                exact L_212 σ_28 _ _ _ (by first | exact (by first | exact DS1_a hD0 (i2_97 (by omega)) | exact DS1_b hD0 (by first | rfl | exact Edraft) st_draft (by omega) (Or.inl (by omega)) | exact DS1_b hD0 (by first | rfl | exact Edraft) st_draft (by omega) (Or.inr (by omega))) | (simp only [Eplace0, Elength0, Edrafted, EkeyLong]; exact (by first | exact DS1_a hD0 (i2_97 (by omega)) | exact DS1_b hD0 (by first | rfl | exact Edraft) st_draft (by omega) (Or.inl (by omega)) | exact DS1_b hD0 (by first | rfl | exact Edraft) st_draft (by omega) (Or.inr (by omega))))) (by first | exact (by omega) | (simp only [Eplace0, Elength0, Edrafted, EkeyLong]; exact (by omega))) hW hF hR Elength0 Edrafted EkeyLong (lv_sub hl [1, 2, 3] rfl)
              · refine lv_aload_n hx hb dX12_readsStep_185 rfl (lv_at hl 1 rfl) ?_
                refine j_getI hx hb (C := RX12) (T := TX12) (N := 41) hts inX12_readsStep_X12 hown hK hS hW h0 rfl 15 rfl rfl (by decide) (hts _ flX12_readsStep_195) dX12_readsStep_186 ?_
                have := fbd hW h0 (k := 15) (lo := -2147483648) (hi := 2147483647) rfl rfl
                refine j_if_ne (tgt := 200) hx hb (by omega) dX12_readsStep_189 (by decide) (fun c_30 => ?_) (fun c_30 => ?_)
                · refine lv_aload_n hx hb dX12_readsStep_200 rfl (lv_at hl 1 rfl) ?_
                  refine j_getR hx hb (C := RX12) (T := TX12) (N := 41) hts inX12_readsStep_X12 hown hK hS hW h0 rfl 37 rfl rfl (by decide) (hts _ flX12_readsStep_44) dX12_readsStep_201 ?_
                  refine lv_iload_n hx hb dX12_readsStep_204 rfl (lv_at hl 3 rfl) ?_
                  refine j_const hx hb dX12_readsStep_205 ?_
                  refine j_add hx hb dX12_readsStep_206 ?_
                  refine lv_aload_n hx hb dX12_readsStep_207 rfl (lv_at hl 1 rfl) ?_
                  refine j_getI hx hb (C := RX12) (T := TX12) (N := 41) hts inX12_readsStep_X12 hown hK hS hW h0 rfl 15 rfl rfl (by decide) (hts _ flX12_readsStep_195) dX12_readsStep_208 ?_
                  refine j_ast hx hb hK hS hA hW hF hk_draft (n := 224) (lo := -2147483648) (hi := 2147483647) rfl (by omega) (by omega) (by decide) (by omega) dX12_readsStep_211 (fun σ_31 H locs e_32 hW hF => ?_)
                  have st_draft := e_32
                  have hR := fr_up hR e_32 hk_draft 51000 (cdA 51 (by decide) _) (by decide)
                  have Eplace0 : σ_31 a0 12 = σ_25 a0 12 := fld_up e_32 hk_draft h0 (fun q => absurd q.1 (by decide))
                  have Elength0 : σ_31 a0 13 = σ a0 13 := (fld_up e_32 hk_draft h0 (fun q => absurd q.1 (by decide))).trans Elength0
                  have Edrafted : σ_31 a0 38 = σ a0 38 := (fld_up e_32 hk_draft h0 (fun q => absurd q.1 (by decide))).trans Edrafted
                  have EkeyLong : σ_31 a0 24 = σ a0 24 := (fld_up e_32 hk_draft h0 (fun q => absurd q.1 (by decide))).trans EkeyLong
                  exact L_212 σ_31 _ _ _ (by first | exact (by first | exact DS1_a hD0 (i2_97 (by omega)) | exact DS1_b hD0 (by first | rfl | exact Edraft) st_draft (by omega) (Or.inl (by omega)) | exact DS1_b hD0 (by first | rfl | exact Edraft) st_draft (by omega) (Or.inr (by omega))) | (simp only [Eplace0, Elength0, Edrafted, EkeyLong]; exact (by first | exact DS1_a hD0 (i2_97 (by omega)) | exact DS1_b hD0 (by first | rfl | exact Edraft) st_draft (by omega) (Or.inl (by omega)) | exact DS1_b hD0 (by first | rfl | exact Edraft) st_draft (by omega) (Or.inr (by omega))))) (by first | exact (by omega) | (simp only [Eplace0, Elength0, Edrafted, EkeyLong]; exact (by omega))) hW hF hR Elength0 Edrafted EkeyLong (lv_sub hl [1, 2, 3] rfl)
                · refine lv_aload_n hx hb dX12_readsStep_192 rfl (lv_at hl 1 rfl) ?_
                  refine j_const hx hb dX12_readsStep_193 ?_
                  refine lv_iload hx hb dX12_readsStep_194 (lv_at hl 0 rfl) ?_
                  refine j_cI (j_runV (As := [.int (jI 3), .int (jI (σ_3 a0 12))]) (rest := []) hx hb hml hown hts hK hS hW (kX12_wrongAt l hS σ_25 (a0 := a0) (h0 := h0) (x1 := 3) (r1 := (by decide)) (x2 := σ_3 a0 12) (r2 := (by omega))) 2 gX12_readsStep_X12_wrongAt rfl hvX12_wrongAt ⟨Nat.le_of_ble_eq_true rfl, Nat.le_of_ble_eq_true rfl⟩ rfl rfl h0 rfl rfl rfl rfl hl.1 rfl (Nat.le_of_ble_eq_true rfl) dX12_readsStep_196 ⟨Nat.le_of_ble_eq_true rfl, Nat.le_of_ble_eq_true rfl⟩) hA hF (fun v_33 σ_34 H locs hW hF rv_33 pv_33 => ?_)
                  try dsimp only at pv_33
                  obtain ⟨bpv_33, pv_33, fpv_33⟩ := pv_33
                  try simp only [Elength0, Edraft, Edrafted, EkeyLong] at pv_33
                  have q_wrongAt := pv_33
                  have hR := fr_call hR fpv_33 (by decide)
                  have Eplace0 : σ_34 a0 12 = σ_25 a0 12 := fr_at fpv_33 h0 12 13012 rfl (by decide)
                  have Elength0 : σ_34 a0 13 = σ a0 13 := (fr_at fpv_33 h0 13 13013 rfl (by decide)).trans Elength0
                  have Edraft : σ_34 (G a0 37) = σ_9 (G a0 37) := (row_fr fpv_33 hk_draft 51 (by decide) (by decide)).trans Edraft
                  have Edrafted : σ_34 a0 38 = σ a0 38 := (fr_at fpv_33 h0 38 13038 rfl (by decide)).trans Edrafted
                  have EkeyLong : σ_34 a0 24 = σ a0 24 := (fr_at fpv_33 h0 24 13024 rfl (by decide)).trans EkeyLong
                  exact hRet 199 _ _ _ v_33 _ dX12_readsStep_199 hW hF (by omega) ⟨(by first | exact ⟨fun h => (by exfalso; omega), by omega⟩ | (simp only [Eplace0, Elength0, Edraft, Edrafted, EkeyLong]; exact ⟨fun h => (by exfalso; omega), by omega⟩)), hR⟩
            · refine j_const hx hb dX12_readsStep_177 ?_
              exact hRet 178 _ _ _ 0 _ dX12_readsStep_178 hW hF (by omega) ⟨(by first | exact ⟨fun h => (by exfalso; omega), by omega⟩ | (simp only [Elength0, Edraft, Edrafted, EkeyLong]; exact ⟨fun h => (by exfalso; omega), by omega⟩)), hR⟩
        refine j_if_ne (tgt := 124) hx hb (by omega) dX12_readsStep_100 (by decide) (fun c_35 => ?_) (fun c_35 => ?_)
        · exact L_124 _ (by omega) (lv_sub hl [1, 2, 3, 0] rfl)
        · refine lv_iload hx hb dX12_readsStep_103 (lv_at hl 0 rfl) ?_
          refine j_if_ne (tgt := 124) hx hb (by omega) dX12_readsStep_105 (by decide) (fun c_36 => ?_) (fun c_36 => ?_)
          · exact L_124 _ (by omega) (lv_sub hl [1, 2, 3, 0] rfl)
          · refine lv_iload_n hx hb dX12_readsStep_108 rfl (lv_at hl 2 rfl) ?_
            refine j_bi hx hb dX12_readsStep_109 (by decide) ?_
            refine j_icmp_eq (tgt := 124) hx hb (by omega) (by decide) dX12_readsStep_111 (by decide) (fun c_37 => ?_) (fun c_37 => ?_)
            · exact L_124 _ (by omega) (lv_sub hl [1, 2, 3, 0] rfl)
            · refine lv_aload_n hx hb dX12_readsStep_114 rfl (lv_at hl 1 rfl) ?_
              refine j_const hx hb dX12_readsStep_115 ?_
              refine lv_aload_n hx hb dX12_readsStep_116 rfl (lv_at hl 1 rfl) ?_
              refine j_getI hx hb (C := RX12) (T := TX12) (N := 41) hts inX12_readsStep_X12 hown hK hS hW h0 rfl 12 rfl rfl (by decide) (hts _ flX12_readsStep_180) dX12_readsStep_117 ?_
              have := fbd hW h0 (k := 12) (lo := 0) (hi := 200) rfl rfl
              refine j_cI (j_runV (As := [.int (jI 1), .int (jI (σ a0 12))]) (rest := []) hx hb hml hown hts hK hS hW (kX12_wrongAt l hS σ (a0 := a0) (h0 := h0) (x1 := 1) (r1 := (by decide)) (x2 := σ a0 12) (r2 := (by omega))) 2 gX12_readsStep_X12_wrongAt rfl hvX12_wrongAt ⟨Nat.le_of_ble_eq_true rfl, Nat.le_of_ble_eq_true rfl⟩ rfl rfl h0 rfl rfl rfl rfl hl.1 rfl (Nat.le_of_ble_eq_true rfl) dX12_readsStep_120 ⟨Nat.le_of_ble_eq_true rfl, Nat.le_of_ble_eq_true rfl⟩) hA hF (fun v_38 σ_39 H locs hW hF rv_38 pv_38 => ?_)
              try dsimp only at pv_38
              obtain ⟨bpv_38, pv_38, fpv_38⟩ := pv_38
              have q_wrongAt := pv_38
              have hR := fr_call hR fpv_38 (by decide)
              have Eplace0 : σ_39 a0 12 = σ a0 12 := fr_at fpv_38 h0 12 13012 rfl (by decide)
              have Elength0 : σ_39 a0 13 = σ a0 13 := fr_at fpv_38 h0 13 13013 rfl (by decide)
              have Edraft : σ_39 (G a0 37) = σ (G a0 37) := row_fr fpv_38 hk_draft 51 (by decide) (by decide)
              have Edrafted : σ_39 a0 38 = σ a0 38 := fr_at fpv_38 h0 38 13038 rfl (by decide)
              have EkeyLong : σ_39 a0 24 = σ a0 24 := fr_at fpv_38 h0 24 13024 rfl (by decide)
              exact hRet 123 _ _ _ v_38 _ dX12_readsStep_123 hW hF (by omega) ⟨(by first | exact ⟨fun h => (by exfalso; omega), by omega⟩ | (simp only [Eplace0, Elength0, Edraft, Edrafted, EkeyLong]; exact ⟨fun h => (by exfalso; omega), by omega⟩)), hR⟩
      refine j_icmp_eq (tgt := 92) hx hb (by omega) (by decide) dX12_readsStep_59 (by decide) (fun c_40 => ?_) (fun c_40 => ?_)
      · refine j_const hx hb dX12_readsStep_92 ?_
        refine lv_goto (tgt := 97) hx hb dX12_readsStep_93 (by decide) ?_
        exact L_97 1 _ (by omega) (by omega) (by omega) (by omega) (by decide) (lv_sub hl [1, 2, 3, 0] rfl)
      · refine lv_iload_n hx hb dX12_readsStep_62 rfl (lv_at hl 2 rfl) ?_
        refine j_bi hx hb dX12_readsStep_63 (by decide) ?_
        refine j_icmp_eq (tgt := 92) hx hb (by omega) (by decide) dX12_readsStep_65 (by decide) (fun c_41 => ?_) (fun c_41 => ?_)
        · refine j_const hx hb dX12_readsStep_92 ?_
          refine lv_goto (tgt := 97) hx hb dX12_readsStep_93 (by decide) ?_
          exact L_97 1 _ (by omega) (by omega) (by omega) (by omega) (by decide) (lv_sub hl [1, 2, 3, 0] rfl)
        · refine lv_iload_n hx hb dX12_readsStep_68 rfl (lv_at hl 2 rfl) ?_
          refine j_bi hx hb dX12_readsStep_69 (by decide) ?_
          refine j_icmp_eq (tgt := 92) hx hb (by omega) (by decide) dX12_readsStep_71 (by decide) (fun c_42 => ?_) (fun c_42 => ?_)
          · refine j_const hx hb dX12_readsStep_92 ?_
            refine lv_goto (tgt := 97) hx hb dX12_readsStep_93 (by decide) ?_
            exact L_97 1 _ (by omega) (by omega) (by omega) (by omega) (by decide) (lv_sub hl [1, 2, 3, 0] rfl)
          · refine lv_iload_n hx hb dX12_readsStep_74 rfl (lv_at hl 2 rfl) ?_
            refine j_bi hx hb dX12_readsStep_75 (by decide) ?_
            refine j_icmp_eq (tgt := 92) hx hb (by omega) (by decide) dX12_readsStep_77 (by decide) (fun c_43 => ?_) (fun c_43 => ?_)
            · refine j_const hx hb dX12_readsStep_92 ?_
              refine lv_goto (tgt := 97) hx hb dX12_readsStep_93 (by decide) ?_
              exact L_97 1 _ (by omega) (by omega) (by omega) (by omega) (by decide) (lv_sub hl [1, 2, 3, 0] rfl)
            · refine lv_iload_n hx hb dX12_readsStep_80 rfl (lv_at hl 2 rfl) ?_
              refine j_bi hx hb dX12_readsStep_81 (by decide) ?_
              refine j_icmp_eq (tgt := 92) hx hb (by omega) (by decide) dX12_readsStep_83 (by decide) (fun c_44 => ?_) (fun c_44 => ?_)
              · refine j_const hx hb dX12_readsStep_92 ?_
                refine lv_goto (tgt := 97) hx hb dX12_readsStep_93 (by decide) ?_
                exact L_97 1 _ (by omega) (by omega) (by omega) (by omega) (by decide) (lv_sub hl [1, 2, 3, 0] rfl)
              · refine lv_iload_n hx hb dX12_readsStep_86 rfl (lv_at hl 2 rfl) ?_
                refine j_bi hx hb dX12_readsStep_87 (by decide) ?_
                refine j_icmp_ne (tgt := 96) hx hb (by omega) (by decide) dX12_readsStep_89 (by decide) (fun c_45 => ?_) (fun c_45 => ?_)
                · refine j_const hx hb dX12_readsStep_96 ?_
                  exact L_97 0 _ (by omega) (by omega) (by omega) (by omega) (by decide) (lv_sub hl [1, 2, 3, 0] rfl)
                · refine j_const hx hb dX12_readsStep_92 ?_
                  refine lv_goto (tgt := 97) hx hb dX12_readsStep_93 (by decide) ?_
                  exact L_97 1 _ (by omega) (by omega) (by omega) (by omega) (by decide) (lv_sub hl [1, 2, 3, 0] rfl)
    refine j_icmp_eq (tgt := 50) hx hb (by omega) (by decide) dX12_readsStep_35 (by decide) (fun c_46 => ?_) (fun c_46 => ?_)
    · refine j_const hx hb dX12_readsStep_50 ?_
      refine lv_goto (tgt := 55) hx hb dX12_readsStep_51 (by decide) ?_
      exact L_55 1 _ (by omega) (by omega) (by omega) (by decide) (lv_sub hl [2, 1, 0] rfl)
    · refine lv_iload_n hx hb dX12_readsStep_38 rfl (lv_at hl 1 rfl) ?_
      refine j_bi hx hb dX12_readsStep_39 (by decide) ?_
      refine j_icmp_eq (tgt := 50) hx hb (by omega) (by decide) dX12_readsStep_41 (by decide) (fun c_47 => ?_) (fun c_47 => ?_)
      · refine j_const hx hb dX12_readsStep_50 ?_
        refine lv_goto (tgt := 55) hx hb dX12_readsStep_51 (by decide) ?_
        exact L_55 1 _ (by omega) (by omega) (by omega) (by decide) (lv_sub hl [2, 1, 0] rfl)
      · refine lv_iload_n hx hb dX12_readsStep_44 rfl (lv_at hl 1 rfl) ?_
        refine j_bi hx hb dX12_readsStep_45 (by decide) ?_
        refine j_icmp_ne (tgt := 54) hx hb (by omega) (by decide) dX12_readsStep_47 (by decide) (fun c_48 => ?_) (fun c_48 => ?_)
        · refine j_const hx hb dX12_readsStep_54 ?_
          exact L_55 0 _ (by omega) (by omega) (by omega) (by decide) (lv_sub hl [2, 1, 0] rfl)
        · refine j_const hx hb dX12_readsStep_50 ?_
          refine lv_goto (tgt := 55) hx hb dX12_readsStep_51 (by decide) ?_
          exact L_55 1 _ (by omega) (by omega) (by omega) (by decide) (lv_sub hl [2, 1, 0] rfl)
  · refine lv_aload_n hx hb dX12_readsStep_9 rfl (lv_at hl 0 rfl) ?_
    refine j_const hx hb dX12_readsStep_10 ?_
    refine lv_aload_n hx hb dX12_readsStep_11 rfl (lv_at hl 0 rfl) ?_
    refine j_getI hx hb (C := RX12) (T := TX12) (N := 41) hts inX12_readsStep_X12 hown hK hS hW h0 rfl 12 rfl rfl (by decide) (hts _ flX12_readsStep_180) dX12_readsStep_12 ?_
    have := fbd hW h0 (k := 12) (lo := 0) (hi := 200) rfl rfl
    refine j_cI (j_runV (As := [.int (jI 4), .int (jI (σ a0 12))]) (rest := []) hx hb hml hown hts hK hS hW (kX12_wrongAt l hS σ (a0 := a0) (h0 := h0) (x1 := 4) (r1 := (by decide)) (x2 := σ a0 12) (r2 := (by omega))) 2 gX12_readsStep_X12_wrongAt rfl hvX12_wrongAt ⟨Nat.le_of_ble_eq_true rfl, Nat.le_of_ble_eq_true rfl⟩ rfl rfl h0 rfl rfl rfl rfl hl.1 rfl (Nat.le_of_ble_eq_true rfl) dX12_readsStep_15 ⟨Nat.le_of_ble_eq_true rfl, Nat.le_of_ble_eq_true rfl⟩) hA hF (fun v_49 σ_50 H locs hW hF rv_49 pv_49 => ?_)
    try dsimp only at pv_49
    obtain ⟨bpv_49, pv_49, fpv_49⟩ := pv_49
    have q_wrongAt := pv_49
    have hR := fr_call hR fpv_49 (by decide)
    have Eplace0 : σ_50 a0 12 = σ a0 12 := fr_at fpv_49 h0 12 13012 rfl (by decide)
    have Elength0 : σ_50 a0 13 = σ a0 13 := fr_at fpv_49 h0 13 13013 rfl (by decide)
    have Edraft : σ_50 (G a0 37) = σ (G a0 37) := row_fr fpv_49 hk_draft 51 (by decide) (by decide)
    have Edrafted : σ_50 a0 38 = σ a0 38 := fr_at fpv_49 h0 38 13038 rfl (by decide)
    have EkeyLong : σ_50 a0 24 = σ a0 24 := fr_at fpv_49 h0 24 13024 rfl (by decide)
    exact hRet 18 _ _ _ v_49 _ dX12_readsStep_18 hW hF (by omega) ⟨(by first | exact ⟨fun h => (by exfalso; omega), by omega⟩ | (simp only [Eplace0, Elength0, Edraft, Edrafted, EkeyLong]; exact ⟨fun h => (by exfalso; omega), by omega⟩)), hR⟩
