abbrev wr_X12_findsEntries : List Nat := [13004, 13005, 13008, 42000, 43000]
theorem flX12_findsEntries_7 : Cond.fieldLink RX12 7 "PageTrieModel" "file" "[I" ∈ wsX12_findsEntries := List.mem_of_getElem? (i := 1) rfl
theorem flX12_findsEntries_16 : Cond.fieldLink RX12 16 "PageTrieModel" "entryAt" "[I" ∈ wsX12_findsEntries := List.mem_of_getElem? (i := 6) rfl
theorem flX12_findsEntries_19 : Cond.fieldLink RX12 19 "PageTrieModel" "entryKind" "[I" ∈ wsX12_findsEntries := List.mem_of_getElem? (i := 5) rfl
theorem flX12_findsEntries_84 : Cond.fieldLink RX12 84 "PageTrieModel" "low" "I" ∈ wsX12_findsEntries := List.mem_of_getElem? (i := 3) rfl
theorem flX12_findsEntries_90 : Cond.fieldLink RX12 90 "PageTrieModel" "high" "I" ∈ wsX12_findsEntries := List.mem_of_getElem? (i := 4) rfl
theorem flX12_findsEntries_97 : Cond.fieldLink RX12 97 "PageTrieModel" "entries" "I" ∈ wsX12_findsEntries := List.mem_of_getElem? (i := 2) rfl
theorem inX12_findsEntries_X12 : ∀ w ∈ u_ws RX12 TX12 41, w ∈ wsX12_findsEntries := mem_r _ [34, 35, 36, 37, 38, 39, 40, 41, 42, 43, 44, 45, 46, 47, 48, 49, 50, 51, 52, 53, 54, 55, 56, 57, 58, 59, 60, 61, 62, 63, 64, 65, 66, 67, 68, 69, 70, 71, 72, 73, 74] rfl
theorem hvX12_findsEntries : yX12_findsEntries.cls = RX12 ∧ yX12_findsEntries.cls ≠ "java/lang/invoke/MethodHandle" ∧ yX12_findsEntries.cls ≠ "java/lang/invoke/VarHandle" ∧ (parseMethodDescriptor yX12_findsEntries.desc).map (fun d => d.parameters.length) = some 1 := by decide +kernel
set_option maxHeartbeats 4000000 in
set_option maxRecDepth 100000 in
theorem kX12_findsEntries (l : Launch) {D : va_G} {cA : Nat → ClassId} {τ : Nat → Nat} {G : Nat → Nat → Nat} {L : List Nat} (hS : SW τ G L) (σ : Nat → Nat → Int) {a0 : Nat} (h0 : τ a0 = 13) {x1 : Int} (r1 : rg x1) (hI : FI G a0 σ) (q0 : 0 ≤ x1) (q1 : x1 ≤ 24) : Met l yX12_findsEntries wsX12_findsEntries ({ frames := 3, cells := 0, slots := 0, locals := 66 }) (jP D cA τ G L σ [.ref a0, .int (jI x1)]) (jQV D cA τ G L (fun σ' => (((RG (σ (G a0 0) 0) (x1 * σ (G a0 0) 1) (σ' a0 4) (σ' a0 5) (fun i => kO (σ (G a0 0)) i 0) (fun i => kB (σ (G a0 0)) i) (σ a0 3) (hB (σ (G a0 2))) ∧ (σ' a0 4 < σ (G a0 0) 0 → σ' a0 4 < σ' a0 5))) ∧ (ENI (σ' a0 4) (σ' a0 5) ((x1 + 1) * σ (G a0 0) 1) (σ' a0 8) (fun k => σ' (G a0 6) k.toNat) (fun i => kO (σ (G a0 0)) i 0) (fun i => kB (σ (G a0 0)) i)) ∧ (σ' (G a0 6) (σ' a0 8).toNat = σ' a0 5)) ∧ fr wr_X12_findsEntries τ σ σ')) 0 0 (fun q => q ∈ L) := by
  refine j_metV (by decide +kernel) rfl (Nat.le_of_ble_eq_true rfl) ?_
  intro p e s m args below meth c Q hx hb hml hown hts hK hW hRet ls hl
  have hl : lv_has ls 4 [(0, .ref a0), (1, .int (jI x1))] := hl
  have hA : ∀ q ∈ L, (fun q => q ∈ L) q := fun _ h => h
  have hF : va_S (fun q => q ∈ L) s.heap s.heap [] := va_S.rf
  have hR : fr wr_X12_findsEntries τ σ σ := fr_rf
  have hk_file : τ (G a0 0) = 40 := gty hS h0 (k := 0) rfl rfl
  have hk_hand : τ (G a0 2) = 41 := gty hS h0 (k := 2) rfl rfl
  have hk_ea : τ (G a0 6) = 42 := gty hS h0 (k := 6) rfl rfl
  have := FI_bd hI
  have := fbd hW h0 (k := 3) (lo := 0) (hi := 24) rfl rfl
  have hm1 := mul_bd (a := x1) (b := σ (G a0 0) 1) (A := 24) (B := 8) q0 q1 (by omega) (by omega)
  have hm2 : (x1 + 1) * σ (G a0 0) 1 = x1 * σ (G a0 0) 1 + σ (G a0 0) 1 := mul_s
  refine lv_aload_n hx hb dX12_findsEntries_0 rfl (lv_at hl 0 rfl) ?_
  refine lv_iload_n hx hb dX12_findsEntries_1 rfl (lv_at hl 1 rfl) ?_
  refine lv_aload_n hx hb dX12_findsEntries_2 rfl (lv_at hl 0 rfl) ?_
  refine j_getR hx hb (C := RX12) (T := TX12) (N := 41) hts inX12_findsEntries_X12 hown hK hS hW h0 rfl 0 rfl rfl (by decide) (hts _ flX12_findsEntries_7) dX12_findsEntries_3 ?_
  refine j_const hx hb dX12_findsEntries_6 ?_
  refine j_ald hx hb hK hS hW hk_file (n := 17624) rfl (by omega) (by omega) (by decide) dX12_findsEntries_7 ?_
  have : -2147483648 ≤ σ (G a0 0) 1 ∧ σ (G a0 0) 1 ≤ 2147483647 := abd hW hk_file (n := 17624) (lo := -2147483648) (hi := 2147483647) (i := 1) rfl (by decide) (by decide)
  refine j_eq (z := σ (G a0 0) 1) rfl ?_
  have := FI_bd hI
  refine j_mul hx hb dX12_findsEntries_8 ?_
  refine j_cV (j_runV (As := [.int (jI (x1 * (σ (G a0 0) 1)))]) (rest := []) hx hb hml hown hts hK hS hW (kX12_findsRange l hS σ (a0 := a0) (h0 := h0) (x1 := x1 * (σ (G a0 0) 1)) (r1 := (by omega)) (hI := hI) (q0 := (by omega)) (q1 := (by omega))) 1 gX12_findsEntries_X12_findsRange rfl hvX12_findsRange ⟨Nat.le_of_ble_eq_true rfl, Nat.le_of_ble_eq_true rfl⟩ rfl rfl h0 rfl rfl rfl rfl hl.1 rfl (Nat.le_of_ble_eq_true rfl) dX12_findsEntries_9 ⟨Nat.le_of_ble_eq_true rfl, Nat.le_of_ble_eq_true rfl⟩) hA hF (fun σ_1 H locs hW hF pσ_1 => ?_)
  try dsimp only at pσ_1
  obtain ⟨pσ_1, fpσ_1⟩ := pσ_1
  have q_findsRange := pσ_1
  have hR := fr_call hR fpσ_1 (by decide)
  have Efile : σ_1 (G a0 0) = σ (G a0 0) := row_fr fpσ_1 hk_file 40 (by decide) (by decide)
  have := congrFun Efile 0
  have Ehl : σ_1 a0 3 = σ a0 3 := fr_at fpσ_1 h0 3 13003 rfl (by decide)
  have Ehand : σ_1 (G a0 2) = σ (G a0 2) := row_fr fpσ_1 hk_hand 41 (by decide) (by decide)
  have Eents : σ_1 a0 8 = σ a0 8 := fr_at fpσ_1 h0 8 13008 rfl (by decide)
  have Eea : σ_1 (G a0 6) = σ (G a0 6) := row_fr fpσ_1 hk_ea 42 (by decide) (by decide)
  have hI := FI_dep hS h0 hI (kp_fr fpσ_1 (by decide))
  have hrg := q_findsRange.1; have hrn := q_findsRange.2
  have : 0 ≤ σ_1 a0 4 ∧ σ_1 a0 4 ≤ σ_1 a0 5 ∧ σ_1 a0 5 ≤ σ (G a0 0) 0 := ⟨hrg.1, hrg.2.1, hrg.2.2.1⟩
  refine lv_iload_n hx hb dX12_findsEntries_12 rfl (lv_at hl 1 rfl) ?_
  refine j_const hx hb dX12_findsEntries_13 ?_
  refine j_add hx hb dX12_findsEntries_14 ?_
  refine lv_aload_n hx hb dX12_findsEntries_15 rfl (lv_at hl 0 rfl) ?_
  refine j_getR hx hb (C := RX12) (T := TX12) (N := 41) hts inX12_findsEntries_X12 hown hK hS hW h0 rfl 0 rfl rfl (by decide) (hts _ flX12_findsEntries_7) dX12_findsEntries_16 ?_
  refine j_const hx hb dX12_findsEntries_19 ?_
  refine j_ald hx hb hK hS hW hk_file (n := 17624) rfl (by omega) (by omega) (by decide) dX12_findsEntries_20 ?_
  have : -2147483648 ≤ σ_1 (G a0 0) 1 ∧ σ_1 (G a0 0) 1 ≤ 2147483647 := abd hW hk_file (n := 17624) (lo := -2147483648) (hi := 2147483647) (i := 1) rfl (by decide) (by decide)
  rw [Efile]
  try simp only [Efile] at this
  refine j_eq (z := σ (G a0 0) 1) rfl ?_
  refine j_mul hx hb dX12_findsEntries_21 ?_
  refine lv_istore_n (lv' := [(2, .int (jI ((x1 + 1) * (σ (G a0 0) 1)))), (0, .ref a0), (1, .int (jI x1))]) hx hb dX12_findsEntries_22 rfl hl (by decide) rfl (fun ls hl => ?_)
  refine lv_aload_n hx hb dX12_findsEntries_23 rfl (lv_at hl 1 rfl) ?_
  refine j_const hx hb dX12_findsEntries_24 ?_
  refine j_putI hx hb (C := RX12) (T := TX12) (N := 41) hts inX12_findsEntries_X12 tyX12 tyX12_ok nmX12 hown hK hS hA hW hF h0 rfl 8 (lo := 0) (hi := 150) rfl rfl (by decide) (hts _ flX12_findsEntries_97) rfl .int rfl (by omega) rfl rfl dX12_findsEntries_25 (fun σ_2 H locs e_3 hW hF => ?_)
  have hR := fr_up hR e_3 h0 13008 rfl (by decide)
  have Efile : σ_2 (G a0 0) = σ (G a0 0) := (row_up e_3 h0 hk_file (by decide)).trans Efile
  have := congrFun Efile 0
  have Ehl : σ_2 a0 3 = σ a0 3 := (fld_up e_3 h0 h0 (fun q => absurd q.2 (by decide))).trans Ehl
  have Ehand : σ_2 (G a0 2) = σ (G a0 2) := (row_up e_3 h0 hk_hand (by decide)).trans Ehand
  have Elow : σ_2 a0 4 = σ_1 a0 4 := fld_up e_3 h0 h0 (fun q => absurd q.2 (by decide))
  have Ehigh : σ_2 a0 5 = σ_1 a0 5 := fld_up e_3 h0 h0 (fun q => absurd q.2 (by decide))
  have Eea : σ_2 (G a0 6) = σ (G a0 6) := (row_up e_3 h0 hk_ea (by decide)).trans Eea
  have hI := FI_dep hS h0 hI (kp_up e_3 h0 13008 rfl (by decide))
  have hfk : σ_2 a0 8 = 0 := by rw [e_3]; exact up2_at _ _ _ _
  refine lv_aload_n hx hb dX12_findsEntries_28 rfl (lv_at hl 1 rfl) ?_
  refine j_getI hx hb (C := RX12) (T := TX12) (N := 41) hts inX12_findsEntries_X12 hown hK hS hW h0 rfl 4 rfl rfl (by decide) (hts _ flX12_findsEntries_84) dX12_findsEntries_29 ?_
  rw [Elow]
  have := fbd hW h0 (k := 4) (lo := 0) (hi := 150) rfl rfl
  try simp only [Elow] at this
  refine lv_istore_n (lv' := [(3, .int (jI (σ_1 a0 4))), (2, .int (jI ((x1 + 1) * (σ (G a0 0) 1)))), (0, .ref a0), (1, .int (jI x1))]) hx hb dX12_findsEntries_32 rfl hl (by decide) rfl (fun ls hl => ?_)
  have L_33 : ∀ (N : Nat) (v3_33 : Int) (σL_33 : Nat → Nat → Int) (H : Heap) (locs : List Loc) (ls : Array Slot), N = (2147483647 - v3_33 : Int).toNat → ((σ_1 a0 4) ≤ v3_33) → (v3_33 ≤ (σ_1 a0 5)) → (ENI (σ_1 a0 4) v3_33 ((x1 + 1) * (σ (G a0 0) 1)) (σL_33 a0 8) (fun k => σL_33 (G a0 6) k.toNat) (fun i => kO (σ (G a0 0)) i 0) (fun i => kB (σ (G a0 0)) i)) → rg v3_33 → PW D cA τ G L σL_33 H → va_S (fun q => q ∈ L) s.heap H locs → fr wr_X12_findsEntries τ σ σL_33 → FI G a0 σL_33 → σL_33 (G a0 0) = σ (G a0 0) → σL_33 a0 3 = σ a0 3 → σL_33 (G a0 2) = σ (G a0 2) → σL_33 a0 4 = σ_1 a0 4 → σL_33 a0 5 = σ_1 a0 5 → lv_has ls 4 [(0, .ref a0), (2, .int (jI ((x1 + 1) * (σ (G a0 0) 1)))), (3, .int (jI v3_33))] → W p l e ({ frames := 3, cells := 0, slots := 0, locals := 66 }) s m args below meth c H locs 0 0 Q (F0 m 33 ls []) := by
    intro N
    induction N using Nat.strongRecOn with
    | ind N ih_33 =>
      intro v3_33 σL_33 H locs ls hN i0_33 i1_33 i2_33 rv3_33 hW hF hR hI Efile Ehl Ehand Elow Ehigh hl
      have := congrFun Efile 0
      have hE : 0 ≤ σL_33 a0 8 ∧ σL_33 a0 8 ≤ v3_33 - (σ_1 a0 4) ∧ ((σ_1 a0 4) < v3_33 → 0 < σL_33 a0 8) := ⟨i2_33.1, i2_33.2.1, i2_33.2.2.1⟩
      refine lv_iload_n hx hb dX12_findsEntries_33 rfl (lv_at hl 2 rfl) ?_
      refine lv_aload_n hx hb dX12_findsEntries_34 rfl (lv_at hl 0 rfl) ?_
      refine j_getI hx hb (C := RX12) (T := TX12) (N := 41) hts inX12_findsEntries_X12 hown hK hS hW h0 rfl 5 rfl rfl (by decide) (hts _ flX12_findsEntries_90) dX12_findsEntries_35 ?_
      rw [Ehigh]
      have := fbd hW h0 (k := 5) (lo := 0) (hi := 150) rfl rfl
      try simp only [Ehigh] at this
      refine j_icmp_ge (tgt := 126) hx hb (by omega) (by omega) dX12_findsEntries_38 (by decide) (fun c_4 => ?_) (fun c_4 => ?_)
      · refine lv_aload_n hx hb dX12_findsEntries_126 rfl (lv_at hl 0 rfl) ?_
        refine j_getR hx hb (C := RX12) (T := TX12) (N := 41) hts inX12_findsEntries_X12 hown hK hS hW h0 rfl 6 rfl rfl (by decide) (hts _ flX12_findsEntries_16) dX12_findsEntries_127 ?_
        refine lv_aload_n hx hb dX12_findsEntries_130 rfl (lv_at hl 0 rfl) ?_
        refine j_getI hx hb (C := RX12) (T := TX12) (N := 41) hts inX12_findsEntries_X12 hown hK hS hW h0 rfl 8 rfl rfl (by decide) (hts _ flX12_findsEntries_97) dX12_findsEntries_131 ?_
        have := fbd hW h0 (k := 8) (lo := 0) (hi := 150) rfl rfl
        refine lv_aload_n hx hb dX12_findsEntries_134 rfl (lv_at hl 0 rfl) ?_
        refine j_getI hx hb (C := RX12) (T := TX12) (N := 41) hts inX12_findsEntries_X12 hown hK hS hW h0 rfl 5 rfl rfl (by decide) (hts _ flX12_findsEntries_90) dX12_findsEntries_135 ?_
        rw [Ehigh]
        refine j_ast hx hb hK hS hA hW hF hk_ea (n := 151) (lo := 0) (hi := 150) rfl (by omega) (by omega) (by decide) (by omega) dX12_findsEntries_138 (fun σ_5 H locs e_6 hW hF => ?_)
        have st_ea := e_6
        have hR := fr_up hR e_6 hk_ea 42000 (cdA 42 (by decide) _) (by decide)
        have Efile : σ_5 (G a0 0) = σ (G a0 0) := (row_up e_6 hk_ea hk_file (by decide)).trans Efile
        have := congrFun Efile 0
        have Ehl : σ_5 a0 3 = σ a0 3 := (fld_up e_6 hk_ea h0 (fun q => absurd q.1 (by decide))).trans Ehl
        have Ehand : σ_5 (G a0 2) = σ (G a0 2) := (row_up e_6 hk_ea hk_hand (by decide)).trans Ehand
        have Elow : σ_5 a0 4 = σ_1 a0 4 := (fld_up e_6 hk_ea h0 (fun q => absurd q.1 (by decide))).trans Elow
        have Ehigh : σ_5 a0 5 = σ_1 a0 5 := (fld_up e_6 hk_ea h0 (fun q => absurd q.1 (by decide))).trans Ehigh
        have Eents : σ_5 a0 8 = σL_33 a0 8 := fld_up e_6 hk_ea h0 (fun q => absurd q.1 (by decide))
        have hI := FI_dep hS h0 hI (kp_up e_6 hk_ea 42000 (cdA 42 (by decide) _) (by decide))
        exact hRet 139 _ _ _ _ dX12_findsEntries_139 hW hF ⟨(by first | exact ⟨(by rw [Elow, Ehigh]; exact q_findsRange), (by rw [Elow, Ehigh, Eents]; have hz : v3_33 = (σ_1 a0 5) := (by omega); rw [← hz]; exact ENI_congr i2_33 (fun k k0 k1 => by rw [st_ea]; exact up2_ne _ _ (by omega))), (by rw [Eents, Ehigh, st_ea]; exact up2_at _ _ _ _)⟩ | (simp only [Efile, Ehl, Ehand, Elow, Ehigh, Eents]; exact ⟨(by rw [Elow, Ehigh]; exact q_findsRange), (by rw [Elow, Ehigh, Eents]; have hz : v3_33 = (σ_1 a0 5) := (by omega); rw [← hz]; exact ENI_congr i2_33 (fun k k0 k1 => by rw [st_ea]; exact up2_ne _ _ (by omega))), (by rw [Eents, Ehigh, st_ea]; exact up2_at _ _ _ _)⟩)), hR⟩
      · refine lv_iload_n hx hb dX12_findsEntries_41 rfl (lv_at hl 2 rfl) ?_
        refine lv_aload_n hx hb dX12_findsEntries_42 rfl (lv_at hl 0 rfl) ?_
        refine j_getI hx hb (C := RX12) (T := TX12) (N := 41) hts inX12_findsEntries_X12 hown hK hS hW h0 rfl 4 rfl rfl (by decide) (hts _ flX12_findsEntries_84) dX12_findsEntries_43 ?_
        rw [Elow]
        refine j_icmp_le (tgt := 76) hx hb (by omega) (by omega) dX12_findsEntries_46 (by decide) (fun c_7 => ?_) (fun c_7 => ?_)
        · refine lv_aload_n hx hb dX12_findsEntries_76 rfl (lv_at hl 0 rfl) ?_
          refine j_getR hx hb (C := RX12) (T := TX12) (N := 41) hts inX12_findsEntries_X12 hown hK hS hW h0 rfl 6 rfl rfl (by decide) (hts _ flX12_findsEntries_16) dX12_findsEntries_77 ?_
          refine lv_aload_n hx hb dX12_findsEntries_80 rfl (lv_at hl 0 rfl) ?_
          refine j_getI hx hb (C := RX12) (T := TX12) (N := 41) hts inX12_findsEntries_X12 hown hK hS hW h0 rfl 8 rfl rfl (by decide) (hts _ flX12_findsEntries_97) dX12_findsEntries_81 ?_
          have := fbd hW h0 (k := 8) (lo := 0) (hi := 150) rfl rfl
          refine lv_iload_n hx hb dX12_findsEntries_84 rfl (lv_at hl 2 rfl) ?_
          refine j_ast hx hb hK hS hA hW hF hk_ea (n := 151) (lo := 0) (hi := 150) rfl (by omega) (by omega) (by decide) (by omega) dX12_findsEntries_85 (fun σ_8 H locs e_9 hW hF => ?_)
          have st_ea := e_9
          have hR := fr_up hR e_9 hk_ea 42000 (cdA 42 (by decide) _) (by decide)
          have Efile : σ_8 (G a0 0) = σ (G a0 0) := (row_up e_9 hk_ea hk_file (by decide)).trans Efile
          have := congrFun Efile 0
          have Ehl : σ_8 a0 3 = σ a0 3 := (fld_up e_9 hk_ea h0 (fun q => absurd q.1 (by decide))).trans Ehl
          have Ehand : σ_8 (G a0 2) = σ (G a0 2) := (row_up e_9 hk_ea hk_hand (by decide)).trans Ehand
          have Elow : σ_8 a0 4 = σ_1 a0 4 := (fld_up e_9 hk_ea h0 (fun q => absurd q.1 (by decide))).trans Elow
          have Ehigh : σ_8 a0 5 = σ_1 a0 5 := (fld_up e_9 hk_ea h0 (fun q => absurd q.1 (by decide))).trans Ehigh
          have Eents : σ_8 a0 8 = σL_33 a0 8 := fld_up e_9 hk_ea h0 (fun q => absurd q.1 (by decide))
          have hI := FI_dep hS h0 hI (kp_up e_9 hk_ea 42000 (cdA 42 (by decide) _) (by decide))
          refine lv_aload_n hx hb dX12_findsEntries_86 rfl (lv_at hl 0 rfl) ?_
          refine j_getR hx hb (C := RX12) (T := TX12) (N := 41) hts inX12_findsEntries_X12 hown hK hS hW h0 rfl 7 rfl rfl (by decide) (hts _ flX12_findsEntries_19) dX12_findsEntries_87 ?_
          have h_10 : τ (G a0 7) = 43 := gty hS h0 (k := 7) rfl rfl
          refine lv_aload_n hx hb dX12_findsEntries_90 rfl (lv_at hl 0 rfl) ?_
          refine j_getI hx hb (C := RX12) (T := TX12) (N := 41) hts inX12_findsEntries_X12 hown hK hS hW h0 rfl 8 rfl rfl (by decide) (hts _ flX12_findsEntries_97) dX12_findsEntries_91 ?_
          rw [Eents]
          refine lv_aload_n hx hb dX12_findsEntries_94 rfl (lv_at hl 0 rfl) ?_
          refine lv_iload_n hx hb dX12_findsEntries_95 rfl (lv_at hl 2 rfl) ?_
          refine j_const hx hb dX12_findsEntries_96 ?_
          refine j_cR (j_runV (As := [.int (jI v3_33), .int (jI 0)]) (rest := [.int (jI (σL_33 a0 8)), .ref (G a0 7)]) hx hb hml hown hts hK hS hW (kX12_of l hS σ_8 (a0 := a0) (h0 := h0) (x1 := v3_33) (r1 := (by omega)) (x2 := 0) (r2 := (by decide)) (q0 := (by omega)) (q1 := (by omega))) 2 gX12_findsEntries_X12_of rfl hvX12_of ⟨Nat.le_of_ble_eq_true rfl, Nat.le_of_ble_eq_true rfl⟩ rfl rfl h0 rfl rfl rfl rfl hl.1 rfl (Nat.le_of_ble_eq_true rfl) dX12_findsEntries_97 ⟨Nat.le_of_ble_eq_true rfl, Nat.le_of_ble_eq_true rfl⟩) (fun v_11 rv_11 pv_11 => ?_)
          try dsimp only at pv_11
          try simp only [Efile, Ehl, Ehand, Elow, Ehigh, Eents] at pv_11
          have q_of := pv_11
          have := @FI_len _ _ _ hI v3_33
          try simp only [Efile] at this
          refine lv_iload_n hx hb dX12_findsEntries_100 rfl (lv_at hl 1 rfl) ?_
          refine j_icmp_le (tgt := 108) hx hb (by omega) (by omega) dX12_findsEntries_101 (by decide) (fun c_12 => ?_) (fun c_12 => ?_)
          · refine j_const hx hb dX12_findsEntries_108 ?_
            refine j_ast hx hb hK hS hA hW hF h_10 (n := 150) (lo := -2147483648) (hi := 2147483647) rfl (by omega) (by omega) (by decide) (by omega) dX12_findsEntries_109 (fun σ_13 H locs e_14 hW hF => ?_)
            have st_ek := e_14
            have hR := fr_up hR e_14 h_10 43000 (cdA 43 (by decide) _) (by decide)
            have Efile : σ_13 (G a0 0) = σ (G a0 0) := (row_up e_14 h_10 hk_file (by decide)).trans Efile
            have := congrFun Efile 0
            have Ehl : σ_13 a0 3 = σ a0 3 := (fld_up e_14 h_10 h0 (fun q => absurd q.1 (by decide))).trans Ehl
            have Ehand : σ_13 (G a0 2) = σ (G a0 2) := (row_up e_14 h_10 hk_hand (by decide)).trans Ehand
            have Elow : σ_13 a0 4 = σ_1 a0 4 := (fld_up e_14 h_10 h0 (fun q => absurd q.1 (by decide))).trans Elow
            have Ehigh : σ_13 a0 5 = σ_1 a0 5 := (fld_up e_14 h_10 h0 (fun q => absurd q.1 (by decide))).trans Ehigh
            have Eents : σ_13 a0 8 = σL_33 a0 8 := (fld_up e_14 h_10 h0 (fun q => absurd q.1 (by decide))).trans Eents
            have Eea : σ_13 (G a0 6) = σ_8 (G a0 6) := row_up e_14 h_10 hk_ea (by decide)
            have hI := FI_dep hS h0 hI (kp_up e_14 h_10 43000 (cdA 43 (by decide) _) (by decide))
            refine lv_aload_n hx hb dX12_findsEntries_110 rfl (lv_at hl 0 rfl) ?_
            refine lv_aload_n hx hb dX12_findsEntries_111 rfl (lv_at hl 0 rfl) ?_
            refine j_getI hx hb (C := RX12) (T := TX12) (N := 41) hts inX12_findsEntries_X12 hown hK hS hW h0 rfl 8 rfl rfl (by decide) (hts _ flX12_findsEntries_97) dX12_findsEntries_112 ?_
            rw [Eents]
            refine j_const hx hb dX12_findsEntries_115 ?_
            refine j_add hx hb dX12_findsEntries_116 ?_
            refine j_putI hx hb (C := RX12) (T := TX12) (N := 41) hts inX12_findsEntries_X12 tyX12 tyX12_ok nmX12 hown hK hS hA hW hF h0 rfl 8 (lo := 0) (hi := 150) rfl rfl (by decide) (hts _ flX12_findsEntries_97) rfl .int rfl (by omega) rfl rfl dX12_findsEntries_117 (fun σ_15 H locs e_16 hW hF => ?_)
            have hR := fr_up hR e_16 h0 13008 rfl (by decide)
            have Efile : σ_15 (G a0 0) = σ (G a0 0) := (row_up e_16 h0 hk_file (by decide)).trans Efile
            have := congrFun Efile 0
            have Ehl : σ_15 a0 3 = σ a0 3 := (fld_up e_16 h0 h0 (fun q => absurd q.2 (by decide))).trans Ehl
            have Ehand : σ_15 (G a0 2) = σ (G a0 2) := (row_up e_16 h0 hk_hand (by decide)).trans Ehand
            have Elow : σ_15 a0 4 = σ_1 a0 4 := (fld_up e_16 h0 h0 (fun q => absurd q.2 (by decide))).trans Elow
            have Ehigh : σ_15 a0 5 = σ_1 a0 5 := (fld_up e_16 h0 h0 (fun q => absurd q.2 (by decide))).trans Ehigh
            have Eea : σ_15 (G a0 6) = σ_8 (G a0 6) := (row_up e_16 h0 hk_ea (by decide)).trans Eea
            have hI := FI_dep hS h0 hI (kp_up e_16 h0 13008 rfl (by decide))
            have hfk : σ_15 a0 8 = (σL_33 a0 8) + 1 := by rw [e_16]; exact up2_at _ _ _ _
            refine j_iinc (lv' := [(3, .int (jI (v3_33 + 1))), (0, .ref a0), (2, .int (jI ((x1 + 1) * (σ (G a0 0) 1))))]) hx hb dX12_findsEntries_120 hl (k := 2) rfl (by decide) rfl (fun ls hl => ?_)
            refine lv_goto (tgt := 33) hx hb dX12_findsEntries_123 (by decide) ?_
            exact ih_33 ((2147483647 - (v3_33 + 1) : Int).toNat) (by omega) (v3_33 + 1) σ_15 _ _ _ rfl (by omega) (by omega) (by first | exact (by first | (rw [hfk]; exact ENI_0) | (rw [Eents, Eea]; exact ENI_skip i2_33 (by omega) (q_areOne.2.mp (by omega))) | (rw [Eea, hfk]; exact ENI_new i2_33 (by omega) (by first | exact Or.inl (by omega) | exact Or.inr (fun z => by have := q_areOne.2.mpr z; omega)) (fun k k0 k1 => by rw [st_ea]; exact up2_ne _ _ (by omega)) (by rw [st_ea]; exact up2_at _ _ _ _))) | (simp only [Efile, Ehl, Ehand, Elow, Ehigh, Eea]; exact (by first | (rw [hfk]; exact ENI_0) | (rw [Eents, Eea]; exact ENI_skip i2_33 (by omega) (q_areOne.2.mp (by omega))) | (rw [Eea, hfk]; exact ENI_new i2_33 (by omega) (by first | exact Or.inl (by omega) | exact Or.inr (fun z => by have := q_areOne.2.mpr z; omega)) (fun k k0 k1 => by rw [st_ea]; exact up2_ne _ _ (by omega)) (by rw [st_ea]; exact up2_at _ _ _ _))))) (by omega) hW hF hR hI Efile Ehl Ehand Elow Ehigh (lv_sub hl [1, 2, 0] rfl)
          · refine j_const hx hb dX12_findsEntries_104 ?_
            refine lv_goto (tgt := 109) hx hb dX12_findsEntries_105 (by decide) ?_
            refine j_ast hx hb hK hS hA hW hF h_10 (n := 150) (lo := -2147483648) (hi := 2147483647) rfl (by omega) (by omega) (by decide) (by omega) dX12_findsEntries_109 (fun σ_17 H locs e_18 hW hF => ?_)
            have st_ek := e_18
            have hR := fr_up hR e_18 h_10 43000 (cdA 43 (by decide) _) (by decide)
            have Efile : σ_17 (G a0 0) = σ (G a0 0) := (row_up e_18 h_10 hk_file (by decide)).trans Efile
            have := congrFun Efile 0
            have Ehl : σ_17 a0 3 = σ a0 3 := (fld_up e_18 h_10 h0 (fun q => absurd q.1 (by decide))).trans Ehl
            have Ehand : σ_17 (G a0 2) = σ (G a0 2) := (row_up e_18 h_10 hk_hand (by decide)).trans Ehand
            have Elow : σ_17 a0 4 = σ_1 a0 4 := (fld_up e_18 h_10 h0 (fun q => absurd q.1 (by decide))).trans Elow
            have Ehigh : σ_17 a0 5 = σ_1 a0 5 := (fld_up e_18 h_10 h0 (fun q => absurd q.1 (by decide))).trans Ehigh
            have Eents : σ_17 a0 8 = σL_33 a0 8 := (fld_up e_18 h_10 h0 (fun q => absurd q.1 (by decide))).trans Eents
            have Eea : σ_17 (G a0 6) = σ_8 (G a0 6) := row_up e_18 h_10 hk_ea (by decide)
            have hI := FI_dep hS h0 hI (kp_up e_18 h_10 43000 (cdA 43 (by decide) _) (by decide))
            refine lv_aload_n hx hb dX12_findsEntries_110 rfl (lv_at hl 0 rfl) ?_
            refine lv_aload_n hx hb dX12_findsEntries_111 rfl (lv_at hl 0 rfl) ?_
            refine j_getI hx hb (C := RX12) (T := TX12) (N := 41) hts inX12_findsEntries_X12 hown hK hS hW h0 rfl 8 rfl rfl (by decide) (hts _ flX12_findsEntries_97) dX12_findsEntries_112 ?_
            rw [Eents]
            refine j_const hx hb dX12_findsEntries_115 ?_
            refine j_add hx hb dX12_findsEntries_116 ?_
            refine j_putI hx hb (C := RX12) (T := TX12) (N := 41) hts inX12_findsEntries_X12 tyX12 tyX12_ok nmX12 hown hK hS hA hW hF h0 rfl 8 (lo := 0) (hi := 150) rfl rfl (by decide) (hts _ flX12_findsEntries_97) rfl .int rfl (by omega) rfl rfl dX12_findsEntries_117 (fun σ_19 H locs e_20 hW hF => ?_)
            have hR := fr_up hR e_20 h0 13008 rfl (by decide)
            have Efile : σ_19 (G a0 0) = σ (G a0 0) := (row_up e_20 h0 hk_file (by decide)).trans Efile
            have := congrFun Efile 0
            have Ehl : σ_19 a0 3 = σ a0 3 := (fld_up e_20 h0 h0 (fun q => absurd q.2 (by decide))).trans Ehl
            have Ehand : σ_19 (G a0 2) = σ (G a0 2) := (row_up e_20 h0 hk_hand (by decide)).trans Ehand
            have Elow : σ_19 a0 4 = σ_1 a0 4 := (fld_up e_20 h0 h0 (fun q => absurd q.2 (by decide))).trans Elow
            have Ehigh : σ_19 a0 5 = σ_1 a0 5 := (fld_up e_20 h0 h0 (fun q => absurd q.2 (by decide))).trans Ehigh
            have Eea : σ_19 (G a0 6) = σ_8 (G a0 6) := (row_up e_20 h0 hk_ea (by decide)).trans Eea
            have hI := FI_dep hS h0 hI (kp_up e_20 h0 13008 rfl (by decide))
            have hfk : σ_19 a0 8 = (σL_33 a0 8) + 1 := by rw [e_20]; exact up2_at _ _ _ _
            refine j_iinc (lv' := [(3, .int (jI (v3_33 + 1))), (0, .ref a0), (2, .int (jI ((x1 + 1) * (σ (G a0 0) 1))))]) hx hb dX12_findsEntries_120 hl (k := 2) rfl (by decide) rfl (fun ls hl => ?_)
            refine lv_goto (tgt := 33) hx hb dX12_findsEntries_123 (by decide) ?_
            exact ih_33 ((2147483647 - (v3_33 + 1) : Int).toNat) (by omega) (v3_33 + 1) σ_19 _ _ _ rfl (by omega) (by omega) (by first | exact (by first | (rw [hfk]; exact ENI_0) | (rw [Eents, Eea]; exact ENI_skip i2_33 (by omega) (q_areOne.2.mp (by omega))) | (rw [Eea, hfk]; exact ENI_new i2_33 (by omega) (by first | exact Or.inl (by omega) | exact Or.inr (fun z => by have := q_areOne.2.mpr z; omega)) (fun k k0 k1 => by rw [st_ea]; exact up2_ne _ _ (by omega)) (by rw [st_ea]; exact up2_at _ _ _ _))) | (simp only [Efile, Ehl, Ehand, Elow, Ehigh, Eea]; exact (by first | (rw [hfk]; exact ENI_0) | (rw [Eents, Eea]; exact ENI_skip i2_33 (by omega) (q_areOne.2.mp (by omega))) | (rw [Eea, hfk]; exact ENI_new i2_33 (by omega) (by first | exact Or.inl (by omega) | exact Or.inr (fun z => by have := q_areOne.2.mpr z; omega)) (fun k k0 k1 => by rw [st_ea]; exact up2_ne _ _ (by omega)) (by rw [st_ea]; exact up2_at _ _ _ _))))) (by omega) hW hF hR hI Efile Ehl Ehand Elow Ehigh (lv_sub hl [1, 2, 0] rfl)
        · refine lv_aload_n hx hb dX12_findsEntries_49 rfl (lv_at hl 0 rfl) ?_
          refine lv_iload_n hx hb dX12_findsEntries_50 rfl (lv_at hl 2 rfl) ?_
          refine j_const hx hb dX12_findsEntries_51 ?_
          refine j_sub hx hb dX12_findsEntries_52 ?_
          refine lv_iload_n hx hb dX12_findsEntries_53 rfl (lv_at hl 2 rfl) ?_
          refine lv_iload_n hx hb dX12_findsEntries_54 rfl (lv_at hl 1 rfl) ?_
          refine j_cR (j_runV (As := [.int (jI (v3_33 - 1)), .int (jI v3_33), .int (jI ((x1 + 1) * (σ (G a0 0) 1)))]) (rest := []) hx hb hml hown hts hK hS hW (kX12_areOne l hS σL_33 (a0 := a0) (h0 := h0) (x1 := v3_33 - 1) (r1 := (by omega)) (x2 := v3_33) (r2 := (by omega)) (x3 := (x1 + 1) * (σ (G a0 0) 1)) (r3 := (by omega)) (hI := hI) (q0 := (by omega)) (q1 := (by omega)) (q2 := (by omega)) (q3 := (by omega)) (q4 := (by omega))) 3 gX12_findsEntries_X12_areOne rfl hvX12_areOne ⟨Nat.le_of_ble_eq_true rfl, Nat.le_of_ble_eq_true rfl⟩ rfl rfl h0 rfl rfl rfl rfl hl.1 rfl (Nat.le_of_ble_eq_true rfl) dX12_findsEntries_55 ⟨Nat.le_of_ble_eq_true rfl, Nat.le_of_ble_eq_true rfl⟩) (fun v_21 rv_21 pv_21 => ?_)
          try dsimp only at pv_21
          try simp only [Efile, Ehl, Ehand, Elow, Ehigh] at pv_21
          have q_areOne := pv_21
          refine j_if_eq (tgt := 76) hx hb (by omega) dX12_findsEntries_58 (by decide) (fun c_22 => ?_) (fun c_22 => ?_)
          · refine lv_aload_n hx hb dX12_findsEntries_76 rfl (lv_at hl 0 rfl) ?_
            refine j_getR hx hb (C := RX12) (T := TX12) (N := 41) hts inX12_findsEntries_X12 hown hK hS hW h0 rfl 6 rfl rfl (by decide) (hts _ flX12_findsEntries_16) dX12_findsEntries_77 ?_
            refine lv_aload_n hx hb dX12_findsEntries_80 rfl (lv_at hl 0 rfl) ?_
            refine j_getI hx hb (C := RX12) (T := TX12) (N := 41) hts inX12_findsEntries_X12 hown hK hS hW h0 rfl 8 rfl rfl (by decide) (hts _ flX12_findsEntries_97) dX12_findsEntries_81 ?_
            have := fbd hW h0 (k := 8) (lo := 0) (hi := 150) rfl rfl
            refine lv_iload_n hx hb dX12_findsEntries_84 rfl (lv_at hl 2 rfl) ?_
            refine j_ast hx hb hK hS hA hW hF hk_ea (n := 151) (lo := 0) (hi := 150) rfl (by omega) (by omega) (by decide) (by omega) dX12_findsEntries_85 (fun σ_23 H locs e_24 hW hF => ?_)
            have st_ea := e_24
            have hR := fr_up hR e_24 hk_ea 42000 (cdA 42 (by decide) _) (by decide)
            have Efile : σ_23 (G a0 0) = σ (G a0 0) := (row_up e_24 hk_ea hk_file (by decide)).trans Efile
            have := congrFun Efile 0
            have Ehl : σ_23 a0 3 = σ a0 3 := (fld_up e_24 hk_ea h0 (fun q => absurd q.1 (by decide))).trans Ehl
            have Ehand : σ_23 (G a0 2) = σ (G a0 2) := (row_up e_24 hk_ea hk_hand (by decide)).trans Ehand
            have Elow : σ_23 a0 4 = σ_1 a0 4 := (fld_up e_24 hk_ea h0 (fun q => absurd q.1 (by decide))).trans Elow
            have Ehigh : σ_23 a0 5 = σ_1 a0 5 := (fld_up e_24 hk_ea h0 (fun q => absurd q.1 (by decide))).trans Ehigh
            have Eents : σ_23 a0 8 = σL_33 a0 8 := fld_up e_24 hk_ea h0 (fun q => absurd q.1 (by decide))
            have hI := FI_dep hS h0 hI (kp_up e_24 hk_ea 42000 (cdA 42 (by decide) _) (by decide))
            refine lv_aload_n hx hb dX12_findsEntries_86 rfl (lv_at hl 0 rfl) ?_
            refine j_getR hx hb (C := RX12) (T := TX12) (N := 41) hts inX12_findsEntries_X12 hown hK hS hW h0 rfl 7 rfl rfl (by decide) (hts _ flX12_findsEntries_19) dX12_findsEntries_87 ?_
            have h_25 : τ (G a0 7) = 43 := gty hS h0 (k := 7) rfl rfl
            refine lv_aload_n hx hb dX12_findsEntries_90 rfl (lv_at hl 0 rfl) ?_
            refine j_getI hx hb (C := RX12) (T := TX12) (N := 41) hts inX12_findsEntries_X12 hown hK hS hW h0 rfl 8 rfl rfl (by decide) (hts _ flX12_findsEntries_97) dX12_findsEntries_91 ?_
            rw [Eents]
            refine lv_aload_n hx hb dX12_findsEntries_94 rfl (lv_at hl 0 rfl) ?_
            refine lv_iload_n hx hb dX12_findsEntries_95 rfl (lv_at hl 2 rfl) ?_
            refine j_const hx hb dX12_findsEntries_96 ?_
            refine j_cR (j_runV (As := [.int (jI v3_33), .int (jI 0)]) (rest := [.int (jI (σL_33 a0 8)), .ref (G a0 7)]) hx hb hml hown hts hK hS hW (kX12_of l hS σ_23 (a0 := a0) (h0 := h0) (x1 := v3_33) (r1 := (by omega)) (x2 := 0) (r2 := (by decide)) (q0 := (by omega)) (q1 := (by omega))) 2 gX12_findsEntries_X12_of rfl hvX12_of ⟨Nat.le_of_ble_eq_true rfl, Nat.le_of_ble_eq_true rfl⟩ rfl rfl h0 rfl rfl rfl rfl hl.1 rfl (Nat.le_of_ble_eq_true rfl) dX12_findsEntries_97 ⟨Nat.le_of_ble_eq_true rfl, Nat.le_of_ble_eq_true rfl⟩) (fun v_26 rv_26 pv_26 => ?_)
            try dsimp only at pv_26
            try simp only [Efile, Ehl, Ehand, Elow, Ehigh, Eents] at pv_26
            have q_of := pv_26
            have := @FI_len _ _ _ hI v3_33
            try simp only [Efile] at this
            refine lv_iload_n hx hb dX12_findsEntries_100 rfl (lv_at hl 1 rfl) ?_
            refine j_icmp_le (tgt := 108) hx hb (by omega) (by omega) dX12_findsEntries_101 (by decide) (fun c_27 => ?_) (fun c_27 => ?_)
            · refine j_const hx hb dX12_findsEntries_108 ?_
              refine j_ast hx hb hK hS hA hW hF h_25 (n := 150) (lo := -2147483648) (hi := 2147483647) rfl (by omega) (by omega) (by decide) (by omega) dX12_findsEntries_109 (fun σ_28 H locs e_29 hW hF => ?_)
              have st_ek := e_29
              have hR := fr_up hR e_29 h_25 43000 (cdA 43 (by decide) _) (by decide)
              have Efile : σ_28 (G a0 0) = σ (G a0 0) := (row_up e_29 h_25 hk_file (by decide)).trans Efile
              have := congrFun Efile 0
              have Ehl : σ_28 a0 3 = σ a0 3 := (fld_up e_29 h_25 h0 (fun q => absurd q.1 (by decide))).trans Ehl
              have Ehand : σ_28 (G a0 2) = σ (G a0 2) := (row_up e_29 h_25 hk_hand (by decide)).trans Ehand
              have Elow : σ_28 a0 4 = σ_1 a0 4 := (fld_up e_29 h_25 h0 (fun q => absurd q.1 (by decide))).trans Elow
              have Ehigh : σ_28 a0 5 = σ_1 a0 5 := (fld_up e_29 h_25 h0 (fun q => absurd q.1 (by decide))).trans Ehigh
              have Eents : σ_28 a0 8 = σL_33 a0 8 := (fld_up e_29 h_25 h0 (fun q => absurd q.1 (by decide))).trans Eents
              have Eea : σ_28 (G a0 6) = σ_23 (G a0 6) := row_up e_29 h_25 hk_ea (by decide)
              have hI := FI_dep hS h0 hI (kp_up e_29 h_25 43000 (cdA 43 (by decide) _) (by decide))
              refine lv_aload_n hx hb dX12_findsEntries_110 rfl (lv_at hl 0 rfl) ?_
              refine lv_aload_n hx hb dX12_findsEntries_111 rfl (lv_at hl 0 rfl) ?_
              refine j_getI hx hb (C := RX12) (T := TX12) (N := 41) hts inX12_findsEntries_X12 hown hK hS hW h0 rfl 8 rfl rfl (by decide) (hts _ flX12_findsEntries_97) dX12_findsEntries_112 ?_
              rw [Eents]
              refine j_const hx hb dX12_findsEntries_115 ?_
              refine j_add hx hb dX12_findsEntries_116 ?_
              refine j_putI hx hb (C := RX12) (T := TX12) (N := 41) hts inX12_findsEntries_X12 tyX12 tyX12_ok nmX12 hown hK hS hA hW hF h0 rfl 8 (lo := 0) (hi := 150) rfl rfl (by decide) (hts _ flX12_findsEntries_97) rfl .int rfl (by omega) rfl rfl dX12_findsEntries_117 (fun σ_30 H locs e_31 hW hF => ?_)
              have hR := fr_up hR e_31 h0 13008 rfl (by decide)
              have Efile : σ_30 (G a0 0) = σ (G a0 0) := (row_up e_31 h0 hk_file (by decide)).trans Efile
              have := congrFun Efile 0
              have Ehl : σ_30 a0 3 = σ a0 3 := (fld_up e_31 h0 h0 (fun q => absurd q.2 (by decide))).trans Ehl
              have Ehand : σ_30 (G a0 2) = σ (G a0 2) := (row_up e_31 h0 hk_hand (by decide)).trans Ehand
              have Elow : σ_30 a0 4 = σ_1 a0 4 := (fld_up e_31 h0 h0 (fun q => absurd q.2 (by decide))).trans Elow
              have Ehigh : σ_30 a0 5 = σ_1 a0 5 := (fld_up e_31 h0 h0 (fun q => absurd q.2 (by decide))).trans Ehigh
              have Eea : σ_30 (G a0 6) = σ_23 (G a0 6) := (row_up e_31 h0 hk_ea (by decide)).trans Eea
              have hI := FI_dep hS h0 hI (kp_up e_31 h0 13008 rfl (by decide))
              have hfk : σ_30 a0 8 = (σL_33 a0 8) + 1 := by rw [e_31]; exact up2_at _ _ _ _
              refine j_iinc (lv' := [(3, .int (jI (v3_33 + 1))), (0, .ref a0), (2, .int (jI ((x1 + 1) * (σ (G a0 0) 1))))]) hx hb dX12_findsEntries_120 hl (k := 2) rfl (by decide) rfl (fun ls hl => ?_)
              refine lv_goto (tgt := 33) hx hb dX12_findsEntries_123 (by decide) ?_
              exact ih_33 ((2147483647 - (v3_33 + 1) : Int).toNat) (by omega) (v3_33 + 1) σ_30 _ _ _ rfl (by omega) (by omega) (by first | exact (by first | (rw [hfk]; exact ENI_0) | (rw [Eents, Eea]; exact ENI_skip i2_33 (by omega) (q_areOne.2.mp (by omega))) | (rw [Eea, hfk]; exact ENI_new i2_33 (by omega) (by first | exact Or.inl (by omega) | exact Or.inr (fun z => by have := q_areOne.2.mpr z; omega)) (fun k k0 k1 => by rw [st_ea]; exact up2_ne _ _ (by omega)) (by rw [st_ea]; exact up2_at _ _ _ _))) | (simp only [Efile, Ehl, Ehand, Elow, Ehigh, Eea]; exact (by first | (rw [hfk]; exact ENI_0) | (rw [Eents, Eea]; exact ENI_skip i2_33 (by omega) (q_areOne.2.mp (by omega))) | (rw [Eea, hfk]; exact ENI_new i2_33 (by omega) (by first | exact Or.inl (by omega) | exact Or.inr (fun z => by have := q_areOne.2.mpr z; omega)) (fun k k0 k1 => by rw [st_ea]; exact up2_ne _ _ (by omega)) (by rw [st_ea]; exact up2_at _ _ _ _))))) (by omega) hW hF hR hI Efile Ehl Ehand Elow Ehigh (lv_sub hl [1, 2, 0] rfl)
            · refine j_const hx hb dX12_findsEntries_104 ?_
              refine lv_goto (tgt := 109) hx hb dX12_findsEntries_105 (by decide) ?_
              refine j_ast hx hb hK hS hA hW hF h_25 (n := 150) (lo := -2147483648) (hi := 2147483647) rfl (by omega) (by omega) (by decide) (by omega) dX12_findsEntries_109 (fun σ_32 H locs e_33 hW hF => ?_)
              have st_ek := e_33
              have hR := fr_up hR e_33 h_25 43000 (cdA 43 (by decide) _) (by decide)
              have Efile : σ_32 (G a0 0) = σ (G a0 0) := (row_up e_33 h_25 hk_file (by decide)).trans Efile
              have := congrFun Efile 0
              have Ehl : σ_32 a0 3 = σ a0 3 := (fld_up e_33 h_25 h0 (fun q => absurd q.1 (by decide))).trans Ehl
              have Ehand : σ_32 (G a0 2) = σ (G a0 2) := (row_up e_33 h_25 hk_hand (by decide)).trans Ehand
              have Elow : σ_32 a0 4 = σ_1 a0 4 := (fld_up e_33 h_25 h0 (fun q => absurd q.1 (by decide))).trans Elow
              have Ehigh : σ_32 a0 5 = σ_1 a0 5 := (fld_up e_33 h_25 h0 (fun q => absurd q.1 (by decide))).trans Ehigh
              have Eents : σ_32 a0 8 = σL_33 a0 8 := (fld_up e_33 h_25 h0 (fun q => absurd q.1 (by decide))).trans Eents
              have Eea : σ_32 (G a0 6) = σ_23 (G a0 6) := row_up e_33 h_25 hk_ea (by decide)
              have hI := FI_dep hS h0 hI (kp_up e_33 h_25 43000 (cdA 43 (by decide) _) (by decide))
              refine lv_aload_n hx hb dX12_findsEntries_110 rfl (lv_at hl 0 rfl) ?_
              refine lv_aload_n hx hb dX12_findsEntries_111 rfl (lv_at hl 0 rfl) ?_
              refine j_getI hx hb (C := RX12) (T := TX12) (N := 41) hts inX12_findsEntries_X12 hown hK hS hW h0 rfl 8 rfl rfl (by decide) (hts _ flX12_findsEntries_97) dX12_findsEntries_112 ?_
              rw [Eents]
              refine j_const hx hb dX12_findsEntries_115 ?_
              refine j_add hx hb dX12_findsEntries_116 ?_
              refine j_putI hx hb (C := RX12) (T := TX12) (N := 41) hts inX12_findsEntries_X12 tyX12 tyX12_ok nmX12 hown hK hS hA hW hF h0 rfl 8 (lo := 0) (hi := 150) rfl rfl (by decide) (hts _ flX12_findsEntries_97) rfl .int rfl (by omega) rfl rfl dX12_findsEntries_117 (fun σ_34 H locs e_35 hW hF => ?_)
              have hR := fr_up hR e_35 h0 13008 rfl (by decide)
              have Efile : σ_34 (G a0 0) = σ (G a0 0) := (row_up e_35 h0 hk_file (by decide)).trans Efile
              have := congrFun Efile 0
              have Ehl : σ_34 a0 3 = σ a0 3 := (fld_up e_35 h0 h0 (fun q => absurd q.2 (by decide))).trans Ehl
              have Ehand : σ_34 (G a0 2) = σ (G a0 2) := (row_up e_35 h0 hk_hand (by decide)).trans Ehand
              have Elow : σ_34 a0 4 = σ_1 a0 4 := (fld_up e_35 h0 h0 (fun q => absurd q.2 (by decide))).trans Elow
              have Ehigh : σ_34 a0 5 = σ_1 a0 5 := (fld_up e_35 h0 h0 (fun q => absurd q.2 (by decide))).trans Ehigh
              have Eea : σ_34 (G a0 6) = σ_23 (G a0 6) := (row_up e_35 h0 hk_ea (by decide)).trans Eea
              have hI := FI_dep hS h0 hI (kp_up e_35 h0 13008 rfl (by decide))
              have hfk : σ_34 a0 8 = (σL_33 a0 8) + 1 := by rw [e_35]; exact up2_at _ _ _ _
              refine j_iinc (lv' := [(3, .int (jI (v3_33 + 1))), (0, .ref a0), (2, .int (jI ((x1 + 1) * (σ (G a0 0) 1))))]) hx hb dX12_findsEntries_120 hl (k := 2) rfl (by decide) rfl (fun ls hl => ?_)
              refine lv_goto (tgt := 33) hx hb dX12_findsEntries_123 (by decide) ?_
              exact ih_33 ((2147483647 - (v3_33 + 1) : Int).toNat) (by omega) (v3_33 + 1) σ_34 _ _ _ rfl (by omega) (by omega) (by first | exact (by first | (rw [hfk]; exact ENI_0) | (rw [Eents, Eea]; exact ENI_skip i2_33 (by omega) (q_areOne.2.mp (by omega))) | (rw [Eea, hfk]; exact ENI_new i2_33 (by omega) (by first | exact Or.inl (by omega) | exact Or.inr (fun z => by have := q_areOne.2.mpr z; omega)) (fun k k0 k1 => by rw [st_ea]; exact up2_ne _ _ (by omega)) (by rw [st_ea]; exact up2_at _ _ _ _))) | (simp only [Efile, Ehl, Ehand, Elow, Ehigh, Eea]; exact (by first | (rw [hfk]; exact ENI_0) | (rw [Eents, Eea]; exact ENI_skip i2_33 (by omega) (q_areOne.2.mp (by omega))) | (rw [Eea, hfk]; exact ENI_new i2_33 (by omega) (by first | exact Or.inl (by omega) | exact Or.inr (fun z => by have := q_areOne.2.mpr z; omega)) (fun k k0 k1 => by rw [st_ea]; exact up2_ne _ _ (by omega)) (by rw [st_ea]; exact up2_at _ _ _ _))))) (by omega) hW hF hR hI Efile Ehl Ehand Elow Ehigh (lv_sub hl [1, 2, 0] rfl)
          · refine lv_aload_n hx hb dX12_findsEntries_61 rfl (lv_at hl 0 rfl) ?_
            refine j_getR hx hb (C := RX12) (T := TX12) (N := 41) hts inX12_findsEntries_X12 hown hK hS hW h0 rfl 7 rfl rfl (by decide) (hts _ flX12_findsEntries_19) dX12_findsEntries_62 ?_
            have h_36 : τ (G a0 7) = 43 := gty hS h0 (k := 7) rfl rfl
            refine lv_aload_n hx hb dX12_findsEntries_65 rfl (lv_at hl 0 rfl) ?_
            refine j_getI hx hb (C := RX12) (T := TX12) (N := 41) hts inX12_findsEntries_X12 hown hK hS hW h0 rfl 8 rfl rfl (by decide) (hts _ flX12_findsEntries_97) dX12_findsEntries_66 ?_
            have := fbd hW h0 (k := 8) (lo := 0) (hi := 150) rfl rfl
            refine j_const hx hb dX12_findsEntries_69 ?_
            refine j_sub hx hb dX12_findsEntries_70 ?_
            refine j_const hx hb dX12_findsEntries_71 ?_
            refine j_ast hx hb hK hS hA hW hF h_36 (n := 150) (lo := -2147483648) (hi := 2147483647) rfl (by omega) (by omega) (by decide) (by omega) dX12_findsEntries_72 (fun σ_37 H locs e_38 hW hF => ?_)
            have st_ek := e_38
            have hR := fr_up hR e_38 h_36 43000 (cdA 43 (by decide) _) (by decide)
            have Efile : σ_37 (G a0 0) = σ (G a0 0) := (row_up e_38 h_36 hk_file (by decide)).trans Efile
            have := congrFun Efile 0
            have Ehl : σ_37 a0 3 = σ a0 3 := (fld_up e_38 h_36 h0 (fun q => absurd q.1 (by decide))).trans Ehl
            have Ehand : σ_37 (G a0 2) = σ (G a0 2) := (row_up e_38 h_36 hk_hand (by decide)).trans Ehand
            have Elow : σ_37 a0 4 = σ_1 a0 4 := (fld_up e_38 h_36 h0 (fun q => absurd q.1 (by decide))).trans Elow
            have Ehigh : σ_37 a0 5 = σ_1 a0 5 := (fld_up e_38 h_36 h0 (fun q => absurd q.1 (by decide))).trans Ehigh
            have Eents : σ_37 a0 8 = σL_33 a0 8 := fld_up e_38 h_36 h0 (fun q => absurd q.1 (by decide))
            have Eea : σ_37 (G a0 6) = σL_33 (G a0 6) := row_up e_38 h_36 hk_ea (by decide)
            have hI := FI_dep hS h0 hI (kp_up e_38 h_36 43000 (cdA 43 (by decide) _) (by decide))
            refine lv_goto (tgt := 120) hx hb dX12_findsEntries_73 (by decide) ?_
            refine j_iinc (lv' := [(3, .int (jI (v3_33 + 1))), (0, .ref a0), (2, .int (jI ((x1 + 1) * (σ (G a0 0) 1))))]) hx hb dX12_findsEntries_120 hl (k := 2) rfl (by decide) rfl (fun ls hl => ?_)
            refine lv_goto (tgt := 33) hx hb dX12_findsEntries_123 (by decide) ?_
            exact ih_33 ((2147483647 - (v3_33 + 1) : Int).toNat) (by omega) (v3_33 + 1) σ_37 _ _ _ rfl (by omega) (by omega) (by first | exact (by first | (rw [hfk]; exact ENI_0) | (rw [Eents, Eea]; exact ENI_skip i2_33 (by omega) (q_areOne.2.mp (by omega))) | (rw [Eea, hfk]; exact ENI_new i2_33 (by omega) (by first | exact Or.inl (by omega) | exact Or.inr (fun z => by have := q_areOne.2.mpr z; omega)) (fun k k0 k1 => by rw [st_ea]; exact up2_ne _ _ (by omega)) (by rw [st_ea]; exact up2_at _ _ _ _))) | (simp only [Efile, Ehl, Ehand, Elow, Ehigh, Eents, Eea]; exact (by first | (rw [hfk]; exact ENI_0) | (rw [Eents, Eea]; exact ENI_skip i2_33 (by omega) (q_areOne.2.mp (by omega))) | (rw [Eea, hfk]; exact ENI_new i2_33 (by omega) (by first | exact Or.inl (by omega) | exact Or.inr (fun z => by have := q_areOne.2.mpr z; omega)) (fun k k0 k1 => by rw [st_ea]; exact up2_ne _ _ (by omega)) (by rw [st_ea]; exact up2_at _ _ _ _))))) (by omega) hW hF hR hI Efile Ehl Ehand Elow Ehigh (lv_sub hl [1, 2, 0] rfl)
  exact L_33 ((2147483647 - (σ_1 a0 4) : Int).toNat) (σ_1 a0 4) σ_2 _ _ _ rfl (by omega) (by omega) (by first | exact (by first | (rw [hfk]; exact ENI_0) | (rw [Eents, Eea]; exact ENI_skip i2_33 (by omega) (q_areOne.2.mp (by omega))) | (rw [Eea, hfk]; exact ENI_new i2_33 (by omega) (by first | exact Or.inl (by omega) | exact Or.inr (fun z => by have := q_areOne.2.mpr z; omega)) (fun k k0 k1 => by rw [st_ea]; exact up2_ne _ _ (by omega)) (by rw [st_ea]; exact up2_at _ _ _ _))) | (simp only [Efile, Ehl, Ehand, Elow, Ehigh, Eea]; exact (by first | (rw [hfk]; exact ENI_0) | (rw [Eents, Eea]; exact ENI_skip i2_33 (by omega) (q_areOne.2.mp (by omega))) | (rw [Eea, hfk]; exact ENI_new i2_33 (by omega) (by first | exact Or.inl (by omega) | exact Or.inr (fun z => by have := q_areOne.2.mpr z; omega)) (fun k k0 k1 => by rw [st_ea]; exact up2_ne _ _ (by omega)) (by rw [st_ea]; exact up2_at _ _ _ _))))) (by omega) hW hF hR hI Efile Ehl Ehand Elow Ehigh (lv_sub hl [2, 1, 0] rfl)
theorem flX12_entryOf_16 : Cond.fieldLink RX12 16 "PageTrieModel" "entryAt" "[I" ∈ wsX12_entryOf := List.mem_of_getElem? (i := 1) rfl
theorem inX12_entryOf_X12 : ∀ w ∈ u_ws RX12 TX12 41, w ∈ wsX12_entryOf := mem_r _ [2, 3, 4, 5, 6, 7, 8, 9, 10, 11, 12, 13, 14, 15, 16, 17, 18, 19, 20, 21, 22, 23, 24, 25, 26, 27, 28, 29, 30, 31, 32, 33, 34, 35, 36, 37, 38, 39, 40, 41, 42] rfl
theorem hvX12_entryOf : yX12_entryOf.cls = RX12 ∧ yX12_entryOf.cls ≠ "java/lang/invoke/MethodHandle" ∧ yX12_entryOf.cls ≠ "java/lang/invoke/VarHandle" ∧ (parseMethodDescriptor yX12_entryOf.desc).map (fun d => d.parameters.length) = some 1 := by decide +kernel
set_option maxHeartbeats 4000000 in
set_option maxRecDepth 100000 in
theorem kX12_entryOf (l : Launch) {D : va_G} {cA : Nat → ClassId} {τ : Nat → Nat} {G : Nat → Nat → Nat} {L : List Nat} (hS : SW τ G L) (σ : Nat → Nat → Int) {a0 : Nat} (h0 : τ a0 = 13) {x1 : Int} (r1 : rg x1) (q0 : 0 ≤ x1) (q1 : 0 < σ a0 8) (q2 : x1 < σ (G a0 6) (σ a0 8).toNat) : Met l yX12_entryOf wsX12_entryOf ({ frames := 0, cells := 0, slots := 0, locals := 0 }) (jP D cA τ G L σ [.ref a0, .int (jI x1)]) (jQR (fun r => (0 ≤ r) ∧ (r < σ a0 8) ∧ (r = 0 ∨ σ (G a0 6) r.toNat ≤ x1) ∧ (x1 < σ (G a0 6) (r + 1).toNat))) 0 0 (fun _ => False) := by
  refine j_metR (by decide +kernel) rfl (Nat.le_of_ble_eq_true rfl) ?_
  intro p e s m args below meth c Q hx hb hml hown hts hK hW hRet ls hl
  have hl : lv_has ls 3 [(0, .ref a0), (1, .int (jI x1))] := hl
  have := fbd hW h0 (k := 8) (lo := 0) (hi := 150) rfl rfl
  refine j_const hx hb dX12_entryOf_0 ?_
  refine lv_istore_n (lv' := [(2, .int (jI 0)), (0, .ref a0), (1, .int (jI x1))]) hx hb dX12_entryOf_1 rfl hl (by decide) rfl (fun ls hl => ?_)
  have L_2 : ∀ (N : Nat) (v2_2 : Int) (ls : Array Slot), N = (2147483647 - v2_2 : Int).toNat → (0 ≤ v2_2) → (v2_2 < σ a0 8) → (v2_2 = 0 ∨ σ (G a0 6) (v2_2).toNat ≤ x1) → rg v2_2 → lv_has ls 3 [(0, .ref a0), (1, .int (jI x1)), (2, .int (jI v2_2))] → W p l e ({ frames := 0, cells := 0, slots := 0, locals := 0 }) s m args below meth c s.heap [] 0 0 Q (F0 m 2 ls []) := by
    intro N
    induction N using Nat.strongRecOn with
    | ind N ih_2 =>
      intro v2_2 ls hN i0_2 i1_2 i2_2 rv2_2 hl
      have hx_ : v2_2 + 1 = σ a0 8 → σ (G a0 6) (v2_2 + 1).toNat = σ (G a0 6) (σ a0 8).toNat := fun h => by rw [h]
      refine lv_aload_n hx hb dX12_entryOf_2 rfl (lv_at hl 0 rfl) ?_
      refine j_getR hx hb (C := RX12) (T := TX12) (N := 41) hts inX12_entryOf_X12 hown hK hS hW h0 rfl 6 rfl rfl (by decide) (hts _ flX12_entryOf_16) dX12_entryOf_3 ?_
      have h_1 : τ (G a0 6) = 42 := gty hS h0 (k := 6) rfl rfl
      refine lv_iload_n hx hb dX12_entryOf_6 rfl (lv_at hl 2 rfl) ?_
      refine j_const hx hb dX12_entryOf_7 ?_
      refine j_add hx hb dX12_entryOf_8 ?_
      refine j_ald hx hb hK hS hW h_1 (n := 151) rfl (by omega) (by omega) (by decide) dX12_entryOf_9 ?_
      have := abd hW h_1 (n := 151) (lo := 0) (hi := 150) (i := v2_2 + 1) rfl (by omega) (by omega)
      refine lv_iload_n hx hb dX12_entryOf_10 rfl (lv_at hl 1 rfl) ?_
      refine j_icmp_gt (tgt := 21) hx hb (by omega) (by omega) dX12_entryOf_11 (by decide) (fun c_2 => ?_) (fun c_2 => ?_)
      · refine lv_iload_n hx hb dX12_entryOf_21 rfl (lv_at hl 2 rfl) ?_
        exact hRet 22 _ v2_2 dX12_entryOf_22 (by omega) ⟨by omega, by omega, by omega, by omega⟩
      · refine lv_iload_n hx hb dX12_entryOf_14 rfl (lv_at hl 2 rfl) ?_
        refine j_const hx hb dX12_entryOf_15 ?_
        refine j_add hx hb dX12_entryOf_16 ?_
        refine lv_istore_n (lv' := [(2, .int (jI (v2_2 + 1))), (0, .ref a0), (1, .int (jI x1))]) hx hb dX12_entryOf_17 rfl hl (by decide) rfl (fun ls hl => ?_)
        refine lv_goto (tgt := 2) hx hb dX12_entryOf_18 (by decide) ?_
        exact ih_2 ((2147483647 - (v2_2 + 1) : Int).toNat) (by omega) (v2_2 + 1) _ rfl (by omega) (by omega) (by omega) (by omega) (lv_sub hl [1, 2, 0] rfl)
  exact L_2 ((2147483647 - 0 : Int).toNat) 0 _ rfl (by omega) (by omega) (by omega) (by decide) (lv_sub hl [1, 2, 0] rfl)
theorem flX12_pageBegin_16 : Cond.fieldLink RX12 16 "PageTrieModel" "entryAt" "[I" ∈ wsX12_pageBegin := List.mem_of_getElem? (i := 1) rfl
theorem inX12_pageBegin_X12 : ∀ w ∈ u_ws RX12 TX12 41, w ∈ wsX12_pageBegin := mem_r _ [15, 16, 17, 18, 19, 20, 21, 22, 23, 24, 25, 26, 27, 28, 29, 30, 31, 32, 33, 34, 35, 36, 37, 38, 39, 40, 41, 42, 43, 44, 45, 46, 47, 48, 49, 50, 51, 52, 53, 54, 55] rfl
theorem hvX12_pageBegin : yX12_pageBegin.cls = RX12 ∧ yX12_pageBegin.cls ≠ "java/lang/invoke/MethodHandle" ∧ yX12_pageBegin.cls ≠ "java/lang/invoke/VarHandle" ∧ (parseMethodDescriptor yX12_pageBegin.desc).map (fun d => d.parameters.length) = some 2 := by decide +kernel
set_option maxHeartbeats 4000000 in
set_option maxRecDepth 100000 in
theorem kX12_pageBegin (l : Launch) {D : va_G} {cA : Nat → ClassId} {τ : Nat → Nat} {G : Nat → Nat → Nat} {L : List Nat} (hS : SW τ G L) (σ : Nat → Nat → Int) {a0 : Nat} (h0 : τ a0 = 13) {x1 : Int} (r1 : rg x1) {x2 : Int} (r2 : rg x2) (q0 : 0 ≤ x1) (q1 : x1 ≤ 150) (q2 : 0 ≤ x2) (q3 : x2 < 32) (q4 : bit (kO (σ (G a0 0)) (σ (G a0 6) 0) 2) x2) : Met l yX12_pageBegin wsX12_pageBegin ({ frames := 2, cells := 0, slots := 0, locals := 44 }) (jP D cA τ G L σ [.ref a0, .int (jI x1), .int (jI x2)]) (jQR (fun r => (0 ≤ r) ∧ (r ≤ x1) ∧ (bit (kO (σ (G a0 0)) (σ (G a0 6) r.toNat) 2) x2))) 0 0 (fun _ => False) := by
  refine j_metR (by decide +kernel) rfl (Nat.le_of_ble_eq_true rfl) ?_
  intro p e s m args below meth c Q hx hb hml hown hts hK hW hRet ls hl
  have hl : lv_has ls 4 [(0, .ref a0), (1, .int (jI x1)), (2, .int (jI x2))] := hl
  refine lv_iload_n hx hb dX12_pageBegin_0 rfl (lv_at hl 1 rfl) ?_
  refine lv_istore_n (lv' := [(3, .int (jI x1)), (0, .ref a0), (1, .int (jI x1)), (2, .int (jI x2))]) hx hb dX12_pageBegin_1 rfl hl (by decide) rfl (fun ls hl => ?_)
  have L_2 : ∀ (N : Nat) (v3_2 : Int) (ls : Array Slot), N = (v3_2 : Int).toNat → (0 ≤ v3_2) → (v3_2 ≤ x1) → rg v3_2 → lv_has ls 4 [(0, .ref a0), (2, .int (jI x2)), (3, .int (jI v3_2))] → W p l e ({ frames := 2, cells := 0, slots := 0, locals := 44 }) s m args below meth c s.heap [] 0 0 Q (F0 m 2 ls []) := by
    intro N
    induction N using Nat.strongRecOn with
    | ind N ih_2 =>
      intro v3_2 ls hN i0_2 i1_2 rv3_2 hl
      refine lv_aload_n hx hb dX12_pageBegin_2 rfl (lv_at hl 0 rfl) ?_
      refine lv_aload_n hx hb dX12_pageBegin_3 rfl (lv_at hl 0 rfl) ?_
      refine j_getR hx hb (C := RX12) (T := TX12) (N := 41) hts inX12_pageBegin_X12 hown hK hS hW h0 rfl 6 rfl rfl (by decide) (hts _ flX12_pageBegin_16) dX12_pageBegin_4 ?_
      have h_1 : τ (G a0 6) = 42 := gty hS h0 (k := 6) rfl rfl
      refine lv_iload_n hx hb dX12_pageBegin_7 rfl (lv_at hl 2 rfl) ?_
      refine j_ald hx hb hK hS hW h_1 (n := 151) rfl (by omega) (by omega) (by decide) dX12_pageBegin_8 ?_
      have := abd hW h_1 (n := 151) (lo := 0) (hi := 150) (i := v3_2) rfl (by omega) (by omega)
      refine lv_iload_n hx hb dX12_pageBegin_9 rfl (lv_at hl 1 rfl) ?_
      refine j_cR (j_runV (As := [.int (jI (σ (G a0 6) (v3_2).toNat)), .int (jI x2)]) (rest := []) hx hb hml hown hts hK hS hW (kX12_beginsPage l hS σ (a0 := a0) (h0 := h0) (x1 := σ (G a0 6) (v3_2).toNat) (r1 := (by omega)) (x2 := x2) (r2 := (by omega)) (q0 := (by omega)) (q1 := (by omega)) (q2 := (by omega)) (q3 := (by omega))) 2 gX12_pageBegin_X12_beginsPage rfl hvX12_beginsPage ⟨Nat.le_of_ble_eq_true rfl, Nat.le_of_ble_eq_true rfl⟩ rfl rfl h0 rfl rfl rfl rfl hl.1 rfl (Nat.le_of_ble_eq_true rfl) dX12_pageBegin_10 ⟨Nat.le_of_ble_eq_true rfl, Nat.le_of_ble_eq_true rfl⟩) (fun v_2 rv_2 pv_2 => ?_)
      try dsimp only at pv_2
      have q_beginsPage := pv_2
      refine j_if_ne (tgt := 23) hx hb (by omega) dX12_pageBegin_13 (by decide) (fun c_3 => ?_) (fun c_3 => ?_)
      · refine lv_iload_n hx hb dX12_pageBegin_23 rfl (lv_at hl 2 rfl) ?_
        exact hRet 24 _ v3_2 dX12_pageBegin_24 (by omega) ⟨by omega, by omega, q_beginsPage.2.mp (by omega)⟩
      · have hz_ : ¬ v3_2 = 0 := fun z => by (rw [z] at q_beginsPage; have := q_beginsPage.2.mpr q4; omega)
        refine lv_iload_n hx hb dX12_pageBegin_16 rfl (lv_at hl 2 rfl) ?_
        refine j_const hx hb dX12_pageBegin_17 ?_
        refine j_sub hx hb dX12_pageBegin_18 ?_
        refine lv_istore_n (lv' := [(3, .int (jI (v3_2 - 1))), (0, .ref a0), (2, .int (jI x2))]) hx hb dX12_pageBegin_19 rfl hl (by decide) rfl (fun ls hl => ?_)
        refine lv_goto (tgt := 2) hx hb dX12_pageBegin_20 (by decide) ?_
        exact ih_2 (((v3_2 - 1) : Int).toNat) (by omega) (v3_2 - 1) _ rfl (by omega) (by omega) (by omega) (lv_sub hl [1, 2, 0] rfl)
  exact L_2 ((x1 : Int).toNat) x1 _ rfl (by omega) (by omega) (by omega) (lv_sub hl [1, 3, 0] rfl)
theorem flX12_pageEnd_16 : Cond.fieldLink RX12 16 "PageTrieModel" "entryAt" "[I" ∈ wsX12_pageEnd := List.mem_of_getElem? (i := 2) rfl
theorem flX12_pageEnd_97 : Cond.fieldLink RX12 97 "PageTrieModel" "entries" "I" ∈ wsX12_pageEnd := List.mem_of_getElem? (i := 1) rfl
theorem inX12_pageEnd_X12 : ∀ w ∈ u_ws RX12 TX12 41, w ∈ wsX12_pageEnd := mem_r _ [16, 17, 18, 19, 20, 21, 22, 23, 24, 25, 26, 27, 28, 29, 30, 31, 32, 33, 34, 35, 36, 37, 38, 39, 40, 41, 42, 43, 44, 45, 46, 47, 48, 49, 50, 51, 52, 53, 54, 55, 56] rfl
theorem hvX12_pageEnd : yX12_pageEnd.cls = RX12 ∧ yX12_pageEnd.cls ≠ "java/lang/invoke/MethodHandle" ∧ yX12_pageEnd.cls ≠ "java/lang/invoke/VarHandle" ∧ (parseMethodDescriptor yX12_pageEnd.desc).map (fun d => d.parameters.length) = some 2 := by decide +kernel
set_option maxHeartbeats 4000000 in
set_option maxRecDepth 100000 in
theorem kX12_pageEnd (l : Launch) {D : va_G} {cA : Nat → ClassId} {τ : Nat → Nat} {G : Nat → Nat → Nat} {L : List Nat} (hS : SW τ G L) (σ : Nat → Nat → Int) {a0 : Nat} (h0 : τ a0 = 13) {x1 : Int} (r1 : rg x1) {x2 : Int} (r2 : rg x2) (q0 : 0 ≤ x1) (q1 : x1 ≤ 150) (q2 : 0 ≤ x2) (q3 : x2 < 32) : Met l yX12_pageEnd wsX12_pageEnd ({ frames := 2, cells := 0, slots := 0, locals := 44 }) (jP D cA τ G L σ [.ref a0, .int (jI x1), .int (jI x2)]) (jQR (fun r => (x1 + 1 ≤ r) ∧ (r ≤ σ a0 8 ∨ r = x1 + 1) ∧ (r < σ a0 8 → bit (kO (σ (G a0 0)) (σ (G a0 6) r.toNat) 2) x2))) 0 0 (fun _ => False) := by
  refine j_metR (by decide +kernel) rfl (Nat.le_of_ble_eq_true rfl) ?_
  intro p e s m args below meth c Q hx hb hml hown hts hK hW hRet ls hl
  have hl : lv_has ls 4 [(0, .ref a0), (1, .int (jI x1)), (2, .int (jI x2))] := hl
  have := fbd hW h0 (k := 8) (lo := 0) (hi := 150) rfl rfl
  refine lv_iload_n hx hb dX12_pageEnd_0 rfl (lv_at hl 1 rfl) ?_
  refine j_const hx hb dX12_pageEnd_1 ?_
  refine j_add hx hb dX12_pageEnd_2 ?_
  refine lv_istore_n (lv' := [(3, .int (jI (x1 + 1))), (0, .ref a0), (1, .int (jI x1)), (2, .int (jI x2))]) hx hb dX12_pageEnd_3 rfl hl (by decide) rfl (fun ls hl => ?_)
  have L_4 : ∀ (N : Nat) (v3_4 : Int) (ls : Array Slot), N = (2147483647 - v3_4 : Int).toNat → (x1 + 1 ≤ v3_4) → (v3_4 ≤ σ a0 8 ∨ v3_4 = x1 + 1) → rg v3_4 → lv_has ls 4 [(0, .ref a0), (2, .int (jI x2)), (3, .int (jI v3_4))] → W p l e ({ frames := 2, cells := 0, slots := 0, locals := 44 }) s m args below meth c s.heap [] 0 0 Q (F0 m 4 ls []) := by
    intro N
    induction N using Nat.strongRecOn with
    | ind N ih_4 =>
      intro v3_4 ls hN i0_4 i1_4 rv3_4 hl
      refine lv_iload_n hx hb dX12_pageEnd_4 rfl (lv_at hl 2 rfl) ?_
      refine lv_aload_n hx hb dX12_pageEnd_5 rfl (lv_at hl 0 rfl) ?_
      refine j_getI hx hb (C := RX12) (T := TX12) (N := 41) hts inX12_pageEnd_X12 hown hK hS hW h0 rfl 8 rfl rfl (by decide) (hts _ flX12_pageEnd_97) dX12_pageEnd_6 ?_
      have := fbd hW h0 (k := 8) (lo := 0) (hi := 150) rfl rfl
      refine j_icmp_ge (tgt := 33) hx hb (by omega) (by omega) dX12_pageEnd_9 (by decide) (fun c_1 => ?_) (fun c_1 => ?_)
      · refine lv_iload_n hx hb dX12_pageEnd_33 rfl (lv_at hl 2 rfl) ?_
        exact hRet 34 _ v3_4 dX12_pageEnd_34 (by omega) ⟨by omega, by omega, fun h => (by first | (exfalso; omega) | exact q_beginsPage.2.mp (by omega))⟩
      · refine lv_aload_n hx hb dX12_pageEnd_12 rfl (lv_at hl 0 rfl) ?_
        refine lv_aload_n hx hb dX12_pageEnd_13 rfl (lv_at hl 0 rfl) ?_
        refine j_getR hx hb (C := RX12) (T := TX12) (N := 41) hts inX12_pageEnd_X12 hown hK hS hW h0 rfl 6 rfl rfl (by decide) (hts _ flX12_pageEnd_16) dX12_pageEnd_14 ?_
        have h_2 : τ (G a0 6) = 42 := gty hS h0 (k := 6) rfl rfl
        refine lv_iload_n hx hb dX12_pageEnd_17 rfl (lv_at hl 2 rfl) ?_
        refine j_ald hx hb hK hS hW h_2 (n := 151) rfl (by omega) (by omega) (by decide) dX12_pageEnd_18 ?_
        have := abd hW h_2 (n := 151) (lo := 0) (hi := 150) (i := v3_4) rfl (by omega) (by omega)
        refine lv_iload_n hx hb dX12_pageEnd_19 rfl (lv_at hl 1 rfl) ?_
        refine j_cR (j_runV (As := [.int (jI (σ (G a0 6) (v3_4).toNat)), .int (jI x2)]) (rest := []) hx hb hml hown hts hK hS hW (kX12_beginsPage l hS σ (a0 := a0) (h0 := h0) (x1 := σ (G a0 6) (v3_4).toNat) (r1 := (by omega)) (x2 := x2) (r2 := (by omega)) (q0 := (by omega)) (q1 := (by omega)) (q2 := (by omega)) (q3 := (by omega))) 2 gX12_pageEnd_X12_beginsPage rfl hvX12_beginsPage ⟨Nat.le_of_ble_eq_true rfl, Nat.le_of_ble_eq_true rfl⟩ rfl rfl h0 rfl rfl rfl rfl hl.1 rfl (Nat.le_of_ble_eq_true rfl) dX12_pageEnd_20 ⟨Nat.le_of_ble_eq_true rfl, Nat.le_of_ble_eq_true rfl⟩) (fun v_3 rv_3 pv_3 => ?_)
        try dsimp only at pv_3
        have q_beginsPage := pv_3
        refine j_if_ne (tgt := 33) hx hb (by omega) dX12_pageEnd_23 (by decide) (fun c_4 => ?_) (fun c_4 => ?_)
        · refine lv_iload_n hx hb dX12_pageEnd_33 rfl (lv_at hl 2 rfl) ?_
          exact hRet 34 _ v3_4 dX12_pageEnd_34 (by omega) ⟨by omega, by omega, fun h => (by first | (exfalso; omega) | exact q_beginsPage.2.mp (by omega))⟩
        · refine lv_iload_n hx hb dX12_pageEnd_26 rfl (lv_at hl 2 rfl) ?_
          refine j_const hx hb dX12_pageEnd_27 ?_
          refine j_add hx hb dX12_pageEnd_28 ?_
          refine lv_istore_n (lv' := [(3, .int (jI (v3_4 + 1))), (0, .ref a0), (2, .int (jI x2))]) hx hb dX12_pageEnd_29 rfl hl (by decide) rfl (fun ls hl => ?_)
          refine lv_goto (tgt := 4) hx hb dX12_pageEnd_30 (by decide) ?_
          exact ih_4 ((2147483647 - (v3_4 + 1) : Int).toNat) (by omega) (v3_4 + 1) _ rfl (by omega) (by omega) (by omega) (lv_sub hl [1, 2, 0] rfl)
  exact L_4 ((2147483647 - (x1 + 1) : Int).toNat) (x1 + 1) _ rfl (by omega) (by omega) (by omega) (lv_sub hl [1, 3, 0] rfl)
abbrev wr_X12_depthOf : List Nat := [13003, 13004, 13005, 41000]
theorem flX12_depthOf_7 : Cond.fieldLink RX12 7 "PageTrieModel" "file" "[I" ∈ wsX12_depthOf := List.mem_of_getElem? (i := 1) rfl
theorem flX12_depthOf_70 : Cond.fieldLink RX12 70 "PageTrieModel" "handLong" "I" ∈ wsX12_depthOf := List.mem_of_getElem? (i := 2) rfl
theorem flX12_depthOf_84 : Cond.fieldLink RX12 84 "PageTrieModel" "low" "I" ∈ wsX12_depthOf := List.mem_of_getElem? (i := 4) rfl
theorem flX12_depthOf_90 : Cond.fieldLink RX12 90 "PageTrieModel" "high" "I" ∈ wsX12_depthOf := List.mem_of_getElem? (i := 3) rfl
theorem inX12_depthOf_X12 : ∀ w ∈ u_ws RX12 TX12 41, w ∈ wsX12_depthOf := mem_r _ [31, 32, 33, 34, 35, 36, 37, 38, 39, 40, 41, 42, 43, 44, 45, 46, 47, 48, 49, 50, 51, 52, 53, 54, 55, 56, 57, 58, 59, 60, 61, 62, 63, 64, 65, 66, 67, 68, 69, 70, 71] rfl
theorem hvX12_depthOf : yX12_depthOf.cls = RX12 ∧ yX12_depthOf.cls ≠ "java/lang/invoke/MethodHandle" ∧ yX12_depthOf.cls ≠ "java/lang/invoke/VarHandle" ∧ (parseMethodDescriptor yX12_depthOf.desc).map (fun d => d.parameters.length) = some 1 := by decide +kernel
set_option maxHeartbeats 4000000 in
set_option maxRecDepth 100000 in
theorem kX12_depthOf (l : Launch) {D : va_G} {cA : Nat → ClassId} {τ : Nat → Nat} {G : Nat → Nat → Nat} {L : List Nat} (hS : SW τ G L) (σ : Nat → Nat → Int) {a0 : Nat} (h0 : τ a0 = 13) {x1 : Int} (r1 : rg x1) (hI : FI G a0 σ) (q0 : 0 ≤ x1) (q1 : x1 < σ (G a0 0) 0) : Met l yX12_depthOf wsX12_depthOf ({ frames := 3, cells := 0, slots := 0, locals := 66 }) (jP D cA τ G L σ [.ref a0, .int (jI x1)]) (jQI D cA τ G L (fun r σ' => ((0 ≤ r) ∧ (r ≤ 23) ∧ (DQ (σ (G a0 0) 0) (σ (G a0 0) 1) x1 r (fun i => kO (σ (G a0 0)) i 0) (fun i => kB (σ (G a0 0)) i)) ∧ (∀ j : Int, 0 ≤ j → j < σ (G a0 0) 0 → shr (fun i => kO (σ (G a0 0)) i 0) (fun i => kB (σ (G a0 0)) i) j x1 ((r + 1) * σ (G a0 0) 1) → j = x1) ∧ (σ' a0 3 = kO (σ (G a0 0)) x1 0) ∧ (∀ j : Int, 0 ≤ j → j < kO (σ (G a0 0)) x1 0 → σ' (G a0 2) j.toNat = kO (σ (G a0 0)) x1 (3 + j))) ∧ fr wr_X12_depthOf τ σ σ')) 0 0 (fun q => q ∈ L) := by
  refine j_metI (by decide +kernel) rfl (Nat.le_of_ble_eq_true rfl) ?_
  intro p e s m args below meth c Q hx hb hml hown hts hK hW hRet ls hl
  have hl : lv_has ls 4 [(0, .ref a0), (1, .int (jI x1))] := hl
  have hA : ∀ q ∈ L, (fun q => q ∈ L) q := fun _ h => h
  have hF : va_S (fun q => q ∈ L) s.heap s.heap [] := va_S.rf
  have hR : fr wr_X12_depthOf τ σ σ := fr_rf
  have hk_file : τ (G a0 0) = 40 := gty hS h0 (k := 0) rfl rfl
  have hk_hand : τ (G a0 2) = 41 := gty hS h0 (k := 2) rfl rfl
  have := FI_bd hI
  have := fbd hW h0 (k := 3) (lo := 0) (hi := 24) rfl rfl
  have hln := FI_len hI q0 q1
  have hsr := hI.1.2.2.2.2.2
  refine lv_aload_n hx hb dX12_depthOf_0 rfl (lv_at hl 0 rfl) ?_
  refine lv_iload_n hx hb dX12_depthOf_1 rfl (lv_at hl 1 rfl) ?_
  refine j_cV (j_runV (As := [.int (jI x1)]) (rest := []) hx hb hml hown hts hK hS hW (kX12_takesHand l hS σ (a0 := a0) (h0 := h0) (x1 := x1) (r1 := (by omega)) (hI := hI) (q0 := (by omega)) (q1 := (by omega))) 1 gX12_depthOf_X12_takesHand rfl hvX12_takesHand ⟨Nat.le_of_ble_eq_true rfl, Nat.le_of_ble_eq_true rfl⟩ rfl rfl h0 rfl rfl rfl rfl hl.1 rfl (Nat.le_of_ble_eq_true rfl) dX12_depthOf_2 ⟨Nat.le_of_ble_eq_true rfl, Nat.le_of_ble_eq_true rfl⟩) hA hF (fun σ_1 H locs hW hF pσ_1 => ?_)
  try dsimp only at pσ_1
  obtain ⟨pσ_1, fpσ_1⟩ := pσ_1
  have q_takesHand := pσ_1
  have hR := fr_call hR fpσ_1 (by decide)
  have Efile : σ_1 (G a0 0) = σ (G a0 0) := row_fr fpσ_1 hk_file 40 (by decide) (by decide)
  have := congrFun Efile 0
  have Elow : σ_1 a0 4 = σ a0 4 := fr_at fpσ_1 h0 4 13004 rfl (by decide)
  have Ehigh : σ_1 a0 5 = σ a0 5 := fr_at fpσ_1 h0 5 13005 rfl (by decide)
  have hI := FI_dep hS h0 hI (kp_fr fpσ_1 (by decide))
  refine j_const hx hb dX12_depthOf_5 ?_
  refine lv_istore_n (lv' := [(2, .int (jI 0)), (0, .ref a0), (1, .int (jI x1))]) hx hb dX12_depthOf_6 rfl hl (by decide) rfl (fun ls hl => ?_)
  have L_7 : ∀ (N : Nat) (v2_7 : Int) (σL_7 : Nat → Nat → Int) (H : Heap) (locs : List Loc) (ls : Array Slot), N = (24 - v2_7 : Int).toNat → (0 ≤ v2_7) → (v2_7 ≤ 23) → (DQ (σ (G a0 0) 0) (σ (G a0 0) 1) x1 v2_7 (fun i => kO (σ (G a0 0)) i 0) (fun i => kB (σ (G a0 0)) i)) → rg v2_7 → PW D cA τ G L σL_7 H → va_S (fun q => q ∈ L) s.heap H locs → fr wr_X12_depthOf τ σ σL_7 → FI G a0 σL_7 → σL_7 (G a0 0) = σ (G a0 0) → σL_7 a0 3 = σ_1 a0 3 → σL_7 (G a0 2) = σ_1 (G a0 2) → lv_has ls 4 [(0, .ref a0), (2, .int (jI v2_7))] → W p l e ({ frames := 3, cells := 0, slots := 0, locals := 66 }) s m args below meth c H locs 0 0 Q (F0 m 7 ls []) := by
    intro N
    induction N using Nat.strongRecOn with
    | ind N ih_7 =>
      intro v2_7 σL_7 H locs ls hN i0_7 i1_7 i2_7 rv2_7 hW hF hR hI Efile Ehl Ehand hl
      have := congrFun Efile 0
      have hmb := mul_bd (a := v2_7 + 1) (b := σ (G a0 0) 1) (A := 24) (B := 8) (by omega) (by omega) (by omega) (by omega)
      have hml_ := mul_le (a := v2_7 + 1) (w := σ (G a0 0) 1) (by omega) (by omega)
      refine lv_iload_n hx hb dX12_depthOf_7 rfl (lv_at hl 1 rfl) ?_
      refine j_const hx hb dX12_depthOf_8 ?_
      refine j_add hx hb dX12_depthOf_9 ?_
      refine lv_aload_n hx hb dX12_depthOf_10 rfl (lv_at hl 0 rfl) ?_
      refine j_getR hx hb (C := RX12) (T := TX12) (N := 41) hts inX12_depthOf_X12 hown hK hS hW h0 rfl 0 rfl rfl (by decide) (hts _ flX12_depthOf_7) dX12_depthOf_11 ?_
      refine j_const hx hb dX12_depthOf_14 ?_
      refine j_ald hx hb hK hS hW hk_file (n := 17624) rfl (by omega) (by omega) (by decide) dX12_depthOf_15 ?_
      have : -2147483648 ≤ σL_7 (G a0 0) 1 ∧ σL_7 (G a0 0) 1 ≤ 2147483647 := abd hW hk_file (n := 17624) (lo := -2147483648) (hi := 2147483647) (i := 1) rfl (by decide) (by decide)
      rw [Efile]
      try simp only [Efile] at this
      refine j_eq (z := σ (G a0 0) 1) rfl ?_
      have := FI_bd hI; rw [Efile] at this
      refine j_mul hx hb dX12_depthOf_16 ?_
      refine lv_istore_n (lv' := [(3, .int (jI ((v2_7 + 1) * (σ (G a0 0) 1)))), (0, .ref a0), (2, .int (jI v2_7))]) hx hb dX12_depthOf_17 rfl hl (by decide) rfl (fun ls hl => ?_)
      refine lv_aload_n hx hb dX12_depthOf_18 rfl (lv_at hl 1 rfl) ?_
      refine j_getI hx hb (C := RX12) (T := TX12) (N := 41) hts inX12_depthOf_X12 hown hK hS hW h0 rfl 3 rfl rfl (by decide) (hts _ flX12_depthOf_70) dX12_depthOf_19 ?_
      rw [Ehl]
      have := fbd hW h0 (k := 3) (lo := 0) (hi := 24) rfl rfl
      try simp only [Ehl] at this
      refine lv_iload_n hx hb dX12_depthOf_22 rfl (lv_at hl 0 rfl) ?_
      refine j_icmp_gt (tgt := 28) hx hb (by omega) (by omega) dX12_depthOf_23 (by decide) (fun c_2 => ?_) (fun c_2 => ?_)
      · refine lv_aload_n hx hb dX12_depthOf_28 rfl (lv_at hl 1 rfl) ?_
        refine lv_iload_n hx hb dX12_depthOf_29 rfl (lv_at hl 0 rfl) ?_
        refine j_cV (j_runV (As := [.int (jI ((v2_7 + 1) * (σ (G a0 0) 1)))]) (rest := []) hx hb hml hown hts hK hS hW (kX12_findsRange l hS σL_7 (a0 := a0) (h0 := h0) (x1 := (v2_7 + 1) * (σ (G a0 0) 1)) (r1 := (by omega)) (hI := hI) (q0 := (by omega)) (q1 := (by omega))) 1 gX12_depthOf_X12_findsRange rfl hvX12_findsRange ⟨Nat.le_of_ble_eq_true rfl, Nat.le_of_ble_eq_true rfl⟩ rfl rfl h0 rfl rfl rfl rfl hl.1 rfl (Nat.le_of_ble_eq_true rfl) dX12_depthOf_30 ⟨Nat.le_of_ble_eq_true rfl, Nat.le_of_ble_eq_true rfl⟩) hA hF (fun σ_3 H locs hW hF pσ_3 => ?_)
        try dsimp only at pσ_3
        obtain ⟨pσ_3, fpσ_3⟩ := pσ_3
        try simp only [Efile, Ehl, Ehand] at pσ_3
        have q_findsRange := pσ_3
        have hR := fr_call hR fpσ_3 (by decide)
        have Efile : σ_3 (G a0 0) = σ (G a0 0) := (row_fr fpσ_3 hk_file 40 (by decide) (by decide)).trans Efile
        have := congrFun Efile 0
        have Ehl : σ_3 a0 3 = σ_1 a0 3 := (fr_at fpσ_3 h0 3 13003 rfl (by decide)).trans Ehl
        have Ehand : σ_3 (G a0 2) = σ_1 (G a0 2) := (row_fr fpσ_3 hk_hand 41 (by decide) (by decide)).trans Ehand
        have hI := FI_dep hS h0 hI (kp_fr fpσ_3 (by decide))
        have hrg := q_findsRange.1; have hrn := q_findsRange.2
        have : 0 ≤ σ_3 a0 4 ∧ σ_3 a0 4 ≤ σ_3 a0 5 ∧ σ_3 a0 5 ≤ σ (G a0 0) 0 := ⟨hrg.1, hrg.2.1, hrg.2.2.1⟩
        refine lv_aload_n hx hb dX12_depthOf_33 rfl (lv_at hl 1 rfl) ?_
        refine j_getI hx hb (C := RX12) (T := TX12) (N := 41) hts inX12_depthOf_X12 hown hK hS hW h0 rfl 5 rfl rfl (by decide) (hts _ flX12_depthOf_90) dX12_depthOf_34 ?_
        have := fbd hW h0 (k := 5) (lo := 0) (hi := 150) rfl rfl
        refine lv_aload_n hx hb dX12_depthOf_37 rfl (lv_at hl 1 rfl) ?_
        refine j_getI hx hb (C := RX12) (T := TX12) (N := 41) hts inX12_depthOf_X12 hown hK hS hW h0 rfl 4 rfl rfl (by decide) (hts _ flX12_depthOf_84) dX12_depthOf_38 ?_
        have := fbd hW h0 (k := 4) (lo := 0) (hi := 150) rfl rfl
        refine j_sub hx hb dX12_depthOf_41 ?_
        refine j_const hx hb dX12_depthOf_42 ?_
        refine j_icmp_ne (tgt := 48) hx hb (by omega) (by decide) dX12_depthOf_43 (by decide) (fun c_4 => ?_) (fun c_4 => ?_)
        · refine lv_iload_n hx hb dX12_depthOf_48 rfl (lv_at hl 2 rfl) ?_
          refine j_const hx hb dX12_depthOf_49 ?_
          refine j_add hx hb dX12_depthOf_50 ?_
          refine lv_istore_n (lv' := [(2, .int (jI (v2_7 + 1))), (3, .int (jI ((v2_7 + 1) * (σ (G a0 0) 1)))), (0, .ref a0)]) hx hb dX12_depthOf_51 rfl hl (by decide) rfl (fun ls hl => ?_)
          refine lv_goto (tgt := 7) hx hb dX12_depthOf_52 (by decide) ?_
          exact ih_7 ((24 - (v2_7 + 1) : Int).toNat) (by omega) (v2_7 + 1) σ_3 _ _ _ rfl (by omega) (by omega) (by first | exact (by first | exact DQ_0 (by show 0 < kO (σ (G a0 0)) x1 0; omega) | exact DQ_s i2_7 hsr hrg hrn q0 q1 (q_takesHand.1) (fun j j0 j1 => q_takesHand.2 j j0 j1) (by show _ < kO (σ (G a0 0)) x1 0; have := q_takesHand.1; omega) (by omega)) | (simp only [Efile, Ehl, Ehand]; exact (by first | exact DQ_0 (by show 0 < kO (σ (G a0 0)) x1 0; omega) | exact DQ_s i2_7 hsr hrg hrn q0 q1 (q_takesHand.1) (fun j j0 j1 => q_takesHand.2 j j0 j1) (by show _ < kO (σ (G a0 0)) x1 0; have := q_takesHand.1; omega) (by omega)))) (by omega) hW hF hR hI Efile Ehl Ehand (lv_sub hl [2, 0] rfl)
        · refine lv_iload_n hx hb dX12_depthOf_46 rfl (lv_at hl 2 rfl) ?_
          exact hRet 47 _ _ _ v2_7 _ dX12_depthOf_47 hW hF (by omega) ⟨(by first | exact ⟨by omega, by omega, i2_7, (by first | exact fun j j0 j1 hz => by (have h1 : (v2_7 + 1) * σ (G a0 0) 1 < kO (σ (G a0 0)) x1 0 := hz.2.1; have := q_takesHand.1; exfalso; omega) | exact fun j j0 j1 hz => by (obtain ⟨⟨ha_, hb_⟩, hh_⟩ := RG_own hsr hrg hrn q0 q1 (q_takesHand.1) (fun j j0 j1 => q_takesHand.2 j j0 j1) (by show _ < kO (σ (G a0 0)) x1 0; have := q_takesHand.1; omega); have := (hh_ j j0 j1).mp hz; omega)), (by rw [Ehl]; exact q_takesHand.1), (by rw [Ehand]; exact q_takesHand.2)⟩ | (simp only [Efile, Ehl, Ehand]; exact ⟨by omega, by omega, i2_7, (by first | exact fun j j0 j1 hz => by (have h1 : (v2_7 + 1) * σ (G a0 0) 1 < kO (σ (G a0 0)) x1 0 := hz.2.1; have := q_takesHand.1; exfalso; omega) | exact fun j j0 j1 hz => by (obtain ⟨⟨ha_, hb_⟩, hh_⟩ := RG_own hsr hrg hrn q0 q1 (q_takesHand.1) (fun j j0 j1 => q_takesHand.2 j j0 j1) (by show _ < kO (σ (G a0 0)) x1 0; have := q_takesHand.1; omega); have := (hh_ j j0 j1).mp hz; omega)), (by rw [Ehl]; exact q_takesHand.1), (by rw [Ehand]; exact q_takesHand.2)⟩)), hR⟩
      · refine lv_iload_n hx hb dX12_depthOf_26 rfl (lv_at hl 2 rfl) ?_
        exact hRet 27 _ _ _ v2_7 _ dX12_depthOf_27 hW hF (by omega) ⟨(by first | exact ⟨by omega, by omega, i2_7, (by first | exact fun j j0 j1 hz => by (have h1 : (v2_7 + 1) * σ (G a0 0) 1 < kO (σ (G a0 0)) x1 0 := hz.2.1; have := q_takesHand.1; exfalso; omega) | exact fun j j0 j1 hz => by (obtain ⟨⟨ha_, hb_⟩, hh_⟩ := RG_own hsr hrg hrn q0 q1 (q_takesHand.1) (fun j j0 j1 => q_takesHand.2 j j0 j1) (by show _ < kO (σ (G a0 0)) x1 0; have := q_takesHand.1; omega); have := (hh_ j j0 j1).mp hz; omega)), (by rw [Ehl]; exact q_takesHand.1), (by rw [Ehand]; exact q_takesHand.2)⟩ | (simp only [Efile, Ehl, Ehand]; exact ⟨by omega, by omega, i2_7, (by first | exact fun j j0 j1 hz => by (have h1 : (v2_7 + 1) * σ (G a0 0) 1 < kO (σ (G a0 0)) x1 0 := hz.2.1; have := q_takesHand.1; exfalso; omega) | exact fun j j0 j1 hz => by (obtain ⟨⟨ha_, hb_⟩, hh_⟩ := RG_own hsr hrg hrn q0 q1 (q_takesHand.1) (fun j j0 j1 => q_takesHand.2 j j0 j1) (by show _ < kO (σ (G a0 0)) x1 0; have := q_takesHand.1; omega); have := (hh_ j j0 j1).mp hz; omega)), (by rw [Ehl]; exact q_takesHand.1), (by rw [Ehand]; exact q_takesHand.2)⟩)), hR⟩
  exact L_7 ((24 - 0 : Int).toNat) 0 σ_1 _ _ _ rfl (by omega) (by omega) (by first | exact (by first | exact DQ_0 (by show 0 < kO (σ (G a0 0)) x1 0; omega) | exact DQ_s i2_7 hsr hrg hrn q0 q1 (q_takesHand.1) (fun j j0 j1 => q_takesHand.2 j j0 j1) (by show _ < kO (σ (G a0 0)) x1 0; have := q_takesHand.1; omega) (by omega)) | (simp only [Efile, Elow, Ehigh]; exact (by first | exact DQ_0 (by show 0 < kO (σ (G a0 0)) x1 0; omega) | exact DQ_s i2_7 hsr hrg hrn q0 q1 (q_takesHand.1) (fun j j0 j1 => q_takesHand.2 j j0 j1) (by show _ < kO (σ (G a0 0)) x1 0; have := q_takesHand.1; omega) (by omega)))) (by decide) hW hF hR hI Efile rfl rfl (lv_sub hl [1, 0] rfl)
