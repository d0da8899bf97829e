abbrev wr_X12_takesRange : List Nat := [13003, 13004, 13005, 13008, 40000, 41000, 42000, 43000]
theorem flX12_takesRange_32 : Cond.fieldLink RX12 32 "PageTrieModel" "itemAt" "[I" ∈ wsX12_takesRange := List.mem_of_getElem? (i := 1) rfl
theorem flX12_takesRange_35 : Cond.fieldLink RX12 35 "PageTrieModel" "itemLong" "[I" ∈ wsX12_takesRange := List.mem_of_getElem? (i := 2) rfl
theorem flX12_takesRange_38 : Cond.fieldLink RX12 38 "PageTrieModel" "itemThen" "[I" ∈ wsX12_takesRange := List.mem_of_getElem? (i := 3) rfl
theorem flX12_takesRange_41 : Cond.fieldLink RX12 41 "PageTrieModel" "itemThenLong" "[I" ∈ wsX12_takesRange := List.mem_of_getElem? (i := 4) rfl
theorem inX12_takesRange_X12 : ∀ w ∈ u_ws RX12 TX12 41, w ∈ wsX12_takesRange := mem_r _ [106, 107, 108, 109, 110, 111, 112, 113, 114, 115, 116, 117, 118, 119, 120, 121, 122, 123, 124, 125, 126, 127, 128, 129, 130, 131, 132, 133, 134, 135, 136, 137, 138, 139, 140, 141, 142, 143, 144, 145, 146] rfl
theorem hvX12_takesRange : yX12_takesRange.cls = RX12 ∧ yX12_takesRange.cls ≠ "java/lang/invoke/MethodHandle" ∧ yX12_takesRange.cls ≠ "java/lang/invoke/VarHandle" ∧ (parseMethodDescriptor yX12_takesRange.desc).map (fun d => d.parameters.length) = some 1 := by decide +kernel
set_option maxHeartbeats 4000000 in
set_option maxRecDepth 100000 in
theorem kX12_takesRange (l : Launch) {D : va_G} {cA : Nat → ClassId} {τ : Nat → Nat} {G : Nat → Nat → Nat} {L : List Nat} (hS : SW τ G L) (σ : Nat → Nat → Int) {a0 : Nat} (h0 : τ a0 = 13) {x1 : Int} (r1 : rg x1) (hI : FI G a0 σ) (q0 : FM (σ (G a0 0))) (q1 : 0 ≤ x1) (q2 : x1 < 20) : Met l yX12_takesRange wsX12_takesRange ({ frames := 6, cells := 0, slots := 0, locals := 139 }) (jP D cA τ G L σ [.ref a0, .int (jI x1)]) (jQI D cA τ G L (fun r σ' => (0 ≤ r ∧ r ≤ 1) ∧ (((FI G a0 σ') ∧ (FM (σ' (G a0 0))) ∧ (∀ q : Nat, 4290 ≤ q → σ' (G a0 0) q = σ (G a0 0) q)) ∧ fr wr_X12_takesRange τ σ σ'))) 0 0 (fun q => q ∈ L) := by
  refine j_metZ (by decide +kernel) rfl (Nat.le_of_ble_eq_true rfl) ?_
  intro p e s m args below meth c Q hx hb hml hown hts hK hW hRet ls hl
  have hl : lv_has ls 5 [(0, .ref a0), (1, .int (jI x1))] := hl
  have hA : ∀ q ∈ L, (fun q => q ∈ L) q := fun _ h => h
  have hF : va_S (fun q => q ∈ L) s.heap s.heap [] := va_S.rf
  have hR : fr wr_X12_takesRange τ σ σ := fr_rf
  have hk_file : τ (G a0 0) = 40 := gty hS h0 (k := 0) rfl rfl
  have hk_hand : τ (G a0 2) = 41 := gty hS h0 (k := 2) rfl rfl
  have := FI_bd hI
  have := fbd hW h0 (k := 3) (lo := 0) (hi := 24) rfl rfl
  refine lv_aload_n hx hb dX12_takesRange_0 rfl (lv_at hl 0 rfl) ?_
  refine lv_aload_n hx hb dX12_takesRange_1 rfl (lv_at hl 0 rfl) ?_
  refine j_getR hx hb (C := RX12) (T := TX12) (N := 41) hts inX12_takesRange_X12 hown hK hS hW h0 rfl 18 rfl rfl (by decide) (hts _ flX12_takesRange_32) dX12_takesRange_2 ?_
  have h_1 : τ (G a0 18) = 47 := gty hS h0 (k := 18) rfl rfl
  refine lv_iload_n hx hb dX12_takesRange_5 rfl (lv_at hl 1 rfl) ?_
  refine j_ald hx hb hK hS hW h_1 (n := 20) rfl (by omega) (by omega) (by decide) dX12_takesRange_6 ?_
  have := abd hW h_1 (n := 20) (lo := 0) (hi := 200) (i := x1) rfl (by omega) (by omega)
  refine lv_aload_n hx hb dX12_takesRange_7 rfl (lv_at hl 0 rfl) ?_
  refine j_getR hx hb (C := RX12) (T := TX12) (N := 41) hts inX12_takesRange_X12 hown hK hS hW h0 rfl 19 rfl rfl (by decide) (hts _ flX12_takesRange_35) dX12_takesRange_8 ?_
  have h_2 : τ (G a0 19) = 48 := gty hS h0 (k := 19) rfl rfl
  refine lv_iload_n hx hb dX12_takesRange_11 rfl (lv_at hl 1 rfl) ?_
  refine j_ald hx hb hK hS hW h_2 (n := 20) rfl (by omega) (by omega) (by decide) dX12_takesRange_12 ?_
  have := abd hW h_2 (n := 20) (lo := 0) (hi := 24) (i := x1) rfl (by omega) (by omega)
  refine j_cV (j_runV (As := [.int (jI (σ (G a0 18) (x1).toNat)), .int (jI (σ (G a0 19) (x1).toNat))]) (rest := []) hx hb hml hown hts hK hS hW (kX12_handsKey l hS σ (a0 := a0) (h0 := h0) (x1 := σ (G a0 18) (x1).toNat) (r1 := (by omega)) (x2 := σ (G a0 19) (x1).toNat) (r2 := (by omega)) (q0 := (by omega)) (q1 := (by omega)) (q2 := (by omega)) (q3 := (by omega))) 2 gX12_takesRange_X12_handsKey rfl hvX12_handsKey ⟨Nat.le_of_ble_eq_true rfl, Nat.le_of_ble_eq_true rfl⟩ rfl rfl h0 rfl rfl rfl rfl hl.1 rfl (Nat.le_of_ble_eq_true rfl) dX12_takesRange_13 ⟨Nat.le_of_ble_eq_true rfl, Nat.le_of_ble_eq_true rfl⟩) hA hF (fun σ_3 H locs hW hF pσ_3 => ?_)
  try dsimp only at pσ_3
  obtain ⟨pσ_3, fpσ_3⟩ := pσ_3
  have q_handsKey := pσ_3
  have hR := fr_call hR fpσ_3 (by decide)
  have Efile : σ_3 (G a0 0) = σ (G a0 0) := row_fr fpσ_3 hk_file 40 (by decide) (by decide)
  have := congrFun Efile 0
  have hI := FI_dep hS h0 hI (kp_fr fpσ_3 (by decide))
  refine lv_aload_n hx hb dX12_takesRange_16 rfl (lv_at hl 0 rfl) ?_
  refine j_cR (j_runV (As := []) (rest := []) hx hb hml hown hts hK hS hW (kX12_rankOfHand l hS σ_3 (a0 := a0) (h0 := h0) (hI := hI)) 0 gX12_takesRange_X12_rankOfHand rfl hvX12_rankOfHand ⟨Nat.le_of_ble_eq_true rfl, Nat.le_of_ble_eq_true rfl⟩ rfl rfl h0 rfl rfl rfl rfl hl.1 rfl (Nat.le_of_ble_eq_true rfl) dX12_takesRange_17 ⟨Nat.le_of_ble_eq_true rfl, Nat.le_of_ble_eq_true rfl⟩) (fun v_4 rv_4 pv_4 => ?_)
  try dsimp only at pv_4
  try simp only [Efile] at pv_4
  have q_rankOfHand := pv_4
  have : 0 ≤ v_4 ∧ v_4 ≤ σ (G a0 0) 0 := ⟨pv_4.1, pv_4.2.1⟩
  refine lv_istore_n (lv' := [(2, .int (jI v_4)), (0, .ref a0), (1, .int (jI x1))]) hx hb dX12_takesRange_20 rfl hl (by decide) rfl (fun ls hl => ?_)
  refine lv_aload_n hx hb dX12_takesRange_21 rfl (lv_at hl 1 rfl) ?_
  refine lv_aload_n hx hb dX12_takesRange_22 rfl (lv_at hl 1 rfl) ?_
  refine j_getR hx hb (C := RX12) (T := TX12) (N := 41) hts inX12_takesRange_X12 hown hK hS hW h0 rfl 20 rfl rfl (by decide) (hts _ flX12_takesRange_38) dX12_takesRange_23 ?_
  have h_5 : τ (G a0 20) = 49 := gty hS h0 (k := 20) rfl rfl
  refine lv_iload_n hx hb dX12_takesRange_26 rfl (lv_at hl 2 rfl) ?_
  refine j_ald hx hb hK hS hW h_5 (n := 20) rfl (by omega) (by omega) (by decide) dX12_takesRange_27 ?_
  have := abd hW h_5 (n := 20) (lo := 0) (hi := 200) (i := x1) rfl (by omega) (by omega)
  refine lv_aload_n hx hb dX12_takesRange_28 rfl (lv_at hl 1 rfl) ?_
  refine j_getR hx hb (C := RX12) (T := TX12) (N := 41) hts inX12_takesRange_X12 hown hK hS hW h0 rfl 21 rfl rfl (by decide) (hts _ flX12_takesRange_41) dX12_takesRange_29 ?_
  have h_6 : τ (G a0 21) = 50 := gty hS h0 (k := 21) rfl rfl
  refine lv_iload_n hx hb dX12_takesRange_32 rfl (lv_at hl 2 rfl) ?_
  refine j_ald hx hb hK hS hW h_6 (n := 20) rfl (by omega) (by omega) (by decide) dX12_takesRange_33 ?_
  have := abd hW h_6 (n := 20) (lo := 0) (hi := 24) (i := x1) rfl (by omega) (by omega)
  refine j_cV (j_runV (As := [.int (jI (σ_3 (G a0 20) (x1).toNat)), .int (jI (σ_3 (G a0 21) (x1).toNat))]) (rest := []) hx hb hml hown hts hK hS hW (kX12_handsKey l hS σ_3 (a0 := a0) (h0 := h0) (x1 := σ_3 (G a0 20) (x1).toNat) (r1 := (by omega)) (x2 := σ_3 (G a0 21) (x1).toNat) (r2 := (by omega)) (q0 := (by omega)) (q1 := (by omega)) (q2 := (by omega)) (q3 := (by omega))) 2 gX12_takesRange_X12_handsKey rfl hvX12_handsKey ⟨Nat.le_of_ble_eq_true rfl, Nat.le_of_ble_eq_true rfl⟩ rfl rfl h0 rfl rfl rfl rfl hl.1 rfl (Nat.le_of_ble_eq_true rfl) dX12_takesRange_34 ⟨Nat.le_of_ble_eq_true rfl, Nat.le_of_ble_eq_true rfl⟩) hA hF (fun σ_7 H locs hW hF pσ_7 => ?_)
  try dsimp only at pσ_7
  obtain ⟨pσ_7, fpσ_7⟩ := pσ_7
  try simp only [Efile] at pσ_7
  have q_handsKey := pσ_7
  have hR := fr_call hR fpσ_7 (by decide)
  have Efile : σ_7 (G a0 0) = σ (G a0 0) := (row_fr fpσ_7 hk_file 40 (by decide) (by decide)).trans Efile
  have := congrFun Efile 0
  have hI := FI_dep hS h0 hI (kp_fr fpσ_7 (by decide))
  refine lv_aload_n hx hb dX12_takesRange_37 rfl (lv_at hl 1 rfl) ?_
  refine j_cR (j_runV (As := []) (rest := []) hx hb hml hown hts hK hS hW (kX12_rankOfHand l hS σ_7 (a0 := a0) (h0 := h0) (hI := hI)) 0 gX12_takesRange_X12_rankOfHand rfl hvX12_rankOfHand ⟨Nat.le_of_ble_eq_true rfl, Nat.le_of_ble_eq_true rfl⟩ rfl rfl h0 rfl rfl rfl rfl hl.1 rfl (Nat.le_of_ble_eq_true rfl) dX12_takesRange_38 ⟨Nat.le_of_ble_eq_true rfl, Nat.le_of_ble_eq_true rfl⟩) (fun v_8 rv_8 pv_8 => ?_)
  try dsimp only at pv_8
  try simp only [Efile] at pv_8
  have q_rankOfHand := pv_8
  have : 0 ≤ v_8 ∧ v_8 ≤ σ (G a0 0) 0 := ⟨pv_8.1, pv_8.2.1⟩
  refine lv_iload_n hx hb dX12_takesRange_41 rfl (lv_at hl 0 rfl) ?_
  refine j_sub hx hb dX12_takesRange_42 ?_
  refine lv_aload_n hx hb dX12_takesRange_43 rfl (lv_at hl 1 rfl) ?_
  refine j_cR (j_runV (As := []) (rest := [.int (jI (v_8 - v_4))]) hx hb hml hown hts hK hS hW (kX12_isHandThere l hS σ_7 (a0 := a0) (h0 := h0) (hI := hI)) 0 gX12_takesRange_X12_isHandThere rfl hvX12_isHandThere ⟨Nat.le_of_ble_eq_true rfl, Nat.le_of_ble_eq_true rfl⟩ rfl rfl h0 rfl rfl rfl rfl hl.1 rfl (Nat.le_of_ble_eq_true rfl) dX12_takesRange_44 ⟨Nat.le_of_ble_eq_true rfl, Nat.le_of_ble_eq_true rfl⟩) (fun v_9 rv_9 pv_9 => ?_)
  try dsimp only at pv_9
  try simp only [Efile] at pv_9
  have q_isHandThere := pv_9
  have L_55 : ∀ (t0_55 : Int) (ls : Array Slot), (0 ≤ t0_55) → (t0_55 ≤ 1) → (v_4 + (v_8 - v_4) + t0_55 ≤ σ (G a0 0) 0) → rg t0_55 → lv_has ls 5 [(0, .ref a0), (2, .int (jI v_4))] → W p l e ({ frames := 6, cells := 0, slots := 0, locals := 139 }) s m args below meth c H locs 0 0 Q (F0 m 55 ls [.int (jI t0_55), .int (jI (v_8 - v_4))]) := by
    intro t0_55 ls i0_55 i1_55 i2_55 rt0_55 hl
    refine j_add hx hb dX12_takesRange_55 ?_
    refine lv_istore_n (lv' := [(3, .int (jI ((v_8 - v_4) + t0_55))), (0, .ref a0), (2, .int (jI v_4))]) hx hb dX12_takesRange_56 rfl hl (by decide) rfl (fun ls hl => ?_)
    refine j_const hx hb dX12_takesRange_57 ?_
    refine lv_istore (lv' := [(4, .int (jI 0)), (3, .int (jI ((v_8 - v_4) + t0_55))), (0, .ref a0), (2, .int (jI v_4))]) hx hb dX12_takesRange_58 hl (by decide) rfl (fun ls hl => ?_)
    have L_60 : ∀ (N : Nat) (v4_60 : Int) (σL_60 : Nat → Nat → Int) (H : Heap) (locs : List Loc) (ls : Array Slot), N = (2147483647 - v4_60 : Int).toNat → (0 ≤ v4_60) → (FM (σL_60 (G a0 0))) → ((σL_60 (G a0 0)) 0 = σ (G a0 0) 0 - v4_60) → (∀ q : Nat, 4290 ≤ q → (σL_60 (G a0 0)) q = σ (G a0 0) q) → rg v4_60 → PW D cA τ G L σL_60 H → va_S (fun q => q ∈ L) s.heap H locs → fr wr_X12_takesRange τ σ σL_60 → FI G a0 σL_60 → lv_has ls 5 [(0, .ref a0), (2, .int (jI v_4)), (3, .int (jI ((v_8 - v_4) + t0_55))), (4, .int (jI v4_60))] → W p l e ({ frames := 6, cells := 0, slots := 0, locals := 139 }) s m args below meth c H locs 0 0 Q (F0 m 60 ls []) := by
      intro N
      induction N using Nat.strongRecOn with
      | ind N ih_60 =>
        intro v4_60 σL_60 H locs ls hN i0_60 i1_60 i2_60 i3_60 rv4_60 hW hF hR hI hl
        refine lv_iload hx hb dX12_takesRange_60 (lv_at hl 3 rfl) ?_
        refine lv_iload_n hx hb dX12_takesRange_62 rfl (lv_at hl 2 rfl) ?_
        refine j_icmp_ge (tgt := 77) hx hb (by omega) (by omega) dX12_takesRange_63 (by decide) (fun c_10 => ?_) (fun c_10 => ?_)
        · refine lv_iload_n hx hb dX12_takesRange_77 rfl (lv_at hl 2 rfl) ?_
          refine j_if_le (tgt := 85) hx hb (by omega) dX12_takesRange_78 (by decide) (fun c_11 => ?_) (fun c_11 => ?_)
          · refine j_const hx hb dX12_takesRange_85 ?_
            exact hRet 86 _ _ _ 0 _ dX12_takesRange_86 hW hF (by omega) ⟨⟨hI, i1_60, i3_60⟩, hR⟩
          · refine j_const hx hb dX12_takesRange_81 ?_
            refine lv_goto (tgt := 86) hx hb dX12_takesRange_82 (by decide) ?_
            exact hRet 86 _ _ _ 1 _ dX12_takesRange_86 hW hF (by omega) ⟨⟨hI, i1_60, i3_60⟩, hR⟩
        · refine lv_aload_n hx hb dX12_takesRange_66 rfl (lv_at hl 0 rfl) ?_
          refine lv_iload_n hx hb dX12_takesRange_67 rfl (lv_at hl 1 rfl) ?_
          refine j_cV (j_runV (As := [.int (jI v_4)]) (rest := []) hx hb hml hown hts hK hS hW (kX12_goes l hS σL_60 (a0 := a0) (h0 := h0) (x1 := v_4) (r1 := (by omega)) (hI := hI) (q0 := (by omega)) (q1 := (by omega)) (q2 := i1_60)) 1 gX12_takesRange_X12_goes rfl hvX12_goes ⟨Nat.le_of_ble_eq_true rfl, Nat.le_of_ble_eq_true rfl⟩ rfl rfl h0 rfl rfl rfl rfl hl.1 rfl (Nat.le_of_ble_eq_true rfl) dX12_takesRange_68 ⟨Nat.le_of_ble_eq_true rfl, Nat.le_of_ble_eq_true rfl⟩) hA hF (fun σ_12 H locs hW hF pσ_12 => ?_)
          try dsimp only at pσ_12
          obtain ⟨pσ_12, fpσ_12⟩ := pσ_12
          have q_goes := pσ_12
          have hR := fr_call hR fpσ_12 (by decide)
          have hI := q_goes.1
          refine j_iinc (lv' := [(4, .int (jI (v4_60 + 1))), (0, .ref a0), (2, .int (jI v_4)), (3, .int (jI ((v_8 - v_4) + t0_55)))]) hx hb dX12_takesRange_71 hl (k := 3) rfl (by decide) rfl (fun ls hl => ?_)
          refine lv_goto (tgt := 60) hx hb dX12_takesRange_74 (by decide) ?_
          exact ih_60 ((2147483647 - (v4_60 + 1) : Int).toNat) (by omega) (v4_60 + 1) σ_12 _ _ _ rfl (by omega) (by first | exact q0 | (rw [Efile]; exact q0) | exact q_goes.2.1) (by first | omega | (have hz_ := q_goes.2.2.1; omega) | (rw [Efile]; omega)) (by first | exact fun _ _ => rfl | (intro q hq; rw [Efile]) | exact fun q hq => (q_goes.2.2.2.2.2 q (by omega)).trans (i3_60 q hq)) (by omega) hW hF hR hI (lv_sub hl [1, 2, 3, 0] rfl)
    exact L_60 ((2147483647 - 0 : Int).toNat) 0 σ_7 _ _ _ rfl (by omega) (by first | exact (by first | exact q0 | (rw [Efile]; exact q0) | exact q_goes.2.1) | (simp only [Efile]; exact (by first | exact q0 | (rw [Efile]; exact q0) | exact q_goes.2.1))) (by first | exact (by first | omega | (have hz_ := q_goes.2.2.1; omega) | (rw [Efile]; omega)) | (simp only [Efile]; exact (by first | omega | (have hz_ := q_goes.2.2.1; omega) | (rw [Efile]; omega)))) (by first | exact (by first | exact fun _ _ => rfl | (intro q hq; rw [Efile]) | exact fun q hq => (q_goes.2.2.2.2.2 q (by omega)).trans (i3_60 q hq)) | (simp only [Efile]; exact (by first | exact fun _ _ => rfl | (intro q hq; rw [Efile]) | exact fun q hq => (q_goes.2.2.2.2.2 q (by omega)).trans (i3_60 q hq)))) (by decide) hW hF hR hI (lv_sub hl [2, 3, 1, 0] rfl)
  refine j_if_eq (tgt := 54) hx hb (by omega) dX12_takesRange_47 (by decide) (fun c_13 => ?_) (fun c_13 => ?_)
  · refine j_const hx hb dX12_takesRange_54 ?_
    exact L_55 0 _ (by omega) (by omega) (by omega) (by decide) (lv_sub hl [1, 0] rfl)
  · have hrk := TH_rank q_rankOfHand (q_isHandThere.2.mp (by omega))
    refine j_const hx hb dX12_takesRange_50 ?_
    refine lv_goto (tgt := 55) hx hb dX12_takesRange_51 (by decide) ?_
    exact L_55 1 _ (by omega) (by omega) (by omega) (by decide) (lv_sub hl [1, 0] rfl)
abbrev wr_X12_does : List Nat := [13003, 13004, 13005, 13008, 13009, 40000, 41000, 42000, 43000]
theorem flX12_does_26 : Cond.fieldLink RX12 26 "PageTrieModel" "itemOf" "[I" ∈ wsX12_does := List.mem_of_getElem? (i := 1) rfl
theorem flX12_does_29 : Cond.fieldLink RX12 29 "PageTrieModel" "itemNumber" "[I" ∈ wsX12_does := List.mem_of_getElem? (i := 4) rfl
theorem flX12_does_32 : Cond.fieldLink RX12 32 "PageTrieModel" "itemAt" "[I" ∈ wsX12_does := List.mem_of_getElem? (i := 2) rfl
theorem flX12_does_35 : Cond.fieldLink RX12 35 "PageTrieModel" "itemLong" "[I" ∈ wsX12_does := List.mem_of_getElem? (i := 3) rfl
theorem inX12_does_X12 : ∀ w ∈ u_ws RX12 TX12 41, w ∈ wsX12_does := mem_r _ [133, 134, 135, 136, 137, 138, 139, 140, 141, 142, 143, 144, 145, 146, 147, 148, 149, 150, 151, 152, 153, 154, 155, 156, 157, 158, 159, 160, 161, 162, 163, 164, 165, 166, 167, 168, 169, 170, 171, 172, 173] rfl
theorem hvX12_does : yX12_does.cls = RX12 ∧ yX12_does.cls ≠ "java/lang/invoke/MethodHandle" ∧ yX12_does.cls ≠ "java/lang/invoke/VarHandle" ∧ (parseMethodDescriptor yX12_does.desc).map (fun d => d.parameters.length) = some 1 := by decide +kernel
set_option maxHeartbeats 4000000 in
set_option maxRecDepth 100000 in
theorem kX12_does (l : Launch) {D : va_G} {cA : Nat → ClassId} {τ : Nat → Nat} {G : Nat → Nat → Nat} {L : List Nat} (hS : SW τ G L) (σ : Nat → Nat → Int) {a0 : Nat} (h0 : τ a0 = 13) {x1 : Int} (r1 : rg x1) (hI : FI G a0 σ) (q0 : FM (σ (G a0 0))) (q1 : 0 ≤ x1) (q2 : x1 < 20) (q3 : 1 ≤ σ (G a0 19) x1.toNat) : Met l yX12_does wsX12_does ({ frames := 7, cells := 0, slots := 0, locals := 163 }) (jP D cA τ G L σ [.ref a0, .int (jI x1)]) (jQI D cA τ G L (fun r σ' => (0 ≤ r ∧ r ≤ 1) ∧ (((FI G a0 σ') ∧ (FM (σ' (G a0 0))) ∧ (∀ q : Nat, 4290 ≤ q → σ' (G a0 0) q = σ (G a0 0) q)) ∧ fr wr_X12_does τ σ σ'))) 0 0 (fun q => q ∈ L) := by
  refine j_metZ (by decide +kernel) rfl (Nat.le_of_ble_eq_true rfl) ?_
  intro p e s m args below meth c Q hx hb hml hown hts hK hW hRet ls hl
  have hl : lv_has ls 2 [(0, .ref a0), (1, .int (jI x1))] := hl
  have hA : ∀ q ∈ L, (fun q => q ∈ L) q := fun _ h => h
  have hF : va_S (fun q => q ∈ L) s.heap s.heap [] := va_S.rf
  have hR : fr wr_X12_does τ σ σ := fr_rf
  have hk_file : τ (G a0 0) = 40 := gty hS h0 (k := 0) rfl rfl
  have hk_il : τ (G a0 19) = 48 := gty hS h0 (k := 19) rfl rfl
  have := FI_bd hI
  have := fbd hW h0 (k := 3) (lo := 0) (hi := 24) rfl rfl
  refine lv_aload_n hx hb dX12_does_0 rfl (lv_at hl 0 rfl) ?_
  refine j_getR hx hb (C := RX12) (T := TX12) (N := 41) hts inX12_does_X12 hown hK hS hW h0 rfl 16 rfl rfl (by decide) (hts _ flX12_does_26) dX12_does_1 ?_
  have h_1 : τ (G a0 16) = 45 := gty hS h0 (k := 16) rfl rfl
  refine lv_iload_n hx hb dX12_does_4 rfl (lv_at hl 1 rfl) ?_
  refine j_ald hx hb hK hS hW h_1 (n := 20) rfl (by omega) (by omega) (by decide) dX12_does_5 ?_
  have := abd hW h_1 (n := 20) (lo := -2147483648) (hi := 2147483647) (i := x1) rfl (by omega) (by omega)
  refine j_bi hx hb dX12_does_6 (by decide) ?_
  refine j_icmp_ne (tgt := 17) hx hb (by omega) (by decide) dX12_does_8 (by decide) (fun c_2 => ?_) (fun c_2 => ?_)
  · refine lv_aload_n hx hb dX12_does_17 rfl (lv_at hl 0 rfl) ?_
    refine lv_aload_n hx hb dX12_does_18 rfl (lv_at hl 0 rfl) ?_
    refine j_getR hx hb (C := RX12) (T := TX12) (N := 41) hts inX12_does_X12 hown hK hS hW h0 rfl 18 rfl rfl (by decide) (hts _ flX12_does_32) dX12_does_19 ?_
    have h_3 : τ (G a0 18) = 47 := gty hS h0 (k := 18) rfl rfl
    refine lv_iload_n hx hb dX12_does_22 rfl (lv_at hl 1 rfl) ?_
    refine j_ald hx hb hK hS hW h_3 (n := 20) rfl (by omega) (by omega) (by decide) dX12_does_23 ?_
    have := abd hW h_3 (n := 20) (lo := 0) (hi := 200) (i := x1) rfl (by omega) (by omega)
    refine lv_aload_n hx hb dX12_does_24 rfl (lv_at hl 0 rfl) ?_
    refine j_getR hx hb (C := RX12) (T := TX12) (N := 41) hts inX12_does_X12 hown hK hS hW h0 rfl 19 rfl rfl (by decide) (hts _ flX12_does_35) dX12_does_25 ?_
    refine lv_iload_n hx hb dX12_does_28 rfl (lv_at hl 1 rfl) ?_
    refine j_ald hx hb hK hS hW hk_il (n := 20) rfl (by omega) (by omega) (by decide) dX12_does_29 ?_
    have := abd hW hk_il (n := 20) (lo := 0) (hi := 24) (i := x1) rfl (by omega) (by omega)
    refine j_cV (j_runV (As := [.int (jI (σ (G a0 18) (x1).toNat)), .int (jI (σ (G a0 19) (x1).toNat))]) (rest := []) hx hb hml hown hts hK hS hW (kX12_handsKey l hS σ (a0 := a0) (h0 := h0) (x1 := σ (G a0 18) (x1).toNat) (r1 := (by omega)) (x2 := σ (G a0 19) (x1).toNat) (r2 := (by omega)) (q0 := (by omega)) (q1 := (by omega)) (q2 := (by omega)) (q3 := (by omega))) 2 gX12_does_X12_handsKey rfl hvX12_handsKey ⟨Nat.le_of_ble_eq_true rfl, Nat.le_of_ble_eq_true rfl⟩ rfl rfl h0 rfl rfl rfl rfl hl.1 rfl (Nat.le_of_ble_eq_true rfl) dX12_does_30 ⟨Nat.le_of_ble_eq_true rfl, Nat.le_of_ble_eq_true rfl⟩) hA hF (fun σ_4 H locs hW hF pσ_4 => ?_)
    try dsimp only at pσ_4
    obtain ⟨pσ_4, fpσ_4⟩ := pσ_4
    have q_handsKey := pσ_4
    have hR := fr_call hR fpσ_4 (by decide)
    have Efile : σ_4 (G a0 0) = σ (G a0 0) := row_fr fpσ_4 hk_file 40 (by decide) (by decide)
    have := congrFun Efile 0
    have Eil : σ_4 (G a0 19) = σ (G a0 19) := row_fr fpσ_4 hk_il 48 (by decide) (by decide)
    have hI := FI_dep hS h0 hI (kp_fr fpσ_4 (by decide))
    refine lv_aload_n hx hb dX12_does_33 rfl (lv_at hl 0 rfl) ?_
    refine j_getR hx hb (C := RX12) (T := TX12) (N := 41) hts inX12_does_X12 hown hK hS hW h0 rfl 16 rfl rfl (by decide) (hts _ flX12_does_26) dX12_does_34 ?_
    refine lv_iload_n hx hb dX12_does_37 rfl (lv_at hl 1 rfl) ?_
    refine j_ald hx hb hK hS hW h_1 (n := 20) rfl (by omega) (by omega) (by decide) dX12_does_38 ?_
    have := abd hW h_1 (n := 20) (lo := -2147483648) (hi := 2147483647) (i := x1) rfl (by omega) (by omega)
    refine j_bi hx hb dX12_does_39 (by decide) ?_
    refine j_icmp_ne (tgt := 67) hx hb (by omega) (by decide) dX12_does_41 (by decide) (fun c_5 => ?_) (fun c_5 => ?_)
    · refine lv_aload_n hx hb dX12_does_67 rfl (lv_at hl 0 rfl) ?_
      refine j_cI (j_runV (As := []) (rest := []) hx hb hml hown hts hK hS hW (kX12_takesOut l hS σ_4 (a0 := a0) (h0 := h0) (hI := hI) (q0 := (by first | exact q0 | (rw [Efile]; exact q0)))) 0 gX12_does_X12_takesOut rfl hvX12_takesOut ⟨Nat.le_of_ble_eq_true rfl, Nat.le_of_ble_eq_true rfl⟩ rfl rfl h0 rfl rfl rfl rfl hl.1 rfl (Nat.le_of_ble_eq_true rfl) dX12_does_68 ⟨Nat.le_of_ble_eq_true rfl, Nat.le_of_ble_eq_true rfl⟩) hA hF (fun v_6 σ_7 H locs hW hF rv_6 pv_6 => ?_)
      try dsimp only at pv_6
      obtain ⟨pv_6, fpv_6⟩ := pv_6
      try simp only [Efile, Eil] at pv_6
      have q_takesOut := pv_6
      have hR := fr_call hR fpv_6 (by decide)
      have Eil : σ_7 (G a0 19) = σ (G a0 19) := (row_fr fpv_6 hk_il 48 (by decide) (by decide)).trans Eil
      refine j_bi hx hb dX12_does_71 (by decide) ?_
      refine j_icmp_eq (tgt := 80) hx hb (by omega) (by decide) dX12_does_73 (by decide) (fun c_8 => ?_) (fun c_8 => ?_)
      · refine j_const hx hb dX12_does_80 ?_
        exact hRet 81 _ _ _ 0 _ dX12_does_81 hW hF (by omega) ⟨(by first | exact (by first | exact q_takesRange | exact q_putsHand | exact q_takesOut) | (simp only [Eil]; exact (by first | exact q_takesRange | exact q_putsHand | exact q_takesOut))), hR⟩
      · refine j_const hx hb dX12_does_76 ?_
        refine lv_goto (tgt := 81) hx hb dX12_does_77 (by decide) ?_
        exact hRet 81 _ _ _ 1 _ dX12_does_81 hW hF (by omega) ⟨(by first | exact (by first | exact q_takesRange | exact q_putsHand | exact q_takesOut) | (simp only [Eil]; exact (by first | exact q_takesRange | exact q_putsHand | exact q_takesOut))), hR⟩
    · refine lv_aload_n hx hb dX12_does_44 rfl (lv_at hl 0 rfl) ?_
      refine lv_aload_n hx hb dX12_does_45 rfl (lv_at hl 0 rfl) ?_
      refine j_getR hx hb (C := RX12) (T := TX12) (N := 41) hts inX12_does_X12 hown hK hS hW h0 rfl 17 rfl rfl (by decide) (hts _ flX12_does_29) dX12_does_46 ?_
      have h_9 : τ (G a0 17) = 46 := gty hS h0 (k := 17) rfl rfl
      refine lv_iload_n hx hb dX12_does_49 rfl (lv_at hl 1 rfl) ?_
      refine j_ald hx hb hK hS hW h_9 (n := 20) rfl (by omega) (by omega) (by decide) dX12_does_50 ?_
      have := abd hW h_9 (n := 20) (lo := -2147483648) (hi := 2147483647) (i := x1) rfl (by omega) (by omega)
      refine j_cI (j_runV (As := [.int (jI (σ_4 (G a0 17) (x1).toNat))]) (rest := []) hx hb hml hown hts hK hS hW (kX12_putsHand l hS σ_4 (a0 := a0) (h0 := h0) (x1 := σ_4 (G a0 17) (x1).toNat) (r1 := (by omega)) (hI := hI) (q0 := (by first | exact q0 | (rw [Efile]; exact q0))) (q1 := (by omega))) 1 gX12_does_X12_putsHand rfl hvX12_putsHand ⟨Nat.le_of_ble_eq_true rfl, Nat.le_of_ble_eq_true rfl⟩ rfl rfl h0 rfl rfl rfl rfl hl.1 rfl (Nat.le_of_ble_eq_true rfl) dX12_does_51 ⟨Nat.le_of_ble_eq_true rfl, Nat.le_of_ble_eq_true rfl⟩) hA hF (fun v_10 σ_11 H locs hW hF rv_10 pv_10 => ?_)
      try dsimp only at pv_10
      obtain ⟨pv_10, fpv_10⟩ := pv_10
      try simp only [Efile, Eil] at pv_10
      have q_putsHand := pv_10
      have hR := fr_call hR fpv_10 (by decide)
      have Ehl : σ_11 a0 3 = σ_4 a0 3 := fr_at fpv_10 h0 3 13003 rfl (by decide)
      have Eil : σ_11 (G a0 19) = σ (G a0 19) := (row_fr fpv_10 hk_il 48 (by decide) (by decide)).trans Eil
      refine j_bi hx hb dX12_does_54 (by decide) ?_
      refine j_icmp_eq (tgt := 63) hx hb (by omega) (by decide) dX12_does_56 (by decide) (fun c_12 => ?_) (fun c_12 => ?_)
      · refine j_const hx hb dX12_does_63 ?_
        refine lv_goto (tgt := 81) hx hb dX12_does_64 (by decide) ?_
        exact hRet 81 _ _ _ 0 _ dX12_does_81 hW hF (by omega) ⟨(by first | exact (by first | exact q_takesRange | exact q_putsHand | exact q_takesOut) | (simp only [Ehl, Eil]; exact (by first | exact q_takesRange | exact q_putsHand | exact q_takesOut))), hR⟩
      · refine j_const hx hb dX12_does_59 ?_
        refine lv_goto (tgt := 81) hx hb dX12_does_60 (by decide) ?_
        exact hRet 81 _ _ _ 1 _ dX12_does_81 hW hF (by omega) ⟨(by first | exact (by first | exact q_takesRange | exact q_putsHand | exact q_takesOut) | (simp only [Ehl, Eil]; exact (by first | exact q_takesRange | exact q_putsHand | exact q_takesOut))), hR⟩
  · refine lv_aload_n hx hb dX12_does_11 rfl (lv_at hl 0 rfl) ?_
    refine lv_iload_n hx hb dX12_does_12 rfl (lv_at hl 1 rfl) ?_
    refine j_cI (j_runV (As := [.int (jI x1)]) (rest := []) hx hb hml hown hts hK hS hW (kX12_takesRange l hS σ (a0 := a0) (h0 := h0) (x1 := x1) (r1 := (by omega)) (hI := hI) (q0 := (by first | exact q0 | (rw [Efile]; exact q0))) (q1 := (by omega)) (q2 := (by omega))) 1 gX12_does_X12_takesRange rfl hvX12_takesRange ⟨Nat.le_of_ble_eq_true rfl, Nat.le_of_ble_eq_true rfl⟩ rfl rfl h0 rfl rfl rfl rfl hl.1 rfl (Nat.le_of_ble_eq_true rfl) dX12_does_13 ⟨Nat.le_of_ble_eq_true rfl, Nat.le_of_ble_eq_true rfl⟩) hA hF (fun v_13 σ_14 H locs hW hF rv_13 pv_13 => ?_)
    try dsimp only at pv_13
    obtain ⟨bpv_13, pv_13, fpv_13⟩ := pv_13
    have q_takesRange := pv_13
    have hR := fr_call hR fpv_13 (by decide)
    have Eil : σ_14 (G a0 19) = σ (G a0 19) := row_fr fpv_13 hk_il 48 (by decide) (by decide)
    exact hRet 16 _ _ _ v_13 _ dX12_does_16 hW hF (by omega) ⟨(by first | exact (by first | exact q_takesRange | exact q_putsHand | exact q_takesOut) | (simp only [Eil]; exact (by first | exact q_takesRange | exact q_putsHand | exact q_takesOut))), hR⟩
abbrev wr_X12_doesAll : List Nat := [13003, 13004, 13005, 13008, 13009, 40000, 41000, 42000, 43000]
theorem flX12_doesAll_204 : Cond.fieldLink RX12 204 "PageTrieModel" "items" "I" ∈ wsX12_doesAll := List.mem_of_getElem? (i := 1) rfl
theorem inX12_doesAll_X12 : ∀ w ∈ u_ws RX12 TX12 41, w ∈ wsX12_doesAll := mem_r _ [138, 139, 140, 141, 142, 143, 144, 145, 146, 147, 148, 149, 150, 151, 152, 153, 154, 155, 156, 157, 158, 159, 160, 161, 162, 163, 164, 165, 166, 167, 168, 169, 170, 171, 172, 173, 174, 175, 176, 177, 178] rfl
theorem hvX12_doesAll : yX12_doesAll.cls = RX12 ∧ yX12_doesAll.cls ≠ "java/lang/invoke/MethodHandle" ∧ yX12_doesAll.cls ≠ "java/lang/invoke/VarHandle" ∧ (parseMethodDescriptor yX12_doesAll.desc).map (fun d => d.parameters.length) = some 0 := by decide +kernel
set_option maxHeartbeats 4000000 in
set_option maxRecDepth 100000 in
theorem kX12_doesAll (l : Launch) {D : va_G} {cA : Nat → ClassId} {τ : Nat → Nat} {G : Nat → Nat → Nat} {L : List Nat} (hS : SW τ G L) (σ : Nat → Nat → Int) {a0 : Nat} (h0 : τ a0 = 13) (hI : FI G a0 σ) (q0 : FM (σ (G a0 0))) (q1 : ∀ s : Int, 0 ≤ s → s < σ a0 22 → 1 ≤ σ (G a0 19) s.toNat) : Met l yX12_doesAll wsX12_doesAll ({ frames := 8, cells := 0, slots := 0, locals := 184 }) (jP D cA τ G L σ [.ref a0]) (jQI D cA τ G L (fun r σ' => ((FI G a0 σ') ∧ (FM (σ' (G a0 0))) ∧ (∀ q : Nat, 4290 ≤ q → σ' (G a0 0) q = σ (G a0 0) q) ∧ (0 ≤ r) ∧ (r ≤ 20)) ∧ fr wr_X12_doesAll τ σ σ')) 0 0 (fun q => q ∈ L) := by
  refine j_metI (by decide +kernel) rfl (Nat.le_of_ble_eq_true rfl) ?_
  intro p e s m args below meth c Q hx hb hml hown hts hK hW hRet ls hl
  have hl : lv_has ls 2 [(0, .ref a0)] := hl
  have hA : ∀ q ∈ L, (fun q => q ∈ L) q := fun _ h => h
  have hF : va_S (fun q => q ∈ L) s.heap s.heap [] := va_S.rf
  have hR : fr wr_X12_doesAll τ σ σ := fr_rf
  have hk_file : τ (G a0 0) = 40 := gty hS h0 (k := 0) rfl rfl
  have hk_il : τ (G a0 19) = 48 := gty hS h0 (k := 19) rfl rfl
  have := FI_bd hI
  have := fbd hW h0 (k := 3) (lo := 0) (hi := 24) rfl rfl
  have := fbd hW h0 (k := 22) (lo := 0) (hi := 20) rfl rfl
  refine j_const hx hb dX12_doesAll_0 ?_
  refine lv_istore_n (lv' := [(1, .int (jI 0)), (0, .ref a0)]) hx hb dX12_doesAll_1 rfl hl (by decide) rfl (fun ls hl => ?_)
  have L_2 : ∀ (N : Nat) (v1_2 : Int) (σL_2 : Nat → Nat → Int) (H : Heap) (locs : List Loc) (ls : Array Slot), N = (2147483647 - v1_2 : Int).toNat → (0 ≤ v1_2) → (FM (σL_2 (G a0 0))) → (∀ q : Nat, 4290 ≤ q → (σL_2 (G a0 0)) q = σ (G a0 0) q) → (v1_2 ≤ 20) → rg v1_2 → PW D cA τ G L σL_2 H → va_S (fun q => q ∈ L) s.heap H locs → fr wr_X12_doesAll τ σ σL_2 → FI G a0 σL_2 → σL_2 a0 22 = σ a0 22 → σL_2 (G a0 19) = σ (G a0 19) → lv_has ls 2 [(0, .ref a0), (1, .int (jI v1_2))] → W p l e ({ frames := 8, cells := 0, slots := 0, locals := 184 }) s m args below meth c H locs 0 0 Q (F0 m 2 ls []) := by
    intro N
    induction N using Nat.strongRecOn with
    | ind N ih_2 =>
      intro v1_2 σL_2 H locs ls hN i0_2 i1_2 i2_2 i3_2 rv1_2 hW hF hR hI Eitems Eil hl
      refine lv_iload_n hx hb dX12_doesAll_2 rfl (lv_at hl 1 rfl) ?_
      refine lv_aload_n hx hb dX12_doesAll_3 rfl (lv_at hl 0 rfl) ?_
      refine j_getI hx hb (C := RX12) (T := TX12) (N := 41) hts inX12_doesAll_X12 hown hK hS hW h0 rfl 22 rfl rfl (by decide) (hts _ flX12_doesAll_204) dX12_doesAll_4 ?_
      rw [Eitems]
      have := fbd hW h0 (k := 22) (lo := 0) (hi := 20) rfl rfl
      try simp only [Eitems] at this
      refine j_icmp_ge (tgt := 25) hx hb (by omega) (by omega) dX12_doesAll_7 (by decide) (fun c_1 => ?_) (fun c_1 => ?_)
      · refine lv_iload_n hx hb dX12_doesAll_25 rfl (lv_at hl 1 rfl) ?_
        exact hRet 26 _ _ _ v1_2 _ dX12_doesAll_26 hW hF (by omega) ⟨(by first | exact (by first | exact ⟨hI, i1_2, i2_2, by omega, by omega⟩ | exact ⟨hI, q_does.2.1, fun q hq => (q_does.2.2 q hq).trans (i2_2 q hq), by omega, by omega⟩) | (simp only [Eitems, Eil]; exact (by first | exact ⟨hI, i1_2, i2_2, by omega, by omega⟩ | exact ⟨hI, q_does.2.1, fun q hq => (q_does.2.2 q hq).trans (i2_2 q hq), by omega, by omega⟩))), hR⟩
      · refine lv_aload_n hx hb dX12_doesAll_10 rfl (lv_at hl 0 rfl) ?_
        refine lv_iload_n hx hb dX12_doesAll_11 rfl (lv_at hl 1 rfl) ?_
        refine j_cI (j_runV (As := [.int (jI v1_2)]) (rest := []) hx hb hml hown hts hK hS hW (kX12_does l hS σL_2 (a0 := a0) (h0 := h0) (x1 := v1_2) (r1 := (by omega)) (hI := hI) (q0 := i1_2) (q1 := (by omega)) (q2 := (by omega)) (q3 := (by first | exact q1 _ (by omega) (by omega) | (rw [Eil]; exact q1 _ (by omega) (by omega))))) 1 gX12_doesAll_X12_does rfl hvX12_does ⟨Nat.le_of_ble_eq_true rfl, Nat.le_of_ble_eq_true rfl⟩ rfl rfl h0 rfl rfl rfl rfl hl.1 rfl (Nat.le_of_ble_eq_true rfl) dX12_doesAll_12 ⟨Nat.le_of_ble_eq_true rfl, Nat.le_of_ble_eq_true rfl⟩) hA hF (fun v_2 σ_3 H locs hW hF rv_2 pv_2 => ?_)
        try dsimp only at pv_2
        obtain ⟨bpv_2, pv_2, fpv_2⟩ := pv_2
        try simp only [Eitems, Eil] at pv_2
        have q_does := pv_2
        have hR := fr_call hR fpv_2 (by decide)
        have Eitems : σ_3 a0 22 = σ a0 22 := (fr_at fpv_2 h0 22 13022 rfl (by decide)).trans Eitems
        have Eil : σ_3 (G a0 19) = σ (G a0 19) := (row_fr fpv_2 hk_il 48 (by decide) (by decide)).trans Eil
        have hI := q_does.1
        refine j_if_eq (tgt := 25) hx hb (by omega) dX12_doesAll_15 (by decide) (fun c_4 => ?_) (fun c_4 => ?_)
        · refine lv_iload_n hx hb dX12_doesAll_25 rfl (lv_at hl 1 rfl) ?_
          exact hRet 26 _ _ _ v1_2 _ dX12_doesAll_26 hW hF (by omega) ⟨(by first | exact (by first | exact ⟨hI, i1_2, i2_2, by omega, by omega⟩ | exact ⟨hI, q_does.2.1, fun q hq => (q_does.2.2 q hq).trans (i2_2 q hq), by omega, by omega⟩) | (simp only [Eitems, Eil]; exact (by first | exact ⟨hI, i1_2, i2_2, by omega, by omega⟩ | exact ⟨hI, q_does.2.1, fun q hq => (q_does.2.2 q hq).trans (i2_2 q hq), by omega, by omega⟩))), hR⟩
        · refine lv_iload_n hx hb dX12_doesAll_18 rfl (lv_at hl 1 rfl) ?_
          refine j_const hx hb dX12_doesAll_19 ?_
          refine j_add hx hb dX12_doesAll_20 ?_
          refine lv_istore_n (lv' := [(1, .int (jI (v1_2 + 1))), (0, .ref a0)]) hx hb dX12_doesAll_21 rfl hl (by decide) rfl (fun ls hl => ?_)
          refine lv_goto (tgt := 2) hx hb dX12_doesAll_22 (by decide) ?_
          exact ih_2 ((2147483647 - (v1_2 + 1) : Int).toNat) (by omega) (v1_2 + 1) σ_3 _ _ _ rfl (by omega) (by first | exact (by first | exact q0 | exact q_does.2.1) | (simp only [Eitems, Eil]; exact (by first | exact q0 | exact q_does.2.1))) (by first | exact (by first | exact fun _ _ => rfl | exact fun q hq => (q_does.2.2 q hq).trans (i2_2 q hq)) | (simp only [Eitems, Eil]; exact (by first | exact fun _ _ => rfl | exact fun q hq => (q_does.2.2 q hq).trans (i2_2 q hq)))) (by omega) (by omega) hW hF hR hI Eitems Eil (lv_sub hl [1, 0] rfl)
  exact L_2 ((2147483647 - 0 : Int).toNat) 0 σ _ _ _ rfl (by omega) (by first | exact q0 | exact q_does.2.1) (by first | exact fun _ _ => rfl | exact fun q hq => (q_does.2.2 q hq).trans (i2_2 q hq)) (by omega) (by decide) hW hF hR hI rfl rfl (lv_sub hl [1, 0] rfl)
abbrev wr_X12_orders : List Nat := [13003, 13004, 13005, 13008, 13009, 13011, 13012, 13013, 13014, 13015, 13022, 13023, 13024, 40000, 41000, 42000, 43000, 45000, 46000, 47000, 48000, 49000, 50000]
theorem flX12_orders_186 : Cond.fieldLink RX12 186 "PageTrieModel" "fault" "I" ∈ wsX12_orders := List.mem_of_getElem? (i := 1) rfl
theorem inX12_orders_X12 : ∀ w ∈ u_ws RX12 TX12 41, w ∈ wsX12_orders := mem_r _ [187, 188, 189, 190, 191, 192, 193, 194, 195, 196, 197, 198, 199, 200, 201, 202, 203, 204, 205, 206, 207, 208, 209, 210, 211, 212, 213, 214, 215, 216, 217, 218, 219, 220, 221, 222, 223, 224, 225, 226, 227] rfl
theorem hvX12_orders : yX12_orders.cls = RX12 ∧ yX12_orders.cls ≠ "java/lang/invoke/MethodHandle" ∧ yX12_orders.cls ≠ "java/lang/invoke/VarHandle" ∧ (parseMethodDescriptor yX12_orders.desc).map (fun d => d.parameters.length) = some 1 := by decide +kernel
set_option maxHeartbeats 4000000 in
set_option maxRecDepth 100000 in
theorem kX12_orders (l : Launch) {D : va_G} {cA : Nat → ClassId} {τ : Nat → Nat} {G : Nat → Nat → Nat} {L : List Nat} (hS : SW τ G L) (σ : Nat → Nat → Int) {a0 : Nat} (h0 : τ a0 = 13) {x1 : Int} (r1 : rg x1) (hI : FI G a0 σ) (q0 : FM (σ (G a0 0))) : Met l yX12_orders wsX12_orders ({ frames := 9, cells := 0, slots := 0, locals := 205 }) (jP D cA τ G L σ [.ref a0, .int (jI x1)]) (jQI D cA τ G L (fun r σ' => ((FI G a0 σ') ∧ (FM (σ' (G a0 0)))) ∧ fr wr_X12_orders τ σ σ')) 0 0 (fun q => q ∈ L) := by
  refine j_metI (by decide +kernel) rfl (Nat.le_of_ble_eq_true rfl) ?_
  intro p e s m args below meth c Q hx hb hml hown hts hK hW hRet ls hl
  have hl : lv_has ls 2 [(0, .ref a0), (1, .int (jI x1))] := hl
  have hA : ∀ q ∈ L, (fun q => q ∈ L) q := fun _ h => h
  have hF : va_S (fun q => q ∈ L) s.heap s.heap [] := va_S.rf
  have hR : fr wr_X12_orders τ σ σ := fr_rf
  have hk_file : τ (G a0 0) = 40 := gty hS h0 (k := 0) rfl rfl
  have hk_il : τ (G a0 19) = 48 := gty hS h0 (k := 19) rfl rfl
  have := FI_bd hI
  have := fbd hW h0 (k := 3) (lo := 0) (hi := 24) rfl rfl
  refine lv_aload_n hx hb dX12_orders_0 rfl (lv_at hl 0 rfl) ?_
  refine lv_iload_n hx hb dX12_orders_1 rfl (lv_at hl 1 rfl) ?_
  refine j_const hx hb dX12_orders_2 ?_
  refine j_si hx hb dX12_orders_3 (by decide) ?_
  refine j_cR (j_runV (As := [.int (jI x1), .int (jI 1), .int (jI 200)]) (rest := []) hx hb hml hown hts hK hS hW (kX12_isText l hS σ (a0 := a0) (h0 := h0) (x1 := x1) (r1 := (by omega)) (x2 := 1) (r2 := (by decide)) (x3 := 200) (r3 := (by decide))) 3 gX12_orders_X12_isText rfl hvX12_isText ⟨Nat.le_of_ble_eq_true rfl, Nat.le_of_ble_eq_true rfl⟩ rfl rfl h0 rfl rfl rfl rfl hl.1 rfl (Nat.le_of_ble_eq_true rfl) dX12_orders_6 ⟨Nat.le_of_ble_eq_true rfl, Nat.le_of_ble_eq_true rfl⟩) (fun v_1 rv_1 pv_1 => ?_)
  try dsimp only at pv_1
  have q_isText := pv_1
  refine j_if_ne (tgt := 14) hx hb (by omega) dX12_orders_9 (by decide) (fun c_2 => ?_) (fun c_2 => ?_)
  · refine lv_aload_n hx hb dX12_orders_14 rfl (lv_at hl 0 rfl) ?_
    refine lv_iload_n hx hb dX12_orders_15 rfl (lv_at hl 1 rfl) ?_
    refine j_cI (j_runV (As := [.int (jI x1)]) (rest := []) hx hb hml hown hts hK hS hW (kX12_readsOrders l hS σ (a0 := a0) (h0 := h0) (x1 := x1) (r1 := (by omega)) (q0 := (by omega)) (q1 := (by omega))) 1 gX12_orders_X12_readsOrders rfl hvX12_readsOrders ⟨Nat.le_of_ble_eq_true rfl, Nat.le_of_ble_eq_true rfl⟩ rfl rfl h0 rfl rfl rfl rfl hl.1 rfl (Nat.le_of_ble_eq_true rfl) dX12_orders_16 ⟨Nat.le_of_ble_eq_true rfl, Nat.le_of_ble_eq_true rfl⟩) hA hF (fun v_3 σ_4 H locs hW hF rv_3 pv_3 => ?_)
    try dsimp only at pv_3
    obtain ⟨bpv_3, pv_3, fpv_3⟩ := pv_3
    have q_readsOrders := pv_3
    have hR := fr_call hR fpv_3 (by decide)
    have Efile : σ_4 (G a0 0) = σ (G a0 0) := row_fr fpv_3 hk_file 40 (by decide) (by decide)
    have := congrFun Efile 0
    have hI := FI_dep hS h0 hI (kp_fr fpv_3 (by decide))
    refine j_if_eq (tgt := 29) hx hb (by omega) dX12_orders_19 (by decide) (fun c_5 => ?_) (fun c_5 => ?_)
    · refine lv_aload_n hx hb dX12_orders_29 rfl (lv_at hl 0 rfl) ?_
      refine j_getI hx hb (C := RX12) (T := TX12) (N := 41) hts inX12_orders_X12 hown hK hS hW h0 rfl 14 rfl rfl (by decide) (hts _ flX12_orders_186) dX12_orders_30 ?_
      have := fbd hW h0 (k := 14) (lo := -2147483648) (hi := 2147483647) rfl rfl
      exact hRet 33 _ _ _ (σ_4 a0 14) _ dX12_orders_33 hW hF (by omega) ⟨(by first | exact (by first | exact ⟨q_doesAll.1, q_doesAll.2.1⟩ | exact ⟨hI, q0⟩) | (simp only [Efile]; exact (by first | exact ⟨q_doesAll.1, q_doesAll.2.1⟩ | exact ⟨hI, q0⟩))), hR⟩
    · refine lv_aload_n hx hb dX12_orders_22 rfl (lv_at hl 0 rfl) ?_
      refine j_cI (j_runV (As := []) (rest := []) hx hb hml hown hts hK hS hW (kX12_doesAll l hS σ_4 (a0 := a0) (h0 := h0) (hI := hI) (q0 := (by first | exact q0 | (rw [Efile]; exact q0))) (q1 := (by first | exact q_readsOrders (by omega) | (simp only [Eitems, Eil]; exact q_readsOrders (by omega))))) 0 gX12_orders_X12_doesAll rfl hvX12_doesAll ⟨Nat.le_of_ble_eq_true rfl, Nat.le_of_ble_eq_true rfl⟩ rfl rfl h0 rfl rfl rfl rfl hl.1 rfl (Nat.le_of_ble_eq_true rfl) dX12_orders_23 ⟨Nat.le_of_ble_eq_true rfl, Nat.le_of_ble_eq_true rfl⟩) hA hF (fun v_6 σ_7 H locs hW hF rv_6 pv_6 => ?_)
      try dsimp only at pv_6
      obtain ⟨pv_6, fpv_6⟩ := pv_6
      try simp only [Efile] at pv_6
      have q_doesAll := pv_6
      have hR := fr_call hR fpv_6 (by decide)
      have Eitems : σ_7 a0 22 = σ_4 a0 22 := fr_at fpv_6 h0 22 13022 rfl (by decide)
      have Eil : σ_7 (G a0 19) = σ_4 (G a0 19) := row_fr fpv_6 hk_il 48 (by decide) (by decide)
      refine lv_goto (tgt := 33) hx hb dX12_orders_26 (by decide) ?_
      exact hRet 33 _ _ _ v_6 _ dX12_orders_33 hW hF (by omega) ⟨(by first | exact (by first | exact ⟨q_doesAll.1, q_doesAll.2.1⟩ | exact ⟨hI, q0⟩) | (simp only [Eitems, Eil]; exact (by first | exact ⟨q_doesAll.1, q_doesAll.2.1⟩ | exact ⟨hI, q0⟩))), hR⟩
  · refine j_const hx hb dX12_orders_12 ?_
    exact hRet 13 _ _ _ (-1) _ dX12_orders_13 hW hF (by decide) ⟨(by first | exact ⟨q_doesAll.1, q_doesAll.2.1⟩ | exact ⟨hI, q0⟩), hR⟩
abbrev wr_X12_batch : List Nat := [13003, 13004, 13005, 13008, 13009, 13011, 13012, 13013, 13014, 13015, 13022, 13023, 13024, 40000, 41000, 42000, 43000, 45000, 46000, 47000, 48000, 49000, 50000]
theorem flX12_batch_186 : Cond.fieldLink RX12 186 "PageTrieModel" "fault" "I" ∈ wsX12_batch := List.mem_of_getElem? (i := 1) rfl
theorem flX12_batch_204 : Cond.fieldLink RX12 204 "PageTrieModel" "items" "I" ∈ wsX12_batch := List.mem_of_getElem? (i := 2) rfl
theorem inX12_batch_X12 : ∀ w ∈ u_ws RX12 TX12 41, w ∈ wsX12_batch := mem_r _ [191, 192, 193, 194, 195, 196, 197, 198, 199, 200, 201, 202, 203, 204, 205, 206, 207, 208, 209, 210, 211, 212, 213, 214, 215, 216, 217, 218, 219, 220, 221, 222, 223, 224, 225, 226, 227, 228, 229, 230, 231] rfl
theorem hvX12_batch : yX12_batch.cls = RX12 ∧ yX12_batch.cls ≠ "java/lang/invoke/MethodHandle" ∧ yX12_batch.cls ≠ "java/lang/invoke/VarHandle" ∧ (parseMethodDescriptor yX12_batch.desc).map (fun d => d.parameters.length) = some 1 := by decide +kernel
set_option maxHeartbeats 4000000 in
set_option maxRecDepth 100000 in
theorem kX12_batch (l : Launch) {D : va_G} {cA : Nat → ClassId} {τ : Nat → Nat} {G : Nat → Nat → Nat} {L : List Nat} (hS : SW τ G L) (σ : Nat → Nat → Int) {a0 : Nat} (h0 : τ a0 = 13) {x1 : Int} (r1 : rg x1) (hI : FI G a0 σ) (q0 : FM (σ (G a0 0))) : Met l yX12_batch wsX12_batch ({ frames := 9, cells := 0, slots := 0, locals := 205 }) (jP D cA τ G L σ [.ref a0, .int (jI x1)]) (jQI D cA τ G L (fun r σ' => ((FI G a0 σ') ∧ (FM (σ' (G a0 0)))) ∧ fr wr_X12_batch τ σ σ')) 0 0 (fun q => q ∈ L) := by
  refine j_metI (by decide +kernel) rfl (Nat.le_of_ble_eq_true rfl) ?_
  intro p e s m args below meth c Q hx hb hml hown hts hK hW hRet ls hl
  have hl : lv_has ls 3 [(0, .ref a0), (1, .int (jI x1))] := hl
  have hA : ∀ q ∈ L, (fun q => q ∈ L) q := fun _ h => h
  have hF : va_S (fun q => q ∈ L) s.heap s.heap [] := va_S.rf
  have hR : fr wr_X12_batch τ σ σ := fr_rf
  have hk_file : τ (G a0 0) = 40 := gty hS h0 (k := 0) rfl rfl
  have hk_il : τ (G a0 19) = 48 := gty hS h0 (k := 19) rfl rfl
  have := FI_bd hI
  have := fbd hW h0 (k := 3) (lo := 0) (hi := 24) rfl rfl
  have hI0 := hI
  refine lv_aload_n hx hb dX12_batch_0 rfl (lv_at hl 0 rfl) ?_
  refine lv_iload_n hx hb dX12_batch_1 rfl (lv_at hl 1 rfl) ?_
  refine j_const hx hb dX12_batch_2 ?_
  refine j_si hx hb dX12_batch_3 (by decide) ?_
  refine j_cR (j_runV (As := [.int (jI x1), .int (jI 1), .int (jI 200)]) (rest := []) hx hb hml hown hts hK hS hW (kX12_isText l hS σ (a0 := a0) (h0 := h0) (x1 := x1) (r1 := (by omega)) (x2 := 1) (r2 := (by decide)) (x3 := 200) (r3 := (by decide))) 3 gX12_batch_X12_isText rfl hvX12_isText ⟨Nat.le_of_ble_eq_true rfl, Nat.le_of_ble_eq_true rfl⟩ rfl rfl h0 rfl rfl rfl rfl hl.1 rfl (Nat.le_of_ble_eq_true rfl) dX12_batch_6 ⟨Nat.le_of_ble_eq_true rfl, Nat.le_of_ble_eq_true rfl⟩) (fun v_1 rv_1 pv_1 => ?_)
  try dsimp only at pv_1
  have q_isText := pv_1
  refine j_if_ne (tgt := 14) hx hb (by omega) dX12_batch_9 (by decide) (fun c_2 => ?_) (fun c_2 => ?_)
  · refine lv_aload_n hx hb dX12_batch_14 rfl (lv_at hl 0 rfl) ?_
    refine lv_iload_n hx hb dX12_batch_15 rfl (lv_at hl 1 rfl) ?_
    refine j_cI (j_runV (As := [.int (jI x1)]) (rest := []) hx hb hml hown hts hK hS hW (kX12_readsOrders l hS σ (a0 := a0) (h0 := h0) (x1 := x1) (r1 := (by omega)) (q0 := (by omega)) (q1 := (by omega))) 1 gX12_batch_X12_readsOrders rfl hvX12_readsOrders ⟨Nat.le_of_ble_eq_true rfl, Nat.le_of_ble_eq_true rfl⟩ rfl rfl h0 rfl rfl rfl rfl hl.1 rfl (Nat.le_of_ble_eq_true rfl) dX12_batch_16 ⟨Nat.le_of_ble_eq_true rfl, Nat.le_of_ble_eq_true rfl⟩) hA hF (fun v_3 σ_4 H locs hW hF rv_3 pv_3 => ?_)
    try dsimp only at pv_3
    obtain ⟨bpv_3, pv_3, fpv_3⟩ := pv_3
    have q_readsOrders := pv_3
    have hR := fr_call hR fpv_3 (by decide)
    have Efile : σ_4 (G a0 0) = σ (G a0 0) := row_fr fpv_3 hk_file 40 (by decide) (by decide)
    have := congrFun Efile 0
    have Ekept : σ_4 a0 1 = σ a0 1 := fr_at fpv_3 h0 1 13001 rfl (by decide)
    have hI := FI_dep hS h0 hI (kp_fr fpv_3 (by decide))
    refine j_if_ne (tgt := 27) hx hb (by omega) dX12_batch_19 (by decide) (fun c_5 => ?_) (fun c_5 => ?_)
    · refine lv_aload_n hx hb dX12_batch_27 rfl (lv_at hl 0 rfl) ?_
      refine j_const hx hb dX12_batch_28 ?_
      refine j_const hx hb dX12_batch_29 ?_
      refine j_cV (j_runV (As := [.int (jI 0), .int (jI 3)]) (rest := []) hx hb hml hown hts hK hS hW (kX12_copies l hS σ_4 (a0 := a0) (h0 := h0) (x1 := 0) (r1 := (by decide)) (x2 := 3) (r2 := (by decide)) (q0 := (by omega)) (q1 := (by omega)) (q2 := (by omega)) (q3 := (by omega)) (q4 := (by omega))) 2 gX12_batch_X12_copies rfl hvX12_copies ⟨Nat.le_of_ble_eq_true rfl, Nat.le_of_ble_eq_true rfl⟩ rfl rfl h0 rfl rfl rfl rfl hl.1 rfl (Nat.le_of_ble_eq_true rfl) dX12_batch_30 ⟨Nat.le_of_ble_eq_true rfl, Nat.le_of_ble_eq_true rfl⟩) hA hF (fun σ_6 H locs hW hF pσ_6 => ?_)
      try dsimp only at pσ_6
      obtain ⟨pσ_6, fpσ_6⟩ := pσ_6
      try simp only [Efile, Ekept] at pσ_6
      have q_copies := pσ_6
      have hR := fr_call hR fpσ_6 (by decide)
      have Eitems : σ_6 a0 22 = σ_4 a0 22 := fr_at fpσ_6 h0 22 13022 rfl (by decide)
      have Eil : σ_6 (G a0 19) = σ_4 (G a0 19) := row_fr fpσ_6 hk_il 48 (by decide) (by decide)
      have Ekept : σ_6 a0 1 = σ a0 1 := (fr_at fpσ_6 h0 1 13001 rfl (by decide)).trans Ekept
      have hcp1 := q_copies
      have hfe := FI_eq hI0 q0 (fun q hq => hcp1.2 q (by omega)) Ekept
      have hI := hfe.1
      refine lv_aload_n hx hb dX12_batch_33 rfl (lv_at hl 0 rfl) ?_
      refine j_cI (j_runV (As := []) (rest := []) hx hb hml hown hts hK hS hW (kX12_doesAll l hS σ_6 (a0 := a0) (h0 := h0) (hI := hI) (q0 := hfe.2) (q1 := (by first | exact q_readsOrders (by omega) | (simp only [Eitems, Eil]; exact q_readsOrders (by omega))))) 0 gX12_batch_X12_doesAll rfl hvX12_doesAll ⟨Nat.le_of_ble_eq_true rfl, Nat.le_of_ble_eq_true rfl⟩ rfl rfl h0 rfl rfl rfl rfl hl.1 rfl (Nat.le_of_ble_eq_true rfl) dX12_batch_34 ⟨Nat.le_of_ble_eq_true rfl, Nat.le_of_ble_eq_true rfl⟩) hA hF (fun v_7 σ_8 H locs hW hF rv_7 pv_7 => ?_)
      try dsimp only at pv_7
      obtain ⟨pv_7, fpv_7⟩ := pv_7
      try simp only [Eitems, Eil, Ekept] at pv_7
      have q_doesAll := pv_7
      have hR := fr_call hR fpv_7 (by decide)
      have Eitems : σ_8 a0 22 = σ_4 a0 22 := (fr_at fpv_7 h0 22 13022 rfl (by decide)).trans Eitems
      have Eil : σ_8 (G a0 19) = σ_4 (G a0 19) := (row_fr fpv_7 hk_il 48 (by decide) (by decide)).trans Eil
      have Ekept : σ_8 a0 1 = σ a0 1 := (fr_at fpv_7 h0 1 13001 rfl (by decide)).trans Ekept
      refine lv_istore_n (lv' := [(2, .int (jI v_7)), (0, .ref a0), (1, .int (jI x1))]) hx hb dX12_batch_37 rfl hl (by decide) rfl (fun ls hl => ?_)
      refine lv_iload_n hx hb dX12_batch_38 rfl (lv_at hl 0 rfl) ?_
      refine lv_aload_n hx hb dX12_batch_39 rfl (lv_at hl 1 rfl) ?_
      refine j_getI hx hb (C := RX12) (T := TX12) (N := 41) hts inX12_batch_X12 hown hK hS hW h0 rfl 22 rfl rfl (by decide) (hts _ flX12_batch_204) dX12_batch_40 ?_
      rw [Eitems]
      have := fbd hW h0 (k := 22) (lo := 0) (hi := 20) rfl rfl
      try simp only [Eitems] at this
      refine j_icmp_ne (tgt := 51) hx hb (by omega) (by omega) dX12_batch_43 (by decide) (fun c_9 => ?_) (fun c_9 => ?_)
      · refine lv_aload_n hx hb dX12_batch_51 rfl (lv_at hl 1 rfl) ?_
        refine j_const hx hb dX12_batch_52 ?_
        refine j_const hx hb dX12_batch_53 ?_
        refine j_cV (j_runV (As := [.int (jI 3), .int (jI 0)]) (rest := []) hx hb hml hown hts hK hS hW (kX12_copies l hS σ_8 (a0 := a0) (h0 := h0) (x1 := 3) (r1 := (by decide)) (x2 := 0) (r2 := (by decide)) (q0 := (by omega)) (q1 := (by omega)) (q2 := (by omega)) (q3 := (by omega)) (q4 := (by omega))) 2 gX12_batch_X12_copies rfl hvX12_copies ⟨Nat.le_of_ble_eq_true rfl, Nat.le_of_ble_eq_true rfl⟩ rfl rfl h0 rfl rfl rfl rfl hl.1 rfl (Nat.le_of_ble_eq_true rfl) dX12_batch_54 ⟨Nat.le_of_ble_eq_true rfl, Nat.le_of_ble_eq_true rfl⟩) hA hF (fun σ_10 H locs hW hF pσ_10 => ?_)
        try dsimp only at pσ_10
        obtain ⟨pσ_10, fpσ_10⟩ := pσ_10
        try simp only [Eitems, Eil, Ekept] at pσ_10
        have q_copies := pσ_10
        have hR := fr_call hR fpσ_10 (by decide)
        have Eitems : σ_10 a0 22 = σ_4 a0 22 := (fr_at fpσ_10 h0 22 13022 rfl (by decide)).trans Eitems
        have Eil : σ_10 (G a0 19) = σ_4 (G a0 19) := (row_fr fpσ_10 hk_il 48 (by decide) (by decide)).trans Eil
        have Ekept : σ_10 a0 1 = σ a0 1 := (fr_at fpσ_10 h0 1 13001 rfl (by decide)).trans Ekept
        have hfe3 := FI_eq hI0 q0 (CP_back hcp1 q_doesAll.2.2.1 q_copies) Ekept
        refine j_bi hx hb dX12_batch_57 (by decide) ?_
        refine lv_iload_n hx hb dX12_batch_59 rfl (lv_at hl 0 rfl) ?_
        refine j_sub hx hb dX12_batch_60 ?_
        exact hRet 61 _ _ _ ((-3) - v_7) _ dX12_batch_61 hW hF (by omega) ⟨(by first | exact hfe3 | (simp only [Eitems, Eil, Ekept]; exact hfe3)), hR⟩
      · refine lv_aload_n hx hb dX12_batch_46 rfl (lv_at hl 1 rfl) ?_
        refine j_getI hx hb (C := RX12) (T := TX12) (N := 41) hts inX12_batch_X12 hown hK hS hW h0 rfl 22 rfl rfl (by decide) (hts _ flX12_batch_204) dX12_batch_47 ?_
        rw [Eitems]
        exact hRet 50 _ _ _ (σ_4 a0 22) _ dX12_batch_50 hW hF (by omega) ⟨(by first | exact ⟨q_doesAll.1, q_doesAll.2.1⟩ | (simp only [Eitems, Eil, Ekept]; exact ⟨q_doesAll.1, q_doesAll.2.1⟩)), hR⟩
    · refine lv_aload_n hx hb dX12_batch_22 rfl (lv_at hl 0 rfl) ?_
      refine j_getI hx hb (C := RX12) (T := TX12) (N := 41) hts inX12_batch_X12 hown hK hS hW h0 rfl 14 rfl rfl (by decide) (hts _ flX12_batch_186) dX12_batch_23 ?_
      have := fbd hW h0 (k := 14) (lo := -2147483648) (hi := 2147483647) rfl rfl
      exact hRet 26 _ _ _ (σ_4 a0 14) _ dX12_batch_26 hW hF (by omega) ⟨(by first | exact ⟨hI, q0⟩ | (simp only [Efile, Ekept]; exact ⟨hI, q0⟩)), hR⟩
  · refine j_const hx hb dX12_batch_12 ?_
    exact hRet 13 _ _ _ (-1) _ dX12_batch_13 hW hF (by decide) ⟨⟨hI, q0⟩, hR⟩
