abbrev wr_X12_goes : List Nat := [13003, 13004, 13005, 13008, 40000, 41000, 42000, 43000]
theorem flX12_goes_7 : Cond.fieldLink RX12 7 "PageTrieModel" "file" "[I" ∈ wsX12_goes := List.mem_of_getElem? (i := 1) rfl
theorem flX12_goes_84 : Cond.fieldLink RX12 84 "PageTrieModel" "low" "I" ∈ wsX12_goes := List.mem_of_getElem? (i := 2) rfl
theorem flX12_goes_90 : Cond.fieldLink RX12 90 "PageTrieModel" "high" "I" ∈ wsX12_goes := List.mem_of_getElem? (i := 3) rfl
theorem inX12_goes_X12 : ∀ w ∈ u_ws RX12 TX12 41, w ∈ wsX12_goes := mem_r _ [81, 82, 83, 84, 85, 86, 87, 88, 89, 90, 91, 92, 93, 94, 95, 96, 97, 98, 99, 100, 101, 102, 103, 104, 105, 106, 107, 108, 109, 110, 111, 112, 113, 114, 115, 116, 117, 118, 119, 120, 121] rfl
theorem hvX12_goes : yX12_goes.cls = RX12 ∧ yX12_goes.cls ≠ "java/lang/invoke/MethodHandle" ∧ yX12_goes.cls ≠ "java/lang/invoke/VarHandle" ∧ (parseMethodDescriptor yX12_goes.desc).map (fun d => d.parameters.length) = some 1 := by decide +kernel
set_option maxHeartbeats 4000000 in
set_option maxRecDepth 100000 in
theorem kX12_goes (l : Launch) {D : va_G} {cA : Nat → ClassId} {τ : Nat → Nat} {G : Nat → Nat → Nat} {L : List Nat} (hS : SW τ G L) (σ : Nat → Nat → Int) {a0 : Nat} (h0 : τ a0 = 13) {x1 : Int} (r1 : rg x1) (hI : FI G a0 σ) (q0 : 0 ≤ x1) (q1 : x1 < σ (G a0 0) 0) (q2 : FM (σ (G a0 0))) : Met l yX12_goes wsX12_goes ({ frames := 5, cells := 0, slots := 0, locals := 116 }) (jP D cA τ G L σ [.ref a0, .int (jI x1)]) (jQV D cA τ G L (fun σ' => ((FI G a0 σ') ∧ (FM (σ' (G a0 0))) ∧ (KD (σ (G a0 0)) (σ' (G a0 0)) x1)) ∧ fr wr_X12_goes τ σ σ')) 0 0 (fun q => q ∈ L) := by
  refine j_metV (by decide +kernel) rfl (Nat.le_of_ble_eq_true rfl) ?_
  intro p e s m args below meth c Q hx hb hml hown hts hK hW hRet ls hl
  have hl : lv_has ls 4 [(0, .ref a0), (1, .int (jI x1))] := hl
  have hA : ∀ q ∈ L, (fun q => q ∈ L) q := fun _ h => h
  have hF : va_S (fun q => q ∈ L) s.heap s.heap [] := va_S.rf
  have hR : fr wr_X12_goes τ σ σ := fr_rf
  have hk_file : τ (G a0 0) = 40 := gty hS h0 (k := 0) rfl rfl
  have hk_hand : τ (G a0 2) = 41 := gty hS h0 (k := 2) rfl rfl
  have hI0 := hI
  have hFC : FC (σ (G a0 0)) (σ (G a0 0)) := FC_rf
  have := FI_bd hI
  have := fbd hW h0 (k := 3) (lo := 0) (hi := 24) rfl rfl
  have hsr := hI.1.2.2.2.2.2
  have hL0 := fun (i : Int) (i0 : 0 ≤ i) (i1 : i < σ (G a0 0) 0) => FI_len hI i0 i1
  have hll := hL0 x1 q0 q1
  refine lv_aload_n hx hb dX12_goes_0 rfl (lv_at hl 0 rfl) ?_
  refine lv_iload_n hx hb dX12_goes_1 rfl (lv_at hl 1 rfl) ?_
  refine j_cI (j_runV (As := [.int (jI x1)]) (rest := []) hx hb hml hown hts hK hS hW (kX12_depthOf l hS σ (a0 := a0) (h0 := h0) (x1 := x1) (r1 := (by omega)) (hI := hI) (q0 := (by omega)) (q1 := (by omega))) 1 gX12_goes_X12_depthOf rfl hvX12_depthOf ⟨Nat.le_of_ble_eq_true rfl, Nat.le_of_ble_eq_true rfl⟩ rfl rfl h0 rfl rfl rfl rfl hl.1 rfl (Nat.le_of_ble_eq_true rfl) dX12_goes_2 ⟨Nat.le_of_ble_eq_true rfl, Nat.le_of_ble_eq_true rfl⟩) hA hF (fun v_1 σ_2 H locs hW hF rv_1 pv_1 => ?_)
  try dsimp only at pv_1
  obtain ⟨pv_1, fpv_1⟩ := pv_1
  have q_depthOf := pv_1
  have hR := fr_call hR fpv_1 (by decide)
  have Efile : σ_2 (G a0 0) = σ (G a0 0) := row_fr fpv_1 hk_file 40 (by decide) (by decide)
  have := congrFun Efile 0
  have Ekept : σ_2 a0 1 = σ a0 1 := fr_at fpv_1 h0 1 13001 rfl (by decide)
  have hI := FI_dep hS h0 hI (kp_fr fpv_1 (by decide))
  have hd0 := q_depthOf.1; have hd1 := q_depthOf.2.1; have hDQ := q_depthOf.2.2.1; have hal := q_depthOf.2.2.2.1; have hqL := q_depthOf.2.2.2.2.1; have hqB := q_depthOf.2.2.2.2.2
  have hq1 : v_1 * σ (G a0 0) 1 < kO (σ (G a0 0)) x1 0 := hDQ.1
  refine lv_istore_n (lv' := [(2, .int (jI v_1)), (0, .ref a0), (1, .int (jI x1))]) hx hb dX12_goes_5 rfl hl (by decide) rfl (fun ls hl => ?_)
  refine j_const hx hb dX12_goes_6 ?_
  refine lv_istore_n (lv' := [(3, .int (jI 0)), (2, .int (jI v_1)), (0, .ref a0), (1, .int (jI x1))]) hx hb dX12_goes_7 rfl hl (by decide) rfl (fun ls hl => ?_)
  have L_8 : ∀ (N : Nat) (v3_8 : Int) (σL_8 : Nat → Nat → Int) (H : Heap) (locs : List Loc) (ls : Array Slot), N = (30 - v3_8 : Int).toNat → (0 ≤ v3_8) → (v3_8 ≤ v_1) → (FC (σ (G a0 0)) (σL_8 (G a0 0))) → (∀ p d : Int, 0 ≤ p → 0 ≤ d → d < 32 → bit (kO (σ (G a0 0)) p 2) d → bit (kO (σL_8 (G a0 0)) p 2) d) → (∀ d : Int, 0 ≤ d → d < v3_8 → LC (σ (G a0 0) 0) (σ (G a0 0) 1) (fun i => kO (σ (G a0 0)) i 0) (fun i => kB (σ (G a0 0)) i) x1 d → bit (kO (σL_8 (G a0 0)) (x1 + 1) 2) d) → rg v3_8 → PW D cA τ G L σL_8 H → va_S (fun q => q ∈ L) s.heap H locs → fr wr_X12_goes τ σ σL_8 → FI G a0 σL_8 → σL_8 a0 3 = σ_2 a0 3 → σL_8 (G a0 2) = σ_2 (G a0 2) → σL_8 a0 1 = σ a0 1 → lv_has ls 4 [(0, .ref a0), (1, .int (jI x1)), (2, .int (jI v_1)), (3, .int (jI v3_8))] → W p l e ({ frames := 5, cells := 0, slots := 0, locals := 116 }) s m args below meth c H locs 0 0 Q (F0 m 8 ls []) := by
    intro N
    induction N using Nat.strongRecOn with
    | ind N ih_8 =>
      intro v3_8 σL_8 H locs ls hN i0_8 i1_8 i2_8 i3_8 i4_8 rv3_8 hW hF hR hI Ehl Ehand Ekept hl
      have hFC := i2_8
      have hf0 := hFC.2 0 (by omega)
      have hf1 := hFC.2 1 (by omega)
      have hf2 := hFC.2 2 (by omega)
      have hmb := mul_bd (a := v3_8 + 1) (b := σ (G a0 0) 1) (A := 24) (B := 8) (by omega) (by omega) (by omega) (by omega)
      refine lv_iload_n hx hb dX12_goes_8 rfl (lv_at hl 3 rfl) ?_
      refine lv_iload_n hx hb dX12_goes_9 rfl (lv_at hl 2 rfl) ?_
      refine j_icmp_ge (tgt := 62) hx hb (by omega) (by omega) dX12_goes_10 (by decide) (fun c_3 => ?_) (fun c_3 => ?_)
      · have hFC1 := hFC
        have sm1 := same_FC hFC (by omega) hL0
        have hp4 : FM (σL_8 (G a0 0)) := FM_more hI0.1 q2 hFC (fun p d p0 _ d0 d1 hb => i3_8 p d p0 d0 d1 hb)
        have hp5 : (σ_2 a0 3) = kO (σL_8 (G a0 0)) x1 0 := hqL.trans (sm1 x1 q0 q1).1
        have hp6 : ∀ j : Int, 0 ≤ j → j < kO (σL_8 (G a0 0)) x1 0 → (σ_2 (G a0 2)) j.toNat = kO (σL_8 (G a0 0)) x1 (3 + j) := fun j j0 j1 => by (have j2 : j < kO (σ (G a0 0)) x1 0 := (by have := (sm1 x1 q0 q1).1; dsimp only at this; omega); exact (hqB j j0 j2).trans ((sm1 x1 q0 q1).2 j j0 j2))
        have hp7 : v_1 * (σL_8 (G a0 0)) 1 < kO (σL_8 (G a0 0)) x1 0 := by (rw [hf1]; have hz_ := (sm1 x1 q0 q1).1; dsimp only at hz_; omega)
        have hp8 : ∀ j : Int, 0 ≤ j → j < (σL_8 (G a0 0)) 0 → shr (fun i => kO (σL_8 (G a0 0)) i 0) (fun i => kB (σL_8 (G a0 0)) i) j x1 ((v_1 + 1) * (σL_8 (G a0 0)) 1) → j = x1 := fun j j0 j1 s => by (rw [hf0] at j1; rw [hf1] at s; exact hal j j0 j1 (shr_same (same_symm sm1) j0 j1 q0 q1 s))
        have hp9 : v_1 = 0 ∨ ∃ j : Int, 0 ≤ j ∧ j < (σL_8 (G a0 0)) 0 ∧ j ≠ x1 ∧ shr (fun i => kO (σL_8 (G a0 0)) i 0) (fun i => kB (σL_8 (G a0 0)) i) j x1 (v_1 * (σL_8 (G a0 0)) 1) := by (rcases (show v_1 = 0 ∨ 0 < v_1 by omega) with z | z; exact Or.inl z; exact Or.inr (by (obtain ⟨j, j0, j1, jn, s⟩ := hDQ.2 v_1 z (by omega); exact ⟨j, j0, by omega, jn, by (rw [hf1]; exact shr_same sm1 j0 j1 q0 q1 s)⟩)))
        refine lv_aload_n hx hb dX12_goes_62 rfl (lv_at hl 0 rfl) ?_
        refine lv_iload_n hx hb dX12_goes_63 rfl (lv_at hl 1 rfl) ?_
        refine lv_iload_n hx hb dX12_goes_64 rfl (lv_at hl 2 rfl) ?_
        refine j_cV (j_runV (As := [.int (jI x1), .int (jI v_1)]) (rest := []) hx hb hml hown hts hK hS hW (kX12_leavesPage l hS σL_8 (a0 := a0) (h0 := h0) (x1 := x1) (r1 := (by omega)) (x2 := v_1) (r2 := (by omega)) (hI := hI) (q0 := (by omega)) (q1 := (by omega)) (q2 := (by omega)) (q3 := (by omega)) (q4 := hp4) (q5 := (by first | exact hp5 | (rw [Ehl]; exact hp5))) (q6 := (by first | exact hp6 | (rw [Ehand]; exact hp6))) (q7 := hp7) (q8 := hp8) (q9 := hp9)) 2 gX12_goes_X12_leavesPage rfl hvX12_leavesPage ⟨Nat.le_of_ble_eq_true rfl, Nat.le_of_ble_eq_true rfl⟩ rfl rfl h0 rfl rfl rfl rfl hl.1 rfl (Nat.le_of_ble_eq_true rfl) dX12_goes_65 ⟨Nat.le_of_ble_eq_true rfl, Nat.le_of_ble_eq_true rfl⟩) hA hF (fun σ_4 H locs hW hF pσ_4 => ?_)
        try dsimp only at pσ_4
        obtain ⟨pσ_4, fpσ_4⟩ := pσ_4
        try simp only [Ehl, Ehand, Ekept] at pσ_4
        have q_leavesPage := pσ_4
        have hR := fr_call hR fpσ_4 (by decide)
        have Ehl : σ_4 a0 3 = σ_2 a0 3 := (fr_at fpσ_4 h0 3 13003 rfl (by decide)).trans Ehl
        have Ehand : σ_4 (G a0 2) = σ_2 (G a0 2) := (row_fr fpσ_4 hk_hand 41 (by decide) (by decide)).trans Ehand
        have Ekept : σ_4 a0 1 = σ a0 1 := (fr_at fpσ_4 h0 1 13001 rfl (by decide)).trans Ekept
        rw [hf0, hf1] at q_leavesPage
        have hFC : FC (σ (G a0 0)) (σ_4 (G a0 0)) := FC_tr hFC1 q_leavesPage.1
        have hI := FI_FC hI0 hFC (show σ_4 a0 1 = σ a0 1 from by first | rfl | exact Ekept)
        have hf0 := hFC.2 0 (by omega)
        have hf1 := hFC.2 1 (by omega)
        have hf2 := hFC.2 2 (by omega)
        refine lv_aload_n hx hb dX12_goes_68 rfl (lv_at hl 0 rfl) ?_
        refine lv_iload_n hx hb dX12_goes_69 rfl (lv_at hl 1 rfl) ?_
        refine j_cV (j_runV (As := [.int (jI x1)]) (rest := []) hx hb hml hown hts hK hS hW (kX12_dropsRow l hS σ_4 (a0 := a0) (h0 := h0) (x1 := x1) (r1 := (by omega)) (q0 := (by omega)) (q1 := (by omega)) (q2 := (by omega))) 1 gX12_goes_X12_dropsRow rfl hvX12_dropsRow ⟨Nat.le_of_ble_eq_true rfl, Nat.le_of_ble_eq_true rfl⟩ rfl rfl h0 rfl rfl rfl rfl hl.1 rfl (Nat.le_of_ble_eq_true rfl) dX12_goes_70 ⟨Nat.le_of_ble_eq_true rfl, Nat.le_of_ble_eq_true rfl⟩) hA hF (fun σ_5 H locs hW hF pσ_5 => ?_)
        try dsimp only at pσ_5
        obtain ⟨pσ_5, fpσ_5⟩ := pσ_5
        try simp only [Ehl, Ehand, Ekept] at pσ_5
        have q_dropsRow := pσ_5
        have hR := fr_call hR fpσ_5 (by decide)
        have Ehl : σ_5 a0 3 = σ_2 a0 3 := (fr_at fpσ_5 h0 3 13003 rfl (by decide)).trans Ehl
        have Ehand : σ_5 (G a0 2) = σ_2 (G a0 2) := (row_fr fpσ_5 hk_hand 41 (by decide) (by decide)).trans Ehand
        have Ekept : σ_5 a0 1 = σ a0 1 := (fr_at fpσ_5 h0 1 13001 rfl (by decide)).trans Ekept
        have Elow : σ_5 a0 4 = σ_4 a0 4 := fr_at fpσ_5 h0 4 13004 rfl (by decide)
        have Ehigh : σ_5 a0 5 = σ_4 a0 5 := fr_at fpσ_5 h0 5 13005 rfl (by decide)
        have hr_ := q_dropsRow
        rw [hf0] at hr_
        have hIb := FI_goes hI0 hFC hr_ q0 q1 Ekept
        have hM5 := GO_del hsr hL0 (by omega) hFC1 q2 q0 q1 (by omega) hd0 (by omega) i3_8 (fun d d0 d1 => i4_8 d d0 (by omega)) q_leavesPage.2.1 q_leavesPage.2.2 hal
        have hw5 := (hr_.2.2.2.2 1 (by omega)).trans hf1
        have hMb := FM_goes hFC hr_ q0 q1 (by omega) hL0 hw5 hM5
        have hFC2 := hFC
        have hn5 := hr_.1
        have hI := hIb
        have := FI_bd hIb
        have hbk : σ_5 a0 1 = σ a0 1 := Ekept
        have hI0 := hI
        have hFC : FC (σ_5 (G a0 0)) (σ_5 (G a0 0)) := FC_rf
        have hf0 := hFC.2 0 (by omega)
        have hf1 := hFC.2 1 (by omega)
        have hf2 := hFC.2 2 (by omega)
        refine lv_iload_n hx hb dX12_goes_73 rfl (lv_at hl 2 rfl) ?_
        refine lv_istore_n (lv' := [(3, .int (jI v_1)), (0, .ref a0), (1, .int (jI x1)), (2, .int (jI v_1))]) hx hb dX12_goes_74 rfl hl (by decide) rfl (fun ls hl => ?_)
        have L_75 : ∀ (N : Nat) (v3_75 : Int) (σL_75 : Nat → Nat → Int) (H : Heap) (locs : List Loc) (ls : Array Slot), N = (v3_75 : Int).toNat → (0 ≤ v3_75) → (v3_75 ≤ 23) → (FC (σ_5 (G a0 0)) (σL_75 (G a0 0))) → (FM (σL_75 (G a0 0))) → rg v3_75 → PW D cA τ G L σL_75 H → va_S (fun q => q ∈ L) s.heap H locs → fr wr_X12_goes τ σ σL_75 → FI G a0 σL_75 → σL_75 a0 3 = σ_2 a0 3 → σL_75 (G a0 2) = σ_2 (G a0 2) → σL_75 a0 1 = σ a0 1 → lv_has ls 4 [(0, .ref a0), (3, .int (jI v3_75))] → W p l e ({ frames := 5, cells := 0, slots := 0, locals := 116 }) s m args below meth c H locs 0 0 Q (F0 m 75 ls []) := by
          intro N
          induction N using Nat.strongRecOn with
          | ind N ih_75 =>
            intro v3_75 σL_75 H locs ls hN i0_75 i1_75 i2_75 i3_75 rv3_75 hW hF hR hI Ehl Ehand Ekept hl
            have hFC := i2_75
            have hf0 := hFC.2 0 (by omega)
            have hf1 := hFC.2 1 (by omega)
            have hf2 := hFC.2 2 (by omega)
            have hmb := mul_bd (a := v3_75) (b := (σ_5 (G a0 0)) 1) (A := 24) (B := 8) (by omega) (by omega) (by omega) (by omega)
            refine lv_iload_n hx hb dX12_goes_75 rfl (lv_at hl 1 rfl) ?_
            refine j_if_le (tgt := 139) hx hb (by omega) dX12_goes_76 (by decide) (fun c_6 => ?_) (fun c_6 => ?_)
            · exact hRet 139 _ _ _ _ dX12_goes_139 hW hF ⟨(by first | exact ⟨hI, i3_75, KD_of hFC2 hr_ q0 q1 (by omega) hFC⟩ | (simp only [Ehl, Ehand, Ekept]; exact ⟨hI, i3_75, KD_of hFC2 hr_ q0 q1 (by omega) hFC⟩)), hR⟩
            · refine lv_aload_n hx hb dX12_goes_79 rfl (lv_at hl 0 rfl) ?_
              refine lv_iload_n hx hb dX12_goes_80 rfl (lv_at hl 1 rfl) ?_
              refine lv_aload_n hx hb dX12_goes_81 rfl (lv_at hl 0 rfl) ?_
              refine j_getR hx hb (C := RX12) (T := TX12) (N := 41) hts inX12_goes_X12 hown hK hS hW h0 rfl 0 rfl rfl (by decide) (hts _ flX12_goes_7) dX12_goes_82 ?_
              refine j_const hx hb dX12_goes_85 ?_
              refine j_ald hx hb hK hS hW hk_file (n := 17624) rfl (by omega) (by omega) (by decide) dX12_goes_86 ?_
              have : -2147483648 ≤ σL_75 (G a0 0) 1 ∧ σL_75 (G a0 0) 1 ≤ 2147483647 := abd hW hk_file (n := 17624) (lo := -2147483648) (hi := 2147483647) (i := 1) rfl (by decide) (by decide)
              refine j_eq (z := σL_75 (G a0 0) 1) rfl ?_
              have := FI_bd hI
              rw [hf1]
              refine j_mul hx hb dX12_goes_87 ?_
              refine j_cV (j_runV (As := [.int (jI (v3_75 * ((σ_5 (G a0 0)) 1)))]) (rest := []) hx hb hml hown hts hK hS hW (kX12_findsRange l hS σL_75 (a0 := a0) (h0 := h0) (x1 := v3_75 * ((σ_5 (G a0 0)) 1)) (r1 := (by omega)) (hI := hI) (q0 := (by omega)) (q1 := (by omega))) 1 gX12_goes_X12_findsRange rfl hvX12_findsRange ⟨Nat.le_of_ble_eq_true rfl, Nat.le_of_ble_eq_true rfl⟩ rfl rfl h0 rfl rfl rfl rfl hl.1 rfl (Nat.le_of_ble_eq_true rfl) dX12_goes_88 ⟨Nat.le_of_ble_eq_true rfl, Nat.le_of_ble_eq_true rfl⟩) hA hF (fun σ_7 H locs hW hF pσ_7 => ?_)
              try dsimp only at pσ_7
              obtain ⟨pσ_7, fpσ_7⟩ := pσ_7
              try simp only [Ehl, Ehand, Ekept] at pσ_7
              have q_findsRange := pσ_7
              have hR := fr_call hR fpσ_7 (by decide)
              have Efile : σ_7 (G a0 0) = σL_75 (G a0 0) := row_fr fpσ_7 hk_file 40 (by decide) (by decide)
              have := congrFun Efile 0
              have Ehl : σ_7 a0 3 = σ_2 a0 3 := (fr_at fpσ_7 h0 3 13003 rfl (by decide)).trans Ehl
              have Ehand : σ_7 (G a0 2) = σ_2 (G a0 2) := (row_fr fpσ_7 hk_hand 41 (by decide) (by decide)).trans Ehand
              have Ekept : σ_7 a0 1 = σ a0 1 := (fr_at fpσ_7 h0 1 13001 rfl (by decide)).trans Ekept
              have hI := FI_dep hS h0 hI (kp_fr fpσ_7 (by decide))
              have hrg := q_findsRange.1; have hrn := q_findsRange.2
              have : 0 ≤ σ_7 a0 4 ∧ σ_7 a0 4 ≤ σ_7 a0 5 ∧ σ_7 a0 5 ≤ σL_75 (G a0 0) 0 := ⟨hrg.1, hrg.2.1, hrg.2.2.1⟩
              have hrg0 := RG_FC hFC (by omega) (by omega) hrg
              rw [hf0] at hrg0 hrn
              have hFCo := hFC
              have hlb : 0 ≤ (σ_7 a0 4) ∧ (σ_7 a0 4) ≤ (σ_7 a0 5) ∧ (σ_7 a0 5) ≤ (σ_5 (G a0 0)) 0 := ⟨hrg0.1, hrg0.2.1, hrg0.2.2.1⟩
              refine lv_aload_n hx hb dX12_goes_91 rfl (lv_at hl 0 rfl) ?_
              refine j_getI hx hb (C := RX12) (T := TX12) (N := 41) hts inX12_goes_X12 hown hK hS hW h0 rfl 5 rfl rfl (by decide) (hts _ flX12_goes_90) dX12_goes_92 ?_
              have := fbd hW h0 (k := 5) (lo := 0) (hi := 150) rfl rfl
              refine lv_aload_n hx hb dX12_goes_95 rfl (lv_at hl 0 rfl) ?_
              refine j_getI hx hb (C := RX12) (T := TX12) (N := 41) hts inX12_goes_X12 hown hK hS hW h0 rfl 4 rfl rfl (by decide) (hts _ flX12_goes_84) dX12_goes_96 ?_
              have := fbd hW h0 (k := 4) (lo := 0) (hi := 150) rfl rfl
              refine j_sub hx hb dX12_goes_99 ?_
              refine j_const hx hb dX12_goes_100 ?_
              refine j_icmp_eq (tgt := 107) hx hb (by omega) (by decide) dX12_goes_101 (by decide) (fun c_8 => ?_) (fun c_8 => ?_)
              · have hXn := LC_one hI0.1.2.2.2.2.2 hrg0 hrn (by omega) (by omega)
                refine lv_aload_n hx hb dX12_goes_107 rfl (lv_at hl 0 rfl) ?_
                refine lv_aload_n hx hb dX12_goes_108 rfl (lv_at hl 0 rfl) ?_
                refine j_getI hx hb (C := RX12) (T := TX12) (N := 41) hts inX12_goes_X12 hown hK hS hW h0 rfl 4 rfl rfl (by decide) (hts _ flX12_goes_84) dX12_goes_109 ?_
                refine lv_iload_n hx hb dX12_goes_112 rfl (lv_at hl 1 rfl) ?_
                refine j_const hx hb dX12_goes_113 ?_
                refine j_cV (j_runV (As := [.int (jI (σ_7 a0 4)), .int (jI v3_75), .int (jI 0)]) (rest := []) hx hb hml hown hts hK hS hW (kX12_marks l hS σ_7 (a0 := a0) (h0 := h0) (x1 := σ_7 a0 4) (r1 := (by omega)) (x2 := v3_75) (r2 := (by omega)) (x3 := 0) (r3 := (by decide)) (q0 := (by omega)) (q1 := (by omega)) (q2 := (by omega)) (q3 := (by omega)) (q4 := (by omega)) (q5 := (by omega))) 3 gX12_goes_X12_marks rfl hvX12_marks ⟨Nat.le_of_ble_eq_true rfl, Nat.le_of_ble_eq_true rfl⟩ rfl rfl h0 rfl rfl rfl rfl hl.1 rfl (Nat.le_of_ble_eq_true rfl) dX12_goes_114 ⟨Nat.le_of_ble_eq_true rfl, Nat.le_of_ble_eq_true rfl⟩) hA hF (fun σ_9 H locs hW hF pσ_9 => ?_)
                try dsimp only at pσ_9
                obtain ⟨pσ_9, fpσ_9⟩ := pσ_9
                try simp only [Efile, Ehl, Ehand, Ekept] at pσ_9
                have q_marks := pσ_9
                have hR := fr_call hR fpσ_9 (by decide)
                have Ehl : σ_9 a0 3 = σ_2 a0 3 := (fr_at fpσ_9 h0 3 13003 rfl (by decide)).trans Ehl
                have Ehand : σ_9 (G a0 2) = σ_2 (G a0 2) := (row_fr fpσ_9 hk_hand 41 (by decide) (by decide)).trans Ehand
                have Ekept : σ_9 a0 1 = σ a0 1 := (fr_at fpσ_9 h0 1 13001 rfl (by decide)).trans Ekept
                have Elow : σ_9 a0 4 = σ_7 a0 4 := fr_at fpσ_9 h0 4 13004 rfl (by decide)
                have Ehigh : σ_9 a0 5 = σ_7 a0 5 := fr_at fpσ_9 h0 5 13005 rfl (by decide)
                obtain ⟨mv, hmv1, hmv2, hmv3⟩ := q_marks
                have hmrow : ∀ i w : Int, 0 ≤ i → 0 ≤ w → w < 27 → ¬ (i = (σ_7 a0 4) ∧ w = 2) → kO (σ_9 (G a0 0)) i w = kO (σL_75 (G a0 0)) i w := fun i w i0 w0 w1 ne => by (rw [hmv2, up2_row]; first | exact kO_up i0 (by omega) ⟨w0, w1⟩ ⟨by omega, by omega⟩ ne | (rw [Efile]; exact kO_up i0 (by omega) ⟨w0, w1⟩ ⟨by omega, by omega⟩ ne))
                have hmat : kO (σ_9 (G a0 0)) (σ_7 a0 4) 2 = mv := by (rw [hmv2, up2_row]; exact kO_up_at)
                have hFC : FC (σ_5 (G a0 0)) (σ_9 (G a0 0)) := by first | exact FC_col hFC hmv2 (by omega) (by omega) | exact FC_col (by rw [Efile]; exact hFC) hmv2 (by omega) (by omega)
                have hI := FI_FC hI0 hFC (show σ_9 a0 1 = σ_5 a0 1 from by first | rfl | exact Ekept.trans hbk.symm)
                have hf0 := hFC.2 0 (by omega)
                have hf1 := hFC.2 1 (by omega)
                have hf2 := hFC.2 2 (by omega)
                have hof := com_off hmrow hmat hmv3 (by decide)
                refine lv_aload_n hx hb dX12_goes_117 rfl (lv_at hl 0 rfl) ?_
                refine j_getR hx hb (C := RX12) (T := TX12) (N := 41) hts inX12_goes_X12 hown hK hS hW h0 rfl 0 rfl rfl (by decide) (hts _ flX12_goes_7) dX12_goes_118 ?_
                refine j_bi hx hb dX12_goes_121 (by decide) ?_
                refine lv_aload_n hx hb dX12_goes_123 rfl (lv_at hl 0 rfl) ?_
                refine j_getR hx hb (C := RX12) (T := TX12) (N := 41) hts inX12_goes_X12 hown hK hS hW h0 rfl 0 rfl rfl (by decide) (hts _ flX12_goes_7) dX12_goes_124 ?_
                refine j_bi hx hb dX12_goes_127 (by decide) ?_
                refine j_ald hx hb hK hS hW hk_file (n := 17624) rfl (by omega) (by omega) (by decide) dX12_goes_129 ?_
                have : -2147483648 ≤ σ_9 (G a0 0) 6 ∧ σ_9 (G a0 0) 6 ≤ 2147483647 := abd hW hk_file (n := 17624) (lo := -2147483648) (hi := 2147483647) (i := 6) rfl (by decide) (by decide)
                refine j_eq (z := σ_9 (G a0 0) 6) rfl ?_
                have := FI_bd hI
                refine j_const hx hb dX12_goes_130 ?_
                refine j_add hx hb dX12_goes_131 ?_
                refine j_wrap (fun z_10 rz_10 ez_10 => ?_)
                refine j_ast hx hb hK hS hA hW hF hk_file (n := 17624) (lo := -2147483648) (hi := 2147483647) rfl (by omega) (by omega) (by decide) (by omega) dX12_goes_132 (fun σ_11 H locs e_12 hW hF => ?_)
                have st_file := e_12
                have hR := fr_up hR e_12 hk_file 40000 (cdA 40 (by decide) _) (by decide)
                have Ehl : σ_11 a0 3 = σ_2 a0 3 := (fld_up e_12 hk_file h0 (fun q => absurd q.1 (by decide))).trans Ehl
                have Ehand : σ_11 (G a0 2) = σ_2 (G a0 2) := (row_up e_12 hk_file hk_hand (by decide)).trans Ehand
                have Ekept : σ_11 a0 1 = σ a0 1 := (fld_up e_12 hk_file h0 (fun q => absurd q.1 (by decide))).trans Ekept
                have Elow : σ_11 a0 4 = σ_7 a0 4 := (fld_up e_12 hk_file h0 (fun q => absurd q.1 (by decide))).trans Elow
                have Ehigh : σ_11 a0 5 = σ_7 a0 5 := (fld_up e_12 hk_file h0 (fun q => absurd q.1 (by decide))).trans Ehigh
                have hFC : FC (σ_5 (G a0 0)) (σ_11 (G a0 0)) := by first | exact FC_cnt hFC e_12 (by decide) (by decide) | exact FC_cnt (by rw [Efile]; exact hFC) e_12 (by decide) (by decide)
                have hcn := kO_cnt e_12 (by decide)
                try simp only [Efile] at hcn
                have hI := FI_FC hI0 hFC (show σ_11 a0 1 = σ_5 a0 1 from by first | rfl | exact Ekept.trans hbk.symm)
                have hf0 := hFC.2 0 (by omega)
                have hf1 := hFC.2 1 (by omega)
                have hf2 := hFC.2 2 (by omega)
                refine j_iinc (lv' := [(3, .int (jI (v3_75 + (-1)))), (0, .ref a0)]) hx hb dX12_goes_133 hl (k := 1) rfl (by decide) rfl (fun ls hl => ?_)
                refine lv_goto (tgt := 75) hx hb dX12_goes_136 (by decide) ?_
                exact ih_75 (((v3_75 + (-1)) : Int).toNat) (by omega) (v3_75 + (-1)) σ_11 _ _ _ rfl (by omega) (by omega) (by first | exact (by first | exact FC_rf | exact hFC) | (simp only [Ehl, Ehand, Ekept, Elow, Ehigh]; exact (by first | exact FC_rf | exact hFC))) (by first | exact (by first | exact i3_75 | exact hMb | exact FM_off hI0.1 hFCo i3_75 hFC hof hcn hXn) | (simp only [Ehl, Ehand, Ekept, Elow, Ehigh]; exact (by first | exact i3_75 | exact hMb | exact FM_off hI0.1 hFCo i3_75 hFC hof hcn hXn))) (by omega) hW hF hR hI Ehl Ehand Ekept (lv_sub hl [1, 0] rfl)
              · refine lv_goto (tgt := 133) hx hb dX12_goes_104 (by decide) ?_
                refine j_iinc (lv' := [(3, .int (jI (v3_75 + (-1)))), (0, .ref a0)]) hx hb dX12_goes_133 hl (k := 1) rfl (by decide) rfl (fun ls hl => ?_)
                refine lv_goto (tgt := 75) hx hb dX12_goes_136 (by decide) ?_
                exact ih_75 (((v3_75 + (-1)) : Int).toNat) (by omega) (v3_75 + (-1)) σ_7 _ _ _ rfl (by omega) (by omega) (by first | exact (by first | exact FC_rf | exact hFC) | (simp only [Efile, Ehl, Ehand, Ekept]; exact (by first | exact FC_rf | exact hFC))) (by first | exact (by first | exact i3_75 | exact hMb | exact FM_off hI0.1 hFCo i3_75 hFC hof hcn hXn) | (simp only [Efile, Ehl, Ehand, Ekept]; exact (by first | exact i3_75 | exact hMb | exact FM_off hI0.1 hFCo i3_75 hFC hof hcn hXn))) (by omega) hW hF hR hI Ehl Ehand Ekept (lv_sub hl [1, 0] rfl)
        exact L_75 ((v_1 : Int).toNat) v_1 σ_5 _ _ _ rfl (by omega) (by omega) (by first | exact (by first | exact FC_rf | exact hFC) | (simp only [Ehl, Ehand, Ekept, Elow, Ehigh]; exact (by first | exact FC_rf | exact hFC))) (by first | exact (by first | exact i3_75 | exact hMb | exact FM_off hI0.1 hFCo i3_75 hFC hof hcn hXn) | (simp only [Ehl, Ehand, Ekept, Elow, Ehigh]; exact (by first | exact i3_75 | exact hMb | exact FM_off hI0.1 hFCo i3_75 hFC hof hcn hXn))) (by omega) hW hF hR hI Ehl Ehand Ekept (lv_sub hl [1, 0] rfl)
      · refine lv_aload_n hx hb dX12_goes_13 rfl (lv_at hl 0 rfl) ?_
        refine lv_iload_n hx hb dX12_goes_14 rfl (lv_at hl 3 rfl) ?_
        refine j_const hx hb dX12_goes_15 ?_
        refine j_add hx hb dX12_goes_16 ?_
        refine lv_aload_n hx hb dX12_goes_17 rfl (lv_at hl 0 rfl) ?_
        refine j_getR hx hb (C := RX12) (T := TX12) (N := 41) hts inX12_goes_X12 hown hK hS hW h0 rfl 0 rfl rfl (by decide) (hts _ flX12_goes_7) dX12_goes_18 ?_
        refine j_const hx hb dX12_goes_21 ?_
        refine j_ald hx hb hK hS hW hk_file (n := 17624) rfl (by omega) (by omega) (by decide) dX12_goes_22 ?_
        have : -2147483648 ≤ σL_8 (G a0 0) 1 ∧ σL_8 (G a0 0) 1 ≤ 2147483647 := abd hW hk_file (n := 17624) (lo := -2147483648) (hi := 2147483647) (i := 1) rfl (by decide) (by decide)
        refine j_eq (z := σL_8 (G a0 0) 1) rfl ?_
        have := FI_bd hI
        rw [hf1]
        refine j_mul hx hb dX12_goes_23 ?_
        refine j_cV (j_runV (As := [.int (jI ((v3_8 + 1) * (σ (G a0 0) 1)))]) (rest := []) hx hb hml hown hts hK hS hW (kX12_findsRange l hS σL_8 (a0 := a0) (h0 := h0) (x1 := (v3_8 + 1) * (σ (G a0 0) 1)) (r1 := (by omega)) (hI := hI) (q0 := (by omega)) (q1 := (by omega))) 1 gX12_goes_X12_findsRange rfl hvX12_findsRange ⟨Nat.le_of_ble_eq_true rfl, Nat.le_of_ble_eq_true rfl⟩ rfl rfl h0 rfl rfl rfl rfl hl.1 rfl (Nat.le_of_ble_eq_true rfl) dX12_goes_24 ⟨Nat.le_of_ble_eq_true rfl, Nat.le_of_ble_eq_true rfl⟩) hA hF (fun σ_13 H locs hW hF pσ_13 => ?_)
        try dsimp only at pσ_13
        obtain ⟨pσ_13, fpσ_13⟩ := pσ_13
        try simp only [Ehl, Ehand, Ekept] at pσ_13
        have q_findsRange := pσ_13
        have hR := fr_call hR fpσ_13 (by decide)
        have Efile : σ_13 (G a0 0) = σL_8 (G a0 0) := row_fr fpσ_13 hk_file 40 (by decide) (by decide)
        have := congrFun Efile 0
        have Ehl : σ_13 a0 3 = σ_2 a0 3 := (fr_at fpσ_13 h0 3 13003 rfl (by decide)).trans Ehl
        have Ehand : σ_13 (G a0 2) = σ_2 (G a0 2) := (row_fr fpσ_13 hk_hand 41 (by decide) (by decide)).trans Ehand
        have Ekept : σ_13 a0 1 = σ a0 1 := (fr_at fpσ_13 h0 1 13001 rfl (by decide)).trans Ekept
        have hI := FI_dep hS h0 hI (kp_fr fpσ_13 (by decide))
        have hrg := q_findsRange.1; have hrn := q_findsRange.2
        have : 0 ≤ σ_13 a0 4 ∧ σ_13 a0 4 ≤ σ_13 a0 5 ∧ σ_13 a0 5 ≤ σL_8 (G a0 0) 0 := ⟨hrg.1, hrg.2.1, hrg.2.2.1⟩
        have hrg0 := RG_FC hFC (by omega) (by omega) hrg
        rw [hf0] at hrg0 hrn
        have hmm := mul_mono (w := σ (G a0 0) 1) (show v3_8 + 1 ≤ v_1 by omega) (by omega)
        have hox := RG_own (x := x1) hsr hrg0 hrn q0 q1 hqL hqB (by show _ < kO (σ (G a0 0)) x1 0; omega)
        have hol := hox.1; have hlb : 0 ≤ (σ_13 a0 4) ∧ (σ_13 a0 5) ≤ σ (G a0 0) 0 := ⟨hrg0.1, hrg0.2.2.1⟩
        refine lv_aload_n hx hb dX12_goes_27 rfl (lv_at hl 0 rfl) ?_
        refine j_getI hx hb (C := RX12) (T := TX12) (N := 41) hts inX12_goes_X12 hown hK hS hW h0 rfl 4 rfl rfl (by decide) (hts _ flX12_goes_84) dX12_goes_28 ?_
        have := fbd hW h0 (k := 4) (lo := 0) (hi := 150) rfl rfl
        refine lv_iload_n hx hb dX12_goes_31 rfl (lv_at hl 1 rfl) ?_
        refine j_icmp_eq (tgt := 38) hx hb (by omega) (by omega) dX12_goes_32 (by decide) (fun c_14 => ?_) (fun c_14 => ?_)
        · refine lv_aload_n hx hb dX12_goes_38 rfl (lv_at hl 0 rfl) ?_
          refine lv_iload_n hx hb dX12_goes_39 rfl (lv_at hl 1 rfl) ?_
          refine lv_iload_n hx hb dX12_goes_40 rfl (lv_at hl 3 rfl) ?_
          refine j_cR (j_runV (As := [.int (jI x1), .int (jI v3_8)]) (rest := []) hx hb hml hown hts hK hS hW (kX12_beginsPage l hS σ_13 (a0 := a0) (h0 := h0) (x1 := x1) (r1 := (by omega)) (x2 := v3_8) (r2 := (by omega)) (q0 := (by omega)) (q1 := (by omega)) (q2 := (by omega)) (q3 := (by omega))) 2 gX12_goes_X12_beginsPage rfl hvX12_beginsPage ⟨Nat.le_of_ble_eq_true rfl, Nat.le_of_ble_eq_true rfl⟩ rfl rfl h0 rfl rfl rfl rfl hl.1 rfl (Nat.le_of_ble_eq_true rfl) dX12_goes_41 ⟨Nat.le_of_ble_eq_true rfl, Nat.le_of_ble_eq_true rfl⟩) (fun v_15 rv_15 pv_15 => ?_)
          try dsimp only at pv_15
          try simp only [Efile, Ehl, Ehand, Ekept] at pv_15
          have q_beginsPage := pv_15
          refine j_if_eq (tgt := 56) hx hb (by omega) dX12_goes_44 (by decide) (fun c_16 => ?_) (fun c_16 => ?_)
          · refine j_iinc (lv' := [(3, .int (jI (v3_8 + 1))), (0, .ref a0), (1, .int (jI x1)), (2, .int (jI v_1))]) hx hb dX12_goes_56 hl (k := 3) rfl (by decide) rfl (fun ls hl => ?_)
            refine lv_goto (tgt := 8) hx hb dX12_goes_59 (by decide) ?_
            exact ih_8 ((30 - (v3_8 + 1) : Int).toNat) (by omega) (v3_8 + 1) σ_13 _ _ _ rfl (by omega) (by omega) (by first | exact (by first | exact FC_rf | exact hFC) | (simp only [Efile, Ehl, Ehand, Ekept]; exact (by first | exact FC_rf | exact hFC))) (by first | exact (by first | exact fun p d _ _ _ hb => hb | exact i3_8 | exact com_tr i3_8 (com_on hmrow hmat hmv3 (by decide))) | (simp only [Efile, Ehl, Ehand, Ekept]; exact (by first | exact fun p d _ _ _ hb => hb | exact i3_8 | exact com_tr i3_8 (com_on hmrow hmat hmv3 (by decide))))) (by first | exact (by first | (intro d d0 d1; exfalso; omega) | exact agree_succ i4_8 (fun z => (hno z).elim) | exact agree_succ i4_8 (fun z => by (exfalso; have hz1 := q_beginsPage.2.mpr (i3_8 x1 _ q0 (by omega) (by omega) (q2 x1 _ q0 q1 (by omega) z)); omega)) | exact agree_succ (fun d d0 d1 z => com_on hmrow hmat hmv3 (by decide) (x1 + 1) d (by omega) d0 (by omega) (i4_8 d d0 d1 z)) (fun _ => com_at hmat hmv3 (by decide) (by omega) (by omega))) | (simp only [Efile, Ehl, Ehand, Ekept]; exact (by first | (intro d d0 d1; exfalso; omega) | exact agree_succ i4_8 (fun z => (hno z).elim) | exact agree_succ i4_8 (fun z => by (exfalso; have hz1 := q_beginsPage.2.mpr (i3_8 x1 _ q0 (by omega) (by omega) (q2 x1 _ q0 q1 (by omega) z)); omega)) | exact agree_succ (fun d d0 d1 z => com_on hmrow hmat hmv3 (by decide) (x1 + 1) d (by omega) d0 (by omega) (i4_8 d d0 d1 z)) (fun _ => com_at hmat hmv3 (by decide) (by omega) (by omega))))) (by omega) hW hF hR hI Ehl Ehand Ekept (lv_sub hl [1, 2, 3, 0] rfl)
          · obtain ⟨jq, jq0, jq1, jq2, jq3⟩ := hDQ.2 (v3_8 + 1) (by omega) (by omega)
            have hjq := (hox.2 jq jq0 jq1).mp jq3
            refine lv_aload_n hx hb dX12_goes_47 rfl (lv_at hl 0 rfl) ?_
            refine lv_iload_n hx hb dX12_goes_48 rfl (lv_at hl 1 rfl) ?_
            refine j_const hx hb dX12_goes_49 ?_
            refine j_add hx hb dX12_goes_50 ?_
            refine lv_iload_n hx hb dX12_goes_51 rfl (lv_at hl 3 rfl) ?_
            refine j_const hx hb dX12_goes_52 ?_
            refine j_cV (j_runV (As := [.int (jI (x1 + 1)), .int (jI v3_8), .int (jI 1)]) (rest := []) hx hb hml hown hts hK hS hW (kX12_marks l hS σ_13 (a0 := a0) (h0 := h0) (x1 := x1 + 1) (r1 := (by omega)) (x2 := v3_8) (r2 := (by omega)) (x3 := 1) (r3 := (by decide)) (q0 := (by omega)) (q1 := (by omega)) (q2 := (by omega)) (q3 := (by omega)) (q4 := (by omega)) (q5 := (by omega))) 3 gX12_goes_X12_marks rfl hvX12_marks ⟨Nat.le_of_ble_eq_true rfl, Nat.le_of_ble_eq_true rfl⟩ rfl rfl h0 rfl rfl rfl rfl hl.1 rfl (Nat.le_of_ble_eq_true rfl) dX12_goes_53 ⟨Nat.le_of_ble_eq_true rfl, Nat.le_of_ble_eq_true rfl⟩) hA hF (fun σ_17 H locs hW hF pσ_17 => ?_)
            try dsimp only at pσ_17
            obtain ⟨pσ_17, fpσ_17⟩ := pσ_17
            try simp only [Efile, Ehl, Ehand, Ekept] at pσ_17
            have q_marks := pσ_17
            have hR := fr_call hR fpσ_17 (by decide)
            have Ehl : σ_17 a0 3 = σ_2 a0 3 := (fr_at fpσ_17 h0 3 13003 rfl (by decide)).trans Ehl
            have Ehand : σ_17 (G a0 2) = σ_2 (G a0 2) := (row_fr fpσ_17 hk_hand 41 (by decide) (by decide)).trans Ehand
            have Ekept : σ_17 a0 1 = σ a0 1 := (fr_at fpσ_17 h0 1 13001 rfl (by decide)).trans Ekept
            have Elow : σ_17 a0 4 = σ_13 a0 4 := fr_at fpσ_17 h0 4 13004 rfl (by decide)
            have Ehigh : σ_17 a0 5 = σ_13 a0 5 := fr_at fpσ_17 h0 5 13005 rfl (by decide)
            obtain ⟨mv, hmv1, hmv2, hmv3⟩ := q_marks
            have hmrow : ∀ i w : Int, 0 ≤ i → 0 ≤ w → w < 27 → ¬ (i = (x1 + 1) ∧ w = 2) → kO (σ_17 (G a0 0)) i w = kO (σL_8 (G a0 0)) i w := fun i w i0 w0 w1 ne => by (rw [hmv2, up2_row]; first | exact kO_up i0 (by omega) ⟨w0, w1⟩ ⟨by omega, by omega⟩ ne | (rw [Efile]; exact kO_up i0 (by omega) ⟨w0, w1⟩ ⟨by omega, by omega⟩ ne))
            have hmat : kO (σ_17 (G a0 0)) (x1 + 1) 2 = mv := by (rw [hmv2, up2_row]; exact kO_up_at)
            have hFC : FC (σ (G a0 0)) (σ_17 (G a0 0)) := by first | exact FC_col hFC hmv2 (by omega) (by omega) | exact FC_col (by rw [Efile]; exact hFC) hmv2 (by omega) (by omega)
            have hI := FI_FC hI0 hFC (show σ_17 a0 1 = σ a0 1 from by first | rfl | exact Ekept)
            have hf0 := hFC.2 0 (by omega)
            have hf1 := hFC.2 1 (by omega)
            have hf2 := hFC.2 2 (by omega)
            refine j_iinc (lv' := [(3, .int (jI (v3_8 + 1))), (0, .ref a0), (1, .int (jI x1)), (2, .int (jI v_1))]) hx hb dX12_goes_56 hl (k := 3) rfl (by decide) rfl (fun ls hl => ?_)
            refine lv_goto (tgt := 8) hx hb dX12_goes_59 (by decide) ?_
            exact ih_8 ((30 - (v3_8 + 1) : Int).toNat) (by omega) (v3_8 + 1) σ_17 _ _ _ rfl (by omega) (by omega) (by first | exact (by first | exact FC_rf | exact hFC) | (simp only [Ehl, Ehand, Ekept, Elow, Ehigh]; exact (by first | exact FC_rf | exact hFC))) (by first | exact (by first | exact fun p d _ _ _ hb => hb | exact i3_8 | exact com_tr i3_8 (com_on hmrow hmat hmv3 (by decide))) | (simp only [Ehl, Ehand, Ekept, Elow, Ehigh]; exact (by first | exact fun p d _ _ _ hb => hb | exact i3_8 | exact com_tr i3_8 (com_on hmrow hmat hmv3 (by decide))))) (by first | exact (by first | (intro d d0 d1; exfalso; omega) | exact agree_succ i4_8 (fun z => (hno z).elim) | exact agree_succ i4_8 (fun z => by (exfalso; have hz1 := q_beginsPage.2.mpr (i3_8 x1 _ q0 (by omega) (by omega) (q2 x1 _ q0 q1 (by omega) z)); omega)) | exact agree_succ (fun d d0 d1 z => com_on hmrow hmat hmv3 (by decide) (x1 + 1) d (by omega) d0 (by omega) (i4_8 d d0 d1 z)) (fun _ => com_at hmat hmv3 (by decide) (by omega) (by omega))) | (simp only [Ehl, Ehand, Ekept, Elow, Ehigh]; exact (by first | (intro d d0 d1; exfalso; omega) | exact agree_succ i4_8 (fun z => (hno z).elim) | exact agree_succ i4_8 (fun z => by (exfalso; have hz1 := q_beginsPage.2.mpr (i3_8 x1 _ q0 (by omega) (by omega) (q2 x1 _ q0 q1 (by omega) z)); omega)) | exact agree_succ (fun d d0 d1 z => com_on hmrow hmat hmv3 (by decide) (x1 + 1) d (by omega) d0 (by omega) (i4_8 d d0 d1 z)) (fun _ => com_at hmat hmv3 (by decide) (by omega) (by omega))))) (by omega) hW hF hR hI Ehl Ehand Ekept (lv_sub hl [1, 2, 3, 0] rfl)
        · have hno : LC (σ (G a0 0) 0) (σ (G a0 0) 1) (fun i => kO (σ (G a0 0)) i 0) (fun i => kB (σ (G a0 0)) i) x1 v3_8 → False := fun z => by (have := LC_dn hox.2 (by omega) hol.1 q1 hlb.1 hol.2 z; omega)
          refine lv_goto (tgt := 56) hx hb dX12_goes_35 (by decide) ?_
          refine j_iinc (lv' := [(3, .int (jI (v3_8 + 1))), (0, .ref a0), (1, .int (jI x1)), (2, .int (jI v_1))]) hx hb dX12_goes_56 hl (k := 3) rfl (by decide) rfl (fun ls hl => ?_)
          refine lv_goto (tgt := 8) hx hb dX12_goes_59 (by decide) ?_
          exact ih_8 ((30 - (v3_8 + 1) : Int).toNat) (by omega) (v3_8 + 1) σ_13 _ _ _ rfl (by omega) (by omega) (by first | exact (by first | exact FC_rf | exact hFC) | (simp only [Efile, Ehl, Ehand, Ekept]; exact (by first | exact FC_rf | exact hFC))) (by first | exact (by first | exact fun p d _ _ _ hb => hb | exact i3_8 | exact com_tr i3_8 (com_on hmrow hmat hmv3 (by decide))) | (simp only [Efile, Ehl, Ehand, Ekept]; exact (by first | exact fun p d _ _ _ hb => hb | exact i3_8 | exact com_tr i3_8 (com_on hmrow hmat hmv3 (by decide))))) (by first | exact (by first | (intro d d0 d1; exfalso; omega) | exact agree_succ i4_8 (fun z => (hno z).elim) | exact agree_succ i4_8 (fun z => by (exfalso; have hz1 := q_beginsPage.2.mpr (i3_8 x1 _ q0 (by omega) (by omega) (q2 x1 _ q0 q1 (by omega) z)); omega)) | exact agree_succ (fun d d0 d1 z => com_on hmrow hmat hmv3 (by decide) (x1 + 1) d (by omega) d0 (by omega) (i4_8 d d0 d1 z)) (fun _ => com_at hmat hmv3 (by decide) (by omega) (by omega))) | (simp only [Efile, Ehl, Ehand, Ekept]; exact (by first | (intro d d0 d1; exfalso; omega) | exact agree_succ i4_8 (fun z => (hno z).elim) | exact agree_succ i4_8 (fun z => by (exfalso; have hz1 := q_beginsPage.2.mpr (i3_8 x1 _ q0 (by omega) (by omega) (q2 x1 _ q0 q1 (by omega) z)); omega)) | exact agree_succ (fun d d0 d1 z => com_on hmrow hmat hmv3 (by decide) (x1 + 1) d (by omega) d0 (by omega) (i4_8 d d0 d1 z)) (fun _ => com_at hmat hmv3 (by decide) (by omega) (by omega))))) (by omega) hW hF hR hI Ehl Ehand Ekept (lv_sub hl [1, 2, 3, 0] rfl)
  exact L_8 ((30 - 0 : Int).toNat) 0 σ_2 _ _ _ rfl (by omega) (by omega) (by first | exact (by first | exact FC_rf | exact hFC) | (simp only [Efile, Ekept]; exact (by first | exact FC_rf | exact hFC))) (by first | exact (by first | exact fun p d _ _ _ hb => hb | exact i3_8 | exact com_tr i3_8 (com_on hmrow hmat hmv3 (by decide))) | (simp only [Efile, Ekept]; exact (by first | exact fun p d _ _ _ hb => hb | exact i3_8 | exact com_tr i3_8 (com_on hmrow hmat hmv3 (by decide))))) (by first | exact (by first | (intro d d0 d1; exfalso; omega) | exact agree_succ i4_8 (fun z => (hno z).elim) | exact agree_succ i4_8 (fun z => by (exfalso; have hz1 := q_beginsPage.2.mpr (i3_8 x1 _ q0 (by omega) (by omega) (q2 x1 _ q0 q1 (by omega) z)); omega)) | exact agree_succ (fun d d0 d1 z => com_on hmrow hmat hmv3 (by decide) (x1 + 1) d (by omega) d0 (by omega) (i4_8 d d0 d1 z)) (fun _ => com_at hmat hmv3 (by decide) (by omega) (by omega))) | (simp only [Efile, Ekept]; exact (by first | (intro d d0 d1; exfalso; omega) | exact agree_succ i4_8 (fun z => (hno z).elim) | exact agree_succ i4_8 (fun z => by (exfalso; have hz1 := q_beginsPage.2.mpr (i3_8 x1 _ q0 (by omega) (by omega) (q2 x1 _ q0 q1 (by omega) z)); omega)) | exact agree_succ (fun d d0 d1 z => com_on hmrow hmat hmv3 (by decide) (x1 + 1) d (by omega) d0 (by omega) (i4_8 d d0 d1 z)) (fun _ => com_at hmat hmv3 (by decide) (by omega) (by omega))))) (by decide) hW hF hR hI rfl rfl Ekept (lv_sub hl [2, 3, 1, 0] rfl)
