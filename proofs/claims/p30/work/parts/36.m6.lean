abbrev wr_X12_leavesPage : List Nat := [13004, 13005, 13008, 40000, 42000, 43000]
theorem flX12_leavesPage_7 : Cond.fieldLink RX12 7 "PageTrieModel" "file" "[I" ∈ wsX12_leavesPage := List.mem_of_getElem? (i := 2) rfl
theorem flX12_leavesPage_16 : Cond.fieldLink RX12 16 "PageTrieModel" "entryAt" "[I" ∈ wsX12_leavesPage := List.mem_of_getElem? (i := 1) rfl
theorem flX12_leavesPage_97 : Cond.fieldLink RX12 97 "PageTrieModel" "entries" "I" ∈ wsX12_leavesPage := List.mem_of_getElem? (i := 3) rfl
theorem inX12_leavesPage_X12 : ∀ w ∈ u_ws RX12 TX12 41, w ∈ wsX12_leavesPage := mem_r _ [65, 66, 67, 68, 69, 70, 71, 72, 73, 74, 75, 76, 77, 78, 79, 80, 81, 82, 83, 84, 85, 86, 87, 88, 89, 90, 91, 92, 93, 94, 95, 96, 97, 98, 99, 100, 101, 102, 103, 104, 105] rfl
theorem hvX12_leavesPage : yX12_leavesPage.cls = RX12 ∧ yX12_leavesPage.cls ≠ "java/lang/invoke/MethodHandle" ∧ yX12_leavesPage.cls ≠ "java/lang/invoke/VarHandle" ∧ (parseMethodDescriptor yX12_leavesPage.desc).map (fun d => d.parameters.length) = some 2 := by decide +kernel
set_option maxHeartbeats 4000000 in
set_option maxRecDepth 100000 in
theorem kX12_leavesPage (l : Launch) {D : va_G} {cA : Nat → ClassId} {τ : Nat → Nat} {G : Nat → Nat → Nat} {L : List Nat} (hS : SW τ G L) (σ : Nat → Nat → Int) {a0 : Nat} (h0 : τ a0 = 13) {x1 : Int} (r1 : rg x1) {x2 : Int} (r2 : rg x2) (hI : FI G a0 σ) (q0 : 0 ≤ x1) (q1 : x1 < σ (G a0 0) 0) (q2 : 0 ≤ x2) (q3 : x2 ≤ 23) (q4 : FM (σ (G a0 0))) (q5 : σ a0 3 = kO (σ (G a0 0)) x1 0) (q6 : ∀ j : Int, 0 ≤ j → j < kO (σ (G a0 0)) x1 0 → σ (G a0 2) j.toNat = kO (σ (G a0 0)) x1 (3 + j)) (q7 : x2 * σ (G a0 0) 1 < kO (σ (G a0 0)) x1 0) (q8 : ∀ j : Int, 0 ≤ j → j < σ (G a0 0) 0 → shr (fun i => kO (σ (G a0 0)) i 0) (fun i => kB (σ (G a0 0)) i) j x1 ((x2 + 1) * σ (G a0 0) 1) → j = x1) (q9 : x2 = 0 ∨ ∃ j : Int, 0 ≤ j ∧ j < σ (G a0 0) 0 ∧ j ≠ x1 ∧ shr (fun i => kO (σ (G a0 0)) i 0) (fun i => kB (σ (G a0 0)) i) j x1 (x2 * σ (G a0 0) 1)) : Met l yX12_leavesPage wsX12_leavesPage ({ frames := 4, cells := 0, slots := 0, locals := 89 }) (jP D cA τ G L σ [.ref a0, .int (jI x1), .int (jI x2)]) (jQV D cA τ G L (fun σ' => ((FC (σ (G a0 0)) (σ' (G a0 0))) ∧ (∀ p d : Int, 0 ≤ p → p < σ (G a0 0) 0 → 0 ≤ d → d < 32 → bit (kO (σ (G a0 0)) p 2) d → bit (kO (σ' (G a0 0)) p 2) d ∨ (d = x2 ∧ ¬ LC (σ (G a0 0) 0) (σ (G a0 0) 1) (fun i => kO (σ (G a0 0)) i 0) (fun i => kB (σ (G a0 0)) i) p x2)) ∧ (LC (σ (G a0 0) 0) (σ (G a0 0) 1) (fun i => kO (σ (G a0 0)) i 0) (fun i => kB (σ (G a0 0)) i) x1 x2 → x1 + 1 < σ (G a0 0) 0 → bit (kO (σ' (G a0 0)) (x1 + 1) 2) x2)) ∧ fr wr_X12_leavesPage τ σ σ')) 0 0 (fun q => q ∈ L) := by
  refine j_metV (by decide +kernel) rfl (Nat.le_of_ble_eq_true rfl) ?_
  intro p e s m args below meth c Q hx hb hml hown hts hK hW hRet ls hl
  have hl : lv_has ls 8 [(0, .ref a0), (1, .int (jI x1)), (2, .int (jI x2))] := hl
  have hA : ∀ q ∈ L, (fun q => q ∈ L) q := fun _ h => h
  have hF : va_S (fun q => q ∈ L) s.heap s.heap [] := va_S.rf
  have hR : fr wr_X12_leavesPage τ σ σ := fr_rf
  have hk_file : τ (G a0 0) = 40 := gty hS h0 (k := 0) rfl rfl
  have hk_hand : τ (G a0 2) = 41 := gty hS h0 (k := 2) rfl rfl
  have hk_ea : τ (G a0 6) = 42 := gty hS h0 (k := 6) rfl rfl
  have hI0 := hI
  have hFC : FC (σ (G a0 0)) (σ (G a0 0)) := FC_rf
  have := FI_bd hI
  have := fbd hW h0 (k := 3) (lo := 0) (hi := 24) rfl rfl
  have hsr := hI.1.2.2.2.2.2
  refine lv_aload_n hx hb dX12_leavesPage_0 rfl (lv_at hl 0 rfl) ?_
  refine lv_iload_n hx hb dX12_leavesPage_1 rfl (lv_at hl 2 rfl) ?_
  refine j_cV (j_runV (As := [.int (jI x2)]) (rest := []) hx hb hml hown hts hK hS hW (kX12_findsEntries l hS σ (a0 := a0) (h0 := h0) (x1 := x2) (r1 := (by omega)) (hI := hI) (q0 := (by omega)) (q1 := (by omega))) 1 gX12_leavesPage_X12_findsEntries rfl hvX12_findsEntries ⟨Nat.le_of_ble_eq_true rfl, Nat.le_of_ble_eq_true rfl⟩ rfl rfl h0 rfl rfl rfl rfl hl.1 rfl (Nat.le_of_ble_eq_true rfl) dX12_leavesPage_2 ⟨Nat.le_of_ble_eq_true rfl, Nat.le_of_ble_eq_true rfl⟩) hA hF (fun σ_1 H locs hW hF pσ_1 => ?_)
  try dsimp only at pσ_1
  obtain ⟨pσ_1, fpσ_1⟩ := pσ_1
  have q_findsEntries := pσ_1
  have hR := fr_call hR fpσ_1 (by decide)
  have Efile : σ_1 (G a0 0) = σ (G a0 0) := row_fr fpσ_1 hk_file 40 (by decide) (by decide)
  have := congrFun Efile 0
  have Ehl : σ_1 a0 3 = σ a0 3 := fr_at fpσ_1 h0 3 13003 rfl (by decide)
  have Ehand : σ_1 (G a0 2) = σ (G a0 2) := row_fr fpσ_1 hk_hand 41 (by decide) (by decide)
  have Ekept : σ_1 a0 1 = σ a0 1 := fr_at fpσ_1 h0 1 13001 rfl (by decide)
  have hI := FI_dep hS h0 hI (kp_fr fpσ_1 (by decide))
  have hrg := q_findsEntries.1.1
  have hrn := q_findsEntries.1.2
  have hen := q_findsEntries.2.1
  have hel := q_findsEntries.2.2
  have hox := RG_own (x := x1) hsr hrg hrn q0 q1 q5 q6 q7
  have hol := hox.1
  have hlb : 0 ≤ (σ_1 a0 4) ∧ (σ_1 a0 4) ≤ (σ_1 a0 5) ∧ (σ_1 a0 5) ≤ σ (G a0 0) 0 := ⟨hrg.1, hrg.2.1, hrg.2.2.1⟩
  have hne2 : 0 < (σ_1 a0 8) ∧ (σ_1 a0 8) ≤ (σ_1 a0 5) - (σ_1 a0 4) := ⟨hen.2.2.1 (by omega), hen.2.1⟩
  have he2 : (σ_1 (G a0 6)) 0 = (σ_1 a0 4) := hen.2.2.2.1 hne2.1
  have hbl : bit (kO (σ (G a0 0)) (σ_1 a0 4) 2) x2 := q4 (σ_1 a0 4) x2 (by omega) (by omega) (by omega) (RG_LC hsr hI0.1.2.2.2.1 hrg hrn q0 q1 q5 q6 q7 q2 q9)
  refine lv_aload_n hx hb dX12_leavesPage_5 rfl (lv_at hl 0 rfl) ?_
  refine lv_iload_n hx hb dX12_leavesPage_6 rfl (lv_at hl 1 rfl) ?_
  refine j_cR (j_runV (As := [.int (jI x1)]) (rest := []) hx hb hml hown hts hK hS hW (kX12_entryOf l hS σ_1 (a0 := a0) (h0 := h0) (x1 := x1) (r1 := (by omega)) (q0 := (by omega)) (q1 := (by omega)) (q2 := (by omega))) 1 gX12_leavesPage_X12_entryOf rfl hvX12_entryOf ⟨Nat.le_of_ble_eq_true rfl, Nat.le_of_ble_eq_true rfl⟩ rfl rfl h0 rfl rfl rfl rfl hl.1 rfl (Nat.le_of_ble_eq_true rfl) dX12_leavesPage_7 ⟨Nat.le_of_ble_eq_true rfl, Nat.le_of_ble_eq_true rfl⟩) (fun v_2 rv_2 pv_2 => ?_)
  try dsimp only at pv_2
  try simp only [Efile, Ehl, Ehand, Ekept] at pv_2
  have q_entryOf := pv_2
  have hea : (σ_1 (G a0 6)) (v_2).toNat = x1 ∧ (σ_1 (G a0 6)) (v_2 + 1).toNat = x1 + 1 := EN_at hen hel hol.1 hol.2 (fun j j0 j1 s => q8 j (by omega) (by omega) s) q_entryOf.1 q_entryOf.2.1 q_entryOf.2.2.1 q_entryOf.2.2.2
  have he00 : LC (σ (G a0 0) 0) (σ (G a0 0) 1) (fun i => kO (σ (G a0 0)) i 0) (fun i => kB (σ (G a0 0)) i) x1 x2 → v_2 = 0 := fun z => LV_lo hen hel hox.2 hol.1 hol.2 hlb.2.2 hlb.1 hea.1 q_entryOf.1 q_entryOf.2.1 z
  have heo0 := q_entryOf.1; have heo1 := q_entryOf.2.1
  refine lv_istore_n (lv' := [(3, .int (jI v_2)), (0, .ref a0), (1, .int (jI x1)), (2, .int (jI x2))]) hx hb dX12_leavesPage_10 rfl hl (by decide) rfl (fun ls hl => ?_)
  refine lv_aload_n hx hb dX12_leavesPage_11 rfl (lv_at hl 1 rfl) ?_
  refine lv_iload_n hx hb dX12_leavesPage_12 rfl (lv_at hl 0 rfl) ?_
  refine lv_iload_n hx hb dX12_leavesPage_13 rfl (lv_at hl 3 rfl) ?_
  refine j_cR (j_runV (As := [.int (jI v_2), .int (jI x2)]) (rest := []) hx hb hml hown hts hK hS hW (kX12_pageBegin l hS σ_1 (a0 := a0) (h0 := h0) (x1 := v_2) (r1 := (by omega)) (x2 := x2) (r2 := (by omega)) (q0 := (by omega)) (q1 := (by omega)) (q2 := (by omega)) (q3 := (by omega)) (q4 := (by first | (rw [he2]; exact hbl) | (rw [he2, Efile]; exact hbl)))) 2 gX12_leavesPage_X12_pageBegin rfl hvX12_pageBegin ⟨Nat.le_of_ble_eq_true rfl, Nat.le_of_ble_eq_true rfl⟩ rfl rfl h0 rfl rfl rfl rfl hl.1 rfl (Nat.le_of_ble_eq_true rfl) dX12_leavesPage_14 ⟨Nat.le_of_ble_eq_true rfl, Nat.le_of_ble_eq_true rfl⟩) (fun v_3 rv_3 pv_3 => ?_)
  try dsimp only at pv_3
  try simp only [Efile, Ehl, Ehand, Ekept] at pv_3
  have q_pageBegin := pv_3
  have hpb0 := q_pageBegin.1; have hpb1 := q_pageBegin.2.1
  refine lv_istore (lv' := [(4, .int (jI v_3)), (3, .int (jI v_2)), (0, .ref a0), (1, .int (jI x1)), (2, .int (jI x2))]) hx hb dX12_leavesPage_17 hl (by decide) rfl (fun ls hl => ?_)
  refine lv_aload_n hx hb dX12_leavesPage_19 rfl (lv_at hl 2 rfl) ?_
  refine lv_iload_n hx hb dX12_leavesPage_20 rfl (lv_at hl 1 rfl) ?_
  refine lv_iload_n hx hb dX12_leavesPage_21 rfl (lv_at hl 4 rfl) ?_
  refine j_cR (j_runV (As := [.int (jI v_2), .int (jI x2)]) (rest := []) hx hb hml hown hts hK hS hW (kX12_pageEnd l hS σ_1 (a0 := a0) (h0 := h0) (x1 := v_2) (r1 := (by omega)) (x2 := x2) (r2 := (by omega)) (q0 := (by omega)) (q1 := (by omega)) (q2 := (by omega)) (q3 := (by omega))) 2 gX12_leavesPage_X12_pageEnd rfl hvX12_pageEnd ⟨Nat.le_of_ble_eq_true rfl, Nat.le_of_ble_eq_true rfl⟩ rfl rfl h0 rfl rfl rfl rfl hl.1 rfl (Nat.le_of_ble_eq_true rfl) dX12_leavesPage_22 ⟨Nat.le_of_ble_eq_true rfl, Nat.le_of_ble_eq_true rfl⟩) (fun v_4 rv_4 pv_4 => ?_)
  try dsimp only at pv_4
  try simp only [Efile, Ehl, Ehand, Ekept] at pv_4
  have q_pageEnd := pv_4
  have hpe0 := q_pageEnd.1; have hpe1 := q_pageEnd.2.1; have hpe2 := q_pageEnd.2.2
  refine lv_istore (lv' := [(5, .int (jI v_4)), (4, .int (jI v_3)), (3, .int (jI v_2)), (0, .ref a0), (1, .int (jI x1)), (2, .int (jI x2))]) hx hb dX12_leavesPage_25 hl (by decide) rfl (fun ls hl => ?_)
  refine lv_iload hx hb dX12_leavesPage_27 (lv_at hl 0 rfl) ?_
  refine lv_iload hx hb dX12_leavesPage_29 (lv_at hl 1 rfl) ?_
  refine j_sub hx hb dX12_leavesPage_31 ?_
  refine j_const hx hb dX12_leavesPage_32 ?_
  refine j_sub hx hb dX12_leavesPage_33 ?_
  refine lv_istore (lv' := [(6, .int (jI ((v_4 - v_3) - 1))), (5, .int (jI v_4)), (4, .int (jI v_3)), (3, .int (jI v_2)), (0, .ref a0), (1, .int (jI x1)), (2, .int (jI x2))]) hx hb dX12_leavesPage_34 hl (by decide) rfl (fun ls hl => ?_)
  refine lv_iload hx hb dX12_leavesPage_36 (lv_at hl 0 rfl) ?_
  refine j_if_ne (tgt := 42) hx hb (by omega) dX12_leavesPage_38 (by decide) (fun c_5 => ?_) (fun c_5 => ?_)
  · refine lv_iload_n hx hb dX12_leavesPage_42 rfl (lv_at hl 3 rfl) ?_
    refine lv_iload hx hb dX12_leavesPage_43 (lv_at hl 2 rfl) ?_
    have L_62 : ∀ (σL_62 : Nat → Nat → Int) (H : Heap) (locs : List Loc) (ls : Array Slot), (FC (σ (G a0 0)) (σL_62 (G a0 0))) → (∀ p d : Int, 0 ≤ p → 0 ≤ d → d < 32 → bit (kO (σ (G a0 0)) p 2) d → bit (kO (σL_62 (G a0 0)) p 2) d) → (LC (σ (G a0 0) 0) (σ (G a0 0) 1) (fun i => kO (σ (G a0 0)) i 0) (fun i => kB (σ (G a0 0)) i) x1 x2 → x1 + 1 < σ (G a0 0) 0 → bit (kO (σL_62 (G a0 0)) (x1 + 1) 2) x2) → PW D cA τ G L σL_62 H → va_S (fun q => q ∈ L) s.heap H locs → fr wr_X12_leavesPage τ σ σL_62 → FI G a0 σL_62 → σL_62 a0 3 = σ a0 3 → σL_62 (G a0 2) = σ (G a0 2) → σL_62 a0 1 = σ a0 1 → σL_62 a0 4 = σ_1 a0 4 → σL_62 a0 5 = σ_1 a0 5 → σL_62 a0 8 = σ_1 a0 8 → σL_62 (G a0 6) = σ_1 (G a0 6) → lv_has ls 8 [(0, .ref a0), (2, .int (jI x2)), (3, .int (jI v_2)), (4, .int (jI v_3)), (5, .int (jI v_4)), (6, .int (jI ((v_4 - v_3) - 1)))] → W p l e ({ frames := 4, cells := 0, slots := 0, locals := 89 }) s m args below meth c H locs 0 0 Q (F0 m 62 ls []) := by
      intro σL_62 H locs ls i0_62 i1_62 i2_62 hW hF hR hI Ehl Ehand Ekept Elow Ehigh Eents Eea hl
      have hFC := i0_62
      have hf0 := hFC.2 0 (by omega)
      have hf1 := hFC.2 1 (by omega)
      have hf2 := hFC.2 2 (by omega)
      have hbl62 := i1_62 (σ_1 a0 4) x2 (by omega) (by omega) (by omega) hbl
      refine lv_aload_n hx hb dX12_leavesPage_62 rfl (lv_at hl 0 rfl) ?_
      refine j_getR hx hb (C := RX12) (T := TX12) (N := 41) hts inX12_leavesPage_X12 hown hK hS hW h0 rfl 0 rfl rfl (by decide) (hts _ flX12_leavesPage_7) dX12_leavesPage_63 ?_
      refine j_const hx hb dX12_leavesPage_66 ?_
      refine j_ald hx hb hK hS hW hk_file (n := 17624) rfl (by omega) (by omega) (by decide) dX12_leavesPage_67 ?_
      have : -2147483648 ≤ σL_62 (G a0 0) 2 ∧ σL_62 (G a0 0) 2 ≤ 2147483647 := abd hW hk_file (n := 17624) (lo := -2147483648) (hi := 2147483647) (i := 2) rfl (by decide) (by decide)
      refine j_eq (z := σL_62 (G a0 0) 2) rfl ?_
      have := FI_bd hI
      refine j_const hx hb dX12_leavesPage_68 ?_
      refine j_div hx hb (by omega) (by omega) dX12_leavesPage_69 ?_
      refine lv_istore (lv' := [(7, .int (jI ((σL_62 (G a0 0) 2) / 2))), (0, .ref a0), (2, .int (jI x2)), (3, .int (jI v_2)), (4, .int (jI v_3)), (5, .int (jI v_4)), (6, .int (jI ((v_4 - v_3) - 1)))]) hx hb dX12_leavesPage_70 hl (by decide) rfl (fun ls hl => ?_)
      refine lv_iload hx hb dX12_leavesPage_72 (lv_at hl 5 rfl) ?_
      refine lv_aload_n hx hb dX12_leavesPage_74 rfl (lv_at hl 1 rfl) ?_
      refine j_getI hx hb (C := RX12) (T := TX12) (N := 41) hts inX12_leavesPage_X12 hown hK hS hW h0 rfl 8 rfl rfl (by decide) (hts _ flX12_leavesPage_97) dX12_leavesPage_75 ?_
      rw [Eents]
      have := fbd hW h0 (k := 8) (lo := 0) (hi := 150) rfl rfl
      try simp only [Eents] at this
      refine j_icmp_ge (tgt := 129) hx hb (by omega) (by omega) dX12_leavesPage_78 (by decide) (fun c_6 => ?_) (fun c_6 => ?_)
      · refine lv_iload hx hb dX12_leavesPage_129 (lv_at hl 4 rfl) ?_
        refine j_if_le (tgt := 193) hx hb (by omega) dX12_leavesPage_131 (by decide) (fun c_7 => ?_) (fun c_7 => ?_)
        · exact hRet 193 _ _ _ _ dX12_leavesPage_193 hW hF ⟨(by first | exact (by first | exact ⟨hFC, fun p d p0 p1 d0 d1 hb => Or.inl (i1_62 p d p0 d0 d1 hb), i2_62⟩ | exact ⟨hFC, LV_p i1_62 hof hcn hXn, LV_q i2_62 hof hcn hXx q0 q2 (by omega)⟩) | (simp only [Ehl, Ehand, Ekept, Elow, Ehigh, Eents, Eea]; exact (by first | exact ⟨hFC, fun p d p0 p1 d0 d1 hb => Or.inl (i1_62 p d p0 d0 d1 hb), i2_62⟩ | exact ⟨hFC, LV_p i1_62 hof hcn hXn, LV_q i2_62 hof hcn hXx q0 q2 (by omega)⟩))), hR⟩
        · refine lv_iload hx hb dX12_leavesPage_134 (lv_at hl 6 rfl) ?_
          refine lv_iload hx hb dX12_leavesPage_136 (lv_at hl 4 rfl) ?_
          refine j_add hx hb dX12_leavesPage_138 ?_
          refine lv_aload_n hx hb dX12_leavesPage_139 rfl (lv_at hl 1 rfl) ?_
          refine lv_iload hx hb dX12_leavesPage_140 (lv_at hl 4 rfl) ?_
          refine j_const hx hb dX12_leavesPage_142 ?_
          refine j_sub hx hb dX12_leavesPage_143 ?_
          refine lv_iload_n hx hb dX12_leavesPage_144 rfl (lv_at hl 2 rfl) ?_
          refine j_cR (j_runV (As := [.int (jI (v_3 - 1)), .int (jI x2)]) (rest := [.int (jI (((v_4 - v_3) - 1) + v_3))]) hx hb hml hown hts hK hS hW (kX12_pageBegin l hS σL_62 (a0 := a0) (h0 := h0) (x1 := v_3 - 1) (r1 := (by omega)) (x2 := x2) (r2 := (by omega)) (q0 := (by omega)) (q1 := (by omega)) (q2 := (by omega)) (q3 := (by omega)) (q4 := (by first | (rw [he2]; exact hbl62) | (rw [Eea, he2]; exact hbl62) | (simp only [Eea, Efile]; rw [he2]; exact hbl62)))) 2 gX12_leavesPage_X12_pageBegin rfl hvX12_pageBegin ⟨Nat.le_of_ble_eq_true rfl, Nat.le_of_ble_eq_true rfl⟩ rfl rfl h0 rfl rfl rfl rfl hl.1 rfl (Nat.le_of_ble_eq_true rfl) dX12_leavesPage_145 ⟨Nat.le_of_ble_eq_true rfl, Nat.le_of_ble_eq_true rfl⟩) (fun v_8 rv_8 pv_8 => ?_)
          try dsimp only at pv_8
          try simp only [Ehl, Ehand, Ekept, Elow, Ehigh, Eents, Eea] at pv_8
          have q_pageBegin := pv_8
          refine j_sub hx hb dX12_leavesPage_148 ?_
          refine lv_iload hx hb dX12_leavesPage_149 (lv_at hl 0 rfl) ?_
          refine j_icmp_gt (tgt := 193) hx hb (by omega) (by omega) dX12_leavesPage_151 (by decide) (fun c_9 => ?_) (fun c_9 => ?_)
          · exact hRet 193 _ _ _ _ dX12_leavesPage_193 hW hF ⟨(by first | exact (by first | exact ⟨hFC, fun p d p0 p1 d0 d1 hb => Or.inl (i1_62 p d p0 d0 d1 hb), i2_62⟩ | exact ⟨hFC, LV_p i1_62 hof hcn hXn, LV_q i2_62 hof hcn hXx q0 q2 (by omega)⟩) | (simp only [Ehl, Ehand, Ekept, Elow, Ehigh, Eents, Eea]; exact (by first | exact ⟨hFC, fun p d p0 p1 d0 d1 hb => Or.inl (i1_62 p d p0 d0 d1 hb), i2_62⟩ | exact ⟨hFC, LV_p i1_62 hof hcn hXn, LV_q i2_62 hof hcn hXx q0 q2 (by omega)⟩))), hR⟩
          · refine lv_aload_n hx hb dX12_leavesPage_154 rfl (lv_at hl 1 rfl) ?_
            refine lv_aload_n hx hb dX12_leavesPage_155 rfl (lv_at hl 1 rfl) ?_
            refine j_getR hx hb (C := RX12) (T := TX12) (N := 41) hts inX12_leavesPage_X12 hown hK hS hW h0 rfl 6 rfl rfl (by decide) (hts _ flX12_leavesPage_16) dX12_leavesPage_156 ?_
            refine lv_iload_n hx hb dX12_leavesPage_159 rfl (lv_at hl 3 rfl) ?_
            refine lv_iload hx hb dX12_leavesPage_160 (lv_at hl 4 rfl) ?_
            refine j_icmp_ne (tgt := 171) hx hb (by omega) (by omega) dX12_leavesPage_162 (by decide) (fun c_10 => ?_) (fun c_10 => ?_)
            · refine lv_iload hx hb dX12_leavesPage_171 (lv_at hl 4 rfl) ?_
              refine j_ald hx hb hK hS hW hk_ea (n := 151) rfl (by omega) (by omega) (by decide) dX12_leavesPage_173 ?_
              have := abd hW hk_ea (n := 151) (lo := 0) (hi := 150) (i := v_3) rfl (by omega) (by omega)
              rw [Eea]
              try simp only [Eea] at this
              have hek : (σ_1 a0 4) ≤ (σ_1 (G a0 6) (v_3).toNat) ∧ (σ_1 (G a0 6) (v_3).toNat) < (σ_1 a0 5) := by first | exact hen.2.2.2.2.1 (v_2 + 1) (by omega) (by omega) | exact hen.2.2.2.2.1 (v_3) (by omega) (by omega)
              have hxl : (σ_1 (G a0 6)) 0 < (σ_1 (G a0 6) (v_3).toNat) := by first | exact ENI_lt hen hel (a := 0) (b := v_2 + 1) (by omega) (by omega) (by omega) | exact ENI_lt hen hel (a := 0) (b := v_3) (by omega) (by omega) (by omega)
              have hXn : ¬ LC (σ (G a0 0) 0) (σ (G a0 0) 1) (fun i => kO (σ (G a0 0)) i 0) (fun i => kB (σ (G a0 0)) i) (σ_1 (G a0 6) (v_3).toNat) x2 := fun z => absurd (LC_lo hox.2 hol.1 hol.2 hlb.2.2 hlb.1 hek.1 hek.2 z) (by omega)
              have hXx : LC (σ (G a0 0) 0) (σ (G a0 0) 1) (fun i => kO (σ (G a0 0)) i 0) (fun i => kB (σ (G a0 0)) i) x1 x2 → ¬ (σ_1 (G a0 6) (v_3).toNat) = x1 + 1 := fun z y => by (exfalso; have z0 := he00 z; omega)
              refine lv_iload_n hx hb dX12_leavesPage_174 rfl (lv_at hl 2 rfl) ?_
              refine j_const hx hb dX12_leavesPage_175 ?_
              refine j_cV (j_runV (As := [.int (jI (σ_1 (G a0 6) (v_3).toNat)), .int (jI x2), .int (jI 0)]) (rest := []) hx hb hml hown hts hK hS hW (kX12_marks l hS σL_62 (a0 := a0) (h0 := h0) (x1 := σ_1 (G a0 6) (v_3).toNat) (r1 := (by omega)) (x2 := x2) (r2 := (by omega)) (x3 := 0) (r3 := (by decide)) (q0 := (by omega)) (q1 := (by omega)) (q2 := (by omega)) (q3 := (by omega)) (q4 := (by omega)) (q5 := (by omega))) 3 gX12_leavesPage_X12_marks rfl hvX12_marks ⟨Nat.le_of_ble_eq_true rfl, Nat.le_of_ble_eq_true rfl⟩ rfl rfl h0 rfl rfl rfl rfl hl.1 rfl (Nat.le_of_ble_eq_true rfl) dX12_leavesPage_176 ⟨Nat.le_of_ble_eq_true rfl, Nat.le_of_ble_eq_true rfl⟩) hA hF (fun σ_11 H locs hW hF pσ_11 => ?_)
              try dsimp only at pσ_11
              obtain ⟨pσ_11, fpσ_11⟩ := pσ_11
              try simp only [Ehl, Ehand, Ekept, Elow, Ehigh, Eents, Eea] at pσ_11
              have q_marks := pσ_11
              have hR := fr_call hR fpσ_11 (by decide)
              have Ehl : σ_11 a0 3 = σ a0 3 := (fr_at fpσ_11 h0 3 13003 rfl (by decide)).trans Ehl
              have Ehand : σ_11 (G a0 2) = σ (G a0 2) := (row_fr fpσ_11 hk_hand 41 (by decide) (by decide)).trans Ehand
              have Ekept : σ_11 a0 1 = σ a0 1 := (fr_at fpσ_11 h0 1 13001 rfl (by decide)).trans Ekept
              have Elow : σ_11 a0 4 = σ_1 a0 4 := (fr_at fpσ_11 h0 4 13004 rfl (by decide)).trans Elow
              have Ehigh : σ_11 a0 5 = σ_1 a0 5 := (fr_at fpσ_11 h0 5 13005 rfl (by decide)).trans Ehigh
              have Eents : σ_11 a0 8 = σ_1 a0 8 := (fr_at fpσ_11 h0 8 13008 rfl (by decide)).trans Eents
              have Eea : σ_11 (G a0 6) = σ_1 (G a0 6) := (row_fr fpσ_11 hk_ea 42 (by decide) (by decide)).trans Eea
              obtain ⟨mv, hmv1, hmv2, hmv3⟩ := q_marks
              have hmrow : ∀ i w : Int, 0 ≤ i → 0 ≤ w → w < 27 → ¬ (i = (σ_1 (G a0 6) (v_3).toNat) ∧ w = 2) → kO (σ_11 (G a0 0)) i w = kO (σL_62 (G a0 0)) i w := fun i w i0 w0 w1 ne => by (rw [hmv2, up2_row]; first | exact kO_up i0 (by omega) ⟨w0, w1⟩ ⟨by omega, by omega⟩ ne | (rw [Efile]; exact kO_up i0 (by omega) ⟨w0, w1⟩ ⟨by omega, by omega⟩ ne))
              have hmat : kO (σ_11 (G a0 0)) (σ_1 (G a0 6) (v_3).toNat) 2 = mv := by (rw [hmv2, up2_row]; exact kO_up_at)
              have hFC : FC (σ (G a0 0)) (σ_11 (G a0 0)) := by first | exact FC_col hFC hmv2 (by omega) (by omega) | exact FC_col (by rw [Efile]; exact hFC) hmv2 (by omega) (by omega)
              have hI := FI_FC hI0 hFC (show σ_11 a0 1 = σ a0 1 from by first | rfl | exact Ekept)
              have hf0 := hFC.2 0 (by omega)
              have hf1 := hFC.2 1 (by omega)
              have hf2 := hFC.2 2 (by omega)
              have hof := com_off hmrow hmat hmv3 (by decide)
              refine lv_aload_n hx hb dX12_leavesPage_179 rfl (lv_at hl 1 rfl) ?_
              refine j_getR hx hb (C := RX12) (T := TX12) (N := 41) hts inX12_leavesPage_X12 hown hK hS hW h0 rfl 0 rfl rfl (by decide) (hts _ flX12_leavesPage_7) dX12_leavesPage_180 ?_
              refine j_const hx hb dX12_leavesPage_183 ?_
              refine lv_aload_n hx hb dX12_leavesPage_184 rfl (lv_at hl 1 rfl) ?_
              refine j_getR hx hb (C := RX12) (T := TX12) (N := 41) hts inX12_leavesPage_X12 hown hK hS hW h0 rfl 0 rfl rfl (by decide) (hts _ flX12_leavesPage_7) dX12_leavesPage_185 ?_
              refine j_const hx hb dX12_leavesPage_188 ?_
              refine j_ald hx hb hK hS hW hk_file (n := 17624) rfl (by omega) (by omega) (by decide) dX12_leavesPage_189 ?_
              have : -2147483648 ≤ σ_11 (G a0 0) 4 ∧ σ_11 (G a0 0) 4 ≤ 2147483647 := abd hW hk_file (n := 17624) (lo := -2147483648) (hi := 2147483647) (i := 4) rfl (by decide) (by decide)
              refine j_eq (z := σ_11 (G a0 0) 4) rfl ?_
              have := FI_bd hI
              refine j_const hx hb dX12_leavesPage_190 ?_
              refine j_add hx hb dX12_leavesPage_191 ?_
              refine j_wrap (fun z_12 rz_12 ez_12 => ?_)
              refine j_ast hx hb hK hS hA hW hF hk_file (n := 17624) (lo := -2147483648) (hi := 2147483647) rfl (by omega) (by omega) (by decide) (by omega) dX12_leavesPage_192 (fun σ_13 H locs e_14 hW hF => ?_)
              have st_file := e_14
              have hR := fr_up hR e_14 hk_file 40000 (cdA 40 (by decide) _) (by decide)
              have Ehl : σ_13 a0 3 = σ a0 3 := (fld_up e_14 hk_file h0 (fun q => absurd q.1 (by decide))).trans Ehl
              have Ehand : σ_13 (G a0 2) = σ (G a0 2) := (row_up e_14 hk_file hk_hand (by decide)).trans Ehand
              have Ekept : σ_13 a0 1 = σ a0 1 := (fld_up e_14 hk_file h0 (fun q => absurd q.1 (by decide))).trans Ekept
              have Elow : σ_13 a0 4 = σ_1 a0 4 := (fld_up e_14 hk_file h0 (fun q => absurd q.1 (by decide))).trans Elow
              have Ehigh : σ_13 a0 5 = σ_1 a0 5 := (fld_up e_14 hk_file h0 (fun q => absurd q.1 (by decide))).trans Ehigh
              have Eents : σ_13 a0 8 = σ_1 a0 8 := (fld_up e_14 hk_file h0 (fun q => absurd q.1 (by decide))).trans Eents
              have Eea : σ_13 (G a0 6) = σ_1 (G a0 6) := (row_up e_14 hk_file hk_ea (by decide)).trans Eea
              have hFC : FC (σ (G a0 0)) (σ_13 (G a0 0)) := by first | exact FC_cnt hFC e_14 (by decide) (by decide) | exact FC_cnt (by rw [Efile]; exact hFC) e_14 (by decide) (by decide)
              have hcn := kO_cnt e_14 (by decide)
              try simp only [Efile] at hcn
              have hI := FI_FC hI0 hFC (show σ_13 a0 1 = σ a0 1 from by first | rfl | exact Ekept)
              have hf0 := hFC.2 0 (by omega)
              have hf1 := hFC.2 1 (by omega)
              have hf2 := hFC.2 2 (by omega)
              exact hRet 193 _ _ _ _ dX12_leavesPage_193 hW hF ⟨(by first | exact (by first | exact ⟨hFC, fun p d p0 p1 d0 d1 hb => Or.inl (i1_62 p d p0 d0 d1 hb), i2_62⟩ | exact ⟨hFC, LV_p i1_62 hof hcn hXn, LV_q i2_62 hof hcn hXx q0 q2 (by omega)⟩) | (simp only [Ehl, Ehand, Ekept, Elow, Ehigh, Eents, Eea]; exact (by first | exact ⟨hFC, fun p d p0 p1 d0 d1 hb => Or.inl (i1_62 p d p0 d0 d1 hb), i2_62⟩ | exact ⟨hFC, LV_p i1_62 hof hcn hXn, LV_q i2_62 hof hcn hXx q0 q2 (by omega)⟩))), hR⟩
            · refine lv_iload_n hx hb dX12_leavesPage_165 rfl (lv_at hl 3 rfl) ?_
              refine j_const hx hb dX12_leavesPage_166 ?_
              refine j_add hx hb dX12_leavesPage_167 ?_
              refine lv_goto (tgt := 173) hx hb dX12_leavesPage_168 (by decide) ?_
              refine j_ald hx hb hK hS hW hk_ea (n := 151) rfl (by omega) (by omega) (by decide) dX12_leavesPage_173 ?_
              have := abd hW hk_ea (n := 151) (lo := 0) (hi := 150) (i := v_2 + 1) rfl (by omega) (by omega)
              rw [Eea]
              try simp only [Eea] at this
              have hek : (σ_1 a0 4) ≤ (σ_1 (G a0 6) (v_2 + 1).toNat) ∧ (σ_1 (G a0 6) (v_2 + 1).toNat) < (σ_1 a0 5) := by first | exact hen.2.2.2.2.1 (v_2 + 1) (by omega) (by omega) | exact hen.2.2.2.2.1 (v_3) (by omega) (by omega)
              have hxl : (σ_1 (G a0 6)) 0 < (σ_1 (G a0 6) (v_2 + 1).toNat) := by first | exact ENI_lt hen hel (a := 0) (b := v_2 + 1) (by omega) (by omega) (by omega) | exact ENI_lt hen hel (a := 0) (b := v_3) (by omega) (by omega) (by omega)
              have hXn : ¬ LC (σ (G a0 0) 0) (σ (G a0 0) 1) (fun i => kO (σ (G a0 0)) i 0) (fun i => kB (σ (G a0 0)) i) (σ_1 (G a0 6) (v_2 + 1).toNat) x2 := fun z => absurd (LC_lo hox.2 hol.1 hol.2 hlb.2.2 hlb.1 hek.1 hek.2 z) (by omega)
              have hXx : LC (σ (G a0 0) 0) (σ (G a0 0) 1) (fun i => kO (σ (G a0 0)) i 0) (fun i => kB (σ (G a0 0)) i) x1 x2 → ¬ (σ_1 (G a0 6) (v_2 + 1).toNat) = x1 + 1 := fun z y => by (exfalso; have z0 := he00 z; omega)
              refine lv_iload_n hx hb dX12_leavesPage_174 rfl (lv_at hl 2 rfl) ?_
              refine j_const hx hb dX12_leavesPage_175 ?_
              refine j_cV (j_runV (As := [.int (jI (σ_1 (G a0 6) (v_2 + 1).toNat)), .int (jI x2), .int (jI 0)]) (rest := []) hx hb hml hown hts hK hS hW (kX12_marks l hS σL_62 (a0 := a0) (h0 := h0) (x1 := σ_1 (G a0 6) (v_2 + 1).toNat) (r1 := (by omega)) (x2 := x2) (r2 := (by omega)) (x3 := 0) (r3 := (by decide)) (q0 := (by omega)) (q1 := (by omega)) (q2 := (by omega)) (q3 := (by omega)) (q4 := (by omega)) (q5 := (by omega))) 3 gX12_leavesPage_X12_marks rfl hvX12_marks ⟨Nat.le_of_ble_eq_true rfl, Nat.le_of_ble_eq_true rfl⟩ rfl rfl h0 rfl rfl rfl rfl hl.1 rfl (Nat.le_of_ble_eq_true rfl) dX12_leavesPage_176 ⟨Nat.le_of_ble_eq_true rfl, Nat.le_of_ble_eq_true rfl⟩) hA hF (fun σ_15 H locs hW hF pσ_15 => ?_)
              try dsimp only at pσ_15
              obtain ⟨pσ_15, fpσ_15⟩ := pσ_15
              try simp only [Ehl, Ehand, Ekept, Elow, Ehigh, Eents, Eea] at pσ_15
              have q_marks := pσ_15
              have hR := fr_call hR fpσ_15 (by decide)
              have Ehl : σ_15 a0 3 = σ a0 3 := (fr_at fpσ_15 h0 3 13003 rfl (by decide)).trans Ehl
              have Ehand : σ_15 (G a0 2) = σ (G a0 2) := (row_fr fpσ_15 hk_hand 41 (by decide) (by decide)).trans Ehand
              have Ekept : σ_15 a0 1 = σ a0 1 := (fr_at fpσ_15 h0 1 13001 rfl (by decide)).trans Ekept
              have Elow : σ_15 a0 4 = σ_1 a0 4 := (fr_at fpσ_15 h0 4 13004 rfl (by decide)).trans Elow
              have Ehigh : σ_15 a0 5 = σ_1 a0 5 := (fr_at fpσ_15 h0 5 13005 rfl (by decide)).trans Ehigh
              have Eents : σ_15 a0 8 = σ_1 a0 8 := (fr_at fpσ_15 h0 8 13008 rfl (by decide)).trans Eents
              have Eea : σ_15 (G a0 6) = σ_1 (G a0 6) := (row_fr fpσ_15 hk_ea 42 (by decide) (by decide)).trans Eea
              obtain ⟨mv, hmv1, hmv2, hmv3⟩ := q_marks
              have hmrow : ∀ i w : Int, 0 ≤ i → 0 ≤ w → w < 27 → ¬ (i = (σ_1 (G a0 6) (v_2 + 1).toNat) ∧ w = 2) → kO (σ_15 (G a0 0)) i w = kO (σL_62 (G a0 0)) i w := fun i w i0 w0 w1 ne => by (rw [hmv2, up2_row]; first | exact kO_up i0 (by omega) ⟨w0, w1⟩ ⟨by omega, by omega⟩ ne | (rw [Efile]; exact kO_up i0 (by omega) ⟨w0, w1⟩ ⟨by omega, by omega⟩ ne))
              have hmat : kO (σ_15 (G a0 0)) (σ_1 (G a0 6) (v_2 + 1).toNat) 2 = mv := by (rw [hmv2, up2_row]; exact kO_up_at)
              have hFC : FC (σ (G a0 0)) (σ_15 (G a0 0)) := by first | exact FC_col hFC hmv2 (by omega) (by omega) | exact FC_col (by rw [Efile]; exact hFC) hmv2 (by omega) (by omega)
              have hI := FI_FC hI0 hFC (show σ_15 a0 1 = σ a0 1 from by first | rfl | exact Ekept)
              have hf0 := hFC.2 0 (by omega)
              have hf1 := hFC.2 1 (by omega)
              have hf2 := hFC.2 2 (by omega)
              have hof := com_off hmrow hmat hmv3 (by decide)
              refine lv_aload_n hx hb dX12_leavesPage_179 rfl (lv_at hl 1 rfl) ?_
              refine j_getR hx hb (C := RX12) (T := TX12) (N := 41) hts inX12_leavesPage_X12 hown hK hS hW h0 rfl 0 rfl rfl (by decide) (hts _ flX12_leavesPage_7) dX12_leavesPage_180 ?_
              refine j_const hx hb dX12_leavesPage_183 ?_
              refine lv_aload_n hx hb dX12_leavesPage_184 rfl (lv_at hl 1 rfl) ?_
              refine j_getR hx hb (C := RX12) (T := TX12) (N := 41) hts inX12_leavesPage_X12 hown hK hS hW h0 rfl 0 rfl rfl (by decide) (hts _ flX12_leavesPage_7) dX12_leavesPage_185 ?_
              refine j_const hx hb dX12_leavesPage_188 ?_
              refine j_ald hx hb hK hS hW hk_file (n := 17624) rfl (by omega) (by omega) (by decide) dX12_leavesPage_189 ?_
              have : -2147483648 ≤ σ_15 (G a0 0) 4 ∧ σ_15 (G a0 0) 4 ≤ 2147483647 := abd hW hk_file (n := 17624) (lo := -2147483648) (hi := 2147483647) (i := 4) rfl (by decide) (by decide)
              refine j_eq (z := σ_15 (G a0 0) 4) rfl ?_
              have := FI_bd hI
              refine j_const hx hb dX12_leavesPage_190 ?_
              refine j_add hx hb dX12_leavesPage_191 ?_
              refine j_wrap (fun z_16 rz_16 ez_16 => ?_)
              refine j_ast hx hb hK hS hA hW hF hk_file (n := 17624) (lo := -2147483648) (hi := 2147483647) rfl (by omega) (by omega) (by decide) (by omega) dX12_leavesPage_192 (fun σ_17 H locs e_18 hW hF => ?_)
              have st_file := e_18
              have hR := fr_up hR e_18 hk_file 40000 (cdA 40 (by decide) _) (by decide)
              have Ehl : σ_17 a0 3 = σ a0 3 := (fld_up e_18 hk_file h0 (fun q => absurd q.1 (by decide))).trans Ehl
              have Ehand : σ_17 (G a0 2) = σ (G a0 2) := (row_up e_18 hk_file hk_hand (by decide)).trans Ehand
              have Ekept : σ_17 a0 1 = σ a0 1 := (fld_up e_18 hk_file h0 (fun q => absurd q.1 (by decide))).trans Ekept
              have Elow : σ_17 a0 4 = σ_1 a0 4 := (fld_up e_18 hk_file h0 (fun q => absurd q.1 (by decide))).trans Elow
              have Ehigh : σ_17 a0 5 = σ_1 a0 5 := (fld_up e_18 hk_file h0 (fun q => absurd q.1 (by decide))).trans Ehigh
              have Eents : σ_17 a0 8 = σ_1 a0 8 := (fld_up e_18 hk_file h0 (fun q => absurd q.1 (by decide))).trans Eents
              have Eea : σ_17 (G a0 6) = σ_1 (G a0 6) := (row_up e_18 hk_file hk_ea (by decide)).trans Eea
              have hFC : FC (σ (G a0 0)) (σ_17 (G a0 0)) := by first | exact FC_cnt hFC e_18 (by decide) (by decide) | exact FC_cnt (by rw [Efile]; exact hFC) e_18 (by decide) (by decide)
              have hcn := kO_cnt e_18 (by decide)
              try simp only [Efile] at hcn
              have hI := FI_FC hI0 hFC (show σ_17 a0 1 = σ a0 1 from by first | rfl | exact Ekept)
              have hf0 := hFC.2 0 (by omega)
              have hf1 := hFC.2 1 (by omega)
              have hf2 := hFC.2 2 (by omega)
              exact hRet 193 _ _ _ _ dX12_leavesPage_193 hW hF ⟨(by first | exact (by first | exact ⟨hFC, fun p d p0 p1 d0 d1 hb => Or.inl (i1_62 p d p0 d0 d1 hb), i2_62⟩ | exact ⟨hFC, LV_p i1_62 hof hcn hXn, LV_q i2_62 hof hcn hXx q0 q2 (by omega)⟩) | (simp only [Ehl, Ehand, Ekept, Elow, Ehigh, Eents, Eea]; exact (by first | exact ⟨hFC, fun p d p0 p1 d0 d1 hb => Or.inl (i1_62 p d p0 d0 d1 hb), i2_62⟩ | exact ⟨hFC, LV_p i1_62 hof hcn hXn, LV_q i2_62 hof hcn hXx q0 q2 (by omega)⟩))), hR⟩
      · refine lv_iload hx hb dX12_leavesPage_81 (lv_at hl 6 rfl) ?_
        refine lv_aload_n hx hb dX12_leavesPage_83 rfl (lv_at hl 1 rfl) ?_
        refine lv_iload hx hb dX12_leavesPage_84 (lv_at hl 5 rfl) ?_
        refine lv_iload_n hx hb dX12_leavesPage_86 rfl (lv_at hl 2 rfl) ?_
        refine j_cR (j_runV (As := [.int (jI v_4), .int (jI x2)]) (rest := [.int (jI ((v_4 - v_3) - 1))]) hx hb hml hown hts hK hS hW (kX12_pageEnd l hS σL_62 (a0 := a0) (h0 := h0) (x1 := v_4) (r1 := (by omega)) (x2 := x2) (r2 := (by omega)) (q0 := (by omega)) (q1 := (by omega)) (q2 := (by omega)) (q3 := (by omega))) 2 gX12_leavesPage_X12_pageEnd rfl hvX12_pageEnd ⟨Nat.le_of_ble_eq_true rfl, Nat.le_of_ble_eq_true rfl⟩ rfl rfl h0 rfl rfl rfl rfl hl.1 rfl (Nat.le_of_ble_eq_true rfl) dX12_leavesPage_87 ⟨Nat.le_of_ble_eq_true rfl, Nat.le_of_ble_eq_true rfl⟩) (fun v_19 rv_19 pv_19 => ?_)
        try dsimp only at pv_19
        try simp only [Ehl, Ehand, Ekept, Elow, Ehigh, Eents, Eea] at pv_19
        have q_pageEnd := pv_19
        refine j_add hx hb dX12_leavesPage_90 ?_
        refine lv_iload hx hb dX12_leavesPage_91 (lv_at hl 5 rfl) ?_
        refine j_sub hx hb dX12_leavesPage_93 ?_
        refine lv_iload hx hb dX12_leavesPage_94 (lv_at hl 0 rfl) ?_
        refine j_icmp_gt (tgt := 129) hx hb (by omega) (by omega) dX12_leavesPage_96 (by decide) (fun c_20 => ?_) (fun c_20 => ?_)
        · refine lv_iload hx hb dX12_leavesPage_129 (lv_at hl 4 rfl) ?_
          refine j_if_le (tgt := 193) hx hb (by omega) dX12_leavesPage_131 (by decide) (fun c_21 => ?_) (fun c_21 => ?_)
          · exact hRet 193 _ _ _ _ dX12_leavesPage_193 hW hF ⟨(by first | exact (by first | exact ⟨hFC, fun p d p0 p1 d0 d1 hb => Or.inl (i1_62 p d p0 d0 d1 hb), i2_62⟩ | exact ⟨hFC, LV_p i1_62 hof hcn hXn, LV_q i2_62 hof hcn hXx q0 q2 (by omega)⟩) | (simp only [Ehl, Ehand, Ekept, Elow, Ehigh, Eents, Eea]; exact (by first | exact ⟨hFC, fun p d p0 p1 d0 d1 hb => Or.inl (i1_62 p d p0 d0 d1 hb), i2_62⟩ | exact ⟨hFC, LV_p i1_62 hof hcn hXn, LV_q i2_62 hof hcn hXx q0 q2 (by omega)⟩))), hR⟩
          · refine lv_iload hx hb dX12_leavesPage_134 (lv_at hl 6 rfl) ?_
            refine lv_iload hx hb dX12_leavesPage_136 (lv_at hl 4 rfl) ?_
            refine j_add hx hb dX12_leavesPage_138 ?_
            refine lv_aload_n hx hb dX12_leavesPage_139 rfl (lv_at hl 1 rfl) ?_
            refine lv_iload hx hb dX12_leavesPage_140 (lv_at hl 4 rfl) ?_
            refine j_const hx hb dX12_leavesPage_142 ?_
            refine j_sub hx hb dX12_leavesPage_143 ?_
            refine lv_iload_n hx hb dX12_leavesPage_144 rfl (lv_at hl 2 rfl) ?_
            refine j_cR (j_runV (As := [.int (jI (v_3 - 1)), .int (jI x2)]) (rest := [.int (jI (((v_4 - v_3) - 1) + v_3))]) hx hb hml hown hts hK hS hW (kX12_pageBegin l hS σL_62 (a0 := a0) (h0 := h0) (x1 := v_3 - 1) (r1 := (by omega)) (x2 := x2) (r2 := (by omega)) (q0 := (by omega)) (q1 := (by omega)) (q2 := (by omega)) (q3 := (by omega)) (q4 := (by first | (rw [he2]; exact hbl62) | (rw [Eea, he2]; exact hbl62) | (simp only [Eea, Efile]; rw [he2]; exact hbl62)))) 2 gX12_leavesPage_X12_pageBegin rfl hvX12_pageBegin ⟨Nat.le_of_ble_eq_true rfl, Nat.le_of_ble_eq_true rfl⟩ rfl rfl h0 rfl rfl rfl rfl hl.1 rfl (Nat.le_of_ble_eq_true rfl) dX12_leavesPage_145 ⟨Nat.le_of_ble_eq_true rfl, Nat.le_of_ble_eq_true rfl⟩) (fun v_22 rv_22 pv_22 => ?_)
            try dsimp only at pv_22
            try simp only [Ehl, Ehand, Ekept, Elow, Ehigh, Eents, Eea] at pv_22
            have q_pageBegin := pv_22
            refine j_sub hx hb dX12_leavesPage_148 ?_
            refine lv_iload hx hb dX12_leavesPage_149 (lv_at hl 0 rfl) ?_
            refine j_icmp_gt (tgt := 193) hx hb (by omega) (by omega) dX12_leavesPage_151 (by decide) (fun c_23 => ?_) (fun c_23 => ?_)
            · exact hRet 193 _ _ _ _ dX12_leavesPage_193 hW hF ⟨(by first | exact (by first | exact ⟨hFC, fun p d p0 p1 d0 d1 hb => Or.inl (i1_62 p d p0 d0 d1 hb), i2_62⟩ | exact ⟨hFC, LV_p i1_62 hof hcn hXn, LV_q i2_62 hof hcn hXx q0 q2 (by omega)⟩) | (simp only [Ehl, Ehand, Ekept, Elow, Ehigh, Eents, Eea]; exact (by first | exact ⟨hFC, fun p d p0 p1 d0 d1 hb => Or.inl (i1_62 p d p0 d0 d1 hb), i2_62⟩ | exact ⟨hFC, LV_p i1_62 hof hcn hXn, LV_q i2_62 hof hcn hXx q0 q2 (by omega)⟩))), hR⟩
            · refine lv_aload_n hx hb dX12_leavesPage_154 rfl (lv_at hl 1 rfl) ?_
              refine lv_aload_n hx hb dX12_leavesPage_155 rfl (lv_at hl 1 rfl) ?_
              refine j_getR hx hb (C := RX12) (T := TX12) (N := 41) hts inX12_leavesPage_X12 hown hK hS hW h0 rfl 6 rfl rfl (by decide) (hts _ flX12_leavesPage_16) dX12_leavesPage_156 ?_
              refine lv_iload_n hx hb dX12_leavesPage_159 rfl (lv_at hl 3 rfl) ?_
              refine lv_iload hx hb dX12_leavesPage_160 (lv_at hl 4 rfl) ?_
              refine j_icmp_ne (tgt := 171) hx hb (by omega) (by omega) dX12_leavesPage_162 (by decide) (fun c_24 => ?_) (fun c_24 => ?_)
              · refine lv_iload hx hb dX12_leavesPage_171 (lv_at hl 4 rfl) ?_
                refine j_ald hx hb hK hS hW hk_ea (n := 151) rfl (by omega) (by omega) (by decide) dX12_leavesPage_173 ?_
                have := abd hW hk_ea (n := 151) (lo := 0) (hi := 150) (i := v_3) rfl (by omega) (by omega)
                rw [Eea]
                try simp only [Eea] at this
                have hek : (σ_1 a0 4) ≤ (σ_1 (G a0 6) (v_3).toNat) ∧ (σ_1 (G a0 6) (v_3).toNat) < (σ_1 a0 5) := by first | exact hen.2.2.2.2.1 (v_2 + 1) (by omega) (by omega) | exact hen.2.2.2.2.1 (v_3) (by omega) (by omega)
                have hxl : (σ_1 (G a0 6)) 0 < (σ_1 (G a0 6) (v_3).toNat) := by first | exact ENI_lt hen hel (a := 0) (b := v_2 + 1) (by omega) (by omega) (by omega) | exact ENI_lt hen hel (a := 0) (b := v_3) (by omega) (by omega) (by omega)
                have hXn : ¬ LC (σ (G a0 0) 0) (σ (G a0 0) 1) (fun i => kO (σ (G a0 0)) i 0) (fun i => kB (σ (G a0 0)) i) (σ_1 (G a0 6) (v_3).toNat) x2 := fun z => absurd (LC_lo hox.2 hol.1 hol.2 hlb.2.2 hlb.1 hek.1 hek.2 z) (by omega)
                have hXx : LC (σ (G a0 0) 0) (σ (G a0 0) 1) (fun i => kO (σ (G a0 0)) i 0) (fun i => kB (σ (G a0 0)) i) x1 x2 → ¬ (σ_1 (G a0 6) (v_3).toNat) = x1 + 1 := fun z y => by (exfalso; have z0 := he00 z; omega)
                refine lv_iload_n hx hb dX12_leavesPage_174 rfl (lv_at hl 2 rfl) ?_
                refine j_const hx hb dX12_leavesPage_175 ?_
                refine j_cV (j_runV (As := [.int (jI (σ_1 (G a0 6) (v_3).toNat)), .int (jI x2), .int (jI 0)]) (rest := []) hx hb hml hown hts hK hS hW (kX12_marks l hS σL_62 (a0 := a0) (h0 := h0) (x1 := σ_1 (G a0 6) (v_3).toNat) (r1 := (by omega)) (x2 := x2) (r2 := (by omega)) (x3 := 0) (r3 := (by decide)) (q0 := (by omega)) (q1 := (by omega)) (q2 := (by omega)) (q3 := (by omega)) (q4 := (by omega)) (q5 := (by omega))) 3 gX12_leavesPage_X12_marks rfl hvX12_marks ⟨Nat.le_of_ble_eq_true rfl, Nat.le_of_ble_eq_true rfl⟩ rfl rfl h0 rfl rfl rfl rfl hl.1 rfl (Nat.le_of_ble_eq_true rfl) dX12_leavesPage_176 ⟨Nat.le_of_ble_eq_true rfl, Nat.le_of_ble_eq_true rfl⟩) hA hF (fun σ_25 H locs hW hF pσ_25 => ?_)
                try dsimp only at pσ_25
                obtain ⟨pσ_25, fpσ_25⟩ := pσ_25
                try simp only [Ehl, Ehand, Ekept, Elow, Ehigh, Eents, Eea] at pσ_25
                have q_marks := pσ_25
                have hR := fr_call hR fpσ_25 (by decide)
                have Ehl : σ_25 a0 3 = σ a0 3 := (fr_at fpσ_25 h0 3 13003 rfl (by decide)).trans Ehl
                have Ehand : σ_25 (G a0 2) = σ (G a0 2) := (row_fr fpσ_25 hk_hand 41 (by decide) (by decide)).trans Ehand
                have Ekept : σ_25 a0 1 = σ a0 1 := (fr_at fpσ_25 h0 1 13001 rfl (by decide)).trans Ekept
                have Elow : σ_25 a0 4 = σ_1 a0 4 := (fr_at fpσ_25 h0 4 13004 rfl (by decide)).trans Elow
                have Ehigh : σ_25 a0 5 = σ_1 a0 5 := (fr_at fpσ_25 h0 5 13005 rfl (by decide)).trans Ehigh
                have Eents : σ_25 a0 8 = σ_1 a0 8 := (fr_at fpσ_25 h0 8 13008 rfl (by decide)).trans Eents
                have Eea : σ_25 (G a0 6) = σ_1 (G a0 6) := (row_fr fpσ_25 hk_ea 42 (by decide) (by decide)).trans Eea
                obtain ⟨mv, hmv1, hmv2, hmv3⟩ := q_marks
                have hmrow : ∀ i w : Int, 0 ≤ i → 0 ≤ w → w < 27 → ¬ (i = (σ_1 (G a0 6) (v_3).toNat) ∧ w = 2) → kO (σ_25 (G a0 0)) i w = kO (σL_62 (G a0 0)) i w := fun i w i0 w0 w1 ne => by (rw [hmv2, up2_row]; first | exact kO_up i0 (by omega) ⟨w0, w1⟩ ⟨by omega, by omega⟩ ne | (rw [Efile]; exact kO_up i0 (by omega) ⟨w0, w1⟩ ⟨by omega, by omega⟩ ne))
                have hmat : kO (σ_25 (G a0 0)) (σ_1 (G a0 6) (v_3).toNat) 2 = mv := by (rw [hmv2, up2_row]; exact kO_up_at)
                have hFC : FC (σ (G a0 0)) (σ_25 (G a0 0)) := by first | exact FC_col hFC hmv2 (by omega) (by omega) | exact FC_col (by rw [Efile]; exact hFC) hmv2 (by omega) (by omega)
                have hI := FI_FC hI0 hFC (show σ_25 a0 1 = σ a0 1 from by first | rfl | exact Ekept)
                have hf0 := hFC.2 0 (by omega)
                have hf1 := hFC.2 1 (by omega)
                have hf2 := hFC.2 2 (by omega)
                have hof := com_off hmrow hmat hmv3 (by decide)
                refine lv_aload_n hx hb dX12_leavesPage_179 rfl (lv_at hl 1 rfl) ?_
                refine j_getR hx hb (C := RX12) (T := TX12) (N := 41) hts inX12_leavesPage_X12 hown hK hS hW h0 rfl 0 rfl rfl (by decide) (hts _ flX12_leavesPage_7) dX12_leavesPage_180 ?_
                refine j_const hx hb dX12_leavesPage_183 ?_
                refine lv_aload_n hx hb dX12_leavesPage_184 rfl (lv_at hl 1 rfl) ?_
                refine j_getR hx hb (C := RX12) (T := TX12) (N := 41) hts inX12_leavesPage_X12 hown hK hS hW h0 rfl 0 rfl rfl (by decide) (hts _ flX12_leavesPage_7) dX12_leavesPage_185 ?_
                refine j_const hx hb dX12_leavesPage_188 ?_
                refine j_ald hx hb hK hS hW hk_file (n := 17624) rfl (by omega) (by omega) (by decide) dX12_leavesPage_189 ?_
                have : -2147483648 ≤ σ_25 (G a0 0) 4 ∧ σ_25 (G a0 0) 4 ≤ 2147483647 := abd hW hk_file (n := 17624) (lo := -2147483648) (hi := 2147483647) (i := 4) rfl (by decide) (by decide)
                refine j_eq (z := σ_25 (G a0 0) 4) rfl ?_
                have := FI_bd hI
                refine j_const hx hb dX12_leavesPage_190 ?_
                refine j_add hx hb dX12_leavesPage_191 ?_
                refine j_wrap (fun z_26 rz_26 ez_26 => ?_)
                refine j_ast hx hb hK hS hA hW hF hk_file (n := 17624) (lo := -2147483648) (hi := 2147483647) rfl (by omega) (by omega) (by decide) (by omega) dX12_leavesPage_192 (fun σ_27 H locs e_28 hW hF => ?_)
                have st_file := e_28
                have hR := fr_up hR e_28 hk_file 40000 (cdA 40 (by decide) _) (by decide)
                have Ehl : σ_27 a0 3 = σ a0 3 := (fld_up e_28 hk_file h0 (fun q => absurd q.1 (by decide))).trans Ehl
                have Ehand : σ_27 (G a0 2) = σ (G a0 2) := (row_up e_28 hk_file hk_hand (by decide)).trans Ehand
                have Ekept : σ_27 a0 1 = σ a0 1 := (fld_up e_28 hk_file h0 (fun q => absurd q.1 (by decide))).trans Ekept
                have Elow : σ_27 a0 4 = σ_1 a0 4 := (fld_up e_28 hk_file h0 (fun q => absurd q.1 (by decide))).trans Elow
                have Ehigh : σ_27 a0 5 = σ_1 a0 5 := (fld_up e_28 hk_file h0 (fun q => absurd q.1 (by decide))).trans Ehigh
                have Eents : σ_27 a0 8 = σ_1 a0 8 := (fld_up e_28 hk_file h0 (fun q => absurd q.1 (by decide))).trans Eents
                have Eea : σ_27 (G a0 6) = σ_1 (G a0 6) := (row_up e_28 hk_file hk_ea (by decide)).trans Eea
                have hFC : FC (σ (G a0 0)) (σ_27 (G a0 0)) := by first | exact FC_cnt hFC e_28 (by decide) (by decide) | exact FC_cnt (by rw [Efile]; exact hFC) e_28 (by decide) (by decide)
                have hcn := kO_cnt e_28 (by decide)
                try simp only [Efile] at hcn
                have hI := FI_FC hI0 hFC (show σ_27 a0 1 = σ a0 1 from by first | rfl | exact Ekept)
                have hf0 := hFC.2 0 (by omega)
                have hf1 := hFC.2 1 (by omega)
                have hf2 := hFC.2 2 (by omega)
                exact hRet 193 _ _ _ _ dX12_leavesPage_193 hW hF ⟨(by first | exact (by first | exact ⟨hFC, fun p d p0 p1 d0 d1 hb => Or.inl (i1_62 p d p0 d0 d1 hb), i2_62⟩ | exact ⟨hFC, LV_p i1_62 hof hcn hXn, LV_q i2_62 hof hcn hXx q0 q2 (by omega)⟩) | (simp only [Ehl, Ehand, Ekept, Elow, Ehigh, Eents, Eea]; exact (by first | exact ⟨hFC, fun p d p0 p1 d0 d1 hb => Or.inl (i1_62 p d p0 d0 d1 hb), i2_62⟩ | exact ⟨hFC, LV_p i1_62 hof hcn hXn, LV_q i2_62 hof hcn hXx q0 q2 (by omega)⟩))), hR⟩
              · refine lv_iload_n hx hb dX12_leavesPage_165 rfl (lv_at hl 3 rfl) ?_
                refine j_const hx hb dX12_leavesPage_166 ?_
                refine j_add hx hb dX12_leavesPage_167 ?_
                refine lv_goto (tgt := 173) hx hb dX12_leavesPage_168 (by decide) ?_
                refine j_ald hx hb hK hS hW hk_ea (n := 151) rfl (by omega) (by omega) (by decide) dX12_leavesPage_173 ?_
                have := abd hW hk_ea (n := 151) (lo := 0) (hi := 150) (i := v_2 + 1) rfl (by omega) (by omega)
                rw [Eea]
                try simp only [Eea] at this
                have hek : (σ_1 a0 4) ≤ (σ_1 (G a0 6) (v_2 + 1).toNat) ∧ (σ_1 (G a0 6) (v_2 + 1).toNat) < (σ_1 a0 5) := by first | exact hen.2.2.2.2.1 (v_2 + 1) (by omega) (by omega) | exact hen.2.2.2.2.1 (v_3) (by omega) (by omega)
                have hxl : (σ_1 (G a0 6)) 0 < (σ_1 (G a0 6) (v_2 + 1).toNat) := by first | exact ENI_lt hen hel (a := 0) (b := v_2 + 1) (by omega) (by omega) (by omega) | exact ENI_lt hen hel (a := 0) (b := v_3) (by omega) (by omega) (by omega)
                have hXn : ¬ LC (σ (G a0 0) 0) (σ (G a0 0) 1) (fun i => kO (σ (G a0 0)) i 0) (fun i => kB (σ (G a0 0)) i) (σ_1 (G a0 6) (v_2 + 1).toNat) x2 := fun z => absurd (LC_lo hox.2 hol.1 hol.2 hlb.2.2 hlb.1 hek.1 hek.2 z) (by omega)
                have hXx : LC (σ (G a0 0) 0) (σ (G a0 0) 1) (fun i => kO (σ (G a0 0)) i 0) (fun i => kB (σ (G a0 0)) i) x1 x2 → ¬ (σ_1 (G a0 6) (v_2 + 1).toNat) = x1 + 1 := fun z y => by (exfalso; have z0 := he00 z; omega)
                refine lv_iload_n hx hb dX12_leavesPage_174 rfl (lv_at hl 2 rfl) ?_
                refine j_const hx hb dX12_leavesPage_175 ?_
                refine j_cV (j_runV (As := [.int (jI (σ_1 (G a0 6) (v_2 + 1).toNat)), .int (jI x2), .int (jI 0)]) (rest := []) hx hb hml hown hts hK hS hW (kX12_marks l hS σL_62 (a0 := a0) (h0 := h0) (x1 := σ_1 (G a0 6) (v_2 + 1).toNat) (r1 := (by omega)) (x2 := x2) (r2 := (by omega)) (x3 := 0) (r3 := (by decide)) (q0 := (by omega)) (q1 := (by omega)) (q2 := (by omega)) (q3 := (by omega)) (q4 := (by omega)) (q5 := (by omega))) 3 gX12_leavesPage_X12_marks rfl hvX12_marks ⟨Nat.le_of_ble_eq_true rfl, Nat.le_of_ble_eq_true rfl⟩ rfl rfl h0 rfl rfl rfl rfl hl.1 rfl (Nat.le_of_ble_eq_true rfl) dX12_leavesPage_176 ⟨Nat.le_of_ble_eq_true rfl, Nat.le_of_ble_eq_true rfl⟩) hA hF (fun σ_29 H locs hW hF pσ_29 => ?_)
                try dsimp only at pσ_29
                obtain ⟨pσ_29, fpσ_29⟩ := pσ_29
                try simp only [Ehl, Ehand, Ekept, Elow, Ehigh, Eents, Eea] at pσ_29
                have q_marks := pσ_29
                have hR := fr_call hR fpσ_29 (by decide)
                have Ehl : σ_29 a0 3 = σ a0 3 := (fr_at fpσ_29 h0 3 13003 rfl (by decide)).trans Ehl
                have Ehand : σ_29 (G a0 2) = σ (G a0 2) := (row_fr fpσ_29 hk_hand 41 (by decide) (by decide)).trans Ehand
                have Ekept : σ_29 a0 1 = σ a0 1 := (fr_at fpσ_29 h0 1 13001 rfl (by decide)).trans Ekept
                have Elow : σ_29 a0 4 = σ_1 a0 4 := (fr_at fpσ_29 h0 4 13004 rfl (by decide)).trans Elow
                have Ehigh : σ_29 a0 5 = σ_1 a0 5 := (fr_at fpσ_29 h0 5 13005 rfl (by decide)).trans Ehigh
                have Eents : σ_29 a0 8 = σ_1 a0 8 := (fr_at fpσ_29 h0 8 13008 rfl (by decide)).trans Eents
                have Eea : σ_29 (G a0 6) = σ_1 (G a0 6) := (row_fr fpσ_29 hk_ea 42 (by decide) (by decide)).trans Eea
                obtain ⟨mv, hmv1, hmv2, hmv3⟩ := q_marks
                have hmrow : ∀ i w : Int, 0 ≤ i → 0 ≤ w → w < 27 → ¬ (i = (σ_1 (G a0 6) (v_2 + 1).toNat) ∧ w = 2) → kO (σ_29 (G a0 0)) i w = kO (σL_62 (G a0 0)) i w := fun i w i0 w0 w1 ne => by (rw [hmv2, up2_row]; first | exact kO_up i0 (by omega) ⟨w0, w1⟩ ⟨by omega, by omega⟩ ne | (rw [Efile]; exact kO_up i0 (by omega) ⟨w0, w1⟩ ⟨by omega, by omega⟩ ne))
                have hmat : kO (σ_29 (G a0 0)) (σ_1 (G a0 6) (v_2 + 1).toNat) 2 = mv := by (rw [hmv2, up2_row]; exact kO_up_at)
                have hFC : FC (σ (G a0 0)) (σ_29 (G a0 0)) := by first | exact FC_col hFC hmv2 (by omega) (by omega) | exact FC_col (by rw [Efile]; exact hFC) hmv2 (by omega) (by omega)
                have hI := FI_FC hI0 hFC (show σ_29 a0 1 = σ a0 1 from by first | rfl | exact Ekept)
                have hf0 := hFC.2 0 (by omega)
                have hf1 := hFC.2 1 (by omega)
                have hf2 := hFC.2 2 (by omega)
                have hof := com_off hmrow hmat hmv3 (by decide)
                refine lv_aload_n hx hb dX12_leavesPage_179 rfl (lv_at hl 1 rfl) ?_
                refine j_getR hx hb (C := RX12) (T := TX12) (N := 41) hts inX12_leavesPage_X12 hown hK hS hW h0 rfl 0 rfl rfl (by decide) (hts _ flX12_leavesPage_7) dX12_leavesPage_180 ?_
                refine j_const hx hb dX12_leavesPage_183 ?_
                refine lv_aload_n hx hb dX12_leavesPage_184 rfl (lv_at hl 1 rfl) ?_
                refine j_getR hx hb (C := RX12) (T := TX12) (N := 41) hts inX12_leavesPage_X12 hown hK hS hW h0 rfl 0 rfl rfl (by decide) (hts _ flX12_leavesPage_7) dX12_leavesPage_185 ?_
                refine j_const hx hb dX12_leavesPage_188 ?_
                refine j_ald hx hb hK hS hW hk_file (n := 17624) rfl (by omega) (by omega) (by decide) dX12_leavesPage_189 ?_
                have : -2147483648 ≤ σ_29 (G a0 0) 4 ∧ σ_29 (G a0 0) 4 ≤ 2147483647 := abd hW hk_file (n := 17624) (lo := -2147483648) (hi := 2147483647) (i := 4) rfl (by decide) (by decide)
                refine j_eq (z := σ_29 (G a0 0) 4) rfl ?_
                have := FI_bd hI
                refine j_const hx hb dX12_leavesPage_190 ?_
                refine j_add hx hb dX12_leavesPage_191 ?_
                refine j_wrap (fun z_30 rz_30 ez_30 => ?_)
                refine j_ast hx hb hK hS hA hW hF hk_file (n := 17624) (lo := -2147483648) (hi := 2147483647) rfl (by omega) (by omega) (by decide) (by omega) dX12_leavesPage_192 (fun σ_31 H locs e_32 hW hF => ?_)
                have st_file := e_32
                have hR := fr_up hR e_32 hk_file 40000 (cdA 40 (by decide) _) (by decide)
                have Ehl : σ_31 a0 3 = σ a0 3 := (fld_up e_32 hk_file h0 (fun q => absurd q.1 (by decide))).trans Ehl
                have Ehand : σ_31 (G a0 2) = σ (G a0 2) := (row_up e_32 hk_file hk_hand (by decide)).trans Ehand
                have Ekept : σ_31 a0 1 = σ a0 1 := (fld_up e_32 hk_file h0 (fun q => absurd q.1 (by decide))).trans Ekept
                have Elow : σ_31 a0 4 = σ_1 a0 4 := (fld_up e_32 hk_file h0 (fun q => absurd q.1 (by decide))).trans Elow
                have Ehigh : σ_31 a0 5 = σ_1 a0 5 := (fld_up e_32 hk_file h0 (fun q => absurd q.1 (by decide))).trans Ehigh
                have Eents : σ_31 a0 8 = σ_1 a0 8 := (fld_up e_32 hk_file h0 (fun q => absurd q.1 (by decide))).trans Eents
                have Eea : σ_31 (G a0 6) = σ_1 (G a0 6) := (row_up e_32 hk_file hk_ea (by decide)).trans Eea
                have hFC : FC (σ (G a0 0)) (σ_31 (G a0 0)) := by first | exact FC_cnt hFC e_32 (by decide) (by decide) | exact FC_cnt (by rw [Efile]; exact hFC) e_32 (by decide) (by decide)
                have hcn := kO_cnt e_32 (by decide)
                try simp only [Efile] at hcn
                have hI := FI_FC hI0 hFC (show σ_31 a0 1 = σ a0 1 from by first | rfl | exact Ekept)
                have hf0 := hFC.2 0 (by omega)
                have hf1 := hFC.2 1 (by omega)
                have hf2 := hFC.2 2 (by omega)
                exact hRet 193 _ _ _ _ dX12_leavesPage_193 hW hF ⟨(by first | exact (by first | exact ⟨hFC, fun p d p0 p1 d0 d1 hb => Or.inl (i1_62 p d p0 d0 d1 hb), i2_62⟩ | exact ⟨hFC, LV_p i1_62 hof hcn hXn, LV_q i2_62 hof hcn hXx q0 q2 (by omega)⟩) | (simp only [Ehl, Ehand, Ekept, Elow, Ehigh, Eents, Eea]; exact (by first | exact ⟨hFC, fun p d p0 p1 d0 d1 hb => Or.inl (i1_62 p d p0 d0 d1 hb), i2_62⟩ | exact ⟨hFC, LV_p i1_62 hof hcn hXn, LV_q i2_62 hof hcn hXx q0 q2 (by omega)⟩))), hR⟩
        · refine lv_aload_n hx hb dX12_leavesPage_99 rfl (lv_at hl 1 rfl) ?_
          refine lv_aload_n hx hb dX12_leavesPage_100 rfl (lv_at hl 1 rfl) ?_
          refine j_getR hx hb (C := RX12) (T := TX12) (N := 41) hts inX12_leavesPage_X12 hown hK hS hW h0 rfl 6 rfl rfl (by decide) (hts _ flX12_leavesPage_16) dX12_leavesPage_101 ?_
          refine lv_iload hx hb dX12_leavesPage_104 (lv_at hl 5 rfl) ?_
          refine j_ald hx hb hK hS hW hk_ea (n := 151) rfl (by omega) (by omega) (by decide) dX12_leavesPage_106 ?_
          have := abd hW hk_ea (n := 151) (lo := 0) (hi := 150) (i := v_4) rfl (by omega) (by omega)
          rw [Eea]
          try simp only [Eea] at this
          have hek : (σ_1 a0 4) ≤ (σ_1 (G a0 6) (v_4).toNat) ∧ (σ_1 (G a0 6) (v_4).toNat) < (σ_1 a0 5) := hen.2.2.2.2.1 (v_4) (by omega) (by omega)
          have hxl : (σ_1 (G a0 6)) 0 < (σ_1 (G a0 6) (v_4).toNat) := ENI_lt hen hel (a := 0) (b := v_4) (by omega) (by omega) (by omega)
          have hXn : ¬ LC (σ (G a0 0) 0) (σ (G a0 0) 1) (fun i => kO (σ (G a0 0)) i 0) (fun i => kB (σ (G a0 0)) i) (σ_1 (G a0 6) (v_4).toNat) x2 := fun z => absurd (LC_lo hox.2 hol.1 hol.2 hlb.2.2 hlb.1 hek.1 hek.2 z) (by omega)
          have hXx : LC (σ (G a0 0) 0) (σ (G a0 0) 1) (fun i => kO (σ (G a0 0)) i 0) (fun i => kB (σ (G a0 0)) i) x1 x2 → ¬ (σ_1 (G a0 6) (v_4).toNat) = x1 + 1 := fun z y => by (have z0 := he00 z; have h_ : (σ_1 (G a0 6)) (v_2 + 1).toNat < (σ_1 (G a0 6)) (v_4).toNat := ENI_lt hen hel (a := v_2 + 1) (b := v_4) (by omega) (by omega) (by omega); omega)
          refine lv_iload_n hx hb dX12_leavesPage_107 rfl (lv_at hl 2 rfl) ?_
          refine j_const hx hb dX12_leavesPage_108 ?_
          refine j_cV (j_runV (As := [.int (jI (σ_1 (G a0 6) (v_4).toNat)), .int (jI x2), .int (jI 0)]) (rest := []) hx hb hml hown hts hK hS hW (kX12_marks l hS σL_62 (a0 := a0) (h0 := h0) (x1 := σ_1 (G a0 6) (v_4).toNat) (r1 := (by omega)) (x2 := x2) (r2 := (by omega)) (x3 := 0) (r3 := (by decide)) (q0 := (by omega)) (q1 := (by omega)) (q2 := (by omega)) (q3 := (by omega)) (q4 := (by omega)) (q5 := (by omega))) 3 gX12_leavesPage_X12_marks rfl hvX12_marks ⟨Nat.le_of_ble_eq_true rfl, Nat.le_of_ble_eq_true rfl⟩ rfl rfl h0 rfl rfl rfl rfl hl.1 rfl (Nat.le_of_ble_eq_true rfl) dX12_leavesPage_109 ⟨Nat.le_of_ble_eq_true rfl, Nat.le_of_ble_eq_true rfl⟩) hA hF (fun σ_33 H locs hW hF pσ_33 => ?_)
          try dsimp only at pσ_33
          obtain ⟨pσ_33, fpσ_33⟩ := pσ_33
          try simp only [Ehl, Ehand, Ekept, Elow, Ehigh, Eents, Eea] at pσ_33
          have q_marks := pσ_33
          have hR := fr_call hR fpσ_33 (by decide)
          have Ehl : σ_33 a0 3 = σ a0 3 := (fr_at fpσ_33 h0 3 13003 rfl (by decide)).trans Ehl
          have Ehand : σ_33 (G a0 2) = σ (G a0 2) := (row_fr fpσ_33 hk_hand 41 (by decide) (by decide)).trans Ehand
          have Ekept : σ_33 a0 1 = σ a0 1 := (fr_at fpσ_33 h0 1 13001 rfl (by decide)).trans Ekept
          have Elow : σ_33 a0 4 = σ_1 a0 4 := (fr_at fpσ_33 h0 4 13004 rfl (by decide)).trans Elow
          have Ehigh : σ_33 a0 5 = σ_1 a0 5 := (fr_at fpσ_33 h0 5 13005 rfl (by decide)).trans Ehigh
          have Eents : σ_33 a0 8 = σ_1 a0 8 := (fr_at fpσ_33 h0 8 13008 rfl (by decide)).trans Eents
          have Eea : σ_33 (G a0 6) = σ_1 (G a0 6) := (row_fr fpσ_33 hk_ea 42 (by decide) (by decide)).trans Eea
          obtain ⟨mv, hmv1, hmv2, hmv3⟩ := q_marks
          have hmrow : ∀ i w : Int, 0 ≤ i → 0 ≤ w → w < 27 → ¬ (i = (σ_1 (G a0 6) (v_4).toNat) ∧ w = 2) → kO (σ_33 (G a0 0)) i w = kO (σL_62 (G a0 0)) i w := fun i w i0 w0 w1 ne => by (rw [hmv2, up2_row]; first | exact kO_up i0 (by omega) ⟨w0, w1⟩ ⟨by omega, by omega⟩ ne | (rw [Efile]; exact kO_up i0 (by omega) ⟨w0, w1⟩ ⟨by omega, by omega⟩ ne))
          have hmat : kO (σ_33 (G a0 0)) (σ_1 (G a0 6) (v_4).toNat) 2 = mv := by (rw [hmv2, up2_row]; exact kO_up_at)
          have hFC : FC (σ (G a0 0)) (σ_33 (G a0 0)) := by first | exact FC_col hFC hmv2 (by omega) (by omega) | exact FC_col (by rw [Efile]; exact hFC) hmv2 (by omega) (by omega)
          have hI := FI_FC hI0 hFC (show σ_33 a0 1 = σ a0 1 from by first | rfl | exact Ekept)
          have hf0 := hFC.2 0 (by omega)
          have hf1 := hFC.2 1 (by omega)
          have hf2 := hFC.2 2 (by omega)
          have hof := com_off hmrow hmat hmv3 (by decide)
          refine lv_aload_n hx hb dX12_leavesPage_112 rfl (lv_at hl 1 rfl) ?_
          refine j_getR hx hb (C := RX12) (T := TX12) (N := 41) hts inX12_leavesPage_X12 hown hK hS hW h0 rfl 0 rfl rfl (by decide) (hts _ flX12_leavesPage_7) dX12_leavesPage_113 ?_
          refine j_const hx hb dX12_leavesPage_116 ?_
          refine lv_aload_n hx hb dX12_leavesPage_117 rfl (lv_at hl 1 rfl) ?_
          refine j_getR hx hb (C := RX12) (T := TX12) (N := 41) hts inX12_leavesPage_X12 hown hK hS hW h0 rfl 0 rfl rfl (by decide) (hts _ flX12_leavesPage_7) dX12_leavesPage_118 ?_
          refine j_const hx hb dX12_leavesPage_121 ?_
          refine j_ald hx hb hK hS hW hk_file (n := 17624) rfl (by omega) (by omega) (by decide) dX12_leavesPage_122 ?_
          have : -2147483648 ≤ σ_33 (G a0 0) 4 ∧ σ_33 (G a0 0) 4 ≤ 2147483647 := abd hW hk_file (n := 17624) (lo := -2147483648) (hi := 2147483647) (i := 4) rfl (by decide) (by decide)
          refine j_eq (z := σ_33 (G a0 0) 4) rfl ?_
          have := FI_bd hI
          refine j_const hx hb dX12_leavesPage_123 ?_
          refine j_add hx hb dX12_leavesPage_124 ?_
          refine j_wrap (fun z_34 rz_34 ez_34 => ?_)
          refine j_ast hx hb hK hS hA hW hF hk_file (n := 17624) (lo := -2147483648) (hi := 2147483647) rfl (by omega) (by omega) (by decide) (by omega) dX12_leavesPage_125 (fun σ_35 H locs e_36 hW hF => ?_)
          have st_file := e_36
          have hR := fr_up hR e_36 hk_file 40000 (cdA 40 (by decide) _) (by decide)
          have Ehl : σ_35 a0 3 = σ a0 3 := (fld_up e_36 hk_file h0 (fun q => absurd q.1 (by decide))).trans Ehl
          have Ehand : σ_35 (G a0 2) = σ (G a0 2) := (row_up e_36 hk_file hk_hand (by decide)).trans Ehand
          have Ekept : σ_35 a0 1 = σ a0 1 := (fld_up e_36 hk_file h0 (fun q => absurd q.1 (by decide))).trans Ekept
          have Elow : σ_35 a0 4 = σ_1 a0 4 := (fld_up e_36 hk_file h0 (fun q => absurd q.1 (by decide))).trans Elow
          have Ehigh : σ_35 a0 5 = σ_1 a0 5 := (fld_up e_36 hk_file h0 (fun q => absurd q.1 (by decide))).trans Ehigh
          have Eents : σ_35 a0 8 = σ_1 a0 8 := (fld_up e_36 hk_file h0 (fun q => absurd q.1 (by decide))).trans Eents
          have Eea : σ_35 (G a0 6) = σ_1 (G a0 6) := (row_up e_36 hk_file hk_ea (by decide)).trans Eea
          have hFC : FC (σ (G a0 0)) (σ_35 (G a0 0)) := by first | exact FC_cnt hFC e_36 (by decide) (by decide) | exact FC_cnt (by rw [Efile]; exact hFC) e_36 (by decide) (by decide)
          have hcn := kO_cnt e_36 (by decide)
          try simp only [Efile] at hcn
          have hI := FI_FC hI0 hFC (show σ_35 a0 1 = σ a0 1 from by first | rfl | exact Ekept)
          have hf0 := hFC.2 0 (by omega)
          have hf1 := hFC.2 1 (by omega)
          have hf2 := hFC.2 2 (by omega)
          refine lv_goto (tgt := 193) hx hb dX12_leavesPage_126 (by decide) ?_
          exact hRet 193 _ _ _ _ dX12_leavesPage_193 hW hF ⟨(by first | exact (by first | exact ⟨hFC, fun p d p0 p1 d0 d1 hb => Or.inl (i1_62 p d p0 d0 d1 hb), i2_62⟩ | exact ⟨hFC, LV_p i1_62 hof hcn hXn, LV_q i2_62 hof hcn hXx q0 q2 (by omega)⟩) | (simp only [Ehl, Ehand, Ekept, Elow, Ehigh, Eents, Eea]; exact (by first | exact ⟨hFC, fun p d p0 p1 d0 d1 hb => Or.inl (i1_62 p d p0 d0 d1 hb), i2_62⟩ | exact ⟨hFC, LV_p i1_62 hof hcn hXn, LV_q i2_62 hof hcn hXx q0 q2 (by omega)⟩))), hR⟩
    refine j_icmp_ne (tgt := 62) hx hb (by omega) (by omega) dX12_leavesPage_45 (by decide) (fun c_37 => ?_) (fun c_37 => ?_)
    · exact L_62 σ_1 _ _ _ (by first | exact (by first | exact hFC | (rw [Efile]; exact hFC)) | (simp only [Efile, Ehl, Ehand, Ekept]; exact (by first | exact hFC | (rw [Efile]; exact hFC)))) (by first | exact (by first | exact fun p d p0 d0 d1 hb => hb | exact com_on hmrow hmat hmv3 (by decide)) | (simp only [Efile, Ehl, Ehand, Ekept]; exact (by first | exact fun p d p0 d0 d1 hb => hb | exact com_on hmrow hmat hmv3 (by decide)))) (by first | exact (by first | (exact fun z => by (exfalso; have z0 := he00 z; omega)) | exact fun _ _ => by (have hz_ := com_at hmat hmv3 (by decide) (by omega) (by omega); rw [hea.2] at hz_; exact hz_)) | (simp only [Efile, Ehl, Ehand, Ekept]; exact (by first | (exact fun z => by (exfalso; have z0 := he00 z; omega)) | exact fun _ _ => by (have hz_ := com_at hmat hmv3 (by decide) (by omega) (by omega); rw [hea.2] at hz_; exact hz_)))) hW hF hR hI Ehl Ehand Ekept rfl rfl rfl rfl (lv_sub hl [4, 6, 3, 2, 1, 0] rfl)
    · refine lv_aload_n hx hb dX12_leavesPage_48 rfl (lv_at hl 4 rfl) ?_
      refine lv_aload_n hx hb dX12_leavesPage_49 rfl (lv_at hl 4 rfl) ?_
      refine j_getR hx hb (C := RX12) (T := TX12) (N := 41) hts inX12_leavesPage_X12 hown hK hS hW h0 rfl 6 rfl rfl (by decide) (hts _ flX12_leavesPage_16) dX12_leavesPage_50 ?_
      refine lv_iload_n hx hb dX12_leavesPage_53 rfl (lv_at hl 3 rfl) ?_
      refine j_const hx hb dX12_leavesPage_54 ?_
      refine j_add hx hb dX12_leavesPage_55 ?_
      refine j_ald hx hb hK hS hW hk_ea (n := 151) rfl (by omega) (by omega) (by decide) dX12_leavesPage_56 ?_
      have := abd hW hk_ea (n := 151) (lo := 0) (hi := 150) (i := v_2 + 1) rfl (by omega) (by omega)
      have hek : (σ_1 a0 4) ≤ (σ_1 (G a0 6) (v_2 + 1).toNat) ∧ (σ_1 (G a0 6) (v_2 + 1).toNat) < (σ_1 a0 5) := hen.2.2.2.2.1 (v_2 + 1) (by omega) (by omega)
      refine lv_iload_n hx hb dX12_leavesPage_57 rfl (lv_at hl 6 rfl) ?_
      refine j_const hx hb dX12_leavesPage_58 ?_
      refine j_cV (j_runV (As := [.int (jI (σ_1 (G a0 6) (v_2 + 1).toNat)), .int (jI x2), .int (jI 1)]) (rest := []) hx hb hml hown hts hK hS hW (kX12_marks l hS σ_1 (a0 := a0) (h0 := h0) (x1 := σ_1 (G a0 6) (v_2 + 1).toNat) (r1 := (by omega)) (x2 := x2) (r2 := (by omega)) (x3 := 1) (r3 := (by decide)) (q0 := (by omega)) (q1 := (by omega)) (q2 := (by omega)) (q3 := (by omega)) (q4 := (by omega)) (q5 := (by omega))) 3 gX12_leavesPage_X12_marks rfl hvX12_marks ⟨Nat.le_of_ble_eq_true rfl, Nat.le_of_ble_eq_true rfl⟩ rfl rfl h0 rfl rfl rfl rfl hl.1 rfl (Nat.le_of_ble_eq_true rfl) dX12_leavesPage_59 ⟨Nat.le_of_ble_eq_true rfl, Nat.le_of_ble_eq_true rfl⟩) hA hF (fun σ_38 H locs hW hF pσ_38 => ?_)
      try dsimp only at pσ_38
      obtain ⟨pσ_38, fpσ_38⟩ := pσ_38
      try simp only [Efile, Ehl, Ehand, Ekept] at pσ_38
      have q_marks := pσ_38
      have hR := fr_call hR fpσ_38 (by decide)
      have Ehl : σ_38 a0 3 = σ a0 3 := (fr_at fpσ_38 h0 3 13003 rfl (by decide)).trans Ehl
      have Ehand : σ_38 (G a0 2) = σ (G a0 2) := (row_fr fpσ_38 hk_hand 41 (by decide) (by decide)).trans Ehand
      have Ekept : σ_38 a0 1 = σ a0 1 := (fr_at fpσ_38 h0 1 13001 rfl (by decide)).trans Ekept
      have Elow : σ_38 a0 4 = σ_1 a0 4 := fr_at fpσ_38 h0 4 13004 rfl (by decide)
      have Ehigh : σ_38 a0 5 = σ_1 a0 5 := fr_at fpσ_38 h0 5 13005 rfl (by decide)
      have Eents : σ_38 a0 8 = σ_1 a0 8 := fr_at fpσ_38 h0 8 13008 rfl (by decide)
      have Eea : σ_38 (G a0 6) = σ_1 (G a0 6) := row_fr fpσ_38 hk_ea 42 (by decide) (by decide)
      obtain ⟨mv, hmv1, hmv2, hmv3⟩ := q_marks
      have hmrow : ∀ i w : Int, 0 ≤ i → 0 ≤ w → w < 27 → ¬ (i = (σ_1 (G a0 6) (v_2 + 1).toNat) ∧ w = 2) → kO (σ_38 (G a0 0)) i w = kO (σ (G a0 0)) i w := fun i w i0 w0 w1 ne => by (rw [hmv2, up2_row]; first | exact kO_up i0 (by omega) ⟨w0, w1⟩ ⟨by omega, by omega⟩ ne | (rw [Efile]; exact kO_up i0 (by omega) ⟨w0, w1⟩ ⟨by omega, by omega⟩ ne))
      have hmat : kO (σ_38 (G a0 0)) (σ_1 (G a0 6) (v_2 + 1).toNat) 2 = mv := by (rw [hmv2, up2_row]; exact kO_up_at)
      have hFC : FC (σ (G a0 0)) (σ_38 (G a0 0)) := by first | exact FC_col hFC hmv2 (by omega) (by omega) | exact FC_col (by rw [Efile]; exact hFC) hmv2 (by omega) (by omega)
      have hI := FI_FC hI0 hFC (show σ_38 a0 1 = σ a0 1 from by first | rfl | exact Ekept)
      have hf0 := hFC.2 0 (by omega)
      have hf1 := hFC.2 1 (by omega)
      have hf2 := hFC.2 2 (by omega)
      exact L_62 σ_38 _ _ _ (by first | exact (by first | exact hFC | (rw [Efile]; exact hFC)) | (simp only [Ehl, Ehand, Ekept, Elow, Ehigh, Eents, Eea]; exact (by first | exact hFC | (rw [Efile]; exact hFC)))) (by first | exact (by first | exact fun p d p0 d0 d1 hb => hb | exact com_on hmrow hmat hmv3 (by decide)) | (simp only [Ehl, Ehand, Ekept, Elow, Ehigh, Eents, Eea]; exact (by first | exact fun p d p0 d0 d1 hb => hb | exact com_on hmrow hmat hmv3 (by decide)))) (by first | exact (by first | (exact fun z => by (exfalso; have z0 := he00 z; omega)) | exact fun _ _ => by (have hz_ := com_at hmat hmv3 (by decide) (by omega) (by omega); rw [hea.2] at hz_; exact hz_)) | (simp only [Ehl, Ehand, Ekept, Elow, Ehigh, Eents, Eea]; exact (by first | (exact fun z => by (exfalso; have z0 := he00 z; omega)) | exact fun _ _ => by (have hz_ := com_at hmat hmv3 (by decide) (by omega) (by omega); rw [hea.2] at hz_; exact hz_)))) hW hF hR hI Ehl Ehand Ekept Elow Ehigh Eents Eea (lv_sub hl [4, 6, 3, 2, 1, 0] rfl)
  · have h35 : v_4 = v_2 + 1 := by omega
    have h41 : v_2 + 1 < (σ_1 a0 8) → bit (kO (σ (G a0 0)) ((σ_1 (G a0 6)) (v_2 + 1).toNat) 2) x2 := fun hy => by (rw [h35] at hpe2; exact hpe2 hy)
    have h42 : LC (σ (G a0 0) 0) (σ (G a0 0) 1) (fun i => kO (σ (G a0 0)) i 0) (fun i => kB (σ (G a0 0)) i) x1 x2 → x1 + 1 < σ (G a0 0) 0 → bit (kO (σ (G a0 0)) (x1 + 1) 2) x2 := fun z xn => LV_end (M := fun i => kO (σ (G a0 0)) i 2) (ea := fun k => (σ_1 (G a0 6)) k.toNat) (e := v_2) (ne := (σ_1 a0 8)) (beh := 0) hel hI0.1.2.2.2.1 hox.2 q0 hea.2 heo1 h41 z xn
    exact hRet 41 _ _ _ _ dX12_leavesPage_41 hW hF ⟨(by first | exact ⟨hFC, fun p d _ _ _ _ hb => Or.inl hb, h42⟩ | (simp only [Efile, Ehl, Ehand, Ekept]; exact ⟨hFC, fun p d _ _ _ _ hb => Or.inl hb, h42⟩)), hR⟩
