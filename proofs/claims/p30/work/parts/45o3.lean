abbrev wr_X12_findsPage : List Nat := [13003, 13004, 13005, 13008, 13034, 13035, 13036, 41000, 42000, 43000]
theorem flX12_findsPage_16 : Cond.fieldLink RX12 16 "PageTrieModel" "entryAt" "[I" ∈ wsX12_findsPage := List.mem_of_getElem? (i := 4) rfl
theorem flX12_findsPage_84 : Cond.fieldLink RX12 84 "PageTrieModel" "low" "I" ∈ wsX12_findsPage := List.mem_of_getElem? (i := 2) rfl
theorem flX12_findsPage_333 : Cond.fieldLink RX12 333 "PageTrieModel" "pageDepth" "I" ∈ wsX12_findsPage := List.mem_of_getElem? (i := 1) rfl
theorem flX12_findsPage_336 : Cond.fieldLink RX12 336 "PageTrieModel" "pageLow" "I" ∈ wsX12_findsPage := List.mem_of_getElem? (i := 3) rfl
theorem flX12_findsPage_339 : Cond.fieldLink RX12 339 "PageTrieModel" "pageFirst" "I" ∈ wsX12_findsPage := List.mem_of_getElem? (i := 5) rfl
theorem inX12_findsPage_X12 : ∀ w ∈ u_ws RX12 TX12 41, w ∈ wsX12_findsPage := mem_r _ [64, 65, 66, 67, 68, 69, 70, 71, 72, 73, 74, 75, 76, 77, 78, 79, 80, 81, 82, 83, 84, 85, 86, 87, 88, 89, 90, 91, 92, 93, 94, 95, 96, 97, 98, 99, 100, 101, 102, 103, 104] rfl
theorem hvX12_findsPage : yX12_findsPage.cls = RX12 ∧ yX12_findsPage.cls ≠ "java/lang/invoke/MethodHandle" ∧ yX12_findsPage.cls ≠ "java/lang/invoke/VarHandle" ∧ (parseMethodDescriptor yX12_findsPage.desc).map (fun d => d.parameters.length) = some 1 := by decide +kernel
set_option maxHeartbeats 4000000 in
set_option maxRecDepth 100000 in
theorem kX12_findsPage (l : Launch) {D : va_G} {cA : Nat → ClassId} {τ : Nat → Nat} {G : Nat → Nat → Nat} {L : List Nat} (hS : SW τ G L) (σ : Nat → Nat → Int) {a0 : Nat} (h0 : τ a0 = 13) {x1 : Int} (r1 : rg x1) (hI : FI G a0 σ) (q0 : 0 ≤ x1) (q1 : x1 < σ (G a0 0) 0) (q2 : FM (σ (G a0 0))) : Met l yX12_findsPage wsX12_findsPage ({ frames := 4, cells := 0, slots := 0, locals := 89 }) (jP D cA τ G L σ [.ref a0, .int (jI x1)]) (jQV D cA τ G L (fun σ' => (True) ∧ fr wr_X12_findsPage τ σ σ')) 0 0 (fun q => q ∈ L) := by
  refine j_metV (by decide +kernel) rfl (Nat.le_of_ble_eq_true rfl) ?_
  intro p e s m args below meth c Q hx hb hml hown hts hK hW hRet ls hl
  have hl : lv_has ls 2 [(0, .ref a0), (1, .int (jI x1))] := hl
  have hA : ∀ q ∈ L, (fun q => q ∈ L) q := fun _ h => h
  have hF : va_S (fun q => q ∈ L) s.heap s.heap [] := va_S.rf
  have hR : fr wr_X12_findsPage τ σ σ := fr_rf
  have hk_file : τ (G a0 0) = 40 := gty hS h0 (k := 0) rfl rfl
  have hk_hand : τ (G a0 2) = 41 := gty hS h0 (k := 2) rfl rfl
  have hk_ea : τ (G a0 6) = 42 := gty hS h0 (k := 6) rfl rfl
  have := FI_bd hI
  have := fbd hW h0 (k := 3) (lo := 0) (hi := 24) rfl rfl
  have hI0 := hI
  have hsr := hI.1.2.2.2.2.2
  refine lv_aload_n hx hb dX12_findsPage_0 rfl (lv_at hl 0 rfl) ?_
  refine lv_aload_n hx hb dX12_findsPage_1 rfl (lv_at hl 0 rfl) ?_
  refine lv_iload_n hx hb dX12_findsPage_2 rfl (lv_at hl 1 rfl) ?_
  refine j_cI (j_runV (As := [.int (jI x1)]) (rest := [.ref a0]) hx hb hml hown hts hK hS hW (kX12_depthOf l hS σ (a0 := a0) (h0 := h0) (x1 := x1) (r1 := (by omega)) (hI := hI) (q0 := (by omega)) (q1 := (by omega))) 1 gX12_findsPage_X12_depthOf rfl hvX12_depthOf ⟨Nat.le_of_ble_eq_true rfl, Nat.le_of_ble_eq_true rfl⟩ rfl rfl h0 rfl rfl rfl rfl hl.1 rfl (Nat.le_of_ble_eq_true rfl) dX12_findsPage_3 ⟨Nat.le_of_ble_eq_true rfl, Nat.le_of_ble_eq_true rfl⟩) hA hF (fun v_1 σ_2 H locs hW hF rv_1 pv_1 => ?_)
  try dsimp only at pv_1
  obtain ⟨pv_1, fpv_1⟩ := pv_1
  have q_depthOf := pv_1
  have hR := fr_call hR fpv_1 (by decide)
  have : σ_2 a0 34 = σ a0 34 := fr_at fpv_1 h0 34 13034 rfl (by decide)
  have Efile : σ_2 (G a0 0) = σ (G a0 0) := row_fr fpv_1 hk_file 40 (by decide) (by decide)
  have := congrFun Efile 0
  have Eents : σ_2 a0 8 = σ a0 8 := fr_at fpv_1 h0 8 13008 rfl (by decide)
  have Eea : σ_2 (G a0 6) = σ (G a0 6) := row_fr fpv_1 hk_ea 42 (by decide) (by decide)
  have hI := FI_dep hS h0 hI (kp_fr fpv_1 (by decide))
  have hd0 := q_depthOf.1; have hd1 := q_depthOf.2.1; have hDQ := q_depthOf.2.2.1; have hal := q_depthOf.2.2.2.1; have hqL := q_depthOf.2.2.2.2.1; have hqB := q_depthOf.2.2.2.2.2
  refine j_putI hx hb (C := RX12) (T := TX12) (N := 41) hts inX12_findsPage_X12 tyX12 tyX12_ok nmX12 hown hK hS hA hW hF h0 rfl 34 (lo := -2147483648) (hi := 2147483647) rfl rfl (by decide) (hts _ flX12_findsPage_333) rfl .int rfl (by omega) rfl rfl dX12_findsPage_6 (fun σ_3 H locs e_4 hW hF => ?_)
  have hR := fr_up hR e_4 h0 13034 rfl (by decide)
  have Efile : σ_3 (G a0 0) = σ (G a0 0) := (row_up e_4 h0 hk_file (by decide)).trans Efile
  have := congrFun Efile 0
  have Ehl : σ_3 a0 3 = σ_2 a0 3 := fld_up e_4 h0 h0 (fun q => absurd q.2 (by decide))
  have Ehand : σ_3 (G a0 2) = σ_2 (G a0 2) := row_up e_4 h0 hk_hand (by decide)
  have Elow : σ_3 a0 4 = σ_2 a0 4 := fld_up e_4 h0 h0 (fun q => absurd q.2 (by decide))
  have Ehigh : σ_3 a0 5 = σ_2 a0 5 := fld_up e_4 h0 h0 (fun q => absurd q.2 (by decide))
  have Eents : σ_3 a0 8 = σ a0 8 := (fld_up e_4 h0 h0 (fun q => absurd q.2 (by decide))).trans Eents
  have Eea : σ_3 (G a0 6) = σ (G a0 6) := (row_up e_4 h0 hk_ea (by decide)).trans Eea
  have hI := FI_dep hS h0 hI (kp_up e_4 h0 13034 rfl (by decide))
  have hfk : σ_3 a0 34 = v_1 := by rw [e_4]; exact up2_at _ _ _ _
  have hpd := hfk
  refine lv_aload_n hx hb dX12_findsPage_9 rfl (lv_at hl 0 rfl) ?_
  refine lv_aload_n hx hb dX12_findsPage_10 rfl (lv_at hl 0 rfl) ?_
  refine j_getI hx hb (C := RX12) (T := TX12) (N := 41) hts inX12_findsPage_X12 hown hK hS hW h0 rfl 34 rfl rfl (by decide) (hts _ flX12_findsPage_333) dX12_findsPage_11 ?_
  have := fbd hW h0 (k := 34) (lo := -2147483648) (hi := 2147483647) rfl rfl
  rw [hpd]
  refine j_cV (j_runV (As := [.int (jI v_1)]) (rest := []) hx hb hml hown hts hK hS hW (kX12_findsEntries l hS σ_3 (a0 := a0) (h0 := h0) (x1 := v_1) (r1 := (by omega)) (hI := hI) (q0 := (by omega)) (q1 := (by omega))) 1 gX12_findsPage_X12_findsEntries rfl hvX12_findsEntries ⟨Nat.le_of_ble_eq_true rfl, Nat.le_of_ble_eq_true rfl⟩ rfl rfl h0 rfl rfl rfl rfl hl.1 rfl (Nat.le_of_ble_eq_true rfl) dX12_findsPage_14 ⟨Nat.le_of_ble_eq_true rfl, Nat.le_of_ble_eq_true rfl⟩) hA hF (fun σ_5 H locs hW hF pσ_5 => ?_)
  try dsimp only at pσ_5
  obtain ⟨pσ_5, fpσ_5⟩ := pσ_5
  try simp only [Efile, Ehl, Ehand, Elow, Ehigh, Eents, Eea] at pσ_5
  have q_findsEntries := pσ_5
  have hR := fr_call hR fpσ_5 (by decide)
  have : σ_5 a0 34 = σ_3 a0 34 := fr_at fpσ_5 h0 34 13034 rfl (by decide)
  have Efile : σ_5 (G a0 0) = σ (G a0 0) := (row_fr fpσ_5 hk_file 40 (by decide) (by decide)).trans Efile
  have := congrFun Efile 0
  have Ehl : σ_5 a0 3 = σ_2 a0 3 := (fr_at fpσ_5 h0 3 13003 rfl (by decide)).trans Ehl
  have Ehand : σ_5 (G a0 2) = σ_2 (G a0 2) := (row_fr fpσ_5 hk_hand 41 (by decide) (by decide)).trans Ehand
  have hI := FI_dep hS h0 hI (kp_fr fpσ_5 (by decide))
  have hrg := q_findsEntries.1.1
  have hrn := q_findsEntries.1.2
  have hen := q_findsEntries.2.1
  have hel := q_findsEntries.2.2
  have hox := RG_own (x := x1) hsr hrg hrn q0 q1 hqL hqB hDQ.1
  have hol := hox.1
  have hlb : 0 ≤ (σ_5 a0 4) ∧ (σ_5 a0 4) ≤ (σ_5 a0 5) ∧ (σ_5 a0 5) ≤ σ (G a0 0) 0 := ⟨hrg.1, hrg.2.1, hrg.2.2.1⟩
  have hne2 : 0 < (σ_5 a0 8) ∧ (σ_5 a0 8) ≤ (σ_5 a0 5) - (σ_5 a0 4) := ⟨hen.2.2.1 (by omega), hen.2.1⟩
  have he2 : (σ_5 (G a0 6)) 0 = (σ_5 a0 4) := hen.2.2.2.1 hne2.1
  have hbl : bit (kO (σ (G a0 0)) (σ_5 a0 4) 2) v_1 := q2 (σ_5 a0 4) v_1 (by omega) (by omega) (by omega) (RG_LC hsr hI0.1.2.2.2.1 hrg hrn q0 q1 hqL hqB hDQ.1 hd0 (by rcases (show v_1 = 0 ∨ 0 < v_1 by omega) with z | z; exact Or.inl z; exact Or.inr (hDQ.2 v_1 z (by omega))))
  refine lv_aload_n hx hb dX12_findsPage_17 rfl (lv_at hl 0 rfl) ?_
  refine lv_aload_n hx hb dX12_findsPage_18 rfl (lv_at hl 0 rfl) ?_
  refine j_getI hx hb (C := RX12) (T := TX12) (N := 41) hts inX12_findsPage_X12 hown hK hS hW h0 rfl 4 rfl rfl (by decide) (hts _ flX12_findsPage_84) dX12_findsPage_19 ?_
  have := fbd hW h0 (k := 4) (lo := 0) (hi := 150) rfl rfl
  refine j_putI hx hb (C := RX12) (T := TX12) (N := 41) hts inX12_findsPage_X12 tyX12 tyX12_ok nmX12 hown hK hS hA hW hF h0 rfl 35 (lo := -2147483648) (hi := 2147483647) rfl rfl (by decide) (hts _ flX12_findsPage_336) rfl .int rfl (by omega) rfl rfl dX12_findsPage_22 (fun σ_6 H locs e_7 hW hF => ?_)
  have hR := fr_up hR e_7 h0 13035 rfl (by decide)
  have Efile : σ_6 (G a0 0) = σ (G a0 0) := (row_up e_7 h0 hk_file (by decide)).trans Efile
  have := congrFun Efile 0
  have Ehl : σ_6 a0 3 = σ_2 a0 3 := (fld_up e_7 h0 h0 (fun q => absurd q.2 (by decide))).trans Ehl
  have Ehand : σ_6 (G a0 2) = σ_2 (G a0 2) := (row_up e_7 h0 hk_hand (by decide)).trans Ehand
  have Elow : σ_6 a0 4 = σ_5 a0 4 := fld_up e_7 h0 h0 (fun q => absurd q.2 (by decide))
  have Ehigh : σ_6 a0 5 = σ_5 a0 5 := fld_up e_7 h0 h0 (fun q => absurd q.2 (by decide))
  have Eents : σ_6 a0 8 = σ_5 a0 8 := fld_up e_7 h0 h0 (fun q => absurd q.2 (by decide))
  have Eea : σ_6 (G a0 6) = σ_5 (G a0 6) := row_up e_7 h0 hk_ea (by decide)
  have hI := FI_dep hS h0 hI (kp_up e_7 h0 13035 rfl (by decide))
  have hfk : σ_6 a0 35 = σ_5 a0 4 := by rw [e_7]; exact up2_at _ _ _ _
  have : σ_6 a0 34 = σ_5 a0 34 := by rw [e_7]; exact up2_ne _ _ (fun h => absurd h.2 (by decide))
  refine lv_aload_n hx hb dX12_findsPage_25 rfl (lv_at hl 0 rfl) ?_
  refine lv_aload_n hx hb dX12_findsPage_26 rfl (lv_at hl 0 rfl) ?_
  refine j_getR hx hb (C := RX12) (T := TX12) (N := 41) hts inX12_findsPage_X12 hown hK hS hW h0 rfl 6 rfl rfl (by decide) (hts _ flX12_findsPage_16) dX12_findsPage_27 ?_
  refine lv_aload_n hx hb dX12_findsPage_30 rfl (lv_at hl 0 rfl) ?_
  refine lv_aload_n hx hb dX12_findsPage_31 rfl (lv_at hl 0 rfl) ?_
  refine lv_iload_n hx hb dX12_findsPage_32 rfl (lv_at hl 1 rfl) ?_
  refine j_cR (j_runV (As := [.int (jI x1)]) (rest := [.ref a0, .ref (G a0 6), .ref a0]) hx hb hml hown hts hK hS hW (kX12_entryOf l hS σ_6 (a0 := a0) (h0 := h0) (x1 := x1) (r1 := (by omega)) (q0 := (by omega)) (q1 := (by omega)) (q2 := (by rw [Eea, Eents, hel]; omega))) 1 gX12_findsPage_X12_entryOf rfl hvX12_entryOf ⟨Nat.le_of_ble_eq_true rfl, Nat.le_of_ble_eq_true rfl⟩ rfl rfl h0 rfl rfl rfl rfl hl.1 rfl (Nat.le_of_ble_eq_true rfl) dX12_findsPage_33 ⟨Nat.le_of_ble_eq_true rfl, Nat.le_of_ble_eq_true rfl⟩) (fun v_8 rv_8 pv_8 => ?_)
  try dsimp only at pv_8
  try simp only [Efile, Ehl, Ehand, Elow, Ehigh, Eents, Eea] at pv_8
  have q_entryOf := pv_8
  refine lv_aload_n hx hb dX12_findsPage_36 rfl (lv_at hl 0 rfl) ?_
  refine j_getI hx hb (C := RX12) (T := TX12) (N := 41) hts inX12_findsPage_X12 hown hK hS hW h0 rfl 34 rfl rfl (by decide) (hts _ flX12_findsPage_333) dX12_findsPage_37 ?_
  have := fbd hW h0 (k := 34) (lo := -2147483648) (hi := 2147483647) rfl rfl
  have hpd2 : (σ_6 a0 34) = v_1 := by omega
  rw [hpd2]
  refine j_cR (j_runV (As := [.int (jI v_8), .int (jI v_1)]) (rest := [.ref (G a0 6), .ref a0]) hx hb hml hown hts hK hS hW (kX12_pageBegin l hS σ_6 (a0 := a0) (h0 := h0) (x1 := v_8) (r1 := (by omega)) (x2 := v_1) (r2 := (by omega)) (q0 := (by omega)) (q1 := (by omega)) (q2 := (by omega)) (q3 := (by omega)) (q4 := (by rw [Eea, he2, Efile]; exact hbl))) 2 gX12_findsPage_X12_pageBegin rfl hvX12_pageBegin ⟨Nat.le_of_ble_eq_true rfl, Nat.le_of_ble_eq_true rfl⟩ rfl rfl h0 rfl rfl rfl rfl hl.1 rfl (Nat.le_of_ble_eq_true rfl) dX12_findsPage_40 ⟨Nat.le_of_ble_eq_true rfl, Nat.le_of_ble_eq_true rfl⟩) (fun v_9 rv_9 pv_9 => ?_)
  try dsimp only at pv_9
  try simp only [Efile, Ehl, Ehand, Elow, Ehigh, Eents, Eea] at pv_9
  have q_pageBegin := pv_9
  refine j_ald hx hb hK hS hW hk_ea (n := 151) rfl (by omega) (by omega) (by decide) dX12_findsPage_43 ?_
  have := abd hW hk_ea (n := 151) (lo := 0) (hi := 150) (i := v_9) rfl (by omega) (by omega)
  rw [Eea]
  try simp only [Eea] at this
  refine j_putI hx hb (C := RX12) (T := TX12) (N := 41) hts inX12_findsPage_X12 tyX12 tyX12_ok nmX12 hown hK hS hA hW hF h0 rfl 36 (lo := -2147483648) (hi := 2147483647) rfl rfl (by decide) (hts _ flX12_findsPage_339) rfl .int rfl (by omega) rfl rfl dX12_findsPage_44 (fun σ_10 H locs e_11 hW hF => ?_)
  have hR := fr_up hR e_11 h0 13036 rfl (by decide)
  have Efile : σ_10 (G a0 0) = σ (G a0 0) := (row_up e_11 h0 hk_file (by decide)).trans Efile
  have := congrFun Efile 0
  have Ehl : σ_10 a0 3 = σ_2 a0 3 := (fld_up e_11 h0 h0 (fun q => absurd q.2 (by decide))).trans Ehl
  have Ehand : σ_10 (G a0 2) = σ_2 (G a0 2) := (row_up e_11 h0 hk_hand (by decide)).trans Ehand
  have Elow : σ_10 a0 4 = σ_5 a0 4 := (fld_up e_11 h0 h0 (fun q => absurd q.2 (by decide))).trans Elow
  have Ehigh : σ_10 a0 5 = σ_5 a0 5 := (fld_up e_11 h0 h0 (fun q => absurd q.2 (by decide))).trans Ehigh
  have Eents : σ_10 a0 8 = σ_5 a0 8 := (fld_up e_11 h0 h0 (fun q => absurd q.2 (by decide))).trans Eents
  have Eea : σ_10 (G a0 6) = σ_5 (G a0 6) := (row_up e_11 h0 hk_ea (by decide)).trans Eea
  have hI := FI_dep hS h0 hI (kp_up e_11 h0 13036 rfl (by decide))
  have hfk : σ_10 a0 36 = σ_5 (G a0 6) (v_9).toNat := by rw [e_11]; exact up2_at _ _ _ _
  have : σ_10 a0 34 = σ_6 a0 34 := by rw [e_11]; exact up2_ne _ _ (fun h => absurd h.2 (by decide))
  exact hRet 47 _ _ _ _ dX12_findsPage_47 hW hF ⟨trivial, hR⟩
abbrev wr_X12_areInOnePage : List Nat := [13003, 13004, 13005, 13008, 13034, 13035, 13036, 41000, 42000, 43000]
theorem flX12_areInOnePage_333 : Cond.fieldLink RX12 333 "PageTrieModel" "pageDepth" "I" ∈ wsX12_areInOnePage := List.mem_of_getElem? (i := 1) rfl
theorem flX12_areInOnePage_336 : Cond.fieldLink RX12 336 "PageTrieModel" "pageLow" "I" ∈ wsX12_areInOnePage := List.mem_of_getElem? (i := 2) rfl
theorem flX12_areInOnePage_339 : Cond.fieldLink RX12 339 "PageTrieModel" "pageFirst" "I" ∈ wsX12_areInOnePage := List.mem_of_getElem? (i := 3) rfl
theorem inX12_areInOnePage_X12 : ∀ w ∈ u_ws RX12 TX12 41, w ∈ wsX12_areInOnePage := mem_r _ [68, 69, 70, 71, 72, 73, 74, 75, 76, 77, 78, 79, 80, 81, 82, 83, 84, 85, 86, 87, 88, 89, 90, 91, 92, 93, 94, 95, 96, 97, 98, 99, 100, 101, 102, 103, 104, 105, 106, 107, 108] rfl
theorem hvX12_areInOnePage : yX12_areInOnePage.cls = RX12 ∧ yX12_areInOnePage.cls ≠ "java/lang/invoke/MethodHandle" ∧ yX12_areInOnePage.cls ≠ "java/lang/invoke/VarHandle" ∧ (parseMethodDescriptor yX12_areInOnePage.desc).map (fun d => d.parameters.length) = some 2 := by decide +kernel
set_option maxHeartbeats 4000000 in
set_option maxRecDepth 100000 in
theorem kX12_areInOnePage (l : Launch) {D : va_G} {cA : Nat → ClassId} {τ : Nat → Nat} {G : Nat → Nat → Nat} {L : List Nat} (hS : SW τ G L) (σ : Nat → Nat → Int) {a0 : Nat} (h0 : τ a0 = 13) {x1 : Int} (r1 : rg x1) {x2 : Int} (r2 : rg x2) (hI : FI G a0 σ) (q0 : 0 ≤ x1) (q1 : x1 < σ (G a0 0) 0) (q2 : 0 ≤ x2) (q3 : x2 < σ (G a0 0) 0) (q4 : FM (σ (G a0 0))) : Met l yX12_areInOnePage wsX12_areInOnePage ({ frames := 5, cells := 0, slots := 0, locals := 110 }) (jP D cA τ G L σ [.ref a0, .int (jI x1), .int (jI x2)]) (jQI D cA τ G L (fun r σ' => (0 ≤ r ∧ r ≤ 1) ∧ ((True) ∧ fr wr_X12_areInOnePage τ σ σ'))) 0 0 (fun q => q ∈ L) := by
  refine j_metZ (by decide +kernel) rfl (Nat.le_of_ble_eq_true rfl) ?_
  intro p e s m args below meth c Q hx hb hml hown hts hK hW hRet ls hl
  have hl : lv_has ls 6 [(0, .ref a0), (1, .int (jI x1)), (2, .int (jI x2))] := hl
  have hA : ∀ q ∈ L, (fun q => q ∈ L) q := fun _ h => h
  have hF : va_S (fun q => q ∈ L) s.heap s.heap [] := va_S.rf
  have hR : fr wr_X12_areInOnePage τ σ σ := fr_rf
  have hk_file : τ (G a0 0) = 40 := gty hS h0 (k := 0) rfl rfl
  have := FI_bd hI
  have := fbd hW h0 (k := 3) (lo := 0) (hi := 24) rfl rfl
  refine lv_aload_n hx hb dX12_areInOnePage_0 rfl (lv_at hl 0 rfl) ?_
  refine lv_iload_n hx hb dX12_areInOnePage_1 rfl (lv_at hl 1 rfl) ?_
  refine j_cV (j_runV (As := [.int (jI x1)]) (rest := []) hx hb hml hown hts hK hS hW (kX12_findsPage l hS σ (a0 := a0) (h0 := h0) (x1 := x1) (r1 := (by omega)) (hI := hI) (q0 := (by omega)) (q1 := (by omega)) (q2 := q4)) 1 gX12_areInOnePage_X12_findsPage rfl hvX12_findsPage ⟨Nat.le_of_ble_eq_true rfl, Nat.le_of_ble_eq_true rfl⟩ rfl rfl h0 rfl rfl rfl rfl hl.1 rfl (Nat.le_of_ble_eq_true rfl) dX12_areInOnePage_2 ⟨Nat.le_of_ble_eq_true rfl, Nat.le_of_ble_eq_true rfl⟩) hA hF (fun σ_1 H locs hW hF pσ_1 => ?_)
  try dsimp only at pσ_1
  obtain ⟨pσ_1, fpσ_1⟩ := pσ_1
  have q_findsPage := pσ_1
  have hR := fr_call hR fpσ_1 (by decide)
  have Efile : σ_1 (G a0 0) = σ (G a0 0) := row_fr fpσ_1 hk_file 40 (by decide) (by decide)
  have := congrFun Efile 0
  have hI := FI_dep hS h0 hI (kp_fr fpσ_1 (by decide))
  refine lv_aload_n hx hb dX12_areInOnePage_5 rfl (lv_at hl 0 rfl) ?_
  refine j_getI hx hb (C := RX12) (T := TX12) (N := 41) hts inX12_areInOnePage_X12 hown hK hS hW h0 rfl 34 rfl rfl (by decide) (hts _ flX12_areInOnePage_333) dX12_areInOnePage_6 ?_
  have := fbd hW h0 (k := 34) (lo := -2147483648) (hi := 2147483647) rfl rfl
  refine lv_istore_n (lv' := [(3, .int (jI (σ_1 a0 34))), (0, .ref a0), (1, .int (jI x1)), (2, .int (jI x2))]) hx hb dX12_areInOnePage_9 rfl hl (by decide) rfl (fun ls hl => ?_)
  refine lv_aload_n hx hb dX12_areInOnePage_10 rfl (lv_at hl 1 rfl) ?_
  refine j_getI hx hb (C := RX12) (T := TX12) (N := 41) hts inX12_areInOnePage_X12 hown hK hS hW h0 rfl 35 rfl rfl (by decide) (hts _ flX12_areInOnePage_336) dX12_areInOnePage_11 ?_
  have := fbd hW h0 (k := 35) (lo := -2147483648) (hi := 2147483647) rfl rfl
  refine lv_istore (lv' := [(4, .int (jI (σ_1 a0 35))), (3, .int (jI (σ_1 a0 34))), (0, .ref a0), (1, .int (jI x1)), (2, .int (jI x2))]) hx hb dX12_areInOnePage_14 hl (by decide) rfl (fun ls hl => ?_)
  refine lv_aload_n hx hb dX12_areInOnePage_16 rfl (lv_at hl 2 rfl) ?_
  refine j_getI hx hb (C := RX12) (T := TX12) (N := 41) hts inX12_areInOnePage_X12 hown hK hS hW h0 rfl 36 rfl rfl (by decide) (hts _ flX12_areInOnePage_339) dX12_areInOnePage_17 ?_
  have := fbd hW h0 (k := 36) (lo := -2147483648) (hi := 2147483647) rfl rfl
  refine lv_istore (lv' := [(5, .int (jI (σ_1 a0 36))), (4, .int (jI (σ_1 a0 35))), (3, .int (jI (σ_1 a0 34))), (0, .ref a0), (1, .int (jI x1)), (2, .int (jI x2))]) hx hb dX12_areInOnePage_20 hl (by decide) rfl (fun ls hl => ?_)
  refine lv_aload_n hx hb dX12_areInOnePage_22 rfl (lv_at hl 3 rfl) ?_
  refine lv_iload_n hx hb dX12_areInOnePage_23 rfl (lv_at hl 5 rfl) ?_
  refine j_cV (j_runV (As := [.int (jI x2)]) (rest := []) hx hb hml hown hts hK hS hW (kX12_findsPage l hS σ_1 (a0 := a0) (h0 := h0) (x1 := x2) (r1 := (by omega)) (hI := hI) (q0 := (by omega)) (q1 := (by omega)) (q2 := (by first | exact q4 | (rw [Efile]; exact q4)))) 1 gX12_areInOnePage_X12_findsPage rfl hvX12_findsPage ⟨Nat.le_of_ble_eq_true rfl, Nat.le_of_ble_eq_true rfl⟩ rfl rfl h0 rfl rfl rfl rfl hl.1 rfl (Nat.le_of_ble_eq_true rfl) dX12_areInOnePage_24 ⟨Nat.le_of_ble_eq_true rfl, Nat.le_of_ble_eq_true rfl⟩) hA hF (fun σ_2 H locs hW hF pσ_2 => ?_)
  try dsimp only at pσ_2
  obtain ⟨pσ_2, fpσ_2⟩ := pσ_2
  have q_findsPage := pσ_2
  have hR := fr_call hR fpσ_2 (by decide)
  have Efile : σ_2 (G a0 0) = σ (G a0 0) := (row_fr fpσ_2 hk_file 40 (by decide) (by decide)).trans Efile
  have := congrFun Efile 0
  have hI := FI_dep hS h0 hI (kp_fr fpσ_2 (by decide))
  refine lv_iload_n hx hb dX12_areInOnePage_27 rfl (lv_at hl 2 rfl) ?_
  refine lv_aload_n hx hb dX12_areInOnePage_28 rfl (lv_at hl 3 rfl) ?_
  refine j_getI hx hb (C := RX12) (T := TX12) (N := 41) hts inX12_areInOnePage_X12 hown hK hS hW h0 rfl 34 rfl rfl (by decide) (hts _ flX12_areInOnePage_333) dX12_areInOnePage_29 ?_
  have := fbd hW h0 (k := 34) (lo := -2147483648) (hi := 2147483647) rfl rfl
  refine j_icmp_ne (tgt := 57) hx hb (by omega) (by omega) dX12_areInOnePage_32 (by decide) (fun c_3 => ?_) (fun c_3 => ?_)
  · refine j_const hx hb dX12_areInOnePage_57 ?_
    exact hRet 58 _ _ _ 0 _ dX12_areInOnePage_58 hW hF (by omega) ⟨trivial, hR⟩
  · refine lv_iload hx hb dX12_areInOnePage_35 (lv_at hl 1 rfl) ?_
    refine lv_aload_n hx hb dX12_areInOnePage_37 rfl (lv_at hl 3 rfl) ?_
    refine j_getI hx hb (C := RX12) (T := TX12) (N := 41) hts inX12_areInOnePage_X12 hown hK hS hW h0 rfl 35 rfl rfl (by decide) (hts _ flX12_areInOnePage_336) dX12_areInOnePage_38 ?_
    have := fbd hW h0 (k := 35) (lo := -2147483648) (hi := 2147483647) rfl rfl
    refine j_icmp_ne (tgt := 57) hx hb (by omega) (by omega) dX12_areInOnePage_41 (by decide) (fun c_4 => ?_) (fun c_4 => ?_)
    · refine j_const hx hb dX12_areInOnePage_57 ?_
      exact hRet 58 _ _ _ 0 _ dX12_areInOnePage_58 hW hF (by omega) ⟨trivial, hR⟩
    · refine lv_iload hx hb dX12_areInOnePage_44 (lv_at hl 0 rfl) ?_
      refine lv_aload_n hx hb dX12_areInOnePage_46 rfl (lv_at hl 3 rfl) ?_
      refine j_getI hx hb (C := RX12) (T := TX12) (N := 41) hts inX12_areInOnePage_X12 hown hK hS hW h0 rfl 36 rfl rfl (by decide) (hts _ flX12_areInOnePage_339) dX12_areInOnePage_47 ?_
      have := fbd hW h0 (k := 36) (lo := -2147483648) (hi := 2147483647) rfl rfl
      refine j_icmp_ne (tgt := 57) hx hb (by omega) (by omega) dX12_areInOnePage_50 (by decide) (fun c_5 => ?_) (fun c_5 => ?_)
      · refine j_const hx hb dX12_areInOnePage_57 ?_
        exact hRet 58 _ _ _ 0 _ dX12_areInOnePage_58 hW hF (by omega) ⟨trivial, hR⟩
      · refine j_const hx hb dX12_areInOnePage_53 ?_
        refine lv_goto (tgt := 58) hx hb dX12_areInOnePage_54 (by decide) ?_
        exact hRet 58 _ _ _ 1 _ dX12_areInOnePage_58 hW hF (by omega) ⟨trivial, hR⟩
abbrev wr_X12_step : List Nat := [13003, 13004, 13005, 13008, 13034, 13035, 13036, 40000, 41000, 42000, 43000]
theorem flX12_step_7 : Cond.fieldLink RX12 7 "PageTrieModel" "file" "[I" ∈ wsX12_step := List.mem_of_getElem? (i := 1) rfl
theorem inX12_step_X12 : ∀ w ∈ u_ws RX12 TX12 41, w ∈ wsX12_step := mem_r _ [106, 107, 108, 109, 110, 111, 112, 113, 114, 115, 116, 117, 118, 119, 120, 121, 122, 123, 124, 125, 126, 127, 128, 129, 130, 131, 132, 133, 134, 135, 136, 137, 138, 139, 140, 141, 142, 143, 144, 145, 146] rfl
theorem hvX12_step : yX12_step.cls = RX12 ∧ yX12_step.cls ≠ "java/lang/invoke/MethodHandle" ∧ yX12_step.cls ≠ "java/lang/invoke/VarHandle" ∧ (parseMethodDescriptor yX12_step.desc).map (fun d => d.parameters.length) = some 2 := by decide +kernel
set_option maxHeartbeats 4000000 in
set_option maxRecDepth 100000 in
theorem kX12_step (l : Launch) {D : va_G} {cA : Nat → ClassId} {τ : Nat → Nat} {G : Nat → Nat → Nat} {L : List Nat} (hS : SW τ G L) (σ : Nat → Nat → Int) {a0 : Nat} (h0 : τ a0 = 13) {x1 : Int} (r1 : rg x1) {x2 : Int} (r2 : rg x2) (hI : FI G a0 σ) (q0 : FM (σ (G a0 0))) : Met l yX12_step wsX12_step ({ frames := 6, cells := 0, slots := 0, locals := 135 }) (jP D cA τ G L σ [.ref a0, .int (jI x1), .int (jI x2)]) (jQI D cA τ G L (fun r σ' => ((FI G a0 σ') ∧ (FM (σ' (G a0 0)))) ∧ fr wr_X12_step τ σ σ')) 0 0 (fun q => q ∈ L) := by
  refine j_metI (by decide +kernel) rfl (Nat.le_of_ble_eq_true rfl) ?_
  intro p e s m args below meth c Q hx hb hml hown hts hK hW hRet ls hl
  have hl : lv_has ls 7 [(0, .ref a0), (1, .int (jI x1)), (2, .int (jI x2))] := hl
  have hA : ∀ q ∈ L, (fun q => q ∈ L) q := fun _ h => h
  have hF : va_S (fun q => q ∈ L) s.heap s.heap [] := va_S.rf
  have hR : fr wr_X12_step τ σ σ := fr_rf
  have hk_file : τ (G a0 0) = 40 := gty hS h0 (k := 0) rfl rfl
  have hk_hand : τ (G a0 2) = 41 := gty hS h0 (k := 2) rfl rfl
  have := FI_bd hI
  have := fbd hW h0 (k := 3) (lo := 0) (hi := 24) rfl rfl
  refine lv_iload_n hx hb dX12_step_0 rfl (lv_at hl 1 rfl) ?_
  refine j_cR (j_runS (As := [.int (jI x1)]) (rest := []) hx hb hml hown hts hK hW (kX12_isCursor l hS σ (x0 := x1) (r0 := (by omega))) 1 gX12_step_X12_isCursor rfl hsX12_isCursor ⟨Nat.le_of_ble_eq_true rfl, Nat.le_of_ble_eq_true rfl⟩ rfl rfl rfl hl.1 rfl (Nat.le_of_ble_eq_true rfl) dX12_step_1 ⟨Nat.le_of_ble_eq_true rfl, Nat.le_of_ble_eq_true rfl⟩) (fun v_1 rv_1 pv_1 => ?_)
  try dsimp only at pv_1
  have q_isCursor := pv_1
  refine j_if_ne (tgt := 9) hx hb (by omega) dX12_step_4 (by decide) (fun c_2 => ?_) (fun c_2 => ?_)
  · refine lv_aload_n hx hb dX12_step_9 rfl (lv_at hl 0 rfl) ?_
    refine j_getR hx hb (C := RX12) (T := TX12) (N := 41) hts inX12_step_X12 hown hK hS hW h0 rfl 0 rfl rfl (by decide) (hts _ flX12_step_7) dX12_step_10 ?_
    refine lv_aload_n hx hb dX12_step_13 rfl (lv_at hl 0 rfl) ?_
    refine lv_iload_n hx hb dX12_step_14 rfl (lv_at hl 1 rfl) ?_
    refine j_cR (j_runV (As := [.int (jI x1)]) (rest := [.ref (G a0 0)]) hx hb hml hown hts hK hS hW (kX12_cursorAt l hS σ (a0 := a0) (h0 := h0) (x1 := x1) (r1 := (by omega)) (q0 := (by omega)) (q1 := (by omega))) 1 gX12_step_X12_cursorAt rfl hvX12_cursorAt ⟨Nat.le_of_ble_eq_true rfl, Nat.le_of_ble_eq_true rfl⟩ rfl rfl h0 rfl rfl rfl rfl hl.1 rfl (Nat.le_of_ble_eq_true rfl) dX12_step_15 ⟨Nat.le_of_ble_eq_true rfl, Nat.le_of_ble_eq_true rfl⟩) (fun v_3 rv_3 pv_3 => ?_)
    try dsimp only at pv_3
    have q_cursorAt := pv_3
    refine j_ald hx hb hK hS hW hk_file (n := 17624) rfl (by omega) (by omega) (by decide) dX12_step_18 ?_
    have := abd hW hk_file (n := 17624) (lo := -2147483648) (hi := 2147483647) (i := v_3) rfl (by omega) (by omega)
    refine j_if_ne (tgt := 25) hx hb (by omega) dX12_step_19 (by decide) (fun c_4 => ?_) (fun c_4 => ?_)
    · refine lv_aload_n hx hb dX12_step_25 rfl (lv_at hl 0 rfl) ?_
      refine lv_iload_n hx hb dX12_step_26 rfl (lv_at hl 1 rfl) ?_
      refine j_cV (j_runV (As := [.int (jI x1)]) (rest := []) hx hb hml hown hts hK hS hW (kX12_handsCursor l hS σ (a0 := a0) (h0 := h0) (x1 := x1) (r1 := (by omega)) (hI := hI) (q0 := (by omega)) (q1 := (by omega))) 1 gX12_step_X12_handsCursor rfl hvX12_handsCursor ⟨Nat.le_of_ble_eq_true rfl, Nat.le_of_ble_eq_true rfl⟩ rfl rfl h0 rfl rfl rfl rfl hl.1 rfl (Nat.le_of_ble_eq_true rfl) dX12_step_27 ⟨Nat.le_of_ble_eq_true rfl, Nat.le_of_ble_eq_true rfl⟩) hA hF (fun σ_5 H locs hW hF pσ_5 => ?_)
      try dsimp only at pσ_5
      obtain ⟨pσ_5, fpσ_5⟩ := pσ_5
      have q_handsCursor := pσ_5
      have hR := fr_call hR fpσ_5 (by decide)
      have Efile : σ_5 (G a0 0) = σ (G a0 0) := row_fr fpσ_5 hk_file 40 (by decide) (by decide)
      have := congrFun Efile 0
      have Ekept : σ_5 a0 1 = σ a0 1 := fr_at fpσ_5 h0 1 13001 rfl (by decide)
      have hI := FI_dep hS h0 hI (kp_fr fpσ_5 (by decide))
      refine lv_aload_n hx hb dX12_step_30 rfl (lv_at hl 0 rfl) ?_
      refine j_cR (j_runV (As := []) (rest := []) hx hb hml hown hts hK hS hW (kX12_rankOfHand l hS σ_5 (a0 := a0) (h0 := h0) (hI := hI)) 0 gX12_step_X12_rankOfHand rfl hvX12_rankOfHand ⟨Nat.le_of_ble_eq_true rfl, Nat.le_of_ble_eq_true rfl⟩ rfl rfl h0 rfl rfl rfl rfl hl.1 rfl (Nat.le_of_ble_eq_true rfl) dX12_step_31 ⟨Nat.le_of_ble_eq_true rfl, Nat.le_of_ble_eq_true rfl⟩) (fun v_6 rv_6 pv_6 => ?_)
      try dsimp only at pv_6
      try simp only [Efile, Ekept] at pv_6
      have q_rankOfHand := pv_6
      have : 0 ≤ v_6 ∧ v_6 ≤ σ (G a0 0) 0 := ⟨pv_6.1, pv_6.2.1⟩
      refine lv_istore_n (lv' := [(3, .int (jI v_6)), (0, .ref a0), (1, .int (jI x1)), (2, .int (jI x2))]) hx hb dX12_step_34 rfl hl (by decide) rfl (fun ls hl => ?_)
      refine lv_aload_n hx hb dX12_step_35 rfl (lv_at hl 1 rfl) ?_
      refine j_cR (j_runV (As := []) (rest := []) hx hb hml hown hts hK hS hW (kX12_isHandThere l hS σ_5 (a0 := a0) (h0 := h0) (hI := hI)) 0 gX12_step_X12_isHandThere rfl hvX12_isHandThere ⟨Nat.le_of_ble_eq_true rfl, Nat.le_of_ble_eq_true rfl⟩ rfl rfl h0 rfl rfl rfl rfl hl.1 rfl (Nat.le_of_ble_eq_true rfl) dX12_step_36 ⟨Nat.le_of_ble_eq_true rfl, Nat.le_of_ble_eq_true rfl⟩) (fun v_7 rv_7 pv_7 => ?_)
      try dsimp only at pv_7
      try simp only [Efile, Ekept] at pv_7
      have q_isHandThere := pv_7
      refine lv_istore (lv' := [(4, .int (jI v_7)), (3, .int (jI v_6)), (0, .ref a0), (1, .int (jI x1)), (2, .int (jI x2))]) hx hb dX12_step_39 hl (by decide) rfl (fun ls hl => ?_)
      refine lv_iload_n hx hb dX12_step_41 rfl (lv_at hl 4 rfl) ?_
      have L_63 : ∀ (t0_63 : Int) (ls : Array Slot), rg t0_63 → lv_has ls 7 [(0, .ref a0), (1, .int (jI x1)), (3, .int (jI v_6)), (4, .int (jI v_7))] → W p l e ({ frames := 6, cells := 0, slots := 0, locals := 135 }) s m args below meth c H locs 0 0 Q (F0 m 63 ls [.int (jI t0_63)]) := by
        intro t0_63 ls rt0_63 hl
        refine lv_istore (lv' := [(5, .int (jI t0_63)), (0, .ref a0), (1, .int (jI x1)), (3, .int (jI v_6)), (4, .int (jI v_7))]) hx hb dX12_step_63 hl (by decide) rfl (fun ls hl => ?_)
        refine lv_aload_n hx hb dX12_step_65 rfl (lv_at hl 1 rfl) ?_
        refine lv_iload hx hb dX12_step_66 (lv_at hl 0 rfl) ?_
        refine j_cR (j_runV (As := [.int (jI t0_63)]) (rest := []) hx hb hml hown hts hK hS hW (kX12_isThere l hS σ_5 (a0 := a0) (h0 := h0) (x1 := t0_63) (r1 := (by omega)) (hI := hI)) 1 gX12_step_X12_isThere rfl hvX12_isThere ⟨Nat.le_of_ble_eq_true rfl, Nat.le_of_ble_eq_true rfl⟩ rfl rfl h0 rfl rfl rfl rfl hl.1 rfl (Nat.le_of_ble_eq_true rfl) dX12_step_68 ⟨Nat.le_of_ble_eq_true rfl, Nat.le_of_ble_eq_true rfl⟩) (fun v_8 rv_8 pv_8 => ?_)
        try dsimp only at pv_8
        try simp only [Efile, Ekept] at pv_8
        have q_isThere := pv_8
        refine j_if_ne (tgt := 77) hx hb (by omega) dX12_step_71 (by decide) (fun c_9 => ?_) (fun c_9 => ?_)
        · refine lv_iload hx hb dX12_step_77 (lv_at hl 4 rfl) ?_
          have L_101 : ∀ (t0_101 : Int) (σL_101 : Nat → Nat → Int) (H : Heap) (locs : List Loc) (ls : Array Slot), (1 ≤ t0_101) → (t0_101 ≤ 3) → rg t0_101 → PW D cA τ G L σL_101 H → va_S (fun q => q ∈ L) s.heap H locs → fr wr_X12_step τ σ σL_101 → FI G a0 σL_101 → σL_101 (G a0 0) = σ (G a0 0) → σL_101 a0 1 = σ a0 1 → lv_has ls 7 [(0, .ref a0), (1, .int (jI x1)), (5, .int (jI t0_63))] → W p l e ({ frames := 6, cells := 0, slots := 0, locals := 135 }) s m args below meth c H locs 0 0 Q (F0 m 101 ls [.int (jI t0_101)]) := by
            intro t0_101 σL_101 H locs ls i0_101 i1_101 rt0_101 hW hF hR hI Efile Ekept hl
            have := congrFun Efile 0
            refine lv_istore (lv' := [(6, .int (jI t0_101)), (0, .ref a0), (1, .int (jI x1)), (5, .int (jI t0_63))]) hx hb dX12_step_101 hl (by decide) rfl (fun ls hl => ?_)
            have hke := Ekept
            have hfm0 : FM (σL_101 (G a0 0)) := by (first | exact q0 | (rw [Efile]; exact q0))
            have hn0 : σL_101 (G a0 0) 0 = (σ (G a0 0)) 0 := by (first | rfl | (rw [Efile]))
            obtain ⟨σh, hσh⟩ : ∃ z, z = σL_101 (G a0 0) := ⟨_, rfl⟩
            refine lv_aload_n hx hb dX12_step_103 rfl (lv_at hl 1 rfl) ?_
            refine j_getR hx hb (C := RX12) (T := TX12) (N := 41) hts inX12_step_X12 hown hK hS hW h0 rfl 0 rfl rfl (by decide) (hts _ flX12_step_7) dX12_step_104 ?_
            refine lv_aload_n hx hb dX12_step_107 rfl (lv_at hl 1 rfl) ?_
            refine lv_iload_n hx hb dX12_step_108 rfl (lv_at hl 2 rfl) ?_
            refine j_cR (j_runV (As := [.int (jI x1)]) (rest := [.ref (G a0 0)]) hx hb hml hown hts hK hS hW (kX12_cursorAt l hS σL_101 (a0 := a0) (h0 := h0) (x1 := x1) (r1 := (by omega)) (q0 := (by omega)) (q1 := (by omega))) 1 gX12_step_X12_cursorAt rfl hvX12_cursorAt ⟨Nat.le_of_ble_eq_true rfl, Nat.le_of_ble_eq_true rfl⟩ rfl rfl h0 rfl rfl rfl rfl hl.1 rfl (Nat.le_of_ble_eq_true rfl) dX12_step_109 ⟨Nat.le_of_ble_eq_true rfl, Nat.le_of_ble_eq_true rfl⟩) (fun v_10 rv_10 pv_10 => ?_)
            try dsimp only at pv_10
            try simp only [Efile, Ekept] at pv_10
            have q_cursorAt := pv_10
            refine lv_iload hx hb dX12_step_112 (lv_at hl 0 rfl) ?_
            refine j_add hx hb dX12_step_114 ?_
            refine lv_aload_n hx hb dX12_step_115 rfl (lv_at hl 1 rfl) ?_
            refine j_getR hx hb (C := RX12) (T := TX12) (N := 41) hts inX12_step_X12 hown hK hS hW h0 rfl 0 rfl rfl (by decide) (hts _ flX12_step_7) dX12_step_116 ?_
            refine lv_aload_n hx hb dX12_step_119 rfl (lv_at hl 1 rfl) ?_
            refine lv_iload_n hx hb dX12_step_120 rfl (lv_at hl 2 rfl) ?_
            refine j_cR (j_runV (As := [.int (jI x1)]) (rest := [.ref (G a0 0), .int (jI (v_10 + t0_101)), .ref (G a0 0)]) hx hb hml hown hts hK hS hW (kX12_cursorAt l hS σL_101 (a0 := a0) (h0 := h0) (x1 := x1) (r1 := (by omega)) (q0 := (by omega)) (q1 := (by omega))) 1 gX12_step_X12_cursorAt rfl hvX12_cursorAt ⟨Nat.le_of_ble_eq_true rfl, Nat.le_of_ble_eq_true rfl⟩ rfl rfl h0 rfl rfl rfl rfl hl.1 rfl (Nat.le_of_ble_eq_true rfl) dX12_step_121 ⟨Nat.le_of_ble_eq_true rfl, Nat.le_of_ble_eq_true rfl⟩) (fun v_11 rv_11 pv_11 => ?_)
            try dsimp only at pv_11
            try simp only [Efile, Ekept] at pv_11
            have q_cursorAt := pv_11
            refine lv_iload hx hb dX12_step_124 (lv_at hl 0 rfl) ?_
            refine j_add hx hb dX12_step_126 ?_
            refine j_ald hx hb hK hS hW hk_file (n := 17624) rfl (by omega) (by omega) (by decide) dX12_step_127 ?_
            have := abd hW hk_file (n := 17624) (lo := -2147483648) (hi := 2147483647) (i := v_11 + t0_101) rfl (by omega) (by omega)
            rw [Efile]
            try simp only [Efile] at this
            refine j_const hx hb dX12_step_128 ?_
            refine j_add hx hb dX12_step_129 ?_
            refine j_wrap (fun z_12 rz_12 ez_12 => ?_)
            refine j_ast hx hb hK hS hA hW hF hk_file (n := 17624) (lo := -2147483648) (hi := 2147483647) rfl (by omega) (by omega) (by decide) (by omega) dX12_step_130 (fun σ_13 H locs e_14 hW hF => ?_)
            have st_file := e_14
            have hR := fr_up hR e_14 hk_file 40000 (cdA 40 (by decide) _) (by decide)
            have Ehl : σ_13 a0 3 = σL_101 a0 3 := fld_up e_14 hk_file h0 (fun q => absurd q.1 (by decide))
            have Ehand : σ_13 (G a0 2) = σL_101 (G a0 2) := row_up e_14 hk_file hk_hand (by decide)
            have Ekept : σ_13 a0 1 = σ a0 1 := (fld_up e_14 hk_file h0 (fun q => absurd q.1 (by decide))).trans Ekept
            have hcm := FI_cm hI hfm0 st_file (c := x1) (by omega) (by omega) (by omega) (by omega) (Ekept.trans hke.symm)
            have hc0 : (σ_13 (G a0 0)) 0 = σh 0 := by (rw [hσh, st_file, up2_ne _ _ (by omega)])
            have hn1 : σh 0 = σ (G a0 0) 0 := by (rw [hσh]; omega)
            have hI := hcm.1
            refine lv_aload_n hx hb dX12_step_131 rfl (lv_at hl 1 rfl) ?_
            refine lv_iload hx hb dX12_step_132 (lv_at hl 3 rfl) ?_
            refine j_cV (j_runV (As := [.int (jI t0_63)]) (rest := []) hx hb hml hown hts hK hS hW (kX12_takesHand l hS σ_13 (a0 := a0) (h0 := h0) (x1 := t0_63) (r1 := (by omega)) (hI := hI) (q0 := (by omega)) (q1 := (by omega))) 1 gX12_step_X12_takesHand rfl hvX12_takesHand ⟨Nat.le_of_ble_eq_true rfl, Nat.le_of_ble_eq_true rfl⟩ rfl rfl h0 rfl rfl rfl rfl hl.1 rfl (Nat.le_of_ble_eq_true rfl) dX12_step_134 ⟨Nat.le_of_ble_eq_true rfl, Nat.le_of_ble_eq_true rfl⟩) hA hF (fun σ_15 H locs hW hF pσ_15 => ?_)
            try dsimp only at pσ_15
            obtain ⟨pσ_15, fpσ_15⟩ := pσ_15
            try simp only [Ehl, Ehand, Ekept] at pσ_15
            have q_takesHand := pσ_15
            have hR := fr_call hR fpσ_15 (by decide)
            have Efile : σ_15 (G a0 0) = σ_13 (G a0 0) := row_fr fpσ_15 hk_file 40 (by decide) (by decide)
            have := congrFun Efile 0
            have Ekept : σ_15 a0 1 = σ a0 1 := (fr_at fpσ_15 h0 1 13001 rfl (by decide)).trans Ekept
            have hI := FI_dep hS h0 hI (kp_fr fpσ_15 (by decide))
            refine lv_aload_n hx hb dX12_step_137 rfl (lv_at hl 1 rfl) ?_
            refine lv_iload_n hx hb dX12_step_138 rfl (lv_at hl 2 rfl) ?_
            refine j_cV (j_runV (As := [.int (jI x1)]) (rest := []) hx hb hml hown hts hK hS hW (kX12_laysCursor l hS σ_15 (a0 := a0) (h0 := h0) (x1 := x1) (r1 := (by omega)) (hI := hI) (q0 := (by omega)) (q1 := (by omega)) (q2 := (by first | exact hcm.2 | (rw [Efile]; exact hcm.2)))) 1 gX12_step_X12_laysCursor rfl hvX12_laysCursor ⟨Nat.le_of_ble_eq_true rfl, Nat.le_of_ble_eq_true rfl⟩ rfl rfl h0 rfl rfl rfl rfl hl.1 rfl (Nat.le_of_ble_eq_true rfl) dX12_step_139 ⟨Nat.le_of_ble_eq_true rfl, Nat.le_of_ble_eq_true rfl⟩) hA hF (fun σ_16 H locs hW hF pσ_16 => ?_)
            try dsimp only at pσ_16
            obtain ⟨pσ_16, fpσ_16⟩ := pσ_16
            try simp only [Efile, Ekept] at pσ_16
            have q_laysCursor := pσ_16
            have hR := fr_call hR fpσ_16 (by decide)
            have Ehl : σ_16 a0 3 = σ_15 a0 3 := fr_at fpσ_16 h0 3 13003 rfl (by decide)
            have Ehand : σ_16 (G a0 2) = σ_15 (G a0 2) := row_fr fpσ_16 hk_hand 41 (by decide) (by decide)
            have Ekept : σ_16 a0 1 = σ a0 1 := (fr_at fpσ_16 h0 1 13001 rfl (by decide)).trans Ekept
            refine lv_iload hx hb dX12_step_142 (lv_at hl 3 rfl) ?_
            exact hRet 144 _ _ _ t0_63 _ dX12_step_144 hW hF (by omega) ⟨(by first | exact ⟨q_laysCursor.1, q_laysCursor.2.1⟩ | (simp only [Ehl, Ehand, Ekept]; exact ⟨q_laysCursor.1, q_laysCursor.2.1⟩)), hR⟩
          refine j_if_ne (tgt := 86) hx hb (by omega) dX12_step_79 (by decide) (fun c_17 => ?_) (fun c_17 => ?_)
          · have hrk := TH_rank q_rankOfHand (q_isHandThere.2.mp (by omega))
            refine lv_aload_n hx hb dX12_step_86 rfl (lv_at hl 1 rfl) ?_
            refine lv_iload_n hx hb dX12_step_87 rfl (lv_at hl 3 rfl) ?_
            refine lv_iload hx hb dX12_step_88 (lv_at hl 0 rfl) ?_
            refine j_cI (j_runV (As := [.int (jI v_6), .int (jI t0_63)]) (rest := []) hx hb hml hown hts hK hS hW (kX12_areInOnePage l hS σ_5 (a0 := a0) (h0 := h0) (x1 := v_6) (r1 := (by omega)) (x2 := t0_63) (r2 := (by omega)) (hI := hI) (q0 := (by omega)) (q1 := (by omega)) (q2 := (by omega)) (q3 := (by omega)) (q4 := (by first | exact q0 | (rw [Efile]; exact q0)))) 2 gX12_step_X12_areInOnePage rfl hvX12_areInOnePage ⟨Nat.le_of_ble_eq_true rfl, Nat.le_of_ble_eq_true rfl⟩ rfl rfl h0 rfl rfl rfl rfl hl.1 rfl (Nat.le_of_ble_eq_true rfl) dX12_step_90 ⟨Nat.le_of_ble_eq_true rfl, Nat.le_of_ble_eq_true rfl⟩) hA hF (fun v_18 σ_19 H locs hW hF rv_18 pv_18 => ?_)
            try dsimp only at pv_18
            obtain ⟨bpv_18, pv_18, fpv_18⟩ := pv_18
            have q_areInOnePage := pv_18
            have hR := fr_call hR fpv_18 (by decide)
            have Efile : σ_19 (G a0 0) = σ (G a0 0) := (row_fr fpv_18 hk_file 40 (by decide) (by decide)).trans Efile
            have := congrFun Efile 0
            have Ekept : σ_19 a0 1 = σ a0 1 := (fr_at fpv_18 h0 1 13001 rfl (by decide)).trans Ekept
            have hI := FI_dep hS h0 hI (kp_fr fpv_18 (by decide))
            refine j_if_eq (tgt := 100) hx hb (by omega) dX12_step_93 (by decide) (fun c_20 => ?_) (fun c_20 => ?_)
            · refine j_const hx hb dX12_step_100 ?_
              exact L_101 2 σ_19 _ _ _ (by omega) (by omega) (by decide) hW hF hR hI Efile Ekept (lv_sub hl [1, 2, 0] rfl)
            · refine j_const hx hb dX12_step_96 ?_
              refine lv_goto (tgt := 101) hx hb dX12_step_97 (by decide) ?_
              exact L_101 1 σ_19 _ _ _ (by omega) (by omega) (by decide) hW hF hR hI Efile Ekept (lv_sub hl [1, 2, 0] rfl)
          · refine j_const hx hb dX12_step_82 ?_
            refine lv_goto (tgt := 101) hx hb dX12_step_83 (by decide) ?_
            exact L_101 3 σ_5 _ _ _ (by omega) (by omega) (by decide) hW hF hR hI Efile Ekept (lv_sub hl [1, 2, 0] rfl)
        · refine j_bi hx hb dX12_step_74 (by decide) ?_
          exact hRet 76 _ _ _ (-3) _ dX12_step_76 hW hF (by decide) ⟨(by first | exact ⟨hI, q0⟩ | (simp only [Efile, Ekept]; exact ⟨hI, q0⟩)), hR⟩
      refine j_if_ne (tgt := 51) hx hb (by omega) dX12_step_42 (by decide) (fun c_21 => ?_) (fun c_21 => ?_)
      · refine lv_iload hx hb dX12_step_51 (lv_at hl 0 rfl) ?_
        refine j_if_eq (tgt := 62) hx hb (by omega) dX12_step_53 (by decide) (fun c_22 => ?_) (fun c_22 => ?_)
        · refine lv_iload_n hx hb dX12_step_62 rfl (lv_at hl 1 rfl) ?_
          exact L_63 v_6 _ (by omega) (lv_sub hl [2, 3, 1, 0] rfl)
        · refine lv_iload_n hx hb dX12_step_56 rfl (lv_at hl 1 rfl) ?_
          refine j_const hx hb dX12_step_57 ?_
          refine j_add hx hb dX12_step_58 ?_
          refine lv_goto (tgt := 63) hx hb dX12_step_59 (by decide) ?_
          exact L_63 (v_6 + 1) _ (by omega) (lv_sub hl [2, 3, 1, 0] rfl)
      · refine lv_iload_n hx hb dX12_step_45 rfl (lv_at hl 1 rfl) ?_
        refine j_const hx hb dX12_step_46 ?_
        refine j_sub hx hb dX12_step_47 ?_
        refine lv_goto (tgt := 63) hx hb dX12_step_48 (by decide) ?_
        exact L_63 (v_6 - 1) _ (by omega) (lv_sub hl [2, 3, 1, 0] rfl)
    · refine j_bi hx hb dX12_step_22 (by decide) ?_
      exact hRet 24 _ _ _ (-4) _ dX12_step_24 hW hF (by decide) ⟨⟨hI, q0⟩, hR⟩
  · refine j_const hx hb dX12_step_7 ?_
    exact hRet 8 _ _ _ (-1) _ dX12_step_8 hW hF (by decide) ⟨⟨hI, q0⟩, hR⟩
abbrev wr_X12_cursorIs : List Nat := [13003, 41000]
theorem flX12_cursorIs_7 : Cond.fieldLink RX12 7 "PageTrieModel" "file" "[I" ∈ wsX12_cursorIs := List.mem_of_getElem? (i := 1) rfl
theorem inX12_cursorIs_X12 : ∀ w ∈ u_ws RX12 TX12 41, w ∈ wsX12_cursorIs := mem_r _ [43, 44, 45, 46, 47, 48, 49, 50, 51, 52, 53, 54, 55, 56, 57, 58, 59, 60, 61, 62, 63, 64, 65, 66, 67, 68, 69, 70, 71, 72, 73, 74, 75, 76, 77, 78, 79, 80, 81, 82, 83] rfl
theorem hvX12_cursorIs : yX12_cursorIs.cls = RX12 ∧ yX12_cursorIs.cls ≠ "java/lang/invoke/MethodHandle" ∧ yX12_cursorIs.cls ≠ "java/lang/invoke/VarHandle" ∧ (parseMethodDescriptor yX12_cursorIs.desc).map (fun d => d.parameters.length) = some 2 := by decide +kernel
set_option maxHeartbeats 4000000 in
set_option maxRecDepth 100000 in
theorem kX12_cursorIs (l : Launch) {D : va_G} {cA : Nat → ClassId} {τ : Nat → Nat} {G : Nat → Nat → Nat} {L : List Nat} (hS : SW τ G L) (σ : Nat → Nat → Int) {a0 : Nat} (h0 : τ a0 = 13) {x1 : Int} (r1 : rg x1) {x2 : Int} (r2 : rg x2) (hI : FI G a0 σ) : Met l yX12_cursorIs wsX12_cursorIs ({ frames := 4, cells := 0, slots := 0, locals := 86 }) (jP D cA τ G L σ [.ref a0, .int (jI x1), .int (jI x2)]) (jQI D cA τ G L (fun r σ' => (True) ∧ fr wr_X12_cursorIs τ σ σ')) 0 0 (fun q => q ∈ L) := by
  refine j_metI (by decide +kernel) rfl (Nat.le_of_ble_eq_true rfl) ?_
  intro p e s m args below meth c Q hx hb hml hown hts hK hW hRet ls hl
  have hl : lv_has ls 3 [(0, .ref a0), (1, .int (jI x1)), (2, .int (jI x2))] := hl
  have hA : ∀ q ∈ L, (fun q => q ∈ L) q := fun _ h => h
  have hF : va_S (fun q => q ∈ L) s.heap s.heap [] := va_S.rf
  have hR : fr wr_X12_cursorIs τ σ σ := fr_rf
  have hk_file : τ (G a0 0) = 40 := gty hS h0 (k := 0) rfl rfl
  have := FI_bd hI
  have := fbd hW h0 (k := 3) (lo := 0) (hi := 24) rfl rfl
  refine lv_iload_n hx hb dX12_cursorIs_0 rfl (lv_at hl 1 rfl) ?_
  refine j_cR (j_runS (As := [.int (jI x1)]) (rest := []) hx hb hml hown hts hK hW (kX12_isCursor l hS σ (x0 := x1) (r0 := (by omega))) 1 gX12_cursorIs_X12_isCursor rfl hsX12_isCursor ⟨Nat.le_of_ble_eq_true rfl, Nat.le_of_ble_eq_true rfl⟩ rfl rfl rfl hl.1 rfl (Nat.le_of_ble_eq_true rfl) dX12_cursorIs_1 ⟨Nat.le_of_ble_eq_true rfl, Nat.le_of_ble_eq_true rfl⟩) (fun v_1 rv_1 pv_1 => ?_)
  try dsimp only at pv_1
  have q_isCursor := pv_1
  refine j_if_eq (tgt := 20) hx hb (by omega) dX12_cursorIs_4 (by decide) (fun c_2 => ?_) (fun c_2 => ?_)
  · refine j_const hx hb dX12_cursorIs_20 ?_
    exact hRet 21 _ _ _ (-1) _ dX12_cursorIs_21 hW hF (by decide) ⟨trivial, hR⟩
  · refine lv_aload_n hx hb dX12_cursorIs_7 rfl (lv_at hl 0 rfl) ?_
    refine j_getR hx hb (C := RX12) (T := TX12) (N := 41) hts inX12_cursorIs_X12 hown hK hS hW h0 rfl 0 rfl rfl (by decide) (hts _ flX12_cursorIs_7) dX12_cursorIs_8 ?_
    refine lv_aload_n hx hb dX12_cursorIs_11 rfl (lv_at hl 0 rfl) ?_
    refine lv_iload_n hx hb dX12_cursorIs_12 rfl (lv_at hl 1 rfl) ?_
    refine j_cR (j_runV (As := [.int (jI x1)]) (rest := [.ref (G a0 0)]) hx hb hml hown hts hK hS hW (kX12_cursorAt l hS σ (a0 := a0) (h0 := h0) (x1 := x1) (r1 := (by omega)) (q0 := (by omega)) (q1 := (by omega))) 1 gX12_cursorIs_X12_cursorAt rfl hvX12_cursorAt ⟨Nat.le_of_ble_eq_true rfl, Nat.le_of_ble_eq_true rfl⟩ rfl rfl h0 rfl rfl rfl rfl hl.1 rfl (Nat.le_of_ble_eq_true rfl) dX12_cursorIs_13 ⟨Nat.le_of_ble_eq_true rfl, Nat.le_of_ble_eq_true rfl⟩) (fun v_3 rv_3 pv_3 => ?_)
    try dsimp only at pv_3
    have q_cursorAt := pv_3
    refine j_ald hx hb hK hS hW hk_file (n := 17624) rfl (by omega) (by omega) (by decide) dX12_cursorIs_16 ?_
    have := abd hW hk_file (n := 17624) (lo := -2147483648) (hi := 2147483647) (i := v_3) rfl (by omega) (by omega)
    refine j_if_ne (tgt := 22) hx hb (by omega) dX12_cursorIs_17 (by decide) (fun c_4 => ?_) (fun c_4 => ?_)
    · refine lv_iload_n hx hb dX12_cursorIs_22 rfl (lv_at hl 2 rfl) ?_
      refine j_bi hx hb dX12_cursorIs_23 (by decide) ?_
      refine j_bi hx hb dX12_cursorIs_25 (by decide) ?_
      refine j_cR (j_runS (As := [.int (jI x2), .int (jI 10), .int (jI 33)]) (rest := []) hx hb hml hown hts hK hW (kX12_in l hS σ (x0 := x2) (r0 := (by omega)) (x1 := 10) (r1 := (by decide)) (x2 := 33) (r2 := (by decide))) 3 gX12_cursorIs_X12_in rfl hsX12_in ⟨Nat.le_of_ble_eq_true rfl, Nat.le_of_ble_eq_true rfl⟩ rfl rfl rfl hl.1 rfl (Nat.le_of_ble_eq_true rfl) dX12_cursorIs_27 ⟨Nat.le_of_ble_eq_true rfl, Nat.le_of_ble_eq_true rfl⟩) (fun v_5 rv_5 pv_5 => ?_)
      try dsimp only at pv_5
      have q_in := pv_5
      refine j_if_eq (tgt := 75) hx hb (by omega) dX12_cursorIs_30 (by decide) (fun c_6 => ?_) (fun c_6 => ?_)
      · refine lv_iload_n hx hb dX12_cursorIs_75 rfl (lv_at hl 2 rfl) ?_
        refine j_const hx hb dX12_cursorIs_76 ?_
        refine j_const hx hb dX12_cursorIs_77 ?_
        refine j_cR (j_runS (As := [.int (jI x2), .int (jI 0), .int (jI 3)]) (rest := []) hx hb hml hown hts hK hW (kX12_in l hS σ (x0 := x2) (r0 := (by omega)) (x1 := 0) (r1 := (by decide)) (x2 := 3) (r2 := (by decide))) 3 gX12_cursorIs_X12_in rfl hsX12_in ⟨Nat.le_of_ble_eq_true rfl, Nat.le_of_ble_eq_true rfl⟩ rfl rfl rfl hl.1 rfl (Nat.le_of_ble_eq_true rfl) dX12_cursorIs_78 ⟨Nat.le_of_ble_eq_true rfl, Nat.le_of_ble_eq_true rfl⟩) (fun v_7 rv_7 pv_7 => ?_)
        try dsimp only at pv_7
        have q_in := pv_7
        refine j_if_ne (tgt := 86) hx hb (by omega) dX12_cursorIs_81 (by decide) (fun c_8 => ?_) (fun c_8 => ?_)
        · refine lv_aload_n hx hb dX12_cursorIs_86 rfl (lv_at hl 0 rfl) ?_
          refine lv_iload_n hx hb dX12_cursorIs_87 rfl (lv_at hl 1 rfl) ?_
          refine j_cV (j_runV (As := [.int (jI x1)]) (rest := []) hx hb hml hown hts hK hS hW (kX12_handsCursor l hS σ (a0 := a0) (h0 := h0) (x1 := x1) (r1 := (by omega)) (hI := hI) (q0 := (by omega)) (q1 := (by omega))) 1 gX12_cursorIs_X12_handsCursor rfl hvX12_handsCursor ⟨Nat.le_of_ble_eq_true rfl, Nat.le_of_ble_eq_true rfl⟩ rfl rfl h0 rfl rfl rfl rfl hl.1 rfl (Nat.le_of_ble_eq_true rfl) dX12_cursorIs_88 ⟨Nat.le_of_ble_eq_true rfl, Nat.le_of_ble_eq_true rfl⟩) hA hF (fun σ_9 H locs hW hF pσ_9 => ?_)
          try dsimp only at pσ_9
          obtain ⟨pσ_9, fpσ_9⟩ := pσ_9
          have q_handsCursor := pσ_9
          have hR := fr_call hR fpσ_9 (by decide)
          have Efile : σ_9 (G a0 0) = σ (G a0 0) := row_fr fpσ_9 hk_file 40 (by decide) (by decide)
          have := congrFun Efile 0
          have hI := FI_dep hS h0 hI (kp_fr fpσ_9 (by decide))
          refine lv_iload_n hx hb dX12_cursorIs_91 rfl (lv_at hl 2 rfl) ?_
          refine j_if_le (tgt := 110) hx hb (by omega) dX12_cursorIs_92 (by decide) (fun c_10 => ?_) (fun c_10 => ?_)
          · refine lv_aload_n hx hb dX12_cursorIs_110 rfl (lv_at hl 0 rfl) ?_
            refine j_cR (j_runV (As := []) (rest := []) hx hb hml hown hts hK hS hW (kX12_isHandThere l hS σ_9 (a0 := a0) (h0 := h0) (hI := hI)) 0 gX12_cursorIs_X12_isHandThere rfl hvX12_isHandThere ⟨Nat.le_of_ble_eq_true rfl, Nat.le_of_ble_eq_true rfl⟩ rfl rfl h0 rfl rfl rfl rfl hl.1 rfl (Nat.le_of_ble_eq_true rfl) dX12_cursorIs_111 ⟨Nat.le_of_ble_eq_true rfl, Nat.le_of_ble_eq_true rfl⟩) (fun v_11 rv_11 pv_11 => ?_)
            try dsimp only at pv_11
            try simp only [Efile] at pv_11
            have q_isHandThere := pv_11
            refine j_if_eq (tgt := 124) hx hb (by omega) dX12_cursorIs_114 (by decide) (fun c_12 => ?_) (fun c_12 => ?_)
            · refine j_bi hx hb dX12_cursorIs_124 (by decide) ?_
              exact hRet 126 _ _ _ (-3) _ dX12_cursorIs_126 hW hF (by decide) ⟨trivial, hR⟩
            · refine lv_aload_n hx hb dX12_cursorIs_117 rfl (lv_at hl 0 rfl) ?_
              refine j_cR (j_runV (As := []) (rest := []) hx hb hml hown hts hK hS hW (kX12_rankOfHand l hS σ_9 (a0 := a0) (h0 := h0) (hI := hI)) 0 gX12_cursorIs_X12_rankOfHand rfl hvX12_rankOfHand ⟨Nat.le_of_ble_eq_true rfl, Nat.le_of_ble_eq_true rfl⟩ rfl rfl h0 rfl rfl rfl rfl hl.1 rfl (Nat.le_of_ble_eq_true rfl) dX12_cursorIs_118 ⟨Nat.le_of_ble_eq_true rfl, Nat.le_of_ble_eq_true rfl⟩) (fun v_13 rv_13 pv_13 => ?_)
              try dsimp only at pv_13
              try simp only [Efile] at pv_13
              have q_rankOfHand := pv_13
              have : 0 ≤ v_13 ∧ v_13 ≤ σ (G a0 0) 0 := ⟨pv_13.1, pv_13.2.1⟩
              refine lv_goto (tgt := 126) hx hb dX12_cursorIs_121 (by decide) ?_
              exact hRet 126 _ _ _ v_13 _ dX12_cursorIs_126 hW hF (by omega) ⟨trivial, hR⟩
          · refine lv_aload_n hx hb dX12_cursorIs_95 rfl (lv_at hl 0 rfl) ?_
            refine j_getR hx hb (C := RX12) (T := TX12) (N := 41) hts inX12_cursorIs_X12 hown hK hS hW h0 rfl 0 rfl rfl (by decide) (hts _ flX12_cursorIs_7) dX12_cursorIs_96 ?_
            refine lv_aload_n hx hb dX12_cursorIs_99 rfl (lv_at hl 0 rfl) ?_
            refine lv_iload_n hx hb dX12_cursorIs_100 rfl (lv_at hl 1 rfl) ?_
            refine j_cR (j_runV (As := [.int (jI x1)]) (rest := [.ref (G a0 0)]) hx hb hml hown hts hK hS hW (kX12_cursorAt l hS σ_9 (a0 := a0) (h0 := h0) (x1 := x1) (r1 := (by omega)) (q0 := (by omega)) (q1 := (by omega))) 1 gX12_cursorIs_X12_cursorAt rfl hvX12_cursorAt ⟨Nat.le_of_ble_eq_true rfl, Nat.le_of_ble_eq_true rfl⟩ rfl rfl h0 rfl rfl rfl rfl hl.1 rfl (Nat.le_of_ble_eq_true rfl) dX12_cursorIs_101 ⟨Nat.le_of_ble_eq_true rfl, Nat.le_of_ble_eq_true rfl⟩) (fun v_14 rv_14 pv_14 => ?_)
            try dsimp only at pv_14
            try simp only [Efile] at pv_14
            have q_cursorAt := pv_14
            refine lv_iload_n hx hb dX12_cursorIs_104 rfl (lv_at hl 2 rfl) ?_
            refine j_add hx hb dX12_cursorIs_105 ?_
            refine j_ald hx hb hK hS hW hk_file (n := 17624) rfl (by omega) (by omega) (by decide) dX12_cursorIs_106 ?_
            have := abd hW hk_file (n := 17624) (lo := -2147483648) (hi := 2147483647) (i := v_14 + x2) rfl (by omega) (by omega)
            rw [Efile]
            try simp only [Efile] at this
            refine lv_goto (tgt := 126) hx hb dX12_cursorIs_107 (by decide) ?_
            exact hRet 126 _ _ _ (σ (G a0 0) (v_14 + x2).toNat) _ dX12_cursorIs_126 hW hF (by omega) ⟨trivial, hR⟩
        · refine j_const hx hb dX12_cursorIs_84 ?_
          exact hRet 85 _ _ _ (-1) _ dX12_cursorIs_85 hW hF (by decide) ⟨trivial, hR⟩
      · refine lv_iload_n hx hb dX12_cursorIs_33 rfl (lv_at hl 2 rfl) ?_
        refine j_bi hx hb dX12_cursorIs_34 (by decide) ?_
        refine j_sub hx hb dX12_cursorIs_36 ?_
        refine lv_aload_n hx hb dX12_cursorIs_37 rfl (lv_at hl 0 rfl) ?_
        refine j_getR hx hb (C := RX12) (T := TX12) (N := 41) hts inX12_cursorIs_X12 hown hK hS hW h0 rfl 0 rfl rfl (by decide) (hts _ flX12_cursorIs_7) dX12_cursorIs_38 ?_
        refine lv_aload_n hx hb dX12_cursorIs_41 rfl (lv_at hl 0 rfl) ?_
        refine lv_iload_n hx hb dX12_cursorIs_42 rfl (lv_at hl 1 rfl) ?_
        refine j_cR (j_runV (As := [.int (jI x1)]) (rest := [.ref (G a0 0), .int (jI (x2 - 10))]) hx hb hml hown hts hK hS hW (kX12_cursorAt l hS σ (a0 := a0) (h0 := h0) (x1 := x1) (r1 := (by omega)) (q0 := (by omega)) (q1 := (by omega))) 1 gX12_cursorIs_X12_cursorAt rfl hvX12_cursorAt ⟨Nat.le_of_ble_eq_true rfl, Nat.le_of_ble_eq_true rfl⟩ rfl rfl h0 rfl rfl rfl rfl hl.1 rfl (Nat.le_of_ble_eq_true rfl) dX12_cursorIs_43 ⟨Nat.le_of_ble_eq_true rfl, Nat.le_of_ble_eq_true rfl⟩) (fun v_15 rv_15 pv_15 => ?_)
        try dsimp only at pv_15
        have q_cursorAt := pv_15
        refine j_const hx hb dX12_cursorIs_46 ?_
        refine j_add hx hb dX12_cursorIs_47 ?_
        refine j_ald hx hb hK hS hW hk_file (n := 17624) rfl (by omega) (by omega) (by decide) dX12_cursorIs_48 ?_
        have := abd hW hk_file (n := 17624) (lo := -2147483648) (hi := 2147483647) (i := v_15 + 4) rfl (by omega) (by omega)
        refine j_icmp_ge (tgt := 72) hx hb (by omega) (by omega) dX12_cursorIs_49 (by decide) (fun c_16 => ?_) (fun c_16 => ?_)
        · refine j_bi hx hb dX12_cursorIs_72 (by decide) ?_
          exact hRet 74 _ _ _ (-4) _ dX12_cursorIs_74 hW hF (by decide) ⟨trivial, hR⟩
        · refine lv_aload_n hx hb dX12_cursorIs_52 rfl (lv_at hl 0 rfl) ?_
          refine j_getR hx hb (C := RX12) (T := TX12) (N := 41) hts inX12_cursorIs_X12 hown hK hS hW h0 rfl 0 rfl rfl (by decide) (hts _ flX12_cursorIs_7) dX12_cursorIs_53 ?_
          refine lv_aload_n hx hb dX12_cursorIs_56 rfl (lv_at hl 0 rfl) ?_
          refine lv_iload_n hx hb dX12_cursorIs_57 rfl (lv_at hl 1 rfl) ?_
          refine j_cR (j_runV (As := [.int (jI x1)]) (rest := [.ref (G a0 0)]) hx hb hml hown hts hK hS hW (kX12_cursorAt l hS σ (a0 := a0) (h0 := h0) (x1 := x1) (r1 := (by omega)) (q0 := (by omega)) (q1 := (by omega))) 1 gX12_cursorIs_X12_cursorAt rfl hvX12_cursorAt ⟨Nat.le_of_ble_eq_true rfl, Nat.le_of_ble_eq_true rfl⟩ rfl rfl h0 rfl rfl rfl rfl hl.1 rfl (Nat.le_of_ble_eq_true rfl) dX12_cursorIs_58 ⟨Nat.le_of_ble_eq_true rfl, Nat.le_of_ble_eq_true rfl⟩) (fun v_17 rv_17 pv_17 => ?_)
          try dsimp only at pv_17
          have q_cursorAt := pv_17
          refine j_const hx hb dX12_cursorIs_61 ?_
          refine j_add hx hb dX12_cursorIs_62 ?_
          refine lv_iload_n hx hb dX12_cursorIs_63 rfl (lv_at hl 2 rfl) ?_
          refine j_add hx hb dX12_cursorIs_64 ?_
          refine j_bi hx hb dX12_cursorIs_65 (by decide) ?_
          refine j_sub hx hb dX12_cursorIs_67 ?_
          refine j_ald hx hb hK hS hW hk_file (n := 17624) rfl (by omega) (by omega) (by decide) dX12_cursorIs_68 ?_
          have := abd hW hk_file (n := 17624) (lo := -2147483648) (hi := 2147483647) (i := ((v_17 + 5) + x2) - 10) rfl (by omega) (by omega)
          refine lv_goto (tgt := 74) hx hb dX12_cursorIs_69 (by decide) ?_
          exact hRet 74 _ _ _ (σ (G a0 0) (((v_17 + 5) + x2) - 10).toNat) _ dX12_cursorIs_74 hW hF (by omega) ⟨trivial, hR⟩
    · refine j_const hx hb dX12_cursorIs_20 ?_
      exact hRet 21 _ _ _ (-1) _ dX12_cursorIs_21 hW hF (by decide) ⟨trivial, hR⟩
