abbrev wr_X12_comes : List Nat := [13004, 13005, 13008, 13009, 40000, 42000, 43000]
theorem flX12_comes_7 : Cond.fieldLink RX12 7 "PageTrieModel" "file" "[I" ∈ wsX12_comes := List.mem_of_getElem? (i := 4) rfl
theorem flX12_comes_16 : Cond.fieldLink RX12 16 "PageTrieModel" "entryAt" "[I" ∈ wsX12_comes := List.mem_of_getElem? (i := 3) rfl
theorem flX12_comes_97 : Cond.fieldLink RX12 97 "PageTrieModel" "entries" "I" ∈ wsX12_comes := List.mem_of_getElem? (i := 1) rfl
theorem flX12_comes_109 : Cond.fieldLink RX12 109 "PageTrieModel" "newBits" "I" ∈ wsX12_comes := List.mem_of_getElem? (i := 2) rfl
theorem inX12_comes_X12 : ∀ w ∈ u_ws RX12 TX12 41, w ∈ wsX12_comes := mem_r _ [82, 83, 84, 85, 86, 87, 88, 89, 90, 91, 92, 93, 94, 95, 96, 97, 98, 99, 100, 101, 102, 103, 104, 105, 106, 107, 108, 109, 110, 111, 112, 113, 114, 115, 116, 117, 118, 119, 120, 121, 122] rfl
theorem hvX12_comes : yX12_comes.cls = RX12 ∧ yX12_comes.cls ≠ "java/lang/invoke/MethodHandle" ∧ yX12_comes.cls ≠ "java/lang/invoke/VarHandle" ∧ (parseMethodDescriptor yX12_comes.desc).map (fun d => d.parameters.length) = some 1 := by decide +kernel
set_option maxHeartbeats 4000000 in
set_option maxRecDepth 100000 in
theorem kX12_comes (l : Launch) {D : va_G} {cA : Nat → ClassId} {τ : Nat → Nat} {G : Nat → Nat → Nat} {L : List Nat} (hS : SW τ G L) (σ : Nat → Nat → Int) {a0 : Nat} (h0 : τ a0 = 13) {x1 : Int} (r1 : rg x1) {t : Int} (hI : FI G a0 σ) (q0 : PL (σ (G a0 0) 0) t (fun i => kO (σ (G a0 0)) i 0) (fun i => kB (σ (G a0 0)) i) (σ a0 3) (hB (σ (G a0 2)))) (q1 : FM (σ (G a0 0))) (q2 : 1 ≤ σ a0 3) (q3 : σ (G a0 0) 0 < 150) : Met l yX12_comes wsX12_comes ({ frames := 4, cells := 0, slots := 0, locals := 89 }) (jP D cA τ G L σ [.ref a0, .int (jI x1)]) (jQV D cA τ G L (fun σ' => ((FI G a0 σ') ∧ (FM (σ' (G a0 0))) ∧ (KI (σ (G a0 0)) (σ' (G a0 0)) t (σ a0 3) (hB (σ (G a0 2))))) ∧ fr wr_X12_comes τ σ σ')) 0 0 (fun q => q ∈ L) := by
  refine j_metV (by decide +kernel) rfl (Nat.le_of_ble_eq_true rfl) ?_
  intro p e s m args below meth c Q hx hb hml hown hts hK hW hRet ls hl
  have hl : lv_has ls 7 [(0, .ref a0), (1, .int (jI x1))] := hl
  have hA : ∀ q ∈ L, (fun q => q ∈ L) q := fun _ h => h
  have hF : va_S (fun q => q ∈ L) s.heap s.heap [] := va_S.rf
  have hR : fr wr_X12_comes τ σ σ := fr_rf
  have hk_file : τ (G a0 0) = 40 := gty hS h0 (k := 0) rfl rfl
  have hk_hand : τ (G a0 2) = 41 := gty hS h0 (k := 2) rfl rfl
  have hk_ea : τ (G a0 6) = 42 := gty hS h0 (k := 6) rfl rfl
  have hI0 := hI
  have hFC : FC (σ (G a0 0)) (σ (G a0 0)) := FC_rf
  have := FI_bd hI
  have := fbd hW h0 (k := 3) (lo := 0) (hi := 24) rfl rfl
  have hsr := hI.1.2.2.2.2.2
  have hL0 := fun (i : Int) (i0 : 0 ≤ i) (i1 : i < σ (G a0 0) 0) => FI_len hI i0 i1
  have ht0 := q0.1
  have htn := q0.2.1
  have hhb : ∀ k : Int, 0 ≤ k → k < 24 → 0 ≤ σ (G a0 2) k.toNat ∧ σ (G a0 2) k.toNat ≤ 255 := fun k k0 k1 => abd hW hk_hand (n := 24) (lo := 0) (hi := 255) (i := k) rfl k0 k1
  refine lv_aload_n hx hb dX12_comes_0 rfl (lv_at hl 0 rfl) ?_
  refine j_cI (j_runV (As := []) (rest := []) hx hb hml hown hts hK hS hW (kX12_goesDown l hS σ (a0 := a0) (h0 := h0) (t := t) (hI := hI) (q0 := (by omega)) (q1 := (by omega)) (q2 := (by omega))) 0 gX12_comes_X12_goesDown rfl hvX12_goesDown ⟨Nat.le_of_ble_eq_true rfl, Nat.le_of_ble_eq_true rfl⟩ rfl rfl h0 rfl rfl rfl rfl hl.1 rfl (Nat.le_of_ble_eq_true rfl) dX12_comes_1 ⟨Nat.le_of_ble_eq_true rfl, Nat.le_of_ble_eq_true rfl⟩) hA hF (fun v_1 σ_2 H locs hW hF rv_1 pv_1 => ?_)
  try dsimp only at pv_1
  obtain ⟨pv_1, fpv_1⟩ := pv_1
  have q_goesDown := pv_1
  have hR := fr_call hR fpv_1 (by decide)
  have Ehl : σ_2 a0 3 = σ a0 3 := fr_at fpv_1 h0 3 13003 rfl (by decide)
  have Ehand : σ_2 (G a0 2) = σ (G a0 2) := row_fr fpv_1 hk_hand 41 (by decide) (by decide)
  have Ekept : σ_2 a0 1 = σ a0 1 := fr_at fpv_1 h0 1 13001 rfl (by decide)
  have Eents : σ_2 a0 8 = σ a0 8 := fr_at fpv_1 h0 8 13008 rfl (by decide)
  have Eea : σ_2 (G a0 6) = σ (G a0 6) := row_fr fpv_1 hk_ea 42 (by decide) (by decide)
  have hFC : FC (σ (G a0 0)) (σ_2 (G a0 0)) := q_goesDown.1
  have hI := FI_FC hI0 hFC (show σ_2 a0 1 = σ a0 1 from by first | rfl | exact Ekept)
  have hf0 := hFC.2 0 (by omega)
  have hf1 := hFC.2 1 (by omega)
  have hf2 := hFC.2 2 (by omega)
  have hGD := q_goesDown.2.2.2.1
  have hdp := q_goesDown.2.2.2.2
  have hD0 := q_goesDown.2.1
  have hD1 := q_goesDown.2.2.1
  refine lv_istore_n (lv' := [(2, .int (jI v_1)), (0, .ref a0), (1, .int (jI x1))]) hx hb dX12_comes_4 rfl hl (by decide) rfl (fun ls hl => ?_)
  refine lv_aload_n hx hb dX12_comes_5 rfl (lv_at hl 1 rfl) ?_
  refine j_cR (j_runV (As := []) (rest := []) hx hb hml hown hts hK hS hW (kX12_rankOfHand l hS σ_2 (a0 := a0) (h0 := h0) (hI := hI)) 0 gX12_comes_X12_rankOfHand rfl hvX12_rankOfHand ⟨Nat.le_of_ble_eq_true rfl, Nat.le_of_ble_eq_true rfl⟩ rfl rfl h0 rfl rfl rfl rfl hl.1 rfl (Nat.le_of_ble_eq_true rfl) dX12_comes_6 ⟨Nat.le_of_ble_eq_true rfl, Nat.le_of_ble_eq_true rfl⟩) (fun v_3 rv_3 pv_3 => ?_)
  try dsimp only at pv_3
  try simp only [Ehl, Ehand, Ekept, Eents, Eea] at pv_3
  have q_rankOfHand := pv_3
  have : 0 ≤ v_3 ∧ v_3 ≤ σ_2 (G a0 0) 0 := ⟨pv_3.1, pv_3.2.1⟩
  rw [hf0] at q_rankOfHand
  have hat := PL_rank q0 (RK_FC hFC (by omega) hL0 q_rankOfHand)
  refine lv_istore_n (lv' := [(3, .int (jI v_3)), (2, .int (jI v_1)), (0, .ref a0), (1, .int (jI x1))]) hx hb dX12_comes_9 rfl hl (by decide) rfl (fun ls hl => ?_)
  refine lv_aload_n hx hb dX12_comes_10 rfl (lv_at hl 2 rfl) ?_
  refine lv_iload_n hx hb dX12_comes_11 rfl (lv_at hl 1 rfl) ?_
  refine j_cV (j_runV (As := [.int (jI v_1)]) (rest := []) hx hb hml hown hts hK hS hW (kX12_findsEntries l hS σ_2 (a0 := a0) (h0 := h0) (x1 := v_1) (r1 := (by omega)) (hI := hI) (q0 := (by omega)) (q1 := (by omega))) 1 gX12_comes_X12_findsEntries rfl hvX12_findsEntries ⟨Nat.le_of_ble_eq_true rfl, Nat.le_of_ble_eq_true rfl⟩ rfl rfl h0 rfl rfl rfl rfl hl.1 rfl (Nat.le_of_ble_eq_true rfl) dX12_comes_12 ⟨Nat.le_of_ble_eq_true rfl, Nat.le_of_ble_eq_true rfl⟩) hA hF (fun σ_4 H locs hW hF pσ_4 => ?_)
  try dsimp only at pσ_4
  obtain ⟨pσ_4, fpσ_4⟩ := pσ_4
  try simp only [Ehl, Ehand, Ekept, Eents, Eea] at pσ_4
  have q_findsEntries := pσ_4
  have hR := fr_call hR fpσ_4 (by decide)
  have Efile : σ_4 (G a0 0) = σ_2 (G a0 0) := row_fr fpσ_4 hk_file 40 (by decide) (by decide)
  have := congrFun Efile 0
  have Ehl : σ_4 a0 3 = σ a0 3 := (fr_at fpσ_4 h0 3 13003 rfl (by decide)).trans Ehl
  have Ehand : σ_4 (G a0 2) = σ (G a0 2) := (row_fr fpσ_4 hk_hand 41 (by decide) (by decide)).trans Ehand
  have Enb : σ_4 a0 9 = σ_2 a0 9 := fr_at fpσ_4 h0 9 13009 rfl (by decide)
  have Ekept : σ_4 a0 1 = σ a0 1 := (fr_at fpσ_4 h0 1 13001 rfl (by decide)).trans Ekept
  have hI := FI_dep hS h0 hI (kp_fr fpσ_4 (by decide))
  have hrgX := q_findsEntries.1.1
  have hrnX := q_findsEntries.1.2
  have henX := q_findsEntries.2.1
  rw [hf0, hf1] at hrgX
  rw [hf0] at hrnX
  have hrg1 := RG_FC hFC (by omega) (by omega) hrgX
  have : 0 ≤ (σ_4 a0 4) ∧ (σ_4 a0 4) ≤ (σ_4 a0 5) ∧ (σ_4 a0 5) ≤ σ (G a0 0) 0 := ⟨hrg1.1, hrg1.2.1, hrg1.2.2.1⟩
  refine lv_aload_n hx hb dX12_comes_15 rfl (lv_at hl 2 rfl) ?_
  refine j_getI hx hb (C := RX12) (T := TX12) (N := 41) hts inX12_comes_X12 hown hK hS hW h0 rfl 8 rfl rfl (by decide) (hts _ flX12_comes_97) dX12_comes_16 ?_
  have := fbd hW h0 (k := 8) (lo := 0) (hi := 150) rfl rfl
  have L_74 : ∀ (σL_74 : Nat → Nat → Int) (H : Heap) (locs : List Loc) (ls : Array Slot), (FC (σ (G a0 0)) (σL_74 (G a0 0))) → (MI (σ (G a0 0) 0 + 1) (σ (G a0 0) 1) (insI t (fun i => kO (σ (G a0 0)) i 0) (σ a0 3)) (insB t (fun i => kB (σ (G a0 0)) i) (hB (σ (G a0 2)))) (insI t (fun i => kO (σL_74 (G a0 0)) i 2) (σL_74 a0 9))) → PW D cA τ G L σL_74 H → va_S (fun q => q ∈ L) s.heap H locs → fr wr_X12_comes τ σ σL_74 → FI G a0 σL_74 → σL_74 a0 3 = σ a0 3 → σL_74 (G a0 2) = σ (G a0 2) → σL_74 a0 1 = σ a0 1 → σL_74 a0 4 = σ_4 a0 4 → σL_74 a0 5 = σ_4 a0 5 → σL_74 a0 8 = σ_4 a0 8 → σL_74 (G a0 6) = σ_4 (G a0 6) → lv_has ls 7 [(0, .ref a0), (1, .int (jI x1)), (2, .int (jI v_1)), (3, .int (jI v_3))] → W p l e ({ frames := 4, cells := 0, slots := 0, locals := 89 }) s m args below meth c H locs 0 0 Q (F0 m 74 ls []) := by
    intro σL_74 H locs ls i0_74 i1_74 hW hF hR hI Ehl Ehand Ekept Elow Ehigh Eents Eea hl
    have hFC := i0_74
    have hf0 := hFC.2 0 (by omega)
    have hf1 := hFC.2 1 (by omega)
    have hf2 := hFC.2 2 (by omega)
    refine lv_aload_n hx hb dX12_comes_74 rfl (lv_at hl 0 rfl) ?_
    refine lv_iload_n hx hb dX12_comes_75 rfl (lv_at hl 3 rfl) ?_
    refine lv_iload_n hx hb dX12_comes_76 rfl (lv_at hl 1 rfl) ?_
    refine j_cV (j_runV (As := [.int (jI v_3), .int (jI x1)]) (rest := []) hx hb hml hown hts hK hS hW (kX12_laysRow l hS σL_74 (a0 := a0) (h0 := h0) (x1 := v_3) (r1 := (by omega)) (x2 := x1) (r2 := (by omega)) (q0 := (by omega)) (q1 := (by omega)) (q2 := (by omega)) (q3 := (by omega))) 2 gX12_comes_X12_laysRow rfl hvX12_laysRow ⟨Nat.le_of_ble_eq_true rfl, Nat.le_of_ble_eq_true rfl⟩ rfl rfl h0 rfl rfl rfl rfl hl.1 rfl (Nat.le_of_ble_eq_true rfl) dX12_comes_77 ⟨Nat.le_of_ble_eq_true rfl, Nat.le_of_ble_eq_true rfl⟩) hA hF (fun σ_5 H locs hW hF pσ_5 => ?_)
    try dsimp only at pσ_5
    obtain ⟨pσ_5, fpσ_5⟩ := pσ_5
    try simp only [Ehl, Ehand, Ekept, Elow, Ehigh, Eents, Eea] at pσ_5
    have q_laysRow := pσ_5
    have hR := fr_call hR fpσ_5 (by decide)
    have Ehl : σ_5 a0 3 = σ a0 3 := (fr_at fpσ_5 h0 3 13003 rfl (by decide)).trans Ehl
    have Ehand : σ_5 (G a0 2) = σ (G a0 2) := (row_fr fpσ_5 hk_hand 41 (by decide) (by decide)).trans Ehand
    have Enb : σ_5 a0 9 = σL_74 a0 9 := fr_at fpσ_5 h0 9 13009 rfl (by decide)
    have Ekept : σ_5 a0 1 = σ a0 1 := (fr_at fpσ_5 h0 1 13001 rfl (by decide)).trans Ekept
    have Elow : σ_5 a0 4 = σ_4 a0 4 := (fr_at fpσ_5 h0 4 13004 rfl (by decide)).trans Elow
    have Ehigh : σ_5 a0 5 = σ_4 a0 5 := (fr_at fpσ_5 h0 5 13005 rfl (by decide)).trans Ehigh
    have Eents : σ_5 a0 8 = σ_4 a0 8 := (fr_at fpσ_5 h0 8 13008 rfl (by decide)).trans Eents
    have Eea : σ_5 (G a0 6) = σ_4 (G a0 6) := (row_fr fpσ_5 hk_ea 42 (by decide) (by decide)).trans Eea
    rw [hf0, hat] at q_laysRow
    obtain ⟨hr_, hr0_, hr2_, hrb_⟩ := q_laysRow
    have hIb := FI_comes (fh := hB (σ (G a0 2))) hI0 hFC hr_ (by omega) hr0_ (by omega) (by omega) hrb_ hr2_ (fun k k0 k1 => hhb k k0 (by omega)) q0 Ekept
    have hM5 := i1_74; have hFC1 := hFC
    have hn5 := hr_.1
    have hw5 := (hr_.2.2.2 1 (by omega)).trans hf1
    have hMb := FM_comes (fh := hB (σ (G a0 2))) hFC1 hr_ q0.1 q0.2.1 (by omega) hL0 hr0_ (by omega) hrb_ hr2_ hw5 hM5
    have sm5 := (ins_rows (fh := hB (σ (G a0 2))) hFC1 hr_ q0.1 q0.2.1 (by omega) hL0 hr0_ (by omega) hrb_ hr2_).1
    have hI := hIb
    have := FI_bd hIb
    have hbk : σ_5 a0 1 = σ a0 1 := Ekept
    have hI0 := hI
    have hFC : FC (σ_5 (G a0 0)) (σ_5 (G a0 0)) := FC_rf
    have hf0 := hFC.2 0 (by omega)
    have hf1 := hFC.2 1 (by omega)
    have hf2 := hFC.2 2 (by omega)
    refine lv_aload_n hx hb dX12_comes_80 rfl (lv_at hl 0 rfl) ?_
    refine lv_iload_n hx hb dX12_comes_81 rfl (lv_at hl 2 rfl) ?_
    refine j_cV (j_runV (As := [.int (jI v_1)]) (rest := []) hx hb hml hown hts hK hS hW (kX12_findsEntries l hS σ_5 (a0 := a0) (h0 := h0) (x1 := v_1) (r1 := (by omega)) (hI := hI) (q0 := (by omega)) (q1 := (by omega))) 1 gX12_comes_X12_findsEntries rfl hvX12_findsEntries ⟨Nat.le_of_ble_eq_true rfl, Nat.le_of_ble_eq_true rfl⟩ rfl rfl h0 rfl rfl rfl rfl hl.1 rfl (Nat.le_of_ble_eq_true rfl) dX12_comes_82 ⟨Nat.le_of_ble_eq_true rfl, Nat.le_of_ble_eq_true rfl⟩) hA hF (fun σ_6 H locs hW hF pσ_6 => ?_)
    try dsimp only at pσ_6
    obtain ⟨pσ_6, fpσ_6⟩ := pσ_6
    try simp only [Ehl, Ehand, Enb, Ekept, Elow, Ehigh, Eents, Eea] at pσ_6
    have q_findsEntries := pσ_6
    have hR := fr_call hR fpσ_6 (by decide)
    have Efile : σ_6 (G a0 0) = σ_5 (G a0 0) := row_fr fpσ_6 hk_file 40 (by decide) (by decide)
    have := congrFun Efile 0
    have Ehl : σ_6 a0 3 = σ a0 3 := (fr_at fpσ_6 h0 3 13003 rfl (by decide)).trans Ehl
    have Ehand : σ_6 (G a0 2) = σ (G a0 2) := (row_fr fpσ_6 hk_hand 41 (by decide) (by decide)).trans Ehand
    have Enb : σ_6 a0 9 = σL_74 a0 9 := (fr_at fpσ_6 h0 9 13009 rfl (by decide)).trans Enb
    have Ekept : σ_6 a0 1 = σ a0 1 := (fr_at fpσ_6 h0 1 13001 rfl (by decide)).trans Ekept
    have hI := FI_dep hS h0 hI (kp_fr fpσ_6 (by decide))
    have hrg2 := q_findsEntries.1.1
    have hrn2 := q_findsEntries.1.2
    have hen2 := q_findsEntries.2.1
    have : 0 ≤ (σ_6 a0 4) ∧ (σ_6 a0 4) ≤ (σ_6 a0 5) ∧ (σ_6 a0 5) ≤ (σ_5 (G a0 0)) 0 := ⟨hrg2.1, hrg2.2.1, hrg2.2.2.1⟩
    have hm5 : v_1 * (σ_5 (G a0 0)) 1 < kO (σ_5 (G a0 0)) t 0 := by rw [hw5, hr0_]; exact hGD.1.2
    have hoxn := RG_own (x := t) hIb.1.2.2.2.2.2 hrg2 hrn2 (by omega) (by omega) hr0_.symm (fun j j0 j1 => (hrb_ j j0 (by rw [← hr0_]; exact j1)).symm) hm5
    have hol := hoxn.1
    have hne2 : 0 < (σ_6 a0 8) ∧ (σ_6 a0 8) ≤ (σ_6 a0 5) - (σ_6 a0 4) := ⟨hen2.2.2.1 (by omega), hen2.2.1⟩
    have he2 : (σ_6 (G a0 6)) 0 = (σ_6 a0 4) := hen2.2.2.2.1 hne2.1
    have hel2 := q_findsEntries.2.2
    have hbl : bit (kO (σ_5 (G a0 0)) (σ_6 a0 4) 2) v_1 := hMb (σ_6 a0 4) v_1 (by omega) (by omega) (by omega) (RG_LC hIb.1.2.2.2.2.2 hIb.1.2.2.2.1 hrg2 hrn2 (by omega) (by omega) hr0_.symm (fun j j0 j1 => (hrb_ j j0 (by rw [← hr0_]; exact j1)).symm) hm5 (by omega) (by rcases (show v_1 = 0 ∨ 0 < v_1 by omega) with z | z; exact Or.inl z; exact Or.inr (by rw [hw5, hn5]; exact com_ex sm5 (by omega) (by omega) (hGD.2.1 _ z (by omega)))))
    refine lv_aload_n hx hb dX12_comes_85 rfl (lv_at hl 0 rfl) ?_
    refine lv_iload_n hx hb dX12_comes_86 rfl (lv_at hl 3 rfl) ?_
    refine j_cR (j_runV (As := [.int (jI v_3)]) (rest := []) hx hb hml hown hts hK hS hW (kX12_entryOf l hS σ_6 (a0 := a0) (h0 := h0) (x1 := v_3) (r1 := (by omega)) (q0 := (by omega)) (q1 := (by omega)) (q2 := (by omega))) 1 gX12_comes_X12_entryOf rfl hvX12_entryOf ⟨Nat.le_of_ble_eq_true rfl, Nat.le_of_ble_eq_true rfl⟩ rfl rfl h0 rfl rfl rfl rfl hl.1 rfl (Nat.le_of_ble_eq_true rfl) dX12_comes_87 ⟨Nat.le_of_ble_eq_true rfl, Nat.le_of_ble_eq_true rfl⟩) (fun v_7 rv_7 pv_7 => ?_)
    try dsimp only at pv_7
    try simp only [Efile, Ehl, Ehand, Enb, Ekept] at pv_7
    have q_entryOf := pv_7
    refine lv_istore (lv' := [(4, .int (jI v_7)), (0, .ref a0), (1, .int (jI x1)), (2, .int (jI v_1)), (3, .int (jI v_3))]) hx hb dX12_comes_90 hl (by decide) rfl (fun ls hl => ?_)
    refine lv_aload_n hx hb dX12_comes_92 rfl (lv_at hl 1 rfl) ?_
    refine lv_iload hx hb dX12_comes_93 (lv_at hl 0 rfl) ?_
    refine lv_iload_n hx hb dX12_comes_95 rfl (lv_at hl 3 rfl) ?_
    refine j_cR (j_runV (As := [.int (jI v_7), .int (jI v_1)]) (rest := []) hx hb hml hown hts hK hS hW (kX12_pageBegin l hS σ_6 (a0 := a0) (h0 := h0) (x1 := v_7) (r1 := (by omega)) (x2 := v_1) (r2 := (by omega)) (q0 := (by omega)) (q1 := (by omega)) (q2 := (by omega)) (q3 := (by omega)) (q4 := (by first | (rw [he2]; exact hbl) | (rw [he2, Efile]; exact hbl)))) 2 gX12_comes_X12_pageBegin rfl hvX12_pageBegin ⟨Nat.le_of_ble_eq_true rfl, Nat.le_of_ble_eq_true rfl⟩ rfl rfl h0 rfl rfl rfl rfl hl.1 rfl (Nat.le_of_ble_eq_true rfl) dX12_comes_96 ⟨Nat.le_of_ble_eq_true rfl, Nat.le_of_ble_eq_true rfl⟩) (fun v_8 rv_8 pv_8 => ?_)
    try dsimp only at pv_8
    try simp only [Efile, Ehl, Ehand, Enb, Ekept] at pv_8
    have q_pageBegin := pv_8
    refine lv_istore (lv' := [(5, .int (jI v_8)), (4, .int (jI v_7)), (0, .ref a0), (1, .int (jI x1)), (2, .int (jI v_1)), (3, .int (jI v_3))]) hx hb dX12_comes_99 hl (by decide) rfl (fun ls hl => ?_)
    refine lv_aload_n hx hb dX12_comes_101 rfl (lv_at hl 2 rfl) ?_
    refine lv_iload hx hb dX12_comes_102 (lv_at hl 1 rfl) ?_
    refine lv_iload_n hx hb dX12_comes_104 rfl (lv_at hl 4 rfl) ?_
    refine j_cR (j_runV (As := [.int (jI v_7), .int (jI v_1)]) (rest := []) hx hb hml hown hts hK hS hW (kX12_pageEnd l hS σ_6 (a0 := a0) (h0 := h0) (x1 := v_7) (r1 := (by omega)) (x2 := v_1) (r2 := (by omega)) (q0 := (by omega)) (q1 := (by omega)) (q2 := (by omega)) (q3 := (by omega))) 2 gX12_comes_X12_pageEnd rfl hvX12_pageEnd ⟨Nat.le_of_ble_eq_true rfl, Nat.le_of_ble_eq_true rfl⟩ rfl rfl h0 rfl rfl rfl rfl hl.1 rfl (Nat.le_of_ble_eq_true rfl) dX12_comes_105 ⟨Nat.le_of_ble_eq_true rfl, Nat.le_of_ble_eq_true rfl⟩) (fun v_9 rv_9 pv_9 => ?_)
    try dsimp only at pv_9
    try simp only [Efile, Ehl, Ehand, Enb, Ekept] at pv_9
    have q_pageEnd := pv_9
    refine lv_iload hx hb dX12_comes_108 (lv_at hl 0 rfl) ?_
    refine j_sub hx hb dX12_comes_110 ?_
    refine lv_istore (lv' := [(6, .int (jI (v_9 - v_8))), (5, .int (jI v_8)), (4, .int (jI v_7)), (0, .ref a0), (1, .int (jI x1)), (2, .int (jI v_1)), (3, .int (jI v_3))]) hx hb dX12_comes_111 hl (by decide) rfl (fun ls hl => ?_)
    refine lv_iload hx hb dX12_comes_113 (lv_at hl 0 rfl) ?_
    refine lv_aload_n hx hb dX12_comes_115 rfl (lv_at hl 3 rfl) ?_
    refine j_getR hx hb (C := RX12) (T := TX12) (N := 41) hts inX12_comes_X12 hown hK hS hW h0 rfl 0 rfl rfl (by decide) (hts _ flX12_comes_7) dX12_comes_116 ?_
    refine j_const hx hb dX12_comes_119 ?_
    refine j_ald hx hb hK hS hW hk_file (n := 17624) rfl (by omega) (by omega) (by decide) dX12_comes_120 ?_
    have : -2147483648 ≤ σ_6 (G a0 0) 2 ∧ σ_6 (G a0 0) 2 ≤ 2147483647 := abd hW hk_file (n := 17624) (lo := -2147483648) (hi := 2147483647) (i := 2) rfl (by decide) (by decide)
    rw [Efile]
    try simp only [Efile] at this
    refine j_eq (z := σ_5 (G a0 0) 2) rfl ?_
    have := FI_bd hI; rw [Efile] at this
    refine j_icmp_gt (tgt := 125) hx hb (by omega) (by omega) dX12_comes_121 (by decide) (fun c_10 => ?_) (fun c_10 => ?_)
    · refine lv_aload_n hx hb dX12_comes_125 rfl (lv_at hl 3 rfl) ?_
      refine lv_aload_n hx hb dX12_comes_126 rfl (lv_at hl 3 rfl) ?_
      refine j_getR hx hb (C := RX12) (T := TX12) (N := 41) hts inX12_comes_X12 hown hK hS hW h0 rfl 6 rfl rfl (by decide) (hts _ flX12_comes_16) dX12_comes_127 ?_
      refine lv_iload hx hb dX12_comes_130 (lv_at hl 1 rfl) ?_
      refine lv_iload hx hb dX12_comes_132 (lv_at hl 0 rfl) ?_
      refine j_const hx hb dX12_comes_134 ?_
      refine j_div hx hb (by omega) (by omega) dX12_comes_135 ?_
      refine j_add hx hb dX12_comes_136 ?_
      refine j_ald hx hb hK hS hW hk_ea (n := 151) rfl (by omega) (by omega) (by decide) dX12_comes_137 ?_
      have := abd hW hk_ea (n := 151) (lo := 0) (hi := 150) (i := v_8 + ((v_9 - v_8) / 2)) rfl (by omega) (by omega)
      have hek : (σ_6 a0 4) ≤ (σ_6 (G a0 6) (v_8 + ((v_9 - v_8) / 2)).toNat) ∧ (σ_6 (G a0 6) (v_8 + ((v_9 - v_8) / 2)).toNat) < (σ_6 a0 5) := hen2.2.2.2.2.1 (v_8 + ((v_9 - v_8)) / 2) (by omega) (by omega)
      refine lv_iload_n hx hb dX12_comes_138 rfl (lv_at hl 5 rfl) ?_
      refine j_const hx hb dX12_comes_139 ?_
      refine j_cV (j_runV (As := [.int (jI (σ_6 (G a0 6) (v_8 + ((v_9 - v_8) / 2)).toNat)), .int (jI v_1), .int (jI 1)]) (rest := []) hx hb hml hown hts hK hS hW (kX12_marks l hS σ_6 (a0 := a0) (h0 := h0) (x1 := σ_6 (G a0 6) (v_8 + ((v_9 - v_8) / 2)).toNat) (r1 := (by omega)) (x2 := v_1) (r2 := (by omega)) (x3 := 1) (r3 := (by decide)) (q0 := (by omega)) (q1 := (by omega)) (q2 := (by omega)) (q3 := (by omega)) (q4 := (by omega)) (q5 := (by omega))) 3 gX12_comes_X12_marks rfl hvX12_marks ⟨Nat.le_of_ble_eq_true rfl, Nat.le_of_ble_eq_true rfl⟩ rfl rfl h0 rfl rfl rfl rfl hl.1 rfl (Nat.le_of_ble_eq_true rfl) dX12_comes_140 ⟨Nat.le_of_ble_eq_true rfl, Nat.le_of_ble_eq_true rfl⟩) hA hF (fun σ_11 H locs hW hF pσ_11 => ?_)
      try dsimp only at pσ_11
      obtain ⟨pσ_11, fpσ_11⟩ := pσ_11
      try simp only [Efile, Ehl, Ehand, Enb, Ekept] at pσ_11
      have q_marks := pσ_11
      have hR := fr_call hR fpσ_11 (by decide)
      have Ehl : σ_11 a0 3 = σ a0 3 := (fr_at fpσ_11 h0 3 13003 rfl (by decide)).trans Ehl
      have Ehand : σ_11 (G a0 2) = σ (G a0 2) := (row_fr fpσ_11 hk_hand 41 (by decide) (by decide)).trans Ehand
      have Enb : σ_11 a0 9 = σL_74 a0 9 := (fr_at fpσ_11 h0 9 13009 rfl (by decide)).trans Enb
      have Ekept : σ_11 a0 1 = σ a0 1 := (fr_at fpσ_11 h0 1 13001 rfl (by decide)).trans Ekept
      have Elow : σ_11 a0 4 = σ_6 a0 4 := fr_at fpσ_11 h0 4 13004 rfl (by decide)
      have Ehigh : σ_11 a0 5 = σ_6 a0 5 := fr_at fpσ_11 h0 5 13005 rfl (by decide)
      have Eents : σ_11 a0 8 = σ_6 a0 8 := fr_at fpσ_11 h0 8 13008 rfl (by decide)
      have Eea : σ_11 (G a0 6) = σ_6 (G a0 6) := row_fr fpσ_11 hk_ea 42 (by decide) (by decide)
      obtain ⟨mv, hmv1, hmv2, hmv3⟩ := q_marks
      have hmrow : ∀ i w : Int, 0 ≤ i → 0 ≤ w → w < 27 → ¬ (i = (σ_6 (G a0 6) (v_8 + ((v_9 - v_8) / 2)).toNat) ∧ w = 2) → kO (σ_11 (G a0 0)) i w = kO (σ_5 (G a0 0)) i w := fun i w i0 w0 w1 ne => by (rw [hmv2, up2_row]; first | exact kO_up i0 (by omega) ⟨w0, w1⟩ ⟨by omega, by omega⟩ ne | (rw [Efile]; exact kO_up i0 (by omega) ⟨w0, w1⟩ ⟨by omega, by omega⟩ ne))
      have hmat : kO (σ_11 (G a0 0)) (σ_6 (G a0 6) (v_8 + ((v_9 - v_8) / 2)).toNat) 2 = mv := by (rw [hmv2, up2_row]; exact kO_up_at)
      have hFC : FC (σ_5 (G a0 0)) (σ_11 (G a0 0)) := by first | exact FC_col hFC hmv2 (by omega) (by omega) | exact FC_col (by rw [Efile]; exact hFC) hmv2 (by omega) (by omega)
      have hI := FI_FC hI0 hFC (show σ_11 a0 1 = σ_5 a0 1 from by first | rfl | exact Ekept.trans hbk.symm)
      have hf0 := hFC.2 0 (by omega)
      have hf1 := hFC.2 1 (by omega)
      have hf2 := hFC.2 2 (by omega)
      have hbm : ∀ i d : Int, 0 ≤ i → 0 ≤ d → d < 32 → bit (kO (σ_5 (G a0 0)) i 2) d → bit (kO (σ_11 (G a0 0)) i 2) d := com_on hmrow hmat hmv3 (by omega)
      refine lv_aload_n hx hb dX12_comes_143 rfl (lv_at hl 3 rfl) ?_
      refine j_getR hx hb (C := RX12) (T := TX12) (N := 41) hts inX12_comes_X12 hown hK hS hW h0 rfl 0 rfl rfl (by decide) (hts _ flX12_comes_7) dX12_comes_144 ?_
      refine j_const hx hb dX12_comes_147 ?_
      refine lv_aload_n hx hb dX12_comes_148 rfl (lv_at hl 3 rfl) ?_
      refine j_getR hx hb (C := RX12) (T := TX12) (N := 41) hts inX12_comes_X12 hown hK hS hW h0 rfl 0 rfl rfl (by decide) (hts _ flX12_comes_7) dX12_comes_149 ?_
      refine j_const hx hb dX12_comes_152 ?_
      refine j_ald hx hb hK hS hW hk_file (n := 17624) rfl (by omega) (by omega) (by decide) dX12_comes_153 ?_
      have : -2147483648 ≤ σ_11 (G a0 0) 3 ∧ σ_11 (G a0 0) 3 ≤ 2147483647 := abd hW hk_file (n := 17624) (lo := -2147483648) (hi := 2147483647) (i := 3) rfl (by decide) (by decide)
      refine j_eq (z := σ_11 (G a0 0) 3) rfl ?_
      have := FI_bd hI
      refine j_const hx hb dX12_comes_154 ?_
      refine j_add hx hb dX12_comes_155 ?_
      refine j_wrap (fun z_12 rz_12 ez_12 => ?_)
      refine j_ast hx hb hK hS hA hW hF hk_file (n := 17624) (lo := -2147483648) (hi := 2147483647) rfl (by omega) (by omega) (by decide) (by omega) dX12_comes_156 (fun σ_13 H locs e_14 hW hF => ?_)
      have st_file := e_14
      have hR := fr_up hR e_14 hk_file 40000 (cdA 40 (by decide) _) (by decide)
      have Ehl : σ_13 a0 3 = σ a0 3 := (fld_up e_14 hk_file h0 (fun q => absurd q.1 (by decide))).trans Ehl
      have Ehand : σ_13 (G a0 2) = σ (G a0 2) := (row_up e_14 hk_file hk_hand (by decide)).trans Ehand
      have Enb : σ_13 a0 9 = σL_74 a0 9 := (fld_up e_14 hk_file h0 (fun q => absurd q.1 (by decide))).trans Enb
      have Ekept : σ_13 a0 1 = σ a0 1 := (fld_up e_14 hk_file h0 (fun q => absurd q.1 (by decide))).trans Ekept
      have Elow : σ_13 a0 4 = σ_6 a0 4 := (fld_up e_14 hk_file h0 (fun q => absurd q.1 (by decide))).trans Elow
      have Ehigh : σ_13 a0 5 = σ_6 a0 5 := (fld_up e_14 hk_file h0 (fun q => absurd q.1 (by decide))).trans Ehigh
      have Eents : σ_13 a0 8 = σ_6 a0 8 := (fld_up e_14 hk_file h0 (fun q => absurd q.1 (by decide))).trans Eents
      have Eea : σ_13 (G a0 6) = σ_6 (G a0 6) := (row_up e_14 hk_file hk_ea (by decide)).trans Eea
      have hFC : FC (σ_5 (G a0 0)) (σ_13 (G a0 0)) := by first | exact FC_cnt hFC e_14 (by decide) (by decide) | exact FC_cnt (by rw [Efile]; exact hFC) e_14 (by decide) (by decide)
      have hcn := kO_cnt e_14 (by decide)
      try simp only [Efile] at hcn
      have hI := FI_FC hI0 hFC (show σ_13 a0 1 = σ_5 a0 1 from by first | rfl | exact Ekept.trans hbk.symm)
      have hf0 := hFC.2 0 (by omega)
      have hf1 := hFC.2 1 (by omega)
      have hf2 := hFC.2 2 (by omega)
      have hfm_ := FM_more hI0.1 hMb hFC (fun i d i0 i1 d0 d1 hb => by rw [hcn i 2 i0 (by omega)]; exact hbm i d i0 d0 d1 hb)
      exact hRet 157 _ _ _ _ dX12_comes_157 hW hF ⟨(by first | exact ⟨hI, hfm_, KI_of hFC1 hr_ q0.1 q0.2.1 (by omega) hr0_ (by omega) hrb_ hFC⟩ | (simp only [Ehl, Ehand, Enb, Ekept, Elow, Ehigh, Eents, Eea]; exact ⟨hI, hfm_, KI_of hFC1 hr_ q0.1 q0.2.1 (by omega) hr0_ (by omega) hrb_ hFC⟩)), hR⟩
    · exact hRet 124 _ _ _ _ dX12_comes_124 hW hF ⟨(by first | exact ⟨hI, hMb, KI_of hFC1 hr_ q0.1 q0.2.1 (by omega) hr0_ (by omega) hrb_ hFC⟩ | (simp only [Efile, Ehl, Ehand, Enb, Ekept]; exact ⟨hI, hMb, KI_of hFC1 hr_ q0.1 q0.2.1 (by omega) hr0_ (by omega) hrb_ hFC⟩)), hR⟩
  refine j_if_ne (tgt := 37) hx hb (by omega) dX12_comes_19 (by decide) (fun c_15 => ?_) (fun c_15 => ?_)
  · have he0 : (σ_4 (G a0 6)) 0 = (σ_4 a0 4) := henX.2.2.2.1 (by have := henX.1; omega)
    have he1 : (σ_4 a0 4) ≤ (σ_4 (G a0 6)) 0 ∧ (σ_4 (G a0 6)) 0 < (σ_4 a0 5) := henX.2.2.2.2.1 0 (by omega) (by have := henX.1; omega)
    have hsl := (RG_new hsr hrg1 hrnX hGD.1.2 (j := (σ_4 a0 4)) (by omega) (by omega)).mpr ⟨by omega, by omega⟩
    refine lv_aload_n hx hb dX12_comes_37 rfl (lv_at hl 2 rfl) ?_
    refine lv_aload_n hx hb dX12_comes_38 rfl (lv_at hl 2 rfl) ?_
    refine j_getR hx hb (C := RX12) (T := TX12) (N := 41) hts inX12_comes_X12 hown hK hS hW h0 rfl 6 rfl rfl (by decide) (hts _ flX12_comes_16) dX12_comes_39 ?_
    refine j_const hx hb dX12_comes_42 ?_
    refine j_ald hx hb hK hS hW hk_ea (n := 151) rfl (by omega) (by omega) (by decide) dX12_comes_43 ?_
    have : 0 ≤ σ_4 (G a0 6) 0 ∧ σ_4 (G a0 6) 0 ≤ 150 := abd hW hk_ea (n := 151) (lo := 0) (hi := 150) (i := 0) rfl (by decide) (by decide)
    refine j_eq (z := σ_4 (G a0 6) 0) rfl ?_
    refine j_cR (j_runV (As := [.int (jI (σ_4 (G a0 6) 0))]) (rest := []) hx hb hml hown hts hK hS hW (kX12_against l hS σ_4 (a0 := a0) (h0 := h0) (x1 := σ_4 (G a0 6) 0) (r1 := (by omega)) (hI := hI) (q0 := (by omega)) (q1 := (by omega))) 1 gX12_comes_X12_against rfl hvX12_against ⟨Nat.le_of_ble_eq_true rfl, Nat.le_of_ble_eq_true rfl⟩ rfl rfl h0 rfl rfl rfl rfl hl.1 rfl (Nat.le_of_ble_eq_true rfl) dX12_comes_44 ⟨Nat.le_of_ble_eq_true rfl, Nat.le_of_ble_eq_true rfl⟩) (fun v_16 rv_16 pv_16 => ?_)
    try dsimp only at pv_16
    try simp only [Efile, Ehl, Ehand, Enb, Ekept] at pv_16
    have q_against := pv_16
    rw [he0] at q_against
    have hcp := cmp_FC hFC (by omega) (by omega) (hL0 _ (by omega) (by omega)).2 q_against
    refine j_if_le (tgt := 74) hx hb (by omega) dX12_comes_47 (by decide) (fun c_17 => ?_) (fun c_17 => ?_)
    · exact L_74 σ_4 _ _ _ (by first | exact (by first | exact hFC | (rw [Efile]; exact hFC)) | (simp only [Efile, Ehl, Ehand, Enb, Ekept]; exact (by first | exact hFC | (rw [Efile]; exact hFC)))) (by first | exact (by first | exact GD_e2 hGD hsr (by omega) q0 q1 hdp (by omega) (by omega) (by omega) hsl (hcp.2.1 (by omega)) (fun k k0 k1 => by rw [hfk, bit_or z_or, bit_shl z_shl (by omega) (by omega) k k0 k1]) (fun i i0 i1 ne => hmrow i 2 i0 (by omega) (by omega) (fun z => ne (z.1.trans he0))) (fun k k0 k1 => by (show bit (kO _ _ 2) k ↔ bit (kO _ _ 2) k ∧ _; rw [← he0, hmat, hmv3 k k0 k1, if_pos (by decide)])) | exact GD_e1 hGD hsr (by omega) q0 q1 hdp (by omega) (by omega) (by omega) hsl (cmp_lt q0 (by omega) (by omega) hcp (by omega)) | exact GD_e0 hGD hsr (by omega) q0 q1 hdp (by omega) (fun k k0 k1 => by rw [hfk, bit_or z_or, bit_shl z_shl (by omega) (by omega) k k0 k1])) | (simp only [Efile, Ehl, Ehand, Enb, Ekept]; exact (by first | exact GD_e2 hGD hsr (by omega) q0 q1 hdp (by omega) (by omega) (by omega) hsl (hcp.2.1 (by omega)) (fun k k0 k1 => by rw [hfk, bit_or z_or, bit_shl z_shl (by omega) (by omega) k k0 k1]) (fun i i0 i1 ne => hmrow i 2 i0 (by omega) (by omega) (fun z => ne (z.1.trans he0))) (fun k k0 k1 => by (show bit (kO _ _ 2) k ↔ bit (kO _ _ 2) k ∧ _; rw [← he0, hmat, hmv3 k k0 k1, if_pos (by decide)])) | exact GD_e1 hGD hsr (by omega) q0 q1 hdp (by omega) (by omega) (by omega) hsl (cmp_lt q0 (by omega) (by omega) hcp (by omega)) | exact GD_e0 hGD hsr (by omega) q0 q1 hdp (by omega) (fun k k0 k1 => by rw [hfk, bit_or z_or, bit_shl z_shl (by omega) (by omega) k k0 k1])))) hW hF hR hI Ehl Ehand Ekept rfl rfl rfl rfl (lv_sub hl [2, 3, 1, 0] rfl)
    · refine lv_aload_n hx hb dX12_comes_50 rfl (lv_at hl 2 rfl) ?_
      refine lv_aload_n hx hb dX12_comes_51 rfl (lv_at hl 2 rfl) ?_
      refine j_getI hx hb (C := RX12) (T := TX12) (N := 41) hts inX12_comes_X12 hown hK hS hW h0 rfl 9 rfl rfl (by decide) (hts _ flX12_comes_109) dX12_comes_52 ?_
      rw [Enb]
      have := fbd hW h0 (k := 9) (lo := -2147483648) (hi := 2147483647) rfl rfl
      try simp only [Enb] at this
      refine j_const hx hb dX12_comes_55 ?_
      refine lv_iload_n hx hb dX12_comes_56 rfl (lv_at hl 1 rfl) ?_
      refine lv_ishl hx hb dX12_comes_57 (j_raw fun z_18 rz_18 ez_18 => ?_)
      have z_shl := ez_18
      refine lv_ior hx hb dX12_comes_58 (j_raw fun z_19 rz_19 ez_19 => ?_)
      have z_or := ez_19
      refine j_putI hx hb (C := RX12) (T := TX12) (N := 41) hts inX12_comes_X12 tyX12 tyX12_ok nmX12 hown hK hS hA hW hF h0 rfl 9 (lo := -2147483648) (hi := 2147483647) rfl rfl (by decide) (hts _ flX12_comes_109) rfl .int rfl (by omega) rfl rfl dX12_comes_59 (fun σ_20 H locs e_21 hW hF => ?_)
      have hR := fr_up hR e_21 h0 13009 rfl (by decide)
      have Efile : σ_20 (G a0 0) = σ_2 (G a0 0) := (row_up e_21 h0 hk_file (by decide)).trans Efile
      have := congrFun Efile 0
      have Ehl : σ_20 a0 3 = σ a0 3 := (fld_up e_21 h0 h0 (fun q => absurd q.2 (by decide))).trans Ehl
      have Ehand : σ_20 (G a0 2) = σ (G a0 2) := (row_up e_21 h0 hk_hand (by decide)).trans Ehand
      have Ekept : σ_20 a0 1 = σ a0 1 := (fld_up e_21 h0 h0 (fun q => absurd q.2 (by decide))).trans Ekept
      have Elow : σ_20 a0 4 = σ_4 a0 4 := fld_up e_21 h0 h0 (fun q => absurd q.2 (by decide))
      have Ehigh : σ_20 a0 5 = σ_4 a0 5 := fld_up e_21 h0 h0 (fun q => absurd q.2 (by decide))
      have Eents : σ_20 a0 8 = σ_4 a0 8 := fld_up e_21 h0 h0 (fun q => absurd q.2 (by decide))
      have Eea : σ_20 (G a0 6) = σ_4 (G a0 6) := row_up e_21 h0 hk_ea (by decide)
      have hI := FI_dep hS h0 hI (kp_up e_21 h0 13009 rfl (by decide))
      have hfk : σ_20 a0 9 = z_19 := by rw [e_21]; exact up2_at _ _ _ _
      refine lv_aload_n hx hb dX12_comes_62 rfl (lv_at hl 2 rfl) ?_
      refine lv_aload_n hx hb dX12_comes_63 rfl (lv_at hl 2 rfl) ?_
      refine j_getR hx hb (C := RX12) (T := TX12) (N := 41) hts inX12_comes_X12 hown hK hS hW h0 rfl 6 rfl rfl (by decide) (hts _ flX12_comes_16) dX12_comes_64 ?_
      refine j_const hx hb dX12_comes_67 ?_
      refine j_ald hx hb hK hS hW hk_ea (n := 151) rfl (by omega) (by omega) (by decide) dX12_comes_68 ?_
      have : 0 ≤ σ_20 (G a0 6) 0 ∧ σ_20 (G a0 6) 0 ≤ 150 := abd hW hk_ea (n := 151) (lo := 0) (hi := 150) (i := 0) rfl (by decide) (by decide)
      rw [Eea]
      try simp only [Eea] at this
      refine j_eq (z := σ_4 (G a0 6) 0) rfl ?_
      refine lv_iload_n hx hb dX12_comes_69 rfl (lv_at hl 1 rfl) ?_
      refine j_const hx hb dX12_comes_70 ?_
      refine j_cV (j_runV (As := [.int (jI (σ_4 (G a0 6) 0)), .int (jI v_1), .int (jI 0)]) (rest := []) hx hb hml hown hts hK hS hW (kX12_marks l hS σ_20 (a0 := a0) (h0 := h0) (x1 := σ_4 (G a0 6) 0) (r1 := (by omega)) (x2 := v_1) (r2 := (by omega)) (x3 := 0) (r3 := (by decide)) (q0 := (by omega)) (q1 := (by omega)) (q2 := (by omega)) (q3 := (by omega)) (q4 := (by omega)) (q5 := (by omega))) 3 gX12_comes_X12_marks rfl hvX12_marks ⟨Nat.le_of_ble_eq_true rfl, Nat.le_of_ble_eq_true rfl⟩ rfl rfl h0 rfl rfl rfl rfl hl.1 rfl (Nat.le_of_ble_eq_true rfl) dX12_comes_71 ⟨Nat.le_of_ble_eq_true rfl, Nat.le_of_ble_eq_true rfl⟩) hA hF (fun σ_22 H locs hW hF pσ_22 => ?_)
      try dsimp only at pσ_22
      obtain ⟨pσ_22, fpσ_22⟩ := pσ_22
      try simp only [Efile, Ehl, Ehand, Ekept, Elow, Ehigh, Eents, Eea] at pσ_22
      have q_marks := pσ_22
      have hR := fr_call hR fpσ_22 (by decide)
      have Ehl : σ_22 a0 3 = σ a0 3 := (fr_at fpσ_22 h0 3 13003 rfl (by decide)).trans Ehl
      have Ehand : σ_22 (G a0 2) = σ (G a0 2) := (row_fr fpσ_22 hk_hand 41 (by decide) (by decide)).trans Ehand
      have Enb : σ_22 a0 9 = σ_20 a0 9 := fr_at fpσ_22 h0 9 13009 rfl (by decide)
      have Ekept : σ_22 a0 1 = σ a0 1 := (fr_at fpσ_22 h0 1 13001 rfl (by decide)).trans Ekept
      have Elow : σ_22 a0 4 = σ_4 a0 4 := (fr_at fpσ_22 h0 4 13004 rfl (by decide)).trans Elow
      have Ehigh : σ_22 a0 5 = σ_4 a0 5 := (fr_at fpσ_22 h0 5 13005 rfl (by decide)).trans Ehigh
      have Eents : σ_22 a0 8 = σ_4 a0 8 := (fr_at fpσ_22 h0 8 13008 rfl (by decide)).trans Eents
      have Eea : σ_22 (G a0 6) = σ_4 (G a0 6) := (row_fr fpσ_22 hk_ea 42 (by decide) (by decide)).trans Eea
      obtain ⟨mv, hmv1, hmv2, hmv3⟩ := q_marks
      have hmrow : ∀ i w : Int, 0 ≤ i → 0 ≤ w → w < 27 → ¬ (i = (σ_4 (G a0 6) 0) ∧ w = 2) → kO (σ_22 (G a0 0)) i w = kO (σ_2 (G a0 0)) i w := fun i w i0 w0 w1 ne => by (rw [hmv2, up2_row]; first | exact kO_up i0 (by omega) ⟨w0, w1⟩ ⟨by omega, by omega⟩ ne | (rw [Efile]; exact kO_up i0 (by omega) ⟨w0, w1⟩ ⟨by omega, by omega⟩ ne))
      have hmat : kO (σ_22 (G a0 0)) (σ_4 (G a0 6) 0) 2 = mv := by (rw [hmv2, up2_row]; exact kO_up_at)
      have hFC : FC (σ (G a0 0)) (σ_22 (G a0 0)) := by first | exact FC_col hFC hmv2 (by omega) (by omega) | exact FC_col (by rw [Efile]; exact hFC) hmv2 (by omega) (by omega)
      have hI := FI_FC hI0 hFC (show σ_22 a0 1 = σ a0 1 from by first | rfl | exact Ekept)
      have hf0 := hFC.2 0 (by omega)
      have hf1 := hFC.2 1 (by omega)
      have hf2 := hFC.2 2 (by omega)
      exact L_74 σ_22 _ _ _ (by first | exact (by first | exact hFC | (rw [Efile]; exact hFC)) | (simp only [Ehl, Ehand, Enb, Ekept, Elow, Ehigh, Eents, Eea]; exact (by first | exact hFC | (rw [Efile]; exact hFC)))) (by first | exact (by first | exact GD_e2 hGD hsr (by omega) q0 q1 hdp (by omega) (by omega) (by omega) hsl (hcp.2.1 (by omega)) (fun k k0 k1 => by rw [hfk, bit_or z_or, bit_shl z_shl (by omega) (by omega) k k0 k1]) (fun i i0 i1 ne => hmrow i 2 i0 (by omega) (by omega) (fun z => ne (z.1.trans he0))) (fun k k0 k1 => by (show bit (kO _ _ 2) k ↔ bit (kO _ _ 2) k ∧ _; rw [← he0, hmat, hmv3 k k0 k1, if_pos (by decide)])) | exact GD_e1 hGD hsr (by omega) q0 q1 hdp (by omega) (by omega) (by omega) hsl (cmp_lt q0 (by omega) (by omega) hcp (by omega)) | exact GD_e0 hGD hsr (by omega) q0 q1 hdp (by omega) (fun k k0 k1 => by rw [hfk, bit_or z_or, bit_shl z_shl (by omega) (by omega) k k0 k1])) | (simp only [Ehl, Ehand, Enb, Ekept, Elow, Ehigh, Eents, Eea]; exact (by first | exact GD_e2 hGD hsr (by omega) q0 q1 hdp (by omega) (by omega) (by omega) hsl (hcp.2.1 (by omega)) (fun k k0 k1 => by rw [hfk, bit_or z_or, bit_shl z_shl (by omega) (by omega) k k0 k1]) (fun i i0 i1 ne => hmrow i 2 i0 (by omega) (by omega) (fun z => ne (z.1.trans he0))) (fun k k0 k1 => by (show bit (kO _ _ 2) k ↔ bit (kO _ _ 2) k ∧ _; rw [← he0, hmat, hmv3 k k0 k1, if_pos (by decide)])) | exact GD_e1 hGD hsr (by omega) q0 q1 hdp (by omega) (by omega) (by omega) hsl (cmp_lt q0 (by omega) (by omega) hcp (by omega)) | exact GD_e0 hGD hsr (by omega) q0 q1 hdp (by omega) (fun k k0 k1 => by rw [hfk, bit_or z_or, bit_shl z_shl (by omega) (by omega) k k0 k1])))) hW hF hR hI Ehl Ehand Ekept Elow Ehigh Eents Eea (lv_sub hl [2, 3, 1, 0] rfl)
  · refine lv_aload_n hx hb dX12_comes_22 rfl (lv_at hl 2 rfl) ?_
    refine lv_aload_n hx hb dX12_comes_23 rfl (lv_at hl 2 rfl) ?_
    refine j_getI hx hb (C := RX12) (T := TX12) (N := 41) hts inX12_comes_X12 hown hK hS hW h0 rfl 9 rfl rfl (by decide) (hts _ flX12_comes_109) dX12_comes_24 ?_
    rw [Enb]
    have := fbd hW h0 (k := 9) (lo := -2147483648) (hi := 2147483647) rfl rfl
    try simp only [Enb] at this
    refine j_const hx hb dX12_comes_27 ?_
    refine lv_iload_n hx hb dX12_comes_28 rfl (lv_at hl 1 rfl) ?_
    refine lv_ishl hx hb dX12_comes_29 (j_raw fun z_23 rz_23 ez_23 => ?_)
    have z_shl := ez_23
    refine lv_ior hx hb dX12_comes_30 (j_raw fun z_24 rz_24 ez_24 => ?_)
    have z_or := ez_24
    refine j_putI hx hb (C := RX12) (T := TX12) (N := 41) hts inX12_comes_X12 tyX12 tyX12_ok nmX12 hown hK hS hA hW hF h0 rfl 9 (lo := -2147483648) (hi := 2147483647) rfl rfl (by decide) (hts _ flX12_comes_109) rfl .int rfl (by omega) rfl rfl dX12_comes_31 (fun σ_25 H locs e_26 hW hF => ?_)
    have hR := fr_up hR e_26 h0 13009 rfl (by decide)
    have Efile : σ_25 (G a0 0) = σ_2 (G a0 0) := (row_up e_26 h0 hk_file (by decide)).trans Efile
    have := congrFun Efile 0
    have Ehl : σ_25 a0 3 = σ a0 3 := (fld_up e_26 h0 h0 (fun q => absurd q.2 (by decide))).trans Ehl
    have Ehand : σ_25 (G a0 2) = σ (G a0 2) := (row_up e_26 h0 hk_hand (by decide)).trans Ehand
    have Ekept : σ_25 a0 1 = σ a0 1 := (fld_up e_26 h0 h0 (fun q => absurd q.2 (by decide))).trans Ekept
    have Elow : σ_25 a0 4 = σ_4 a0 4 := fld_up e_26 h0 h0 (fun q => absurd q.2 (by decide))
    have Ehigh : σ_25 a0 5 = σ_4 a0 5 := fld_up e_26 h0 h0 (fun q => absurd q.2 (by decide))
    have Eents : σ_25 a0 8 = σ_4 a0 8 := fld_up e_26 h0 h0 (fun q => absurd q.2 (by decide))
    have Eea : σ_25 (G a0 6) = σ_4 (G a0 6) := row_up e_26 h0 hk_ea (by decide)
    have hI := FI_dep hS h0 hI (kp_up e_26 h0 13009 rfl (by decide))
    have hfk : σ_25 a0 9 = z_24 := by rw [e_26]; exact up2_at _ _ _ _
    refine lv_goto (tgt := 74) hx hb dX12_comes_34 (by decide) ?_
    exact L_74 σ_25 _ _ _ (by first | exact (by first | exact hFC | (rw [Efile]; exact hFC)) | (simp only [Efile, Ehl, Ehand, Ekept, Elow, Ehigh, Eents, Eea]; exact (by first | exact hFC | (rw [Efile]; exact hFC)))) (by first | exact (by first | exact GD_e2 hGD hsr (by omega) q0 q1 hdp (by omega) (by omega) (by omega) hsl (hcp.2.1 (by omega)) (fun k k0 k1 => by rw [hfk, bit_or z_or, bit_shl z_shl (by omega) (by omega) k k0 k1]) (fun i i0 i1 ne => hmrow i 2 i0 (by omega) (by omega) (fun z => ne (z.1.trans he0))) (fun k k0 k1 => by (show bit (kO _ _ 2) k ↔ bit (kO _ _ 2) k ∧ _; rw [← he0, hmat, hmv3 k k0 k1, if_pos (by decide)])) | exact GD_e1 hGD hsr (by omega) q0 q1 hdp (by omega) (by omega) (by omega) hsl (cmp_lt q0 (by omega) (by omega) hcp (by omega)) | exact GD_e0 hGD hsr (by omega) q0 q1 hdp (by omega) (fun k k0 k1 => by rw [hfk, bit_or z_or, bit_shl z_shl (by omega) (by omega) k k0 k1])) | (simp only [Efile, Ehl, Ehand, Ekept, Elow, Ehigh, Eents, Eea]; exact (by first | exact GD_e2 hGD hsr (by omega) q0 q1 hdp (by omega) (by omega) (by omega) hsl (hcp.2.1 (by omega)) (fun k k0 k1 => by rw [hfk, bit_or z_or, bit_shl z_shl (by omega) (by omega) k k0 k1]) (fun i i0 i1 ne => hmrow i 2 i0 (by omega) (by omega) (fun z => ne (z.1.trans he0))) (fun k k0 k1 => by (show bit (kO _ _ 2) k ↔ bit (kO _ _ 2) k ∧ _; rw [← he0, hmat, hmv3 k k0 k1, if_pos (by decide)])) | exact GD_e1 hGD hsr (by omega) q0 q1 hdp (by omega) (by omega) (by omega) hsl (cmp_lt q0 (by omega) (by omega) hcp (by omega)) | exact GD_e0 hGD hsr (by omega) q0 q1 hdp (by omega) (fun k k0 k1 => by rw [hfk, bit_or z_or, bit_shl z_shl (by omega) (by omega) k k0 k1])))) hW hF hR hI Ehl Ehand Ekept Elow Ehigh Eents Eea (lv_sub hl [2, 3, 1, 0] rfl)
