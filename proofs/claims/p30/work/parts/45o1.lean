abbrev wr_X12_away : List Nat := [13003, 13004, 13005, 13008, 41000, 42000, 43000]
theorem flX12_away_16 : Cond.fieldLink RX12 16 "PageTrieModel" "entryAt" "[I" ∈ wsX12_away := List.mem_of_getElem? (i := 1) rfl
theorem inX12_away_X12 : ∀ w ∈ u_ws RX12 TX12 41, w ∈ wsX12_away := mem_r _ [57, 58, 59, 60, 61, 62, 63, 64, 65, 66, 67, 68, 69, 70, 71, 72, 73, 74, 75, 76, 77, 78, 79, 80, 81, 82, 83, 84, 85, 86, 87, 88, 89, 90, 91, 92, 93, 94, 95, 96, 97] rfl
theorem hvX12_away : yX12_away.cls = RX12 ∧ yX12_away.cls ≠ "java/lang/invoke/MethodHandle" ∧ yX12_away.cls ≠ "java/lang/invoke/VarHandle" ∧ (parseMethodDescriptor yX12_away.desc).map (fun d => d.parameters.length) = some 1 := by decide +kernel
set_option maxHeartbeats 4000000 in
set_option maxRecDepth 100000 in
theorem kX12_away (l : Launch) {D : va_G} {cA : Nat → ClassId} {τ : Nat → Nat} {G : Nat → Nat → Nat} {L : List Nat} (hS : SW τ G L) (σ : Nat → Nat → Int) {a0 : Nat} (h0 : τ a0 = 13) {x1 : Int} (r1 : rg x1) (hI : FI G a0 σ) (q0 : 0 ≤ x1) (q1 : x1 < σ (G a0 0) 0) : Met l yX12_away wsX12_away ({ frames := 4, cells := 0, slots := 0, locals := 89 }) (jP D cA τ G L σ [.ref a0, .int (jI x1)]) (jQI D cA τ G L (fun r σ' => (True) ∧ fr wr_X12_away τ σ σ')) 0 0 (fun q => q ∈ L) := by
  refine j_metI (by decide +kernel) rfl (Nat.le_of_ble_eq_true rfl) ?_
  intro p e s m args below meth c Q hx hb hml hown hts hK hW hRet ls hl
  have hl : lv_has ls 7 [(0, .ref a0), (1, .int (jI x1))] := hl
  have hA : ∀ q ∈ L, (fun q => q ∈ L) q := fun _ h => h
  have hF : va_S (fun q => q ∈ L) s.heap s.heap [] := va_S.rf
  have hR : fr wr_X12_away τ σ σ := fr_rf
  have hk_file : τ (G a0 0) = 40 := gty hS h0 (k := 0) rfl rfl
  have hk_hand : τ (G a0 2) = 41 := gty hS h0 (k := 2) rfl rfl
  have hk_ea : τ (G a0 6) = 42 := gty hS h0 (k := 6) rfl rfl
  have := FI_bd hI
  have := fbd hW h0 (k := 3) (lo := 0) (hi := 24) rfl rfl
  have hsr := hI.1.2.2.2.2.2
  refine lv_aload_n hx hb dX12_away_0 rfl (lv_at hl 0 rfl) ?_
  refine lv_iload_n hx hb dX12_away_1 rfl (lv_at hl 1 rfl) ?_
  refine j_cI (j_runV (As := [.int (jI x1)]) (rest := []) hx hb hml hown hts hK hS hW (kX12_depthOf l hS σ (a0 := a0) (h0 := h0) (x1 := x1) (r1 := (by omega)) (hI := hI) (q0 := (by omega)) (q1 := (by omega))) 1 gX12_away_X12_depthOf rfl hvX12_depthOf ⟨Nat.le_of_ble_eq_true rfl, Nat.le_of_ble_eq_true rfl⟩ rfl rfl h0 rfl rfl rfl rfl hl.1 rfl (Nat.le_of_ble_eq_true rfl) dX12_away_2 ⟨Nat.le_of_ble_eq_true rfl, Nat.le_of_ble_eq_true rfl⟩) hA hF (fun v_1 σ_2 H locs hW hF rv_1 pv_1 => ?_)
  try dsimp only at pv_1
  obtain ⟨pv_1, fpv_1⟩ := pv_1
  have q_depthOf := pv_1
  have hR := fr_call hR fpv_1 (by decide)
  have Efile : σ_2 (G a0 0) = σ (G a0 0) := row_fr fpv_1 hk_file 40 (by decide) (by decide)
  have := congrFun Efile 0
  have Eents : σ_2 a0 8 = σ a0 8 := fr_at fpv_1 h0 8 13008 rfl (by decide)
  have Eea : σ_2 (G a0 6) = σ (G a0 6) := row_fr fpv_1 hk_ea 42 (by decide) (by decide)
  have hI := FI_dep hS h0 hI (kp_fr fpv_1 (by decide))
  have hd0 := q_depthOf.1; have hd1 := q_depthOf.2.1; have hDQ := q_depthOf.2.2.1; have hal := q_depthOf.2.2.2.1; have hqL := q_depthOf.2.2.2.2.1; have hqB := q_depthOf.2.2.2.2.2
  refine lv_istore_n (lv' := [(2, .int (jI v_1)), (0, .ref a0), (1, .int (jI x1))]) hx hb dX12_away_5 rfl hl (by decide) rfl (fun ls hl => ?_)
  refine j_const hx hb dX12_away_6 ?_
  refine lv_istore_n (lv' := [(3, .int (jI 0)), (2, .int (jI v_1)), (0, .ref a0), (1, .int (jI x1))]) hx hb dX12_away_7 rfl hl (by decide) rfl (fun ls hl => ?_)
  refine j_const hx hb dX12_away_8 ?_
  refine lv_istore (lv' := [(4, .int (jI 0)), (3, .int (jI 0)), (2, .int (jI v_1)), (0, .ref a0), (1, .int (jI x1))]) hx hb dX12_away_9 hl (by decide) rfl (fun ls hl => ?_)
  have L_11 : ∀ (N : Nat) (v3_11 v4_11 : Int) (σL_11 : Nat → Nat → Int) (H : Heap) (locs : List Loc) (ls : Array Slot), N = (2147483647 - v4_11 : Int).toNat → (0 ≤ v4_11) → rg v3_11 → rg v4_11 → PW D cA τ G L σL_11 H → va_S (fun q => q ∈ L) s.heap H locs → fr wr_X12_away τ σ σL_11 → FI G a0 σL_11 → σL_11 (G a0 0) = σ (G a0 0) → σL_11 a0 3 = σ_2 a0 3 → σL_11 (G a0 2) = σ_2 (G a0 2) → lv_has ls 7 [(0, .ref a0), (1, .int (jI x1)), (2, .int (jI v_1)), (3, .int (jI v3_11)), (4, .int (jI v4_11))] → W p l e ({ frames := 4, cells := 0, slots := 0, locals := 89 }) s m args below meth c H locs 0 0 Q (F0 m 11 ls []) := by
    intro N
    induction N using Nat.strongRecOn with
    | ind N ih_11 =>
      intro v3_11 v4_11 σL_11 H locs ls hN i0_11 rv3_11 rv4_11 hW hF hR hI Efile Ehl Ehand hl
      have := congrFun Efile 0
      refine lv_iload hx hb dX12_away_11 (lv_at hl 4 rfl) ?_
      refine lv_iload_n hx hb dX12_away_13 rfl (lv_at hl 2 rfl) ?_
      refine j_icmp_gt (tgt := 72) hx hb (by omega) (by omega) dX12_away_14 (by decide) (fun c_3 => ?_) (fun c_3 => ?_)
      · refine lv_iload_n hx hb dX12_away_72 rfl (lv_at hl 3 rfl) ?_
        exact hRet 73 _ _ _ v3_11 _ dX12_away_73 hW hF (by omega) ⟨trivial, hR⟩
      · have hmm := mul_mono (a := v4_11) (b := v_1) (w := σ (G a0 0) 1) (by omega) (by omega)
        refine lv_aload_n hx hb dX12_away_17 rfl (lv_at hl 0 rfl) ?_
        refine lv_iload hx hb dX12_away_18 (lv_at hl 4 rfl) ?_
        refine j_cV (j_runV (As := [.int (jI v4_11)]) (rest := []) hx hb hml hown hts hK hS hW (kX12_findsEntries l hS σL_11 (a0 := a0) (h0 := h0) (x1 := v4_11) (r1 := (by omega)) (hI := hI) (q0 := (by omega)) (q1 := (by omega))) 1 gX12_away_X12_findsEntries rfl hvX12_findsEntries ⟨Nat.le_of_ble_eq_true rfl, Nat.le_of_ble_eq_true rfl⟩ rfl rfl h0 rfl rfl rfl rfl hl.1 rfl (Nat.le_of_ble_eq_true rfl) dX12_away_20 ⟨Nat.le_of_ble_eq_true rfl, Nat.le_of_ble_eq_true rfl⟩) hA hF (fun σ_4 H locs hW hF pσ_4 => ?_)
        try dsimp only at pσ_4
        obtain ⟨pσ_4, fpσ_4⟩ := pσ_4
        try simp only [Efile, Ehl, Ehand] at pσ_4
        have q_findsEntries := pσ_4
        have hR := fr_call hR fpσ_4 (by decide)
        have Efile : σ_4 (G a0 0) = σ (G a0 0) := (row_fr fpσ_4 hk_file 40 (by decide) (by decide)).trans Efile
        have := congrFun Efile 0
        have Ehl : σ_4 a0 3 = σ_2 a0 3 := (fr_at fpσ_4 h0 3 13003 rfl (by decide)).trans Ehl
        have Ehand : σ_4 (G a0 2) = σ_2 (G a0 2) := (row_fr fpσ_4 hk_hand 41 (by decide) (by decide)).trans Ehand
        have hI := FI_dep hS h0 hI (kp_fr fpσ_4 (by decide))
        have hrg := q_findsEntries.1.1
        have hrn := q_findsEntries.1.2
        have hen := q_findsEntries.2.1
        have hel := q_findsEntries.2.2
        have hox := RG_own (x := x1) hsr hrg hrn q0 q1 hqL hqB (by have h_ : v_1 * σ (G a0 0) 1 < kO (σ (G a0 0)) x1 0 := hDQ.1; show _ < kO (σ (G a0 0)) x1 0; omega)
        have hol := hox.1
        have hlb : 0 ≤ (σ_4 a0 4) ∧ (σ_4 a0 4) ≤ (σ_4 a0 5) ∧ (σ_4 a0 5) ≤ σ (G a0 0) 0 := ⟨hrg.1, hrg.2.1, hrg.2.2.1⟩
        have hne2 : 0 < (σ_4 a0 8) ∧ (σ_4 a0 8) ≤ (σ_4 a0 5) - (σ_4 a0 4) := ⟨hen.2.2.1 (by omega), hen.2.1⟩
        refine lv_aload_n hx hb dX12_away_23 rfl (lv_at hl 0 rfl) ?_
        refine lv_iload_n hx hb dX12_away_24 rfl (lv_at hl 1 rfl) ?_
        refine j_cR (j_runV (As := [.int (jI x1)]) (rest := []) hx hb hml hown hts hK hS hW (kX12_entryOf l hS σ_4 (a0 := a0) (h0 := h0) (x1 := x1) (r1 := (by omega)) (q0 := (by omega)) (q1 := (by omega)) (q2 := (by omega))) 1 gX12_away_X12_entryOf rfl hvX12_entryOf ⟨Nat.le_of_ble_eq_true rfl, Nat.le_of_ble_eq_true rfl⟩ rfl rfl h0 rfl rfl rfl rfl hl.1 rfl (Nat.le_of_ble_eq_true rfl) dX12_away_25 ⟨Nat.le_of_ble_eq_true rfl, Nat.le_of_ble_eq_true rfl⟩) (fun v_5 rv_5 pv_5 => ?_)
        try dsimp only at pv_5
        try simp only [Efile, Ehl, Ehand] at pv_5
        have q_entryOf := pv_5
        refine lv_istore (lv' := [(5, .int (jI v_5)), (0, .ref a0), (1, .int (jI x1)), (2, .int (jI v_1)), (3, .int (jI v3_11)), (4, .int (jI v4_11))]) hx hb dX12_away_28 hl (by decide) rfl (fun ls hl => ?_)
        refine j_const hx hb dX12_away_30 ?_
        refine lv_istore (lv' := [(6, .int (jI 0)), (5, .int (jI v_5)), (0, .ref a0), (1, .int (jI x1)), (2, .int (jI v_1)), (3, .int (jI v3_11)), (4, .int (jI v4_11))]) hx hb dX12_away_31 hl (by decide) rfl (fun ls hl => ?_)
        have L_33 : ∀ (N : Nat) (v3_33 v6_33 : Int) (ls : Array Slot), N = (2147483647 - v6_33 : Int).toNat → (0 ≤ v6_33) → rg v3_33 → rg v6_33 → lv_has ls 7 [(0, .ref a0), (1, .int (jI x1)), (2, .int (jI v_1)), (3, .int (jI v3_33)), (4, .int (jI v4_11)), (5, .int (jI v_5)), (6, .int (jI v6_33))] → W p l e ({ frames := 4, cells := 0, slots := 0, locals := 89 }) s m args below meth c H locs 0 0 Q (F0 m 33 ls []) := by
          intro N
          induction N using Nat.strongRecOn with
          | ind N ih_33 =>
            intro v3_33 v6_33 ls hN i0_33 rv3_33 rv6_33 hl
            refine lv_iload hx hb dX12_away_33 (lv_at hl 6 rfl) ?_
            refine lv_iload hx hb dX12_away_35 (lv_at hl 5 rfl) ?_
            refine j_icmp_gt (tgt := 66) hx hb (by omega) (by omega) dX12_away_37 (by decide) (fun c_6 => ?_) (fun c_6 => ?_)
            · refine j_iinc (lv' := [(4, .int (jI (v4_11 + 1))), (0, .ref a0), (1, .int (jI x1)), (2, .int (jI v_1)), (3, .int (jI v3_33)), (5, .int (jI v_5)), (6, .int (jI v6_33))]) hx hb dX12_away_66 hl (k := 4) rfl (by decide) rfl (fun ls hl => ?_)
              refine lv_goto (tgt := 11) hx hb dX12_away_69 (by decide) ?_
              exact ih_11 ((2147483647 - (v4_11 + 1) : Int).toNat) (by omega) v3_33 (v4_11 + 1) σ_4 _ _ _ rfl (by omega) (by omega) (by omega) hW hF hR hI Efile Ehl Ehand (lv_sub hl [1, 2, 3, 4, 0] rfl)
            · refine lv_aload_n hx hb dX12_away_40 rfl (lv_at hl 0 rfl) ?_
              refine lv_aload_n hx hb dX12_away_41 rfl (lv_at hl 0 rfl) ?_
              refine j_getR hx hb (C := RX12) (T := TX12) (N := 41) hts inX12_away_X12 hown hK hS hW h0 rfl 6 rfl rfl (by decide) (hts _ flX12_away_16) dX12_away_42 ?_
              refine lv_iload hx hb dX12_away_45 (lv_at hl 6 rfl) ?_
              refine j_ald hx hb hK hS hW hk_ea (n := 151) rfl (by omega) (by omega) (by decide) dX12_away_47 ?_
              have := abd hW hk_ea (n := 151) (lo := 0) (hi := 150) (i := v6_33) rfl (by omega) (by omega)
              refine lv_iload hx hb dX12_away_48 (lv_at hl 4 rfl) ?_
              refine j_cR (j_runV (As := [.int (jI (σ_4 (G a0 6) (v6_33).toNat)), .int (jI v4_11)]) (rest := []) hx hb hml hown hts hK hS hW (kX12_beginsPage l hS σ_4 (a0 := a0) (h0 := h0) (x1 := σ_4 (G a0 6) (v6_33).toNat) (r1 := (by omega)) (x2 := v4_11) (r2 := (by omega)) (q0 := (by omega)) (q1 := (by omega)) (q2 := (by omega)) (q3 := (by omega))) 2 gX12_away_X12_beginsPage rfl hvX12_beginsPage ⟨Nat.le_of_ble_eq_true rfl, Nat.le_of_ble_eq_true rfl⟩ rfl rfl h0 rfl rfl rfl rfl hl.1 rfl (Nat.le_of_ble_eq_true rfl) dX12_away_50 ⟨Nat.le_of_ble_eq_true rfl, Nat.le_of_ble_eq_true rfl⟩) (fun v_7 rv_7 pv_7 => ?_)
              try dsimp only at pv_7
              try simp only [Efile, Ehl, Ehand] at pv_7
              have q_beginsPage := pv_7
              refine j_if_eq (tgt := 60) hx hb (by omega) dX12_away_53 (by decide) (fun c_8 => ?_) (fun c_8 => ?_)
              · refine j_iinc (lv' := [(6, .int (jI (v6_33 + 1))), (0, .ref a0), (1, .int (jI x1)), (2, .int (jI v_1)), (3, .int (jI v3_33)), (4, .int (jI v4_11)), (5, .int (jI v_5))]) hx hb dX12_away_60 hl (k := 6) rfl (by decide) rfl (fun ls hl => ?_)
                refine lv_goto (tgt := 33) hx hb dX12_away_63 (by decide) ?_
                exact ih_33 ((2147483647 - (v6_33 + 1) : Int).toNat) (by omega) v3_33 (v6_33 + 1) _ rfl (by omega) (by omega) (by omega) (lv_sub hl [1, 2, 3, 4, 5, 6, 0] rfl)
              · refine lv_iload_n hx hb dX12_away_56 rfl (lv_at hl 3 rfl) ?_
                refine j_const hx hb dX12_away_57 ?_
                refine j_add hx hb dX12_away_58 ?_
                refine j_wrap (fun z_9 rz_9 ez_9 => ?_)
                refine lv_istore_n (lv' := [(3, .int (jI z_9)), (0, .ref a0), (1, .int (jI x1)), (2, .int (jI v_1)), (4, .int (jI v4_11)), (5, .int (jI v_5)), (6, .int (jI v6_33))]) hx hb dX12_away_59 rfl hl (by decide) rfl (fun ls hl => ?_)
                refine j_iinc (lv' := [(6, .int (jI (v6_33 + 1))), (3, .int (jI z_9)), (0, .ref a0), (1, .int (jI x1)), (2, .int (jI v_1)), (4, .int (jI v4_11)), (5, .int (jI v_5))]) hx hb dX12_away_60 hl (k := 6) rfl (by decide) rfl (fun ls hl => ?_)
                refine lv_goto (tgt := 33) hx hb dX12_away_63 (by decide) ?_
                exact ih_33 ((2147483647 - (v6_33 + 1) : Int).toNat) (by omega) z_9 (v6_33 + 1) _ rfl (by omega) (by omega) (by omega) (lv_sub hl [2, 3, 4, 1, 5, 6, 0] rfl)
        exact L_33 ((2147483647 - 0 : Int).toNat) v3_11 0 _ rfl (by omega) (by omega) (by decide) (lv_sub hl [2, 3, 4, 5, 6, 1, 0] rfl)
  exact L_11 ((2147483647 - 0 : Int).toNat) 0 0 σ_2 _ _ _ rfl (by omega) (by decide) (by decide) hW hF hR hI Efile rfl rfl (lv_sub hl [3, 4, 2, 1, 0] rfl)
abbrev wr_X12_key : List Nat := [13003, 13004, 13005, 13008, 41000, 42000, 43000]
theorem hvX12_key : yX12_key.cls = RX12 ∧ yX12_key.cls ≠ "java/lang/invoke/MethodHandle" ∧ yX12_key.cls ≠ "java/lang/invoke/VarHandle" ∧ (parseMethodDescriptor yX12_key.desc).map (fun d => d.parameters.length) = some 2 := by decide +kernel
set_option maxHeartbeats 4000000 in
set_option maxRecDepth 100000 in
theorem kX12_key (l : Launch) {D : va_G} {cA : Nat → ClassId} {τ : Nat → Nat} {G : Nat → Nat → Nat} {L : List Nat} (hS : SW τ G L) (σ : Nat → Nat → Int) {a0 : Nat} (h0 : τ a0 = 13) {x1 : Int} (r1 : rg x1) {x2 : Int} (r2 : rg x2) (hI : FI G a0 σ) : Met l yX12_key wsX12_key ({ frames := 5, cells := 0, slots := 0, locals := 115 }) (jP D cA τ G L σ [.ref a0, .int (jI x1), .int (jI x2)]) (jQI D cA τ G L (fun r σ' => (True) ∧ fr wr_X12_key τ σ σ')) 0 0 (fun q => q ∈ L) := by
  refine j_metI (by decide +kernel) rfl (Nat.le_of_ble_eq_true rfl) ?_
  intro p e s m args below meth c Q hx hb hml hown hts hK hW hRet ls hl
  have hl : lv_has ls 3 [(0, .ref a0), (1, .int (jI x1)), (2, .int (jI x2))] := hl
  have hA : ∀ q ∈ L, (fun q => q ∈ L) q := fun _ h => h
  have hF : va_S (fun q => q ∈ L) s.heap s.heap [] := va_S.rf
  have hR : fr wr_X12_key τ σ σ := fr_rf
  have hk_file : τ (G a0 0) = 40 := gty hS h0 (k := 0) rfl rfl
  have := FI_bd hI
  have := fbd hW h0 (k := 3) (lo := 0) (hi := 24) rfl rfl
  refine lv_aload_n hx hb dX12_key_0 rfl (lv_at hl 0 rfl) ?_
  refine lv_iload_n hx hb dX12_key_1 rfl (lv_at hl 1 rfl) ?_
  refine j_cR (j_runV (As := [.int (jI x1)]) (rest := []) hx hb hml hown hts hK hS hW (kX12_isThere l hS σ (a0 := a0) (h0 := h0) (x1 := x1) (r1 := (by omega)) (hI := hI)) 1 gX12_key_X12_isThere rfl hvX12_isThere ⟨Nat.le_of_ble_eq_true rfl, Nat.le_of_ble_eq_true rfl⟩ rfl rfl h0 rfl rfl rfl rfl hl.1 rfl (Nat.le_of_ble_eq_true rfl) dX12_key_2 ⟨Nat.le_of_ble_eq_true rfl, Nat.le_of_ble_eq_true rfl⟩) (fun v_1 rv_1 pv_1 => ?_)
  try dsimp only at pv_1
  have q_isThere := pv_1
  refine j_if_eq (tgt := 14) hx hb (by omega) dX12_key_5 (by decide) (fun c_2 => ?_) (fun c_2 => ?_)
  · refine j_const hx hb dX12_key_14 ?_
    exact hRet 15 _ _ _ (-1) _ dX12_key_15 hW hF (by decide) ⟨trivial, hR⟩
  · refine lv_iload_n hx hb dX12_key_8 rfl (lv_at hl 2 rfl) ?_
    refine j_bi hx hb dX12_key_9 (by decide) ?_
    refine j_icmp_ge (tgt := 16) hx hb (by omega) (by decide) dX12_key_11 (by decide) (fun c_3 => ?_) (fun c_3 => ?_)
    · refine lv_iload_n hx hb dX12_key_16 rfl (lv_at hl 2 rfl) ?_
      have hrc_4 : rg x2 := by omega
      by_cases c_4_m3 : x2 = -3
      · refine lv_tableIn (tgt := 58) (off := 41) hx hb dX12_key_17 (by rw [jI_toInt hrc_4]; omega) (by rw [jI_toInt hrc_4]; omega) (by rw [jI_toInt hrc_4, c_4_m3]; rfl) (by decide) ?_
        refine lv_aload_n hx hb dX12_key_58 rfl (lv_at hl 0 rfl) ?_
        refine lv_iload_n hx hb dX12_key_59 rfl (lv_at hl 1 rfl) ?_
        refine j_cI (j_runV (As := [.int (jI x1)]) (rest := []) hx hb hml hown hts hK hS hW (kX12_away l hS σ (a0 := a0) (h0 := h0) (x1 := x1) (r1 := (by omega)) (hI := hI) (q0 := (by omega)) (q1 := (by omega))) 1 gX12_key_X12_away rfl hvX12_away ⟨Nat.le_of_ble_eq_true rfl, Nat.le_of_ble_eq_true rfl⟩ rfl rfl h0 rfl rfl rfl rfl hl.1 rfl (Nat.le_of_ble_eq_true rfl) dX12_key_60 ⟨Nat.le_of_ble_eq_true rfl, Nat.le_of_ble_eq_true rfl⟩) hA hF (fun v_5 σ_6 H locs hW hF rv_5 pv_5 => ?_)
        try dsimp only at pv_5
        obtain ⟨pv_5, fpv_5⟩ := pv_5
        have q_away := pv_5
        have hR := fr_call hR fpv_5 (by decide)
        have Efile : σ_6 (G a0 0) = σ (G a0 0) := row_fr fpv_5 hk_file 40 (by decide) (by decide)
        have := congrFun Efile 0
        have hI := FI_dep hS h0 hI (kp_fr fpv_5 (by decide))
        exact hRet 63 _ _ _ v_5 _ dX12_key_63 hW hF (by omega) ⟨trivial, hR⟩
      by_cases c_4_m2 : x2 = -2
      · refine lv_tableIn (tgt := 51) (off := 34) hx hb dX12_key_17 (by rw [jI_toInt hrc_4]; omega) (by rw [jI_toInt hrc_4]; omega) (by rw [jI_toInt hrc_4, c_4_m2]; rfl) (by decide) ?_
        refine lv_aload_n hx hb dX12_key_51 rfl (lv_at hl 0 rfl) ?_
        refine lv_iload_n hx hb dX12_key_52 rfl (lv_at hl 1 rfl) ?_
        refine j_const hx hb dX12_key_53 ?_
        refine j_cR (j_runV (As := [.int (jI x1), .int (jI 1)]) (rest := []) hx hb hml hown hts hK hS hW (kX12_of l hS σ (a0 := a0) (h0 := h0) (x1 := x1) (r1 := (by omega)) (x2 := 1) (r2 := (by decide)) (q0 := (by omega)) (q1 := (by omega))) 2 gX12_key_X12_of rfl hvX12_of ⟨Nat.le_of_ble_eq_true rfl, Nat.le_of_ble_eq_true rfl⟩ rfl rfl h0 rfl rfl rfl rfl hl.1 rfl (Nat.le_of_ble_eq_true rfl) dX12_key_54 ⟨Nat.le_of_ble_eq_true rfl, Nat.le_of_ble_eq_true rfl⟩) (fun v_7 rv_7 pv_7 => ?_)
        try dsimp only at pv_7
        have q_of := pv_7
        exact hRet 57 _ _ _ v_7 _ dX12_key_57 hW hF (by omega) ⟨trivial, hR⟩
      by_cases c_4_m1 : x2 = -1
      · refine lv_tableIn (tgt := 44) (off := 27) hx hb dX12_key_17 (by rw [jI_toInt hrc_4]; omega) (by rw [jI_toInt hrc_4]; omega) (by rw [jI_toInt hrc_4, c_4_m1]; rfl) (by decide) ?_
        refine lv_aload_n hx hb dX12_key_44 rfl (lv_at hl 0 rfl) ?_
        refine lv_iload_n hx hb dX12_key_45 rfl (lv_at hl 1 rfl) ?_
        refine j_const hx hb dX12_key_46 ?_
        refine j_cR (j_runV (As := [.int (jI x1), .int (jI 0)]) (rest := []) hx hb hml hown hts hK hS hW (kX12_of l hS σ (a0 := a0) (h0 := h0) (x1 := x1) (r1 := (by omega)) (x2 := 0) (r2 := (by decide)) (q0 := (by omega)) (q1 := (by omega))) 2 gX12_key_X12_of rfl hvX12_of ⟨Nat.le_of_ble_eq_true rfl, Nat.le_of_ble_eq_true rfl⟩ rfl rfl h0 rfl rfl rfl rfl hl.1 rfl (Nat.le_of_ble_eq_true rfl) dX12_key_47 ⟨Nat.le_of_ble_eq_true rfl, Nat.le_of_ble_eq_true rfl⟩) (fun v_8 rv_8 pv_8 => ?_)
        try dsimp only at pv_8
        have q_of := pv_8
        have := @FI_len _ _ _ hI x1
        exact hRet 50 _ _ _ v_8 _ dX12_key_50 hW hF (by omega) ⟨trivial, hR⟩
      refine lv_tableOut (tgt := 64) hx hb dX12_key_17 (by rw [jI_toInt hrc_4]; omega) (by decide) ?_
      refine lv_iload_n hx hb dX12_key_64 rfl (lv_at hl 2 rfl) ?_
      refine lv_aload_n hx hb dX12_key_65 rfl (lv_at hl 0 rfl) ?_
      refine lv_iload_n hx hb dX12_key_66 rfl (lv_at hl 1 rfl) ?_
      refine j_const hx hb dX12_key_67 ?_
      refine j_cR (j_runV (As := [.int (jI x1), .int (jI 0)]) (rest := [.int (jI x2)]) hx hb hml hown hts hK hS hW (kX12_of l hS σ (a0 := a0) (h0 := h0) (x1 := x1) (r1 := (by omega)) (x2 := 0) (r2 := (by decide)) (q0 := (by omega)) (q1 := (by omega))) 2 gX12_key_X12_of rfl hvX12_of ⟨Nat.le_of_ble_eq_true rfl, Nat.le_of_ble_eq_true rfl⟩ rfl rfl h0 rfl rfl rfl rfl hl.1 rfl (Nat.le_of_ble_eq_true rfl) dX12_key_68 ⟨Nat.le_of_ble_eq_true rfl, Nat.le_of_ble_eq_true rfl⟩) (fun v_9 rv_9 pv_9 => ?_)
      try dsimp only at pv_9
      have q_of := pv_9
      have := @FI_len _ _ _ hI x1
      refine j_icmp_ge (tgt := 83) hx hb (by omega) (by omega) dX12_key_71 (by decide) (fun c_10 => ?_) (fun c_10 => ?_)
      · refine j_bi hx hb dX12_key_83 (by decide) ?_
        exact hRet 85 _ _ _ (-4) _ dX12_key_85 hW hF (by decide) ⟨trivial, hR⟩
      · refine lv_aload_n hx hb dX12_key_74 rfl (lv_at hl 0 rfl) ?_
        refine lv_iload_n hx hb dX12_key_75 rfl (lv_at hl 1 rfl) ?_
        refine lv_iload_n hx hb dX12_key_76 rfl (lv_at hl 2 rfl) ?_
        refine j_cR (j_runV (As := [.int (jI x1), .int (jI x2)]) (rest := []) hx hb hml hown hts hK hS hW (kX12_byteOf l hS σ (a0 := a0) (h0 := h0) (x1 := x1) (r1 := (by omega)) (x2 := x2) (r2 := (by omega)) (q0 := (by omega)) (q1 := (by omega))) 2 gX12_key_X12_byteOf rfl hvX12_byteOf ⟨Nat.le_of_ble_eq_true rfl, Nat.le_of_ble_eq_true rfl⟩ rfl rfl h0 rfl rfl rfl rfl hl.1 rfl (Nat.le_of_ble_eq_true rfl) dX12_key_77 ⟨Nat.le_of_ble_eq_true rfl, Nat.le_of_ble_eq_true rfl⟩) (fun v_11 rv_11 pv_11 => ?_)
        try dsimp only at pv_11
        have q_byteOf := pv_11
        have := @FI_byte _ _ _ hI x1 x2
        refine lv_goto (tgt := 85) hx hb dX12_key_80 (by decide) ?_
        exact hRet 85 _ _ _ v_11 _ dX12_key_85 hW hF (by omega) ⟨trivial, hR⟩
    · refine j_const hx hb dX12_key_14 ?_
      exact hRet 15 _ _ _ (-1) _ dX12_key_15 hW hF (by decide) ⟨trivial, hR⟩
abbrev wr_X12_near : List Nat := [13003, 13011, 41000]
theorem hvX12_near : yX12_near.cls = RX12 ∧ yX12_near.cls ≠ "java/lang/invoke/MethodHandle" ∧ yX12_near.cls ≠ "java/lang/invoke/VarHandle" ∧ (parseMethodDescriptor yX12_near.desc).map (fun d => d.parameters.length) = some 2 := by decide +kernel
set_option maxHeartbeats 4000000 in
set_option maxRecDepth 100000 in
theorem kX12_near (l : Launch) {D : va_G} {cA : Nat → ClassId} {τ : Nat → Nat} {G : Nat → Nat → Nat} {L : List Nat} (hS : SW τ G L) (σ : Nat → Nat → Int) {a0 : Nat} (h0 : τ a0 = 13) {x1 : Int} (r1 : rg x1) {x2 : Int} (r2 : rg x2) (hI : FI G a0 σ) : Met l yX12_near wsX12_near ({ frames := 4, cells := 0, slots := 0, locals := 86 }) (jP D cA τ G L σ [.ref a0, .int (jI x1), .int (jI x2)]) (jQI D cA τ G L (fun r σ' => (True) ∧ fr wr_X12_near τ σ σ')) 0 0 (fun q => q ∈ L) := by
  refine j_metI (by decide +kernel) rfl (Nat.le_of_ble_eq_true rfl) ?_
  intro p e s m args below meth c Q hx hb hml hown hts hK hW hRet ls hl
  have hl : lv_has ls 6 [(0, .ref a0), (1, .int (jI x1)), (2, .int (jI x2))] := hl
  have hA : ∀ q ∈ L, (fun q => q ∈ L) q := fun _ h => h
  have hF : va_S (fun q => q ∈ L) s.heap s.heap [] := va_S.rf
  have hR : fr wr_X12_near τ σ σ := fr_rf
  have hk_file : τ (G a0 0) = 40 := gty hS h0 (k := 0) rfl rfl
  have := FI_bd hI
  have := fbd hW h0 (k := 3) (lo := 0) (hi := 24) rfl rfl
  refine lv_aload_n hx hb dX12_near_0 rfl (lv_at hl 0 rfl) ?_
  refine lv_iload_n hx hb dX12_near_1 rfl (lv_at hl 1 rfl) ?_
  refine j_cR (j_runV (As := [.int (jI x1)]) (rest := []) hx hb hml hown hts hK hS hW (kX12_isLong l hS σ (a0 := a0) (h0 := h0) (x1 := x1) (r1 := (by omega))) 1 gX12_near_X12_isLong rfl hvX12_isLong ⟨Nat.le_of_ble_eq_true rfl, Nat.le_of_ble_eq_true rfl⟩ rfl rfl h0 rfl rfl rfl rfl hl.1 rfl (Nat.le_of_ble_eq_true rfl) dX12_near_2 ⟨Nat.le_of_ble_eq_true rfl, Nat.le_of_ble_eq_true rfl⟩) (fun v_1 rv_1 pv_1 => ?_)
  try dsimp only at pv_1
  have q_isLong := pv_1
  refine j_if_eq (tgt := 17) hx hb (by omega) dX12_near_5 (by decide) (fun c_2 => ?_) (fun c_2 => ?_)
  · refine j_const hx hb dX12_near_17 ?_
    exact hRet 18 _ _ _ (-1) _ dX12_near_18 hW hF (by decide) ⟨trivial, hR⟩
  · refine lv_iload_n hx hb dX12_near_8 rfl (lv_at hl 2 rfl) ?_
    refine j_const hx hb dX12_near_9 ?_
    refine j_const hx hb dX12_near_10 ?_
    refine j_cR (j_runS (As := [.int (jI x2), .int (jI 0), .int (jI 3)]) (rest := []) hx hb hml hown hts hK hW (kX12_in l hS σ (x0 := x2) (r0 := (by omega)) (x1 := 0) (r1 := (by decide)) (x2 := 3) (r2 := (by decide))) 3 gX12_near_X12_in rfl hsX12_in ⟨Nat.le_of_ble_eq_true rfl, Nat.le_of_ble_eq_true rfl⟩ rfl rfl rfl hl.1 rfl (Nat.le_of_ble_eq_true rfl) dX12_near_11 ⟨Nat.le_of_ble_eq_true rfl, Nat.le_of_ble_eq_true rfl⟩) (fun v_3 rv_3 pv_3 => ?_)
    try dsimp only at pv_3
    have q_in := pv_3
    refine j_if_ne (tgt := 19) hx hb (by omega) dX12_near_14 (by decide) (fun c_4 => ?_) (fun c_4 => ?_)
    · refine lv_aload_n hx hb dX12_near_19 rfl (lv_at hl 0 rfl) ?_
      refine lv_iload_n hx hb dX12_near_20 rfl (lv_at hl 1 rfl) ?_
      refine j_cI (j_runV (As := [.int (jI x1)]) (rest := []) hx hb hml hown hts hK hS hW (kX12_takesKey l hS σ (a0 := a0) (h0 := h0) (x1 := x1) (r1 := (by omega)) (q0 := (by omega)) (q1 := (by omega))) 1 gX12_near_X12_takesKey rfl hvX12_takesKey ⟨Nat.le_of_ble_eq_true rfl, Nat.le_of_ble_eq_true rfl⟩ rfl rfl h0 rfl rfl rfl rfl hl.1 rfl (Nat.le_of_ble_eq_true rfl) dX12_near_21 ⟨Nat.le_of_ble_eq_true rfl, Nat.le_of_ble_eq_true rfl⟩) hA hF (fun v_5 σ_6 H locs hW hF rv_5 pv_5 => ?_)
      try dsimp only at pv_5
      obtain ⟨bpv_5, pv_5, fpv_5⟩ := pv_5
      have q_takesKey := pv_5
      have hR := fr_call hR fpv_5 (by decide)
      have Efile : σ_6 (G a0 0) = σ (G a0 0) := row_fr fpv_5 hk_file 40 (by decide) (by decide)
      have := congrFun Efile 0
      have hI := FI_dep hS h0 hI (kp_fr fpv_5 (by decide))
      refine j_if_ne (tgt := 30) hx hb (by omega) dX12_near_24 (by decide) (fun c_7 => ?_) (fun c_7 => ?_)
      · refine lv_aload_n hx hb dX12_near_30 rfl (lv_at hl 0 rfl) ?_
        refine j_cR (j_runV (As := []) (rest := []) hx hb hml hown hts hK hS hW (kX12_rankOfHand l hS σ_6 (a0 := a0) (h0 := h0) (hI := hI)) 0 gX12_near_X12_rankOfHand rfl hvX12_rankOfHand ⟨Nat.le_of_ble_eq_true rfl, Nat.le_of_ble_eq_true rfl⟩ rfl rfl h0 rfl rfl rfl rfl hl.1 rfl (Nat.le_of_ble_eq_true rfl) dX12_near_31 ⟨Nat.le_of_ble_eq_true rfl, Nat.le_of_ble_eq_true rfl⟩) (fun v_8 rv_8 pv_8 => ?_)
        try dsimp only at pv_8
        try simp only [Efile] at pv_8
        have q_rankOfHand := pv_8
        have : 0 ≤ v_8 ∧ v_8 ≤ σ (G a0 0) 0 := ⟨pv_8.1, pv_8.2.1⟩
        refine lv_istore_n (lv' := [(3, .int (jI v_8)), (0, .ref a0), (1, .int (jI x1)), (2, .int (jI x2))]) hx hb dX12_near_34 rfl hl (by decide) rfl (fun ls hl => ?_)
        refine lv_aload_n hx hb dX12_near_35 rfl (lv_at hl 1 rfl) ?_
        refine j_cR (j_runV (As := []) (rest := []) hx hb hml hown hts hK hS hW (kX12_isHandThere l hS σ_6 (a0 := a0) (h0 := h0) (hI := hI)) 0 gX12_near_X12_isHandThere rfl hvX12_isHandThere ⟨Nat.le_of_ble_eq_true rfl, Nat.le_of_ble_eq_true rfl⟩ rfl rfl h0 rfl rfl rfl rfl hl.1 rfl (Nat.le_of_ble_eq_true rfl) dX12_near_36 ⟨Nat.le_of_ble_eq_true rfl, Nat.le_of_ble_eq_true rfl⟩) (fun v_9 rv_9 pv_9 => ?_)
        try dsimp only at pv_9
        try simp only [Efile] at pv_9
        have q_isHandThere := pv_9
        refine lv_istore (lv' := [(4, .int (jI v_9)), (3, .int (jI v_8)), (0, .ref a0), (1, .int (jI x1)), (2, .int (jI x2))]) hx hb dX12_near_39 hl (by decide) rfl (fun ls hl => ?_)
        refine lv_iload_n hx hb dX12_near_41 rfl (lv_at hl 4 rfl) ?_
        have L_92 : ∀ (t0_92 : Int) (ls : Array Slot), rg t0_92 → lv_has ls 6 [(0, .ref a0)] → W p l e ({ frames := 4, cells := 0, slots := 0, locals := 86 }) s m args below meth c H locs 0 0 Q (F0 m 92 ls [.int (jI t0_92)]) := by
          intro t0_92 ls rt0_92 hl
          refine lv_istore (lv' := [(5, .int (jI t0_92)), (0, .ref a0)]) hx hb dX12_near_92 hl (by decide) rfl (fun ls hl => ?_)
          refine lv_aload_n hx hb dX12_near_94 rfl (lv_at hl 1 rfl) ?_
          refine lv_iload hx hb dX12_near_95 (lv_at hl 0 rfl) ?_
          refine j_cR (j_runV (As := [.int (jI t0_92)]) (rest := []) hx hb hml hown hts hK hS hW (kX12_isThere l hS σ_6 (a0 := a0) (h0 := h0) (x1 := t0_92) (r1 := (by omega)) (hI := hI)) 1 gX12_near_X12_isThere rfl hvX12_isThere ⟨Nat.le_of_ble_eq_true rfl, Nat.le_of_ble_eq_true rfl⟩ rfl rfl h0 rfl rfl rfl rfl hl.1 rfl (Nat.le_of_ble_eq_true rfl) dX12_near_97 ⟨Nat.le_of_ble_eq_true rfl, Nat.le_of_ble_eq_true rfl⟩) (fun v_10 rv_10 pv_10 => ?_)
          try dsimp only at pv_10
          try simp only [Efile] at pv_10
          have q_isThere := pv_10
          refine j_if_eq (tgt := 108) hx hb (by omega) dX12_near_100 (by decide) (fun c_11 => ?_) (fun c_11 => ?_)
          · refine j_bi hx hb dX12_near_108 (by decide) ?_
            exact hRet 110 _ _ _ (-3) _ dX12_near_110 hW hF (by decide) ⟨trivial, hR⟩
          · refine lv_iload hx hb dX12_near_103 (lv_at hl 0 rfl) ?_
            refine lv_goto (tgt := 110) hx hb dX12_near_105 (by decide) ?_
            exact hRet 110 _ _ _ t0_92 _ dX12_near_110 hW hF (by omega) ⟨trivial, hR⟩
        refine j_if_ne (tgt := 60) hx hb (by omega) dX12_near_42 (by decide) (fun c_12 => ?_) (fun c_12 => ?_)
        · refine lv_iload_n hx hb dX12_near_60 rfl (lv_at hl 4 rfl) ?_
          refine j_const hx hb dX12_near_61 ?_
          refine j_icmp_ne (tgt := 69) hx hb (by omega) (by decide) dX12_near_62 (by decide) (fun c_13 => ?_) (fun c_13 => ?_)
          · refine lv_iload_n hx hb dX12_near_69 rfl (lv_at hl 4 rfl) ?_
            refine j_const hx hb dX12_near_70 ?_
            refine j_icmp_ne (tgt := 80) hx hb (by omega) (by decide) dX12_near_71 (by decide) (fun c_14 => ?_) (fun c_14 => ?_)
            · refine lv_iload hx hb dX12_near_80 (lv_at hl 0 rfl) ?_
              refine j_if_eq (tgt := 91) hx hb (by omega) dX12_near_82 (by decide) (fun c_15 => ?_) (fun c_15 => ?_)
              · refine lv_iload_n hx hb dX12_near_91 rfl (lv_at hl 1 rfl) ?_
                exact L_92 v_8 _ (by omega) (lv_sub hl [2] rfl)
              · refine lv_iload_n hx hb dX12_near_85 rfl (lv_at hl 1 rfl) ?_
                refine j_const hx hb dX12_near_86 ?_
                refine j_add hx hb dX12_near_87 ?_
                refine lv_goto (tgt := 92) hx hb dX12_near_88 (by decide) ?_
                exact L_92 (v_8 + 1) _ (by omega) (lv_sub hl [2] rfl)
            · refine lv_iload_n hx hb dX12_near_74 rfl (lv_at hl 1 rfl) ?_
              refine j_const hx hb dX12_near_75 ?_
              refine j_sub hx hb dX12_near_76 ?_
              refine lv_goto (tgt := 92) hx hb dX12_near_77 (by decide) ?_
              exact L_92 (v_8 - 1) _ (by omega) (lv_sub hl [2] rfl)
          · refine lv_iload_n hx hb dX12_near_65 rfl (lv_at hl 1 rfl) ?_
            refine lv_goto (tgt := 92) hx hb dX12_near_66 (by decide) ?_
            exact L_92 v_8 _ (by omega) (lv_sub hl [2] rfl)
        · refine lv_iload hx hb dX12_near_45 (lv_at hl 0 rfl) ?_
          refine j_if_eq (tgt := 54) hx hb (by omega) dX12_near_47 (by decide) (fun c_16 => ?_) (fun c_16 => ?_)
          · refine lv_iload_n hx hb dX12_near_54 rfl (lv_at hl 1 rfl) ?_
            refine j_const hx hb dX12_near_55 ?_
            refine j_sub hx hb dX12_near_56 ?_
            refine lv_goto (tgt := 92) hx hb dX12_near_57 (by decide) ?_
            exact L_92 (v_8 - 1) _ (by omega) (lv_sub hl [2] rfl)
          · refine lv_iload_n hx hb dX12_near_50 rfl (lv_at hl 1 rfl) ?_
            refine lv_goto (tgt := 92) hx hb dX12_near_51 (by decide) ?_
            exact L_92 v_8 _ (by omega) (lv_sub hl [2] rfl)
      · refine j_bi hx hb dX12_near_27 (by decide) ?_
        exact hRet 29 _ _ _ (-2) _ dX12_near_29 hW hF (by decide) ⟨trivial, hR⟩
    · refine j_const hx hb dX12_near_17 ?_
      exact hRet 18 _ _ _ (-1) _ dX12_near_18 hW hF (by decide) ⟨trivial, hR⟩
theorem flX12_beginsWith_13 : Cond.fieldLink RX12 13 "PageTrieModel" "hand" "[I" ∈ wsX12_beginsWith := List.mem_of_getElem? (i := 2) rfl
theorem flX12_beginsWith_70 : Cond.fieldLink RX12 70 "PageTrieModel" "handLong" "I" ∈ wsX12_beginsWith := List.mem_of_getElem? (i := 1) rfl
theorem inX12_beginsWith_X12 : ∀ w ∈ u_ws RX12 TX12 41, w ∈ wsX12_beginsWith := mem_r _ [13, 14, 15, 16, 17, 18, 19, 20, 21, 22, 23, 24, 25, 26, 27, 28, 29, 30, 31, 32, 33, 34, 35, 36, 37, 38, 39, 40, 41, 42, 43, 44, 45, 46, 47, 48, 49, 50, 51, 52, 53] rfl
theorem hvX12_beginsWith : yX12_beginsWith.cls = RX12 ∧ yX12_beginsWith.cls ≠ "java/lang/invoke/MethodHandle" ∧ yX12_beginsWith.cls ≠ "java/lang/invoke/VarHandle" ∧ (parseMethodDescriptor yX12_beginsWith.desc).map (fun d => d.parameters.length) = some 1 := by decide +kernel
set_option maxHeartbeats 4000000 in
set_option maxRecDepth 100000 in
theorem kX12_beginsWith (l : Launch) {D : va_G} {cA : Nat → ClassId} {τ : Nat → Nat} {G : Nat → Nat → Nat} {L : List Nat} (hS : SW τ G L) (σ : Nat → Nat → Int) {a0 : Nat} (h0 : τ a0 = 13) {x1 : Int} (r1 : rg x1) (hI : FI G a0 σ) (q0 : 0 ≤ x1) (q1 : x1 < σ (G a0 0) 0) : Met l yX12_beginsWith wsX12_beginsWith ({ frames := 1, cells := 0, slots := 0, locals := 22 }) (jP D cA τ G L σ [.ref a0, .int (jI x1)]) (jQR (fun r => (0 ≤ r ∧ r ≤ 1) ∧ (True))) 0 0 (fun _ => False) := by
  refine j_metRZ (by decide +kernel) rfl (Nat.le_of_ble_eq_true rfl) ?_
  intro p e s m args below meth c Q hx hb hml hown hts hK hW hRet ls hl
  have hl : lv_has ls 3 [(0, .ref a0), (1, .int (jI x1))] := hl
  have := FI_bd hI
  have := fbd hW h0 (k := 3) (lo := 0) (hi := 24) rfl rfl
  have := FI_len hI q0 q1
  refine lv_aload_n hx hb dX12_beginsWith_0 rfl (lv_at hl 0 rfl) ?_
  refine lv_iload_n hx hb dX12_beginsWith_1 rfl (lv_at hl 1 rfl) ?_
  refine j_const hx hb dX12_beginsWith_2 ?_
  refine j_cR (j_runV (As := [.int (jI x1), .int (jI 0)]) (rest := []) hx hb hml hown hts hK hS hW (kX12_of l hS σ (a0 := a0) (h0 := h0) (x1 := x1) (r1 := (by omega)) (x2 := 0) (r2 := (by decide)) (q0 := (by omega)) (q1 := (by omega))) 2 gX12_beginsWith_X12_of rfl hvX12_of ⟨Nat.le_of_ble_eq_true rfl, Nat.le_of_ble_eq_true rfl⟩ rfl rfl h0 rfl rfl rfl rfl hl.1 rfl (Nat.le_of_ble_eq_true rfl) dX12_beginsWith_3 ⟨Nat.le_of_ble_eq_true rfl, Nat.le_of_ble_eq_true rfl⟩) (fun v_1 rv_1 pv_1 => ?_)
  try dsimp only at pv_1
  have q_of := pv_1
  have := @FI_len _ _ _ hI x1
  refine lv_aload_n hx hb dX12_beginsWith_6 rfl (lv_at hl 0 rfl) ?_
  refine j_getI hx hb (C := RX12) (T := TX12) (N := 41) hts inX12_beginsWith_X12 hown hK hS hW h0 rfl 3 rfl rfl (by decide) (hts _ flX12_beginsWith_70) dX12_beginsWith_7 ?_
  have := fbd hW h0 (k := 3) (lo := 0) (hi := 24) rfl rfl
  refine j_icmp_ge (tgt := 15) hx hb (by omega) (by omega) dX12_beginsWith_10 (by decide) (fun c_2 => ?_) (fun c_2 => ?_)
  · refine j_const hx hb dX12_beginsWith_15 ?_
    refine lv_istore_n (lv' := [(2, .int (jI 0)), (0, .ref a0), (1, .int (jI x1))]) hx hb dX12_beginsWith_16 rfl hl (by decide) rfl (fun ls hl => ?_)
    have L_17 : ∀ (N : Nat) (v2_17 : Int) (ls : Array Slot), N = (2147483647 - v2_17 : Int).toNat → (0 ≤ v2_17) → rg v2_17 → lv_has ls 3 [(0, .ref a0), (1, .int (jI x1)), (2, .int (jI v2_17))] → W p l e ({ frames := 1, cells := 0, slots := 0, locals := 22 }) s m args below meth c s.heap [] 0 0 Q (F0 m 17 ls []) := by
      intro N
      induction N using Nat.strongRecOn with
      | ind N ih_17 =>
        intro v2_17 ls hN i0_17 rv2_17 hl
        refine lv_iload_n hx hb dX12_beginsWith_17 rfl (lv_at hl 2 rfl) ?_
        refine lv_aload_n hx hb dX12_beginsWith_18 rfl (lv_at hl 0 rfl) ?_
        refine j_getI hx hb (C := RX12) (T := TX12) (N := 41) hts inX12_beginsWith_X12 hown hK hS hW h0 rfl 3 rfl rfl (by decide) (hts _ flX12_beginsWith_70) dX12_beginsWith_19 ?_
        refine j_icmp_ge (tgt := 48) hx hb (by omega) (by omega) dX12_beginsWith_22 (by decide) (fun c_3 => ?_) (fun c_3 => ?_)
        · refine j_const hx hb dX12_beginsWith_48 ?_
          exact hRet 49 _ 1 dX12_beginsWith_49 (by omega) trivial
        · refine lv_aload_n hx hb dX12_beginsWith_25 rfl (lv_at hl 0 rfl) ?_
          refine lv_iload_n hx hb dX12_beginsWith_26 rfl (lv_at hl 1 rfl) ?_
          refine lv_iload_n hx hb dX12_beginsWith_27 rfl (lv_at hl 2 rfl) ?_
          refine j_cR (j_runV (As := [.int (jI x1), .int (jI v2_17)]) (rest := []) hx hb hml hown hts hK hS hW (kX12_byteOf l hS σ (a0 := a0) (h0 := h0) (x1 := x1) (r1 := (by omega)) (x2 := v2_17) (r2 := (by omega)) (q0 := (by omega)) (q1 := (by omega))) 2 gX12_beginsWith_X12_byteOf rfl hvX12_byteOf ⟨Nat.le_of_ble_eq_true rfl, Nat.le_of_ble_eq_true rfl⟩ rfl rfl h0 rfl rfl rfl rfl hl.1 rfl (Nat.le_of_ble_eq_true rfl) dX12_beginsWith_28 ⟨Nat.le_of_ble_eq_true rfl, Nat.le_of_ble_eq_true rfl⟩) (fun v_4 rv_4 pv_4 => ?_)
          try dsimp only at pv_4
          have q_byteOf := pv_4
          have := @FI_byte _ _ _ hI x1 v2_17
          refine lv_aload_n hx hb dX12_beginsWith_31 rfl (lv_at hl 0 rfl) ?_
          refine j_getR hx hb (C := RX12) (T := TX12) (N := 41) hts inX12_beginsWith_X12 hown hK hS hW h0 rfl 2 rfl rfl (by decide) (hts _ flX12_beginsWith_13) dX12_beginsWith_32 ?_
          have h_5 : τ (G a0 2) = 41 := gty hS h0 (k := 2) rfl rfl
          refine lv_iload_n hx hb dX12_beginsWith_35 rfl (lv_at hl 2 rfl) ?_
          refine j_ald hx hb hK hS hW h_5 (n := 24) rfl (by omega) (by omega) (by decide) dX12_beginsWith_36 ?_
          have := abd hW h_5 (n := 24) (lo := 0) (hi := 255) (i := v2_17) rfl (by omega) (by omega)
          refine j_icmp_eq (tgt := 42) hx hb (by omega) (by omega) dX12_beginsWith_37 (by decide) (fun c_6 => ?_) (fun c_6 => ?_)
          · refine j_iinc (lv' := [(2, .int (jI (v2_17 + 1))), (0, .ref a0), (1, .int (jI x1))]) hx hb dX12_beginsWith_42 hl (k := 2) rfl (by decide) rfl (fun ls hl => ?_)
            refine lv_goto (tgt := 17) hx hb dX12_beginsWith_45 (by decide) ?_
            exact ih_17 ((2147483647 - (v2_17 + 1) : Int).toNat) (by omega) (v2_17 + 1) _ rfl (by omega) (by omega) (lv_sub hl [1, 2, 0] rfl)
          · refine j_const hx hb dX12_beginsWith_40 ?_
            exact hRet 41 _ 0 dX12_beginsWith_41 (by omega) trivial
    exact L_17 ((2147483647 - 0 : Int).toNat) 0 _ rfl (by omega) (by decide) (lv_sub hl [1, 2, 0] rfl)
  · refine j_const hx hb dX12_beginsWith_13 ?_
    exact hRet 14 _ 0 dX12_beginsWith_14 (by omega) trivial
abbrev wr_X12_begins : List Nat := [13003, 13011, 41000]
theorem hvX12_begins : yX12_begins.cls = RX12 ∧ yX12_begins.cls ≠ "java/lang/invoke/MethodHandle" ∧ yX12_begins.cls ≠ "java/lang/invoke/VarHandle" ∧ (parseMethodDescriptor yX12_begins.desc).map (fun d => d.parameters.length) = some 2 := by decide +kernel
set_option maxHeartbeats 4000000 in
set_option maxRecDepth 100000 in
theorem kX12_begins (l : Launch) {D : va_G} {cA : Nat → ClassId} {τ : Nat → Nat} {G : Nat → Nat → Nat} {L : List Nat} (hS : SW τ G L) (σ : Nat → Nat → Int) {a0 : Nat} (h0 : τ a0 = 13) {x1 : Int} (r1 : rg x1) {x2 : Int} (r2 : rg x2) (hI : FI G a0 σ) : Met l yX12_begins wsX12_begins ({ frames := 3, cells := 0, slots := 0, locals := 65 }) (jP D cA τ G L σ [.ref a0, .int (jI x1), .int (jI x2)]) (jQI D cA τ G L (fun r σ' => (True) ∧ fr wr_X12_begins τ σ σ')) 0 0 (fun q => q ∈ L) := by
  refine j_metI (by decide +kernel) rfl (Nat.le_of_ble_eq_true rfl) ?_
  intro p e s m args below meth c Q hx hb hml hown hts hK hW hRet ls hl
  have hl : lv_has ls 7 [(0, .ref a0), (1, .int (jI x1)), (2, .int (jI x2))] := hl
  have hA : ∀ q ∈ L, (fun q => q ∈ L) q := fun _ h => h
  have hF : va_S (fun q => q ∈ L) s.heap s.heap [] := va_S.rf
  have hR : fr wr_X12_begins τ σ σ := fr_rf
  have hk_file : τ (G a0 0) = 40 := gty hS h0 (k := 0) rfl rfl
  have := FI_bd hI
  have := fbd hW h0 (k := 3) (lo := 0) (hi := 24) rfl rfl
  refine lv_aload_n hx hb dX12_begins_0 rfl (lv_at hl 0 rfl) ?_
  refine lv_iload_n hx hb dX12_begins_1 rfl (lv_at hl 1 rfl) ?_
  refine j_cR (j_runV (As := [.int (jI x1)]) (rest := []) hx hb hml hown hts hK hS hW (kX12_isLong l hS σ (a0 := a0) (h0 := h0) (x1 := x1) (r1 := (by omega))) 1 gX12_begins_X12_isLong rfl hvX12_isLong ⟨Nat.le_of_ble_eq_true rfl, Nat.le_of_ble_eq_true rfl⟩ rfl rfl h0 rfl rfl rfl rfl hl.1 rfl (Nat.le_of_ble_eq_true rfl) dX12_begins_2 ⟨Nat.le_of_ble_eq_true rfl, Nat.le_of_ble_eq_true rfl⟩) (fun v_1 rv_1 pv_1 => ?_)
  try dsimp only at pv_1
  have q_isLong := pv_1
  refine j_if_eq (tgt := 17) hx hb (by omega) dX12_begins_5 (by decide) (fun c_2 => ?_) (fun c_2 => ?_)
  · refine j_const hx hb dX12_begins_17 ?_
    exact hRet 18 _ _ _ (-1) _ dX12_begins_18 hW hF (by decide) ⟨trivial, hR⟩
  · refine lv_iload_n hx hb dX12_begins_8 rfl (lv_at hl 2 rfl) ?_
    refine j_const hx hb dX12_begins_9 ?_
    refine j_const hx hb dX12_begins_10 ?_
    refine j_cR (j_runS (As := [.int (jI x2), .int (jI 0), .int (jI 2)]) (rest := []) hx hb hml hown hts hK hW (kX12_in l hS σ (x0 := x2) (r0 := (by omega)) (x1 := 0) (r1 := (by decide)) (x2 := 2) (r2 := (by decide))) 3 gX12_begins_X12_in rfl hsX12_in ⟨Nat.le_of_ble_eq_true rfl, Nat.le_of_ble_eq_true rfl⟩ rfl rfl rfl hl.1 rfl (Nat.le_of_ble_eq_true rfl) dX12_begins_11 ⟨Nat.le_of_ble_eq_true rfl, Nat.le_of_ble_eq_true rfl⟩) (fun v_3 rv_3 pv_3 => ?_)
    try dsimp only at pv_3
    have q_in := pv_3
    refine j_if_ne (tgt := 19) hx hb (by omega) dX12_begins_14 (by decide) (fun c_4 => ?_) (fun c_4 => ?_)
    · refine lv_aload_n hx hb dX12_begins_19 rfl (lv_at hl 0 rfl) ?_
      refine lv_iload_n hx hb dX12_begins_20 rfl (lv_at hl 1 rfl) ?_
      refine j_cI (j_runV (As := [.int (jI x1)]) (rest := []) hx hb hml hown hts hK hS hW (kX12_takesKey l hS σ (a0 := a0) (h0 := h0) (x1 := x1) (r1 := (by omega)) (q0 := (by omega)) (q1 := (by omega))) 1 gX12_begins_X12_takesKey rfl hvX12_takesKey ⟨Nat.le_of_ble_eq_true rfl, Nat.le_of_ble_eq_true rfl⟩ rfl rfl h0 rfl rfl rfl rfl hl.1 rfl (Nat.le_of_ble_eq_true rfl) dX12_begins_21 ⟨Nat.le_of_ble_eq_true rfl, Nat.le_of_ble_eq_true rfl⟩) hA hF (fun v_5 σ_6 H locs hW hF rv_5 pv_5 => ?_)
      try dsimp only at pv_5
      obtain ⟨bpv_5, pv_5, fpv_5⟩ := pv_5
      have q_takesKey := pv_5
      have hR := fr_call hR fpv_5 (by decide)
      have Efile : σ_6 (G a0 0) = σ (G a0 0) := row_fr fpv_5 hk_file 40 (by decide) (by decide)
      have := congrFun Efile 0
      have hI := FI_dep hS h0 hI (kp_fr fpv_5 (by decide))
      refine j_if_ne (tgt := 30) hx hb (by omega) dX12_begins_24 (by decide) (fun c_7 => ?_) (fun c_7 => ?_)
      · refine j_const hx hb dX12_begins_30 ?_
        refine lv_istore_n (lv' := [(3, .int (jI 0)), (0, .ref a0), (1, .int (jI x1)), (2, .int (jI x2))]) hx hb dX12_begins_31 rfl hl (by decide) rfl (fun ls hl => ?_)
        refine j_bi hx hb dX12_begins_32 (by decide) ?_
        refine lv_istore (lv' := [(4, .int (jI (-3))), (3, .int (jI 0)), (0, .ref a0), (1, .int (jI x1)), (2, .int (jI x2))]) hx hb dX12_begins_34 hl (by decide) rfl (fun ls hl => ?_)
        refine j_const hx hb dX12_begins_36 ?_
        refine lv_istore (lv' := [(5, .int (jI 0)), (4, .int (jI (-3))), (3, .int (jI 0)), (0, .ref a0), (1, .int (jI x1)), (2, .int (jI x2))]) hx hb dX12_begins_37 hl (by decide) rfl (fun ls hl => ?_)
        refine j_const hx hb dX12_begins_39 ?_
        refine lv_istore (lv' := [(6, .int (jI 0)), (5, .int (jI 0)), (4, .int (jI (-3))), (3, .int (jI 0)), (0, .ref a0), (1, .int (jI x1)), (2, .int (jI x2))]) hx hb dX12_begins_40 hl (by decide) rfl (fun ls hl => ?_)
        have L_42 : ∀ (N : Nat) (v3_42 v4_42 v5_42 v6_42 : Int) (ls : Array Slot), N = (2147483647 - v6_42 : Int).toNat → (0 ≤ v6_42) → rg v3_42 → rg v4_42 → rg v5_42 → rg v6_42 → lv_has ls 7 [(0, .ref a0), (2, .int (jI x2)), (3, .int (jI v3_42)), (4, .int (jI v4_42)), (5, .int (jI v5_42)), (6, .int (jI v6_42))] → W p l e ({ frames := 3, cells := 0, slots := 0, locals := 65 }) s m args below meth c H locs 0 0 Q (F0 m 42 ls []) := by
          intro N
          induction N using Nat.strongRecOn with
          | ind N ih_42 =>
            intro v3_42 v4_42 v5_42 v6_42 ls hN i0_42 rv3_42 rv4_42 rv5_42 rv6_42 hl
            refine lv_iload hx hb dX12_begins_42 (lv_at hl 5 rfl) ?_
            refine lv_aload_n hx hb dX12_begins_44 rfl (lv_at hl 0 rfl) ?_
            refine j_cR (j_runV (As := []) (rest := [.int (jI v6_42)]) hx hb hml hown hts hK hS hW (kX12_many l hS σ_6 (a0 := a0) (h0 := h0)) 0 gX12_begins_X12_many rfl hvX12_many ⟨Nat.le_of_ble_eq_true rfl, Nat.le_of_ble_eq_true rfl⟩ rfl rfl h0 rfl rfl rfl rfl hl.1 rfl (Nat.le_of_ble_eq_true rfl) dX12_begins_45 ⟨Nat.le_of_ble_eq_true rfl, Nat.le_of_ble_eq_true rfl⟩) (fun v_8 rv_8 pv_8 => ?_)
            try dsimp only at pv_8
            try simp only [Efile] at pv_8
            have q_many := pv_8
            have := FI_bd hI
            try simp only [Efile] at this
            refine j_icmp_ge (tgt := 93) hx hb (by omega) (by omega) dX12_begins_48 (by decide) (fun c_9 => ?_) (fun c_9 => ?_)
            · refine lv_iload_n hx hb dX12_begins_93 rfl (lv_at hl 1 rfl) ?_
              refine j_if_ne (tgt := 101) hx hb (by omega) dX12_begins_94 (by decide) (fun c_10 => ?_) (fun c_10 => ?_)
              · refine lv_iload_n hx hb dX12_begins_101 rfl (lv_at hl 1 rfl) ?_
                refine j_const hx hb dX12_begins_102 ?_
                refine j_icmp_ne (tgt := 111) hx hb (by omega) (by decide) dX12_begins_103 (by decide) (fun c_11 => ?_) (fun c_11 => ?_)
                · refine lv_iload hx hb dX12_begins_111 (lv_at hl 4 rfl) ?_
                  exact hRet 113 _ _ _ v5_42 _ dX12_begins_113 hW hF (by omega) ⟨trivial, hR⟩
                · refine lv_iload hx hb dX12_begins_106 (lv_at hl 3 rfl) ?_
                  refine lv_goto (tgt := 113) hx hb dX12_begins_108 (by decide) ?_
                  exact hRet 113 _ _ _ v4_42 _ dX12_begins_113 hW hF (by omega) ⟨trivial, hR⟩
              · refine lv_iload_n hx hb dX12_begins_97 rfl (lv_at hl 2 rfl) ?_
                refine lv_goto (tgt := 113) hx hb dX12_begins_98 (by decide) ?_
                exact hRet 113 _ _ _ v3_42 _ dX12_begins_113 hW hF (by omega) ⟨trivial, hR⟩
            · refine lv_aload_n hx hb dX12_begins_51 rfl (lv_at hl 0 rfl) ?_
              refine lv_iload hx hb dX12_begins_52 (lv_at hl 5 rfl) ?_
              refine j_cR (j_runV (As := [.int (jI v6_42)]) (rest := []) hx hb hml hown hts hK hS hW (kX12_beginsWith l hS σ_6 (a0 := a0) (h0 := h0) (x1 := v6_42) (r1 := (by omega)) (hI := hI) (q0 := (by omega)) (q1 := (by omega))) 1 gX12_begins_X12_beginsWith rfl hvX12_beginsWith ⟨Nat.le_of_ble_eq_true rfl, Nat.le_of_ble_eq_true rfl⟩ rfl rfl h0 rfl rfl rfl rfl hl.1 rfl (Nat.le_of_ble_eq_true rfl) dX12_begins_54 ⟨Nat.le_of_ble_eq_true rfl, Nat.le_of_ble_eq_true rfl⟩) (fun v_12 rv_12 pv_12 => ?_)
              try dsimp only at pv_12
              have q_beginsWith := pv_12
              refine j_if_ne (tgt := 63) hx hb (by omega) dX12_begins_57 (by decide) (fun c_13 => ?_) (fun c_13 => ?_)
              · refine lv_iload_n hx hb dX12_begins_63 rfl (lv_at hl 2 rfl) ?_
                refine j_if_ne (tgt := 71) hx hb (by omega) dX12_begins_64 (by decide) (fun c_14 => ?_) (fun c_14 => ?_)
                · refine lv_iload_n hx hb dX12_begins_71 rfl (lv_at hl 2 rfl) ?_
                  refine j_const hx hb dX12_begins_72 ?_
                  refine j_add hx hb dX12_begins_73 ?_
                  refine j_wrap (fun z_15 rz_15 ez_15 => ?_)
                  refine lv_istore_n (lv' := [(3, .int (jI z_15)), (0, .ref a0), (2, .int (jI x2)), (4, .int (jI v4_42)), (5, .int (jI v5_42)), (6, .int (jI v6_42))]) hx hb dX12_begins_74 rfl hl (by decide) rfl (fun ls hl => ?_)
                  refine lv_iload hx hb dX12_begins_75 (lv_at hl 4 rfl) ?_
                  refine lv_aload_n hx hb dX12_begins_77 rfl (lv_at hl 1 rfl) ?_
                  refine lv_iload hx hb dX12_begins_78 (lv_at hl 5 rfl) ?_
                  refine j_const hx hb dX12_begins_80 ?_
                  refine j_cR (j_runV (As := [.int (jI v6_42), .int (jI 1)]) (rest := [.int (jI v5_42)]) hx hb hml hown hts hK hS hW (kX12_of l hS σ_6 (a0 := a0) (h0 := h0) (x1 := v6_42) (r1 := (by omega)) (x2 := 1) (r2 := (by decide)) (q0 := (by omega)) (q1 := (by omega))) 2 gX12_begins_X12_of rfl hvX12_of ⟨Nat.le_of_ble_eq_true rfl, Nat.le_of_ble_eq_true rfl⟩ rfl rfl h0 rfl rfl rfl rfl hl.1 rfl (Nat.le_of_ble_eq_true rfl) dX12_begins_81 ⟨Nat.le_of_ble_eq_true rfl, Nat.le_of_ble_eq_true rfl⟩) (fun v_16 rv_16 pv_16 => ?_)
                  try dsimp only at pv_16
                  try simp only [Efile] at pv_16
                  have q_of := pv_16
                  refine j_add hx hb dX12_begins_84 ?_
                  refine j_wrap (fun z_17 rz_17 ez_17 => ?_)
                  refine lv_istore (lv' := [(5, .int (jI z_17)), (3, .int (jI z_15)), (0, .ref a0), (2, .int (jI x2)), (4, .int (jI v4_42)), (6, .int (jI v6_42))]) hx hb dX12_begins_85 hl (by decide) rfl (fun ls hl => ?_)
                  refine j_iinc (lv' := [(6, .int (jI (v6_42 + 1))), (5, .int (jI z_17)), (3, .int (jI z_15)), (0, .ref a0), (2, .int (jI x2)), (4, .int (jI v4_42))]) hx hb dX12_begins_87 hl (k := 5) rfl (by decide) rfl (fun ls hl => ?_)
                  refine lv_goto (tgt := 42) hx hb dX12_begins_90 (by decide) ?_
                  exact ih_42 ((2147483647 - (v6_42 + 1) : Int).toNat) (by omega) z_15 v4_42 z_17 (v6_42 + 1) _ rfl (by omega) (by omega) (by omega) (by omega) (by omega) (lv_sub hl [3, 4, 2, 5, 1, 0] rfl)
                · refine lv_iload hx hb dX12_begins_67 (lv_at hl 5 rfl) ?_
                  refine lv_istore (lv' := [(4, .int (jI v6_42)), (0, .ref a0), (2, .int (jI x2)), (3, .int (jI v3_42)), (5, .int (jI v5_42)), (6, .int (jI v6_42))]) hx hb dX12_begins_69 hl (by decide) rfl (fun ls hl => ?_)
                  refine lv_iload_n hx hb dX12_begins_71 rfl (lv_at hl 3 rfl) ?_
                  refine j_const hx hb dX12_begins_72 ?_
                  refine j_add hx hb dX12_begins_73 ?_
                  refine j_wrap (fun z_18 rz_18 ez_18 => ?_)
                  refine lv_istore_n (lv' := [(3, .int (jI z_18)), (4, .int (jI v6_42)), (0, .ref a0), (2, .int (jI x2)), (5, .int (jI v5_42)), (6, .int (jI v6_42))]) hx hb dX12_begins_74 rfl hl (by decide) rfl (fun ls hl => ?_)
                  refine lv_iload hx hb dX12_begins_75 (lv_at hl 4 rfl) ?_
                  refine lv_aload_n hx hb dX12_begins_77 rfl (lv_at hl 2 rfl) ?_
                  refine lv_iload hx hb dX12_begins_78 (lv_at hl 5 rfl) ?_
                  refine j_const hx hb dX12_begins_80 ?_
                  refine j_cR (j_runV (As := [.int (jI v6_42), .int (jI 1)]) (rest := [.int (jI v5_42)]) hx hb hml hown hts hK hS hW (kX12_of l hS σ_6 (a0 := a0) (h0 := h0) (x1 := v6_42) (r1 := (by omega)) (x2 := 1) (r2 := (by decide)) (q0 := (by omega)) (q1 := (by omega))) 2 gX12_begins_X12_of rfl hvX12_of ⟨Nat.le_of_ble_eq_true rfl, Nat.le_of_ble_eq_true rfl⟩ rfl rfl h0 rfl rfl rfl rfl hl.1 rfl (Nat.le_of_ble_eq_true rfl) dX12_begins_81 ⟨Nat.le_of_ble_eq_true rfl, Nat.le_of_ble_eq_true rfl⟩) (fun v_19 rv_19 pv_19 => ?_)
                  try dsimp only at pv_19
                  try simp only [Efile] at pv_19
                  have q_of := pv_19
                  refine j_add hx hb dX12_begins_84 ?_
                  refine j_wrap (fun z_20 rz_20 ez_20 => ?_)
                  refine lv_istore (lv' := [(5, .int (jI z_20)), (3, .int (jI z_18)), (4, .int (jI v6_42)), (0, .ref a0), (2, .int (jI x2)), (6, .int (jI v6_42))]) hx hb dX12_begins_85 hl (by decide) rfl (fun ls hl => ?_)
                  refine j_iinc (lv' := [(6, .int (jI (v6_42 + 1))), (5, .int (jI z_20)), (3, .int (jI z_18)), (4, .int (jI v6_42)), (0, .ref a0), (2, .int (jI x2))]) hx hb dX12_begins_87 hl (k := 5) rfl (by decide) rfl (fun ls hl => ?_)
                  refine lv_goto (tgt := 42) hx hb dX12_begins_90 (by decide) ?_
                  exact ih_42 ((2147483647 - (v6_42 + 1) : Int).toNat) (by omega) z_18 v6_42 z_20 (v6_42 + 1) _ rfl (by omega) (by omega) (by omega) (by omega) (by omega) (lv_sub hl [4, 5, 2, 3, 1, 0] rfl)
              · refine lv_goto (tgt := 87) hx hb dX12_begins_60 (by decide) ?_
                refine j_iinc (lv' := [(6, .int (jI (v6_42 + 1))), (0, .ref a0), (2, .int (jI x2)), (3, .int (jI v3_42)), (4, .int (jI v4_42)), (5, .int (jI v5_42))]) hx hb dX12_begins_87 hl (k := 5) rfl (by decide) rfl (fun ls hl => ?_)
                refine lv_goto (tgt := 42) hx hb dX12_begins_90 (by decide) ?_
                exact ih_42 ((2147483647 - (v6_42 + 1) : Int).toNat) (by omega) v3_42 v4_42 v5_42 (v6_42 + 1) _ rfl (by omega) (by omega) (by omega) (by omega) (by omega) (lv_sub hl [1, 2, 3, 4, 5, 0] rfl)
        exact L_42 ((2147483647 - 0 : Int).toNat) 0 (-3) 0 0 _ rfl (by omega) (by decide) (by decide) (by decide) (by decide) (lv_sub hl [4, 6, 3, 2, 1, 0] rfl)
      · refine j_bi hx hb dX12_begins_27 (by decide) ?_
        exact hRet 29 _ _ _ (-2) _ dX12_begins_29 hW hF (by decide) ⟨trivial, hR⟩
    · refine j_const hx hb dX12_begins_17 ?_
      exact hRet 18 _ _ _ (-1) _ dX12_begins_18 hW hF (by decide) ⟨trivial, hR⟩
theorem hvX12_alike : yX12_alike.cls = RX12 ∧ yX12_alike.cls ≠ "java/lang/invoke/MethodHandle" ∧ yX12_alike.cls ≠ "java/lang/invoke/VarHandle" ∧ (parseMethodDescriptor yX12_alike.desc).map (fun d => d.parameters.length) = some 2 := by decide +kernel
set_option maxHeartbeats 4000000 in
set_option maxRecDepth 100000 in
theorem kX12_alike (l : Launch) {D : va_G} {cA : Nat → ClassId} {τ : Nat → Nat} {G : Nat → Nat → Nat} {L : List Nat} (hS : SW τ G L) (σ : Nat → Nat → Int) {a0 : Nat} (h0 : τ a0 = 13) {x1 : Int} (r1 : rg x1) {x2 : Int} (r2 : rg x2) (hI : FI G a0 σ) : Met l yX12_alike wsX12_alike ({ frames := 2, cells := 0, slots := 0, locals := 43 }) (jP D cA τ G L σ [.ref a0, .int (jI x1), .int (jI x2)]) (jQR (fun r => True)) 0 0 (fun _ => False) := by
  refine j_metR (by decide +kernel) rfl (Nat.le_of_ble_eq_true rfl) ?_
  intro p e s m args below meth c Q hx hb hml hown hts hK hW hRet ls hl
  have hl : lv_has ls 4 [(0, .ref a0), (1, .int (jI x1)), (2, .int (jI x2))] := hl
  have := FI_bd hI
  have := fbd hW h0 (k := 3) (lo := 0) (hi := 24) rfl rfl
  refine lv_aload_n hx hb dX12_alike_0 rfl (lv_at hl 0 rfl) ?_
  refine lv_iload_n hx hb dX12_alike_1 rfl (lv_at hl 1 rfl) ?_
  refine j_cR (j_runV (As := [.int (jI x1)]) (rest := []) hx hb hml hown hts hK hS hW (kX12_isThere l hS σ (a0 := a0) (h0 := h0) (x1 := x1) (r1 := (by omega)) (hI := hI)) 1 gX12_alike_X12_isThere rfl hvX12_isThere ⟨Nat.le_of_ble_eq_true rfl, Nat.le_of_ble_eq_true rfl⟩ rfl rfl h0 rfl rfl rfl rfl hl.1 rfl (Nat.le_of_ble_eq_true rfl) dX12_alike_2 ⟨Nat.le_of_ble_eq_true rfl, Nat.le_of_ble_eq_true rfl⟩) (fun v_1 rv_1 pv_1 => ?_)
  try dsimp only at pv_1
  have q_isThere := pv_1
  refine j_if_eq (tgt := 16) hx hb (by omega) dX12_alike_5 (by decide) (fun c_2 => ?_) (fun c_2 => ?_)
  · refine j_const hx hb dX12_alike_16 ?_
    exact hRet 17 _ (-1) dX12_alike_17 (by decide) trivial
  · refine lv_aload_n hx hb dX12_alike_8 rfl (lv_at hl 0 rfl) ?_
    refine lv_iload_n hx hb dX12_alike_9 rfl (lv_at hl 2 rfl) ?_
    refine j_cR (j_runV (As := [.int (jI x2)]) (rest := []) hx hb hml hown hts hK hS hW (kX12_isThere l hS σ (a0 := a0) (h0 := h0) (x1 := x2) (r1 := (by omega)) (hI := hI)) 1 gX12_alike_X12_isThere rfl hvX12_isThere ⟨Nat.le_of_ble_eq_true rfl, Nat.le_of_ble_eq_true rfl⟩ rfl rfl h0 rfl rfl rfl rfl hl.1 rfl (Nat.le_of_ble_eq_true rfl) dX12_alike_10 ⟨Nat.le_of_ble_eq_true rfl, Nat.le_of_ble_eq_true rfl⟩) (fun v_3 rv_3 pv_3 => ?_)
    try dsimp only at pv_3
    have q_isThere := pv_3
    refine j_if_ne (tgt := 18) hx hb (by omega) dX12_alike_13 (by decide) (fun c_4 => ?_) (fun c_4 => ?_)
    · refine j_const hx hb dX12_alike_18 ?_
      refine lv_istore_n (lv' := [(3, .int (jI 0)), (0, .ref a0), (1, .int (jI x1)), (2, .int (jI x2))]) hx hb dX12_alike_19 rfl hl (by decide) rfl (fun ls hl => ?_)
      have L_20 : ∀ (N : Nat) (v3_20 : Int) (ls : Array Slot), N = (2147483647 - v3_20 : Int).toNat → (0 ≤ v3_20) → (v3_20 ≤ 24) → rg v3_20 → lv_has ls 4 [(0, .ref a0), (1, .int (jI x1)), (2, .int (jI x2)), (3, .int (jI v3_20))] → W p l e ({ frames := 2, cells := 0, slots := 0, locals := 43 }) s m args below meth c s.heap [] 0 0 Q (F0 m 20 ls []) := by
        intro N
        induction N using Nat.strongRecOn with
        | ind N ih_20 =>
          intro v3_20 ls hN i0_20 i1_20 rv3_20 hl
          refine lv_iload_n hx hb dX12_alike_20 rfl (lv_at hl 3 rfl) ?_
          refine lv_aload_n hx hb dX12_alike_21 rfl (lv_at hl 0 rfl) ?_
          refine lv_iload_n hx hb dX12_alike_22 rfl (lv_at hl 1 rfl) ?_
          refine j_const hx hb dX12_alike_23 ?_
          refine j_cR (j_runV (As := [.int (jI x1), .int (jI 0)]) (rest := [.int (jI v3_20)]) hx hb hml hown hts hK hS hW (kX12_of l hS σ (a0 := a0) (h0 := h0) (x1 := x1) (r1 := (by omega)) (x2 := 0) (r2 := (by decide)) (q0 := (by omega)) (q1 := (by omega))) 2 gX12_alike_X12_of rfl hvX12_of ⟨Nat.le_of_ble_eq_true rfl, Nat.le_of_ble_eq_true rfl⟩ rfl rfl h0 rfl rfl rfl rfl hl.1 rfl (Nat.le_of_ble_eq_true rfl) dX12_alike_24 ⟨Nat.le_of_ble_eq_true rfl, Nat.le_of_ble_eq_true rfl⟩) (fun v_5 rv_5 pv_5 => ?_)
          try dsimp only at pv_5
          have q_of := pv_5
          have := @FI_len _ _ _ hI x1
          refine j_icmp_ge (tgt := 62) hx hb (by omega) (by omega) dX12_alike_27 (by decide) (fun c_6 => ?_) (fun c_6 => ?_)
          · refine lv_iload_n hx hb dX12_alike_62 rfl (lv_at hl 3 rfl) ?_
            exact hRet 63 _ v3_20 dX12_alike_63 (by omega) trivial
          · refine lv_iload_n hx hb dX12_alike_30 rfl (lv_at hl 3 rfl) ?_
            refine lv_aload_n hx hb dX12_alike_31 rfl (lv_at hl 0 rfl) ?_
            refine lv_iload_n hx hb dX12_alike_32 rfl (lv_at hl 2 rfl) ?_
            refine j_const hx hb dX12_alike_33 ?_
            refine j_cR (j_runV (As := [.int (jI x2), .int (jI 0)]) (rest := [.int (jI v3_20)]) hx hb hml hown hts hK hS hW (kX12_of l hS σ (a0 := a0) (h0 := h0) (x1 := x2) (r1 := (by omega)) (x2 := 0) (r2 := (by decide)) (q0 := (by omega)) (q1 := (by omega))) 2 gX12_alike_X12_of rfl hvX12_of ⟨Nat.le_of_ble_eq_true rfl, Nat.le_of_ble_eq_true rfl⟩ rfl rfl h0 rfl rfl rfl rfl hl.1 rfl (Nat.le_of_ble_eq_true rfl) dX12_alike_34 ⟨Nat.le_of_ble_eq_true rfl, Nat.le_of_ble_eq_true rfl⟩) (fun v_7 rv_7 pv_7 => ?_)
            try dsimp only at pv_7
            have q_of := pv_7
            have := @FI_len _ _ _ hI x2
            refine j_icmp_ge (tgt := 62) hx hb (by omega) (by omega) dX12_alike_37 (by decide) (fun c_8 => ?_) (fun c_8 => ?_)
            · refine lv_iload_n hx hb dX12_alike_62 rfl (lv_at hl 3 rfl) ?_
              exact hRet 63 _ v3_20 dX12_alike_63 (by omega) trivial
            · refine lv_aload_n hx hb dX12_alike_40 rfl (lv_at hl 0 rfl) ?_
              refine lv_iload_n hx hb dX12_alike_41 rfl (lv_at hl 1 rfl) ?_
              refine lv_iload_n hx hb dX12_alike_42 rfl (lv_at hl 3 rfl) ?_
              refine j_cR (j_runV (As := [.int (jI x1), .int (jI v3_20)]) (rest := []) hx hb hml hown hts hK hS hW (kX12_byteOf l hS σ (a0 := a0) (h0 := h0) (x1 := x1) (r1 := (by omega)) (x2 := v3_20) (r2 := (by omega)) (q0 := (by omega)) (q1 := (by omega))) 2 gX12_alike_X12_byteOf rfl hvX12_byteOf ⟨Nat.le_of_ble_eq_true rfl, Nat.le_of_ble_eq_true rfl⟩ rfl rfl h0 rfl rfl rfl rfl hl.1 rfl (Nat.le_of_ble_eq_true rfl) dX12_alike_43 ⟨Nat.le_of_ble_eq_true rfl, Nat.le_of_ble_eq_true rfl⟩) (fun v_9 rv_9 pv_9 => ?_)
              try dsimp only at pv_9
              have q_byteOf := pv_9
              have := @FI_byte _ _ _ hI x1 v3_20
              refine lv_aload_n hx hb dX12_alike_46 rfl (lv_at hl 0 rfl) ?_
              refine lv_iload_n hx hb dX12_alike_47 rfl (lv_at hl 2 rfl) ?_
              refine lv_iload_n hx hb dX12_alike_48 rfl (lv_at hl 3 rfl) ?_
              refine j_cR (j_runV (As := [.int (jI x2), .int (jI v3_20)]) (rest := [.int (jI v_9)]) hx hb hml hown hts hK hS hW (kX12_byteOf l hS σ (a0 := a0) (h0 := h0) (x1 := x2) (r1 := (by omega)) (x2 := v3_20) (r2 := (by omega)) (q0 := (by omega)) (q1 := (by omega))) 2 gX12_alike_X12_byteOf rfl hvX12_byteOf ⟨Nat.le_of_ble_eq_true rfl, Nat.le_of_ble_eq_true rfl⟩ rfl rfl h0 rfl rfl rfl rfl hl.1 rfl (Nat.le_of_ble_eq_true rfl) dX12_alike_49 ⟨Nat.le_of_ble_eq_true rfl, Nat.le_of_ble_eq_true rfl⟩) (fun v_10 rv_10 pv_10 => ?_)
              try dsimp only at pv_10
              have q_byteOf := pv_10
              have := @FI_byte _ _ _ hI x2 v3_20
              refine j_icmp_ne (tgt := 62) hx hb (by omega) (by omega) dX12_alike_52 (by decide) (fun c_11 => ?_) (fun c_11 => ?_)
              · refine lv_iload_n hx hb dX12_alike_62 rfl (lv_at hl 3 rfl) ?_
                exact hRet 63 _ v3_20 dX12_alike_63 (by omega) trivial
              · refine lv_iload_n hx hb dX12_alike_55 rfl (lv_at hl 3 rfl) ?_
                refine j_const hx hb dX12_alike_56 ?_
                refine j_add hx hb dX12_alike_57 ?_
                refine lv_istore_n (lv' := [(3, .int (jI (v3_20 + 1))), (0, .ref a0), (1, .int (jI x1)), (2, .int (jI x2))]) hx hb dX12_alike_58 rfl hl (by decide) rfl (fun ls hl => ?_)
                refine lv_goto (tgt := 20) hx hb dX12_alike_59 (by decide) ?_
                exact ih_20 ((2147483647 - (v3_20 + 1) : Int).toNat) (by omega) (v3_20 + 1) _ rfl (by omega) (by omega) (by omega) (lv_sub hl [1, 2, 3, 0] rfl)
      exact L_20 ((2147483647 - 0 : Int).toNat) 0 _ rfl (by omega) (by omega) (by decide) (lv_sub hl [1, 2, 3, 0] rfl)
    · refine j_const hx hb dX12_alike_16 ?_
      exact hRet 17 _ (-1) dX12_alike_17 (by decide) trivial
theorem hvX12_closest : yX12_closest.cls = RX12 ∧ yX12_closest.cls ≠ "java/lang/invoke/MethodHandle" ∧ yX12_closest.cls ≠ "java/lang/invoke/VarHandle" ∧ (parseMethodDescriptor yX12_closest.desc).map (fun d => d.parameters.length) = some 1 := by decide +kernel
set_option maxHeartbeats 4000000 in
set_option maxRecDepth 100000 in
theorem kX12_closest (l : Launch) {D : va_G} {cA : Nat → ClassId} {τ : Nat → Nat} {G : Nat → Nat → Nat} {L : List Nat} (hS : SW τ G L) (σ : Nat → Nat → Int) {a0 : Nat} (h0 : τ a0 = 13) {x1 : Int} (r1 : rg x1) (hI : FI G a0 σ) : Met l yX12_closest wsX12_closest ({ frames := 3, cells := 0, slots := 0, locals := 66 }) (jP D cA τ G L σ [.ref a0, .int (jI x1)]) (jQR (fun r => True)) 0 0 (fun _ => False) := by
  refine j_metR (by decide +kernel) rfl (Nat.le_of_ble_eq_true rfl) ?_
  intro p e s m args below meth c Q hx hb hml hown hts hK hW hRet ls hl
  have hl : lv_has ls 4 [(0, .ref a0), (1, .int (jI x1))] := hl
  have := FI_bd hI
  have := fbd hW h0 (k := 3) (lo := 0) (hi := 24) rfl rfl
  refine lv_iload_n hx hb dX12_closest_0 rfl (lv_at hl 1 rfl) ?_
  refine j_const hx hb dX12_closest_1 ?_
  refine j_const hx hb dX12_closest_2 ?_
  refine j_cR (j_runS (As := [.int (jI x1), .int (jI 0), .int (jI 1)]) (rest := []) hx hb hml hown hts hK hW (kX12_in l hS σ (x0 := x1) (r0 := (by omega)) (x1 := 0) (r1 := (by decide)) (x2 := 1) (r2 := (by decide))) 3 gX12_closest_X12_in rfl hsX12_in ⟨Nat.le_of_ble_eq_true rfl, Nat.le_of_ble_eq_true rfl⟩ rfl rfl rfl hl.1 rfl (Nat.le_of_ble_eq_true rfl) dX12_closest_3 ⟨Nat.le_of_ble_eq_true rfl, Nat.le_of_ble_eq_true rfl⟩) (fun v_1 rv_1 pv_1 => ?_)
  try dsimp only at pv_1
  have q_in := pv_1
  refine j_if_ne (tgt := 11) hx hb (by omega) dX12_closest_6 (by decide) (fun c_2 => ?_) (fun c_2 => ?_)
  · refine lv_aload_n hx hb dX12_closest_11 rfl (lv_at hl 0 rfl) ?_
    refine j_cR (j_runV (As := []) (rest := []) hx hb hml hown hts hK hS hW (kX12_many l hS σ (a0 := a0) (h0 := h0)) 0 gX12_closest_X12_many rfl hvX12_many ⟨Nat.le_of_ble_eq_true rfl, Nat.le_of_ble_eq_true rfl⟩ rfl rfl h0 rfl rfl rfl rfl hl.1 rfl (Nat.le_of_ble_eq_true rfl) dX12_closest_12 ⟨Nat.le_of_ble_eq_true rfl, Nat.le_of_ble_eq_true rfl⟩) (fun v_3 rv_3 pv_3 => ?_)
    try dsimp only at pv_3
    have q_many := pv_3
    have := FI_bd hI
    refine j_const hx hb dX12_closest_15 ?_
    refine j_icmp_ge (tgt := 22) hx hb (by omega) (by decide) dX12_closest_16 (by decide) (fun c_4 => ?_) (fun c_4 => ?_)
    · refine j_const hx hb dX12_closest_22 ?_
      refine lv_istore_n (lv' := [(2, .int (jI 0)), (0, .ref a0), (1, .int (jI x1))]) hx hb dX12_closest_23 rfl hl (by decide) rfl (fun ls hl => ?_)
      refine j_const hx hb dX12_closest_24 ?_
      refine lv_istore_n (lv' := [(3, .int (jI 1)), (2, .int (jI 0)), (0, .ref a0), (1, .int (jI x1))]) hx hb dX12_closest_25 rfl hl (by decide) rfl (fun ls hl => ?_)
      have L_26 : ∀ (N : Nat) (v2_26 v3_26 : Int) (ls : Array Slot), N = (2147483647 - v3_26 : Int).toNat → (1 ≤ v3_26) → (v3_26 ≤ 150) → (0 ≤ v2_26) → (v2_26 ≤ 150) → rg v2_26 → rg v3_26 → lv_has ls 4 [(0, .ref a0), (1, .int (jI x1)), (2, .int (jI v2_26)), (3, .int (jI v3_26))] → W p l e ({ frames := 3, cells := 0, slots := 0, locals := 66 }) s m args below meth c s.heap [] 0 0 Q (F0 m 26 ls []) := by
        intro N
        induction N using Nat.strongRecOn with
        | ind N ih_26 =>
          intro v2_26 v3_26 ls hN i0_26 i1_26 i2_26 i3_26 rv2_26 rv3_26 hl
          refine lv_iload_n hx hb dX12_closest_26 rfl (lv_at hl 3 rfl) ?_
          refine j_const hx hb dX12_closest_27 ?_
          refine j_add hx hb dX12_closest_28 ?_
          refine lv_aload_n hx hb dX12_closest_29 rfl (lv_at hl 0 rfl) ?_
          refine j_cR (j_runV (As := []) (rest := [.int (jI (v3_26 + 1))]) hx hb hml hown hts hK hS hW (kX12_many l hS σ (a0 := a0) (h0 := h0)) 0 gX12_closest_X12_many rfl hvX12_many ⟨Nat.le_of_ble_eq_true rfl, Nat.le_of_ble_eq_true rfl⟩ rfl rfl h0 rfl rfl rfl rfl hl.1 rfl (Nat.le_of_ble_eq_true rfl) dX12_closest_30 ⟨Nat.le_of_ble_eq_true rfl, Nat.le_of_ble_eq_true rfl⟩) (fun v_5 rv_5 pv_5 => ?_)
          try dsimp only at pv_5
          have q_many := pv_5
          have := FI_bd hI
          refine j_icmp_ge (tgt := 63) hx hb (by omega) (by omega) dX12_closest_33 (by decide) (fun c_6 => ?_) (fun c_6 => ?_)
          · refine lv_iload_n hx hb dX12_closest_63 rfl (lv_at hl 1 rfl) ?_
            refine j_if_ne (tgt := 78) hx hb (by omega) dX12_closest_64 (by decide) (fun c_7 => ?_) (fun c_7 => ?_)
            · refine lv_iload_n hx hb dX12_closest_78 rfl (lv_at hl 2 rfl) ?_
              exact hRet 79 _ v2_26 dX12_closest_79 (by omega) trivial
            · refine lv_aload_n hx hb dX12_closest_67 rfl (lv_at hl 0 rfl) ?_
              refine lv_iload_n hx hb dX12_closest_68 rfl (lv_at hl 2 rfl) ?_
              refine lv_iload_n hx hb dX12_closest_69 rfl (lv_at hl 2 rfl) ?_
              refine j_const hx hb dX12_closest_70 ?_
              refine j_add hx hb dX12_closest_71 ?_
              refine j_cR (j_runV (As := [.int (jI v2_26), .int (jI (v2_26 + 1))]) (rest := []) hx hb hml hown hts hK hS hW (kX12_alike l hS σ (a0 := a0) (h0 := h0) (x1 := v2_26) (r1 := (by omega)) (x2 := v2_26 + 1) (r2 := (by omega)) (hI := hI)) 2 gX12_closest_X12_alike rfl hvX12_alike ⟨Nat.le_of_ble_eq_true rfl, Nat.le_of_ble_eq_true rfl⟩ rfl rfl h0 rfl rfl rfl rfl hl.1 rfl (Nat.le_of_ble_eq_true rfl) dX12_closest_72 ⟨Nat.le_of_ble_eq_true rfl, Nat.le_of_ble_eq_true rfl⟩) (fun v_8 rv_8 pv_8 => ?_)
              try dsimp only at pv_8
              have q_alike := pv_8
              refine lv_goto (tgt := 79) hx hb dX12_closest_75 (by decide) ?_
              exact hRet 79 _ v_8 dX12_closest_79 (by omega) trivial
          · refine lv_aload_n hx hb dX12_closest_36 rfl (lv_at hl 0 rfl) ?_
            refine lv_iload_n hx hb dX12_closest_37 rfl (lv_at hl 3 rfl) ?_
            refine lv_iload_n hx hb dX12_closest_38 rfl (lv_at hl 3 rfl) ?_
            refine j_const hx hb dX12_closest_39 ?_
            refine j_add hx hb dX12_closest_40 ?_
            refine j_cR (j_runV (As := [.int (jI v3_26), .int (jI (v3_26 + 1))]) (rest := []) hx hb hml hown hts hK hS hW (kX12_alike l hS σ (a0 := a0) (h0 := h0) (x1 := v3_26) (r1 := (by omega)) (x2 := v3_26 + 1) (r2 := (by omega)) (hI := hI)) 2 gX12_closest_X12_alike rfl hvX12_alike ⟨Nat.le_of_ble_eq_true rfl, Nat.le_of_ble_eq_true rfl⟩ rfl rfl h0 rfl rfl rfl rfl hl.1 rfl (Nat.le_of_ble_eq_true rfl) dX12_closest_41 ⟨Nat.le_of_ble_eq_true rfl, Nat.le_of_ble_eq_true rfl⟩) (fun v_9 rv_9 pv_9 => ?_)
            try dsimp only at pv_9
            have q_alike := pv_9
            refine lv_aload_n hx hb dX12_closest_44 rfl (lv_at hl 0 rfl) ?_
            refine lv_iload_n hx hb dX12_closest_45 rfl (lv_at hl 2 rfl) ?_
            refine lv_iload_n hx hb dX12_closest_46 rfl (lv_at hl 2 rfl) ?_
            refine j_const hx hb dX12_closest_47 ?_
            refine j_add hx hb dX12_closest_48 ?_
            refine j_cR (j_runV (As := [.int (jI v2_26), .int (jI (v2_26 + 1))]) (rest := [.int (jI v_9)]) hx hb hml hown hts hK hS hW (kX12_alike l hS σ (a0 := a0) (h0 := h0) (x1 := v2_26) (r1 := (by omega)) (x2 := v2_26 + 1) (r2 := (by omega)) (hI := hI)) 2 gX12_closest_X12_alike rfl hvX12_alike ⟨Nat.le_of_ble_eq_true rfl, Nat.le_of_ble_eq_true rfl⟩ rfl rfl h0 rfl rfl rfl rfl hl.1 rfl (Nat.le_of_ble_eq_true rfl) dX12_closest_49 ⟨Nat.le_of_ble_eq_true rfl, Nat.le_of_ble_eq_true rfl⟩) (fun v_10 rv_10 pv_10 => ?_)
            try dsimp only at pv_10
            have q_alike := pv_10
            refine j_icmp_le (tgt := 57) hx hb (by omega) (by omega) dX12_closest_52 (by decide) (fun c_11 => ?_) (fun c_11 => ?_)
            · refine j_iinc (lv' := [(3, .int (jI (v3_26 + 1))), (0, .ref a0), (1, .int (jI x1)), (2, .int (jI v2_26))]) hx hb dX12_closest_57 hl (k := 3) rfl (by decide) rfl (fun ls hl => ?_)
              refine lv_goto (tgt := 26) hx hb dX12_closest_60 (by decide) ?_
              exact ih_26 ((2147483647 - (v3_26 + 1) : Int).toNat) (by omega) v2_26 (v3_26 + 1) _ rfl (by omega) (by omega) (by omega) (by omega) (by omega) (by omega) (lv_sub hl [1, 2, 3, 0] rfl)
            · refine lv_iload_n hx hb dX12_closest_55 rfl (lv_at hl 3 rfl) ?_
              refine lv_istore_n (lv' := [(2, .int (jI v3_26)), (0, .ref a0), (1, .int (jI x1)), (3, .int (jI v3_26))]) hx hb dX12_closest_56 rfl hl (by decide) rfl (fun ls hl => ?_)
              refine j_iinc (lv' := [(3, .int (jI (v3_26 + 1))), (2, .int (jI v3_26)), (0, .ref a0), (1, .int (jI x1))]) hx hb dX12_closest_57 hl (k := 3) rfl (by decide) rfl (fun ls hl => ?_)
              refine lv_goto (tgt := 26) hx hb dX12_closest_60 (by decide) ?_
              exact ih_26 ((2147483647 - (v3_26 + 1) : Int).toNat) (by omega) v3_26 (v3_26 + 1) _ rfl (by omega) (by omega) (by omega) (by omega) (by omega) (by omega) (lv_sub hl [2, 3, 1, 0] rfl)
      exact L_26 ((2147483647 - 1 : Int).toNat) 0 1 _ rfl (by omega) (by omega) (by omega) (by omega) (by decide) (by decide) (lv_sub hl [2, 3, 1, 0] rfl)
    · refine j_bi hx hb dX12_closest_19 (by decide) ?_
      exact hRet 21 _ (-2) dX12_closest_21 (by decide) trivial
  · refine j_const hx hb dX12_closest_9 ?_
    exact hRet 10 _ (-1) dX12_closest_10 (by decide) trivial
theorem flX12_fullOf_16 : Cond.fieldLink RX12 16 "PageTrieModel" "entryAt" "[I" ∈ wsX12_fullOf := List.mem_of_getElem? (i := 2) rfl
theorem flX12_fullOf_97 : Cond.fieldLink RX12 97 "PageTrieModel" "entries" "I" ∈ wsX12_fullOf := List.mem_of_getElem? (i := 1) rfl
theorem inX12_fullOf_X12 : ∀ w ∈ u_ws RX12 TX12 41, w ∈ wsX12_fullOf := mem_r _ [20, 21, 22, 23, 24, 25, 26, 27, 28, 29, 30, 31, 32, 33, 34, 35, 36, 37, 38, 39, 40, 41, 42, 43, 44, 45, 46, 47, 48, 49, 50, 51, 52, 53, 54, 55, 56, 57, 58, 59, 60] rfl
theorem hvX12_fullOf : yX12_fullOf.cls = RX12 ∧ yX12_fullOf.cls ≠ "java/lang/invoke/MethodHandle" ∧ yX12_fullOf.cls ≠ "java/lang/invoke/VarHandle" ∧ (parseMethodDescriptor yX12_fullOf.desc).map (fun d => d.parameters.length) = some 2 := by decide +kernel
set_option maxHeartbeats 4000000 in
set_option maxRecDepth 100000 in
theorem kX12_fullOf (l : Launch) {D : va_G} {cA : Nat → ClassId} {τ : Nat → Nat} {G : Nat → Nat → Nat} {L : List Nat} (hS : SW τ G L) (σ : Nat → Nat → Int) {a0 : Nat} (h0 : τ a0 = 13) {x1 : Int} (r1 : rg x1) {x2 : Int} (r2 : rg x2) (q0 : 0 ≤ x1) (q1 : x1 ≤ 23) : Met l yX12_fullOf wsX12_fullOf ({ frames := 3, cells := 0, slots := 0, locals := 67 }) (jP D cA τ G L σ [.ref a0, .int (jI x1), .int (jI x2)]) (jQR (fun r => True)) 0 0 (fun _ => False) := by
  refine j_metR (by decide +kernel) rfl (Nat.le_of_ble_eq_true rfl) ?_
  intro p e s m args below meth c Q hx hb hml hown hts hK hW hRet ls hl
  have hl : lv_has ls 5 [(0, .ref a0), (1, .int (jI x1)), (2, .int (jI x2))] := hl
  have := fbd hW h0 (k := 8) (lo := 0) (hi := 150) rfl rfl
  refine j_const hx hb dX12_fullOf_0 ?_
  refine lv_istore_n (lv' := [(3, .int (jI 0)), (0, .ref a0), (1, .int (jI x1)), (2, .int (jI x2))]) hx hb dX12_fullOf_1 rfl hl (by decide) rfl (fun ls hl => ?_)
  refine j_const hx hb dX12_fullOf_2 ?_
  refine lv_istore (lv' := [(4, .int (jI 0)), (3, .int (jI 0)), (0, .ref a0), (1, .int (jI x1)), (2, .int (jI x2))]) hx hb dX12_fullOf_3 hl (by decide) rfl (fun ls hl => ?_)
  have L_5 : ∀ (N : Nat) (v3_5 v4_5 : Int) (ls : Array Slot), N = (2147483647 - v4_5 : Int).toNat → (0 ≤ v4_5) → rg v3_5 → rg v4_5 → lv_has ls 5 [(0, .ref a0), (1, .int (jI x1)), (2, .int (jI x2)), (3, .int (jI v3_5)), (4, .int (jI v4_5))] → W p l e ({ frames := 3, cells := 0, slots := 0, locals := 67 }) s m args below meth c s.heap [] 0 0 Q (F0 m 5 ls []) := by
    intro N
    induction N using Nat.strongRecOn with
    | ind N ih_5 =>
      intro v3_5 v4_5 ls hN i0_5 rv3_5 rv4_5 hl
      refine lv_iload hx hb dX12_fullOf_5 (lv_at hl 4 rfl) ?_
      refine lv_aload_n hx hb dX12_fullOf_7 rfl (lv_at hl 0 rfl) ?_
      refine j_getI hx hb (C := RX12) (T := TX12) (N := 41) hts inX12_fullOf_X12 hown hK hS hW h0 rfl 8 rfl rfl (by decide) (hts _ flX12_fullOf_97) dX12_fullOf_8 ?_
      have := fbd hW h0 (k := 8) (lo := 0) (hi := 150) rfl rfl
      refine j_icmp_ge (tgt := 53) hx hb (by omega) (by omega) dX12_fullOf_11 (by decide) (fun c_1 => ?_) (fun c_1 => ?_)
      · refine lv_iload_n hx hb dX12_fullOf_53 rfl (lv_at hl 3 rfl) ?_
        exact hRet 54 _ v3_5 dX12_fullOf_54 (by omega) trivial
      · refine lv_aload_n hx hb dX12_fullOf_14 rfl (lv_at hl 0 rfl) ?_
        refine lv_aload_n hx hb dX12_fullOf_15 rfl (lv_at hl 0 rfl) ?_
        refine j_getR hx hb (C := RX12) (T := TX12) (N := 41) hts inX12_fullOf_X12 hown hK hS hW h0 rfl 6 rfl rfl (by decide) (hts _ flX12_fullOf_16) dX12_fullOf_16 ?_
        have h_2 : τ (G a0 6) = 42 := gty hS h0 (k := 6) rfl rfl
        refine lv_iload hx hb dX12_fullOf_19 (lv_at hl 4 rfl) ?_
        refine j_ald hx hb hK hS hW h_2 (n := 151) rfl (by omega) (by omega) (by decide) dX12_fullOf_21 ?_
        have := abd hW h_2 (n := 151) (lo := 0) (hi := 150) (i := v4_5) rfl (by omega) (by omega)
        refine lv_iload_n hx hb dX12_fullOf_22 rfl (lv_at hl 1 rfl) ?_
        refine j_cR (j_runV (As := [.int (jI (σ (G a0 6) (v4_5).toNat)), .int (jI x1)]) (rest := []) hx hb hml hown hts hK hS hW (kX12_beginsPage l hS σ (a0 := a0) (h0 := h0) (x1 := σ (G a0 6) (v4_5).toNat) (r1 := (by omega)) (x2 := x1) (r2 := (by omega)) (q0 := (by omega)) (q1 := (by omega)) (q2 := (by omega)) (q3 := (by omega))) 2 gX12_fullOf_X12_beginsPage rfl hvX12_beginsPage ⟨Nat.le_of_ble_eq_true rfl, Nat.le_of_ble_eq_true rfl⟩ rfl rfl h0 rfl rfl rfl rfl hl.1 rfl (Nat.le_of_ble_eq_true rfl) dX12_fullOf_23 ⟨Nat.le_of_ble_eq_true rfl, Nat.le_of_ble_eq_true rfl⟩) (fun v_3 rv_3 pv_3 => ?_)
        try dsimp only at pv_3
        have q_beginsPage := pv_3
        refine j_if_eq (tgt := 47) hx hb (by omega) dX12_fullOf_26 (by decide) (fun c_4 => ?_) (fun c_4 => ?_)
        · refine j_iinc (lv' := [(4, .int (jI (v4_5 + 1))), (0, .ref a0), (1, .int (jI x1)), (2, .int (jI x2)), (3, .int (jI v3_5))]) hx hb dX12_fullOf_47 hl (k := 4) rfl (by decide) rfl (fun ls hl => ?_)
          refine lv_goto (tgt := 5) hx hb dX12_fullOf_50 (by decide) ?_
          exact ih_5 ((2147483647 - (v4_5 + 1) : Int).toNat) (by omega) v3_5 (v4_5 + 1) _ rfl (by omega) (by omega) (by omega) (lv_sub hl [1, 2, 3, 4, 0] rfl)
        · refine lv_aload_n hx hb dX12_fullOf_29 rfl (lv_at hl 0 rfl) ?_
          refine lv_iload hx hb dX12_fullOf_30 (lv_at hl 4 rfl) ?_
          refine lv_iload_n hx hb dX12_fullOf_32 rfl (lv_at hl 1 rfl) ?_
          refine j_cR (j_runV (As := [.int (jI v4_5), .int (jI x1)]) (rest := []) hx hb hml hown hts hK hS hW (kX12_pageEnd l hS σ (a0 := a0) (h0 := h0) (x1 := v4_5) (r1 := (by omega)) (x2 := x1) (r2 := (by omega)) (q0 := (by omega)) (q1 := (by omega)) (q2 := (by omega)) (q3 := (by omega))) 2 gX12_fullOf_X12_pageEnd rfl hvX12_pageEnd ⟨Nat.le_of_ble_eq_true rfl, Nat.le_of_ble_eq_true rfl⟩ rfl rfl h0 rfl rfl rfl rfl hl.1 rfl (Nat.le_of_ble_eq_true rfl) dX12_fullOf_33 ⟨Nat.le_of_ble_eq_true rfl, Nat.le_of_ble_eq_true rfl⟩) (fun v_5 rv_5 pv_5 => ?_)
          try dsimp only at pv_5
          have q_pageEnd := pv_5
          refine lv_iload hx hb dX12_fullOf_36 (lv_at hl 4 rfl) ?_
          refine j_sub hx hb dX12_fullOf_38 ?_
          refine lv_iload_n hx hb dX12_fullOf_39 rfl (lv_at hl 2 rfl) ?_
          refine j_icmp_ne (tgt := 47) hx hb (by omega) (by omega) dX12_fullOf_40 (by decide) (fun c_6 => ?_) (fun c_6 => ?_)
          · refine j_iinc (lv' := [(4, .int (jI (v4_5 + 1))), (0, .ref a0), (1, .int (jI x1)), (2, .int (jI x2)), (3, .int (jI v3_5))]) hx hb dX12_fullOf_47 hl (k := 4) rfl (by decide) rfl (fun ls hl => ?_)
            refine lv_goto (tgt := 5) hx hb dX12_fullOf_50 (by decide) ?_
            exact ih_5 ((2147483647 - (v4_5 + 1) : Int).toNat) (by omega) v3_5 (v4_5 + 1) _ rfl (by omega) (by omega) (by omega) (lv_sub hl [1, 2, 3, 4, 0] rfl)
          · refine lv_iload_n hx hb dX12_fullOf_43 rfl (lv_at hl 3 rfl) ?_
            refine j_const hx hb dX12_fullOf_44 ?_
            refine j_add hx hb dX12_fullOf_45 ?_
            refine j_wrap (fun z_7 rz_7 ez_7 => ?_)
            refine lv_istore_n (lv' := [(3, .int (jI z_7)), (0, .ref a0), (1, .int (jI x1)), (2, .int (jI x2)), (4, .int (jI v4_5))]) hx hb dX12_fullOf_46 rfl hl (by decide) rfl (fun ls hl => ?_)
            refine j_iinc (lv' := [(4, .int (jI (v4_5 + 1))), (3, .int (jI z_7)), (0, .ref a0), (1, .int (jI x1)), (2, .int (jI x2))]) hx hb dX12_fullOf_47 hl (k := 4) rfl (by decide) rfl (fun ls hl => ?_)
            refine lv_goto (tgt := 5) hx hb dX12_fullOf_50 (by decide) ?_
            exact ih_5 ((2147483647 - (v4_5 + 1) : Int).toNat) (by omega) z_7 (v4_5 + 1) _ rfl (by omega) (by omega) (by omega) (lv_sub hl [2, 3, 4, 1, 0] rfl)
  exact L_5 ((2147483647 - 0 : Int).toNat) 0 0 _ rfl (by omega) (by decide) (by decide) (lv_sub hl [2, 3, 4, 1, 0] rfl)
abbrev wr_X12_full : List Nat := [13003, 13004, 13005, 13008, 41000, 42000, 43000]
theorem flX12_full_7 : Cond.fieldLink RX12 7 "PageTrieModel" "file" "[I" ∈ wsX12_full := List.mem_of_getElem? (i := 1) rfl
theorem inX12_full_X12 : ∀ w ∈ u_ws RX12 TX12 41, w ∈ wsX12_full := mem_r _ [64, 65, 66, 67, 68, 69, 70, 71, 72, 73, 74, 75, 76, 77, 78, 79, 80, 81, 82, 83, 84, 85, 86, 87, 88, 89, 90, 91, 92, 93, 94, 95, 96, 97, 98, 99, 100, 101, 102, 103, 104] rfl
theorem hvX12_full : yX12_full.cls = RX12 ∧ yX12_full.cls ≠ "java/lang/invoke/MethodHandle" ∧ yX12_full.cls ≠ "java/lang/invoke/VarHandle" ∧ (parseMethodDescriptor yX12_full.desc).map (fun d => d.parameters.length) = some 1 := by decide +kernel
set_option maxHeartbeats 4000000 in
set_option maxRecDepth 100000 in
theorem kX12_full (l : Launch) {D : va_G} {cA : Nat → ClassId} {τ : Nat → Nat} {G : Nat → Nat → Nat} {L : List Nat} (hS : SW τ G L) (σ : Nat → Nat → Int) {a0 : Nat} (h0 : τ a0 = 13) {x1 : Int} (r1 : rg x1) (hI : FI G a0 σ) : Met l yX12_full wsX12_full ({ frames := 4, cells := 0, slots := 0, locals := 91 }) (jP D cA τ G L σ [.ref a0, .int (jI x1)]) (jQI D cA τ G L (fun r σ' => (True) ∧ fr wr_X12_full τ σ σ')) 0 0 (fun q => q ∈ L) := by
  refine j_metI (by decide +kernel) rfl (Nat.le_of_ble_eq_true rfl) ?_
  intro p e s m args below meth c Q hx hb hml hown hts hK hW hRet ls hl
  have hl : lv_has ls 5 [(0, .ref a0), (1, .int (jI x1))] := hl
  have hA : ∀ q ∈ L, (fun q => q ∈ L) q := fun _ h => h
  have hF : va_S (fun q => q ∈ L) s.heap s.heap [] := va_S.rf
  have hR : fr wr_X12_full τ σ σ := fr_rf
  have hk_file : τ (G a0 0) = 40 := gty hS h0 (k := 0) rfl rfl
  have := FI_bd hI
  have := fbd hW h0 (k := 3) (lo := 0) (hi := 24) rfl rfl
  refine lv_iload_n hx hb dX12_full_0 rfl (lv_at hl 1 rfl) ?_
  refine j_const hx hb dX12_full_1 ?_
  refine j_bi hx hb dX12_full_2 (by decide) ?_
  refine j_cR (j_runS (As := [.int (jI x1), .int (jI 1), .int (jI 8)]) (rest := []) hx hb hml hown hts hK hW (kX12_in l hS σ (x0 := x1) (r0 := (by omega)) (x1 := 1) (r1 := (by decide)) (x2 := 8) (r2 := (by decide))) 3 gX12_full_X12_in rfl hsX12_in ⟨Nat.le_of_ble_eq_true rfl, Nat.le_of_ble_eq_true rfl⟩ rfl rfl rfl hl.1 rfl (Nat.le_of_ble_eq_true rfl) dX12_full_4 ⟨Nat.le_of_ble_eq_true rfl, Nat.le_of_ble_eq_true rfl⟩) (fun v_1 rv_1 pv_1 => ?_)
  try dsimp only at pv_1
  have q_in := pv_1
  refine j_if_ne (tgt := 12) hx hb (by omega) dX12_full_7 (by decide) (fun c_2 => ?_) (fun c_2 => ?_)
  · refine j_const hx hb dX12_full_12 ?_
    refine lv_istore_n (lv' := [(2, .int (jI 0)), (0, .ref a0), (1, .int (jI x1))]) hx hb dX12_full_13 rfl hl (by decide) rfl (fun ls hl => ?_)
    refine j_const hx hb dX12_full_14 ?_
    refine lv_istore_n (lv' := [(3, .int (jI 0)), (2, .int (jI 0)), (0, .ref a0), (1, .int (jI x1))]) hx hb dX12_full_15 rfl hl (by decide) rfl (fun ls hl => ?_)
    have L_16 : ∀ (N : Nat) (v2_16 v3_16 : Int) (σL_16 : Nat → Nat → Int) (H : Heap) (locs : List Loc) (ls : Array Slot), N = (2147483647 - v3_16 : Int).toNat → (0 ≤ v3_16) → rg v2_16 → rg v3_16 → PW D cA τ G L σL_16 H → va_S (fun q => q ∈ L) s.heap H locs → fr wr_X12_full τ σ σL_16 → FI G a0 σL_16 → σL_16 (G a0 0) = σ (G a0 0) → lv_has ls 5 [(0, .ref a0), (1, .int (jI x1)), (2, .int (jI v2_16)), (3, .int (jI v3_16))] → W p l e ({ frames := 4, cells := 0, slots := 0, locals := 91 }) s m args below meth c H locs 0 0 Q (F0 m 16 ls []) := by
      intro N
      induction N using Nat.strongRecOn with
      | ind N ih_16 =>
        intro v2_16 v3_16 σL_16 H locs ls hN i0_16 rv2_16 rv3_16 hW hF hR hI Efile hl
        have := congrFun Efile 0
        refine lv_iload_n hx hb dX12_full_16 rfl (lv_at hl 3 rfl) ?_
        refine lv_aload_n hx hb dX12_full_17 rfl (lv_at hl 0 rfl) ?_
        refine j_cR (j_runV (As := []) (rest := [.int (jI v3_16)]) hx hb hml hown hts hK hS hW (kX12_many l hS σL_16 (a0 := a0) (h0 := h0)) 0 gX12_full_X12_many rfl hvX12_many ⟨Nat.le_of_ble_eq_true rfl, Nat.le_of_ble_eq_true rfl⟩ rfl rfl h0 rfl rfl rfl rfl hl.1 rfl (Nat.le_of_ble_eq_true rfl) dX12_full_18 ⟨Nat.le_of_ble_eq_true rfl, Nat.le_of_ble_eq_true rfl⟩) (fun v_3 rv_3 pv_3 => ?_)
        try dsimp only at pv_3
        try simp only [Efile] at pv_3
        have q_many := pv_3
        have := FI_bd hI
        try simp only [Efile] at this
        refine j_icmp_ge (tgt := 86) hx hb (by omega) (by omega) dX12_full_21 (by decide) (fun c_4 => ?_) (fun c_4 => ?_)
        · refine lv_iload_n hx hb dX12_full_86 rfl (lv_at hl 2 rfl) ?_
          exact hRet 87 _ _ _ v2_16 _ dX12_full_87 hW hF (by omega) ⟨trivial, hR⟩
        · refine j_const hx hb dX12_full_24 ?_
          refine lv_istore (lv' := [(4, .int (jI 0)), (0, .ref a0), (1, .int (jI x1)), (2, .int (jI v2_16)), (3, .int (jI v3_16))]) hx hb dX12_full_25 hl (by decide) rfl (fun ls hl => ?_)
          have L_27 : ∀ (N : Nat) (v2_27 v4_27 : Int) (σL_27 : Nat → Nat → Int) (H : Heap) (locs : List Loc) (ls : Array Slot), N = (30 - v4_27 : Int).toNat → (0 ≤ v4_27) → (v4_27 ≤ 24) → rg v2_27 → rg v4_27 → PW D cA τ G L σL_27 H → va_S (fun q => q ∈ L) s.heap H locs → fr wr_X12_full τ σ σL_27 → FI G a0 σL_27 → σL_27 (G a0 0) = σ (G a0 0) → lv_has ls 5 [(0, .ref a0), (1, .int (jI x1)), (2, .int (jI v2_27)), (3, .int (jI v3_16)), (4, .int (jI v4_27))] → W p l e ({ frames := 4, cells := 0, slots := 0, locals := 91 }) s m args below meth c H locs 0 0 Q (F0 m 27 ls []) := by
            intro N
            induction N using Nat.strongRecOn with
            | ind N ih_27 =>
              intro v2_27 v4_27 σL_27 H locs ls hN i0_27 i1_27 rv2_27 rv4_27 hW hF hR hI Efile hl
              have := congrFun Efile 0
              have hmb := mul_bd (a := v4_27) (b := σ (G a0 0) 1) (A := 24) (B := 8) (by omega) (by omega) (by omega) (by omega)
              have hml_ := mul_le (a := v4_27) (w := σ (G a0 0) 1) (by omega) (by omega)
              refine lv_iload hx hb dX12_full_27 (lv_at hl 4 rfl) ?_
              refine lv_aload_n hx hb dX12_full_29 rfl (lv_at hl 0 rfl) ?_
              refine j_getR hx hb (C := RX12) (T := TX12) (N := 41) hts inX12_full_X12 hown hK hS hW h0 rfl 0 rfl rfl (by decide) (hts _ flX12_full_7) dX12_full_30 ?_
              refine j_const hx hb dX12_full_33 ?_
              refine j_ald hx hb hK hS hW hk_file (n := 17624) rfl (by omega) (by omega) (by decide) dX12_full_34 ?_
              have : -2147483648 ≤ σL_27 (G a0 0) 1 ∧ σL_27 (G a0 0) 1 ≤ 2147483647 := abd hW hk_file (n := 17624) (lo := -2147483648) (hi := 2147483647) (i := 1) rfl (by decide) (by decide)
              rw [Efile]
              try simp only [Efile] at this
              refine j_eq (z := σ (G a0 0) 1) rfl ?_
              have := FI_bd hI; rw [Efile] at this
              refine j_mul hx hb dX12_full_35 ?_
              refine lv_aload_n hx hb dX12_full_36 rfl (lv_at hl 0 rfl) ?_
              refine lv_iload_n hx hb dX12_full_37 rfl (lv_at hl 3 rfl) ?_
              refine j_const hx hb dX12_full_38 ?_
              refine j_cR (j_runV (As := [.int (jI v3_16), .int (jI 0)]) (rest := [.int (jI (v4_27 * (σ (G a0 0) 1)))]) hx hb hml hown hts hK hS hW (kX12_of l hS σL_27 (a0 := a0) (h0 := h0) (x1 := v3_16) (r1 := (by omega)) (x2 := 0) (r2 := (by decide)) (q0 := (by omega)) (q1 := (by omega))) 2 gX12_full_X12_of rfl hvX12_of ⟨Nat.le_of_ble_eq_true rfl, Nat.le_of_ble_eq_true rfl⟩ rfl rfl h0 rfl rfl rfl rfl hl.1 rfl (Nat.le_of_ble_eq_true rfl) dX12_full_39 ⟨Nat.le_of_ble_eq_true rfl, Nat.le_of_ble_eq_true rfl⟩) (fun v_5 rv_5 pv_5 => ?_)
              try dsimp only at pv_5
              try simp only [Efile] at pv_5
              have q_of := pv_5
              have := @FI_len _ _ _ hI v3_16
              try simp only [Efile] at this
              refine j_icmp_ge (tgt := 80) hx hb (by omega) (by omega) dX12_full_42 (by decide) (fun c_6 => ?_) (fun c_6 => ?_)
              · refine j_iinc (lv' := [(3, .int (jI (v3_16 + 1))), (0, .ref a0), (1, .int (jI x1)), (2, .int (jI v2_27)), (4, .int (jI v4_27))]) hx hb dX12_full_80 hl (k := 3) rfl (by decide) rfl (fun ls hl => ?_)
                refine lv_goto (tgt := 16) hx hb dX12_full_83 (by decide) ?_
                exact ih_16 ((2147483647 - (v3_16 + 1) : Int).toNat) (by omega) v2_27 (v3_16 + 1) σL_27 _ _ _ rfl (by omega) (by omega) (by omega) hW hF hR hI Efile (lv_sub hl [1, 2, 3, 0] rfl)
              · refine lv_aload_n hx hb dX12_full_45 rfl (lv_at hl 0 rfl) ?_
                refine lv_iload_n hx hb dX12_full_46 rfl (lv_at hl 3 rfl) ?_
                refine lv_iload hx hb dX12_full_47 (lv_at hl 4 rfl) ?_
                refine j_cI (j_runV (As := [.int (jI v3_16), .int (jI v4_27)]) (rest := []) hx hb hml hown hts hK hS hW (kX12_beginsLayer l hS σL_27 (a0 := a0) (h0 := h0) (x1 := v3_16) (r1 := (by omega)) (x2 := v4_27) (r2 := (by omega)) (hI := hI) (q0 := (by omega)) (q1 := (by omega)) (q2 := (by omega)) (q3 := (by first | omega | (rw [Efile]; omega)))) 2 gX12_full_X12_beginsLayer rfl hvX12_beginsLayer ⟨Nat.le_of_ble_eq_true rfl, Nat.le_of_ble_eq_true rfl⟩ rfl rfl h0 rfl rfl rfl rfl hl.1 rfl (Nat.le_of_ble_eq_true rfl) dX12_full_49 ⟨Nat.le_of_ble_eq_true rfl, Nat.le_of_ble_eq_true rfl⟩) hA hF (fun v_7 σ_8 H locs hW hF rv_7 pv_7 => ?_)
                try dsimp only at pv_7
                obtain ⟨bpv_7, pv_7, fpv_7⟩ := pv_7
                try simp only [Efile] at pv_7
                have q_beginsLayer := pv_7
                have hR := fr_call hR fpv_7 (by decide)
                have Efile : σ_8 (G a0 0) = σ (G a0 0) := (row_fr fpv_7 hk_file 40 (by decide) (by decide)).trans Efile
                have := congrFun Efile 0
                have hI := FI_dep hS h0 hI (kp_fr fpv_7 (by decide))
                refine j_if_ne (tgt := 58) hx hb (by omega) dX12_full_52 (by decide) (fun c_9 => ?_) (fun c_9 => ?_)
                · refine lv_aload_n hx hb dX12_full_58 rfl (lv_at hl 0 rfl) ?_
                  refine lv_iload hx hb dX12_full_59 (lv_at hl 4 rfl) ?_
                  refine j_cV (j_runV (As := [.int (jI v4_27)]) (rest := []) hx hb hml hown hts hK hS hW (kX12_findsEntries l hS σ_8 (a0 := a0) (h0 := h0) (x1 := v4_27) (r1 := (by omega)) (hI := hI) (q0 := (by omega)) (q1 := (by omega))) 1 gX12_full_X12_findsEntries rfl hvX12_findsEntries ⟨Nat.le_of_ble_eq_true rfl, Nat.le_of_ble_eq_true rfl⟩ rfl rfl h0 rfl rfl rfl rfl hl.1 rfl (Nat.le_of_ble_eq_true rfl) dX12_full_61 ⟨Nat.le_of_ble_eq_true rfl, Nat.le_of_ble_eq_true rfl⟩) hA hF (fun σ_10 H locs hW hF pσ_10 => ?_)
                  try dsimp only at pσ_10
                  obtain ⟨pσ_10, fpσ_10⟩ := pσ_10
                  try simp only [Efile] at pσ_10
                  have q_findsEntries := pσ_10
                  have hR := fr_call hR fpσ_10 (by decide)
                  have Efile : σ_10 (G a0 0) = σ (G a0 0) := (row_fr fpσ_10 hk_file 40 (by decide) (by decide)).trans Efile
                  have := congrFun Efile 0
                  have hI := FI_dep hS h0 hI (kp_fr fpσ_10 (by decide))
                  refine lv_iload_n hx hb dX12_full_64 rfl (lv_at hl 2 rfl) ?_
                  refine lv_aload_n hx hb dX12_full_65 rfl (lv_at hl 0 rfl) ?_
                  refine lv_iload hx hb dX12_full_66 (lv_at hl 4 rfl) ?_
                  refine lv_iload_n hx hb dX12_full_68 rfl (lv_at hl 1 rfl) ?_
                  refine j_cR (j_runV (As := [.int (jI v4_27), .int (jI x1)]) (rest := [.int (jI v2_27)]) hx hb hml hown hts hK hS hW (kX12_fullOf l hS σ_10 (a0 := a0) (h0 := h0) (x1 := v4_27) (r1 := (by omega)) (x2 := x1) (r2 := (by omega)) (q0 := (by omega)) (q1 := (by omega))) 2 gX12_full_X12_fullOf rfl hvX12_fullOf ⟨Nat.le_of_ble_eq_true rfl, Nat.le_of_ble_eq_true rfl⟩ rfl rfl h0 rfl rfl rfl rfl hl.1 rfl (Nat.le_of_ble_eq_true rfl) dX12_full_69 ⟨Nat.le_of_ble_eq_true rfl, Nat.le_of_ble_eq_true rfl⟩) (fun v_11 rv_11 pv_11 => ?_)
                  try dsimp only at pv_11
                  have q_fullOf := pv_11
                  refine j_add hx hb dX12_full_72 ?_
                  refine j_wrap (fun z_12 rz_12 ez_12 => ?_)
                  refine lv_istore_n (lv' := [(2, .int (jI z_12)), (0, .ref a0), (1, .int (jI x1)), (3, .int (jI v3_16)), (4, .int (jI v4_27))]) hx hb dX12_full_73 rfl hl (by decide) rfl (fun ls hl => ?_)
                  refine j_iinc (lv' := [(4, .int (jI (v4_27 + 1))), (2, .int (jI z_12)), (0, .ref a0), (1, .int (jI x1)), (3, .int (jI v3_16))]) hx hb dX12_full_74 hl (k := 4) rfl (by decide) rfl (fun ls hl => ?_)
                  refine lv_goto (tgt := 27) hx hb dX12_full_77 (by decide) ?_
                  exact ih_27 ((30 - (v4_27 + 1) : Int).toNat) (by omega) z_12 (v4_27 + 1) σ_10 _ _ _ rfl (by omega) (by omega) (by omega) (by omega) hW hF hR hI Efile (lv_sub hl [2, 3, 1, 4, 0] rfl)
                · refine lv_goto (tgt := 74) hx hb dX12_full_55 (by decide) ?_
                  refine j_iinc (lv' := [(4, .int (jI (v4_27 + 1))), (0, .ref a0), (1, .int (jI x1)), (2, .int (jI v2_27)), (3, .int (jI v3_16))]) hx hb dX12_full_74 hl (k := 4) rfl (by decide) rfl (fun ls hl => ?_)
                  refine lv_goto (tgt := 27) hx hb dX12_full_77 (by decide) ?_
                  exact ih_27 ((30 - (v4_27 + 1) : Int).toNat) (by omega) v2_27 (v4_27 + 1) σ_8 _ _ _ rfl (by omega) (by omega) (by omega) (by omega) hW hF hR hI Efile (lv_sub hl [1, 2, 3, 4, 0] rfl)
          exact L_27 ((30 - 0 : Int).toNat) v2_16 0 σL_16 _ _ _ rfl (by omega) (by omega) (by omega) (by decide) hW hF hR hI Efile (lv_sub hl [1, 2, 3, 4, 0] rfl)
    exact L_16 ((2147483647 - 0 : Int).toNat) 0 0 σ _ _ _ rfl (by omega) (by decide) (by decide) hW hF hR hI rfl (lv_sub hl [2, 3, 1, 0] rfl)
  · refine j_const hx hb dX12_full_10 ?_
    exact hRet 11 _ _ _ (-1) _ dX12_full_11 hW hF (by decide) ⟨trivial, hR⟩
