abbrev wr_X12_copies : List Nat := [40000]
theorem flX12_copies_7 : Cond.fieldLink RX12 7 "PageTrieModel" "file" "[I" ∈ wsX12_copies := List.mem_of_getElem? (i := 1) rfl
theorem inX12_copies_X12 : ∀ w ∈ u_ws RX12 TX12 41, w ∈ wsX12_copies := mem_r _ [2, 3, 4, 5, 6, 7, 8, 9, 10, 11, 12, 13, 14, 15, 16, 17, 18, 19, 20, 21, 22, 23, 24, 25, 26, 27, 28, 29, 30, 31, 32, 33, 34, 35, 36, 37, 38, 39, 40, 41, 42] rfl
theorem hvX12_copies : yX12_copies.cls = RX12 ∧ yX12_copies.cls ≠ "java/lang/invoke/MethodHandle" ∧ yX12_copies.cls ≠ "java/lang/invoke/VarHandle" ∧ (parseMethodDescriptor yX12_copies.desc).map (fun d => d.parameters.length) = some 2 := by decide +kernel
set_option maxHeartbeats 4000000 in
set_option maxRecDepth 100000 in
theorem kX12_copies (l : Launch) {D : va_G} {cA : Nat → ClassId} {τ : Nat → Nat} {G : Nat → Nat → Nat} {L : List Nat} (hS : SW τ G L) (σ : Nat → Nat → Int) {a0 : Nat} (h0 : τ a0 = 13) {x1 : Int} (r1 : rg x1) {x2 : Int} (r2 : rg x2) (q0 : 0 ≤ x1) (q1 : x1 ≤ 3) (q2 : 0 ≤ x2) (q3 : x2 ≤ 3) (q4 : x1 ≠ x2) : Met l yX12_copies wsX12_copies ({ frames := 0, cells := 0, slots := 0, locals := 0 }) (jP D cA τ G L σ [.ref a0, .int (jI x1), .int (jI x2)]) (jQV D cA τ G L (fun σ' => ((CP (σ (G a0 0)) (σ' (G a0 0)) x1 x2 4406)) ∧ fr wr_X12_copies τ σ σ')) 0 0 (fun q => q ∈ L) := by
  refine j_metV (by decide +kernel) rfl (Nat.le_of_ble_eq_true rfl) ?_
  intro p e s m args below meth c Q hx hb hml hown hts hK hW hRet ls hl
  have hl : lv_has ls 4 [(0, .ref a0), (1, .int (jI x1)), (2, .int (jI x2))] := hl
  have hA : ∀ q ∈ L, (fun q => q ∈ L) q := fun _ h => h
  have hF : va_S (fun q => q ∈ L) s.heap s.heap [] := va_S.rf
  have hR : fr wr_X12_copies τ σ σ := fr_rf
  have hk_file : τ (G a0 0) = 40 := gty hS h0 (k := 0) rfl rfl
  refine j_const hx hb dX12_copies_0 ?_
  refine lv_istore_n (lv' := [(3, .int (jI 0)), (0, .ref a0), (1, .int (jI x1)), (2, .int (jI x2))]) hx hb dX12_copies_1 rfl hl (by decide) rfl (fun ls hl => ?_)
  have L_2 : ∀ (N : Nat) (v3_2 : Int) (σL_2 : Nat → Nat → Int) (H : Heap) (locs : List Loc) (ls : Array Slot), N = (5000 - v3_2 : Int).toNat → (0 ≤ v3_2) → (v3_2 ≤ 4406) → (CP (σ (G a0 0)) (σL_2 (G a0 0)) x1 x2 v3_2) → rg v3_2 → PW D cA τ G L σL_2 H → va_S (fun q => q ∈ L) s.heap H locs → fr wr_X12_copies τ σ σL_2 → lv_has ls 4 [(0, .ref a0), (1, .int (jI x1)), (2, .int (jI x2)), (3, .int (jI v3_2))] → W p l e ({ frames := 0, cells := 0, slots := 0, locals := 0 }) s m args below meth c H locs 0 0 Q (F0 m 2 ls []) := by
    intro N
    induction N using Nat.strongRecOn with
    | ind N ih_2 =>
      intro v3_2 σL_2 H locs ls hN i0_2 i1_2 i2_2 rv3_2 hW hF hR hl
      refine lv_iload_n hx hb dX12_copies_2 rfl (lv_at hl 3 rfl) ?_
      refine j_si hx hb dX12_copies_3 (by decide) ?_
      refine j_icmp_ge (tgt := 39) hx hb (by omega) (by decide) dX12_copies_6 (by decide) (fun c_1 => ?_) (fun c_1 => ?_)
      · exact hRet 39 _ _ _ _ dX12_copies_39 hW hF ⟨(by rw [show (4406 : Int) = v3_2 by omega]; exact i2_2), hR⟩
      · refine lv_aload_n hx hb dX12_copies_9 rfl (lv_at hl 0 rfl) ?_
        refine j_getR hx hb (C := RX12) (T := TX12) (N := 41) hts inX12_copies_X12 hown hK hS hW h0 rfl 0 rfl rfl (by decide) (hts _ flX12_copies_7) dX12_copies_10 ?_
        refine j_si hx hb dX12_copies_13 (by decide) ?_
        refine lv_iload_n hx hb dX12_copies_16 rfl (lv_at hl 2 rfl) ?_
        refine j_mul hx hb dX12_copies_17 ?_
        refine lv_iload_n hx hb dX12_copies_18 rfl (lv_at hl 3 rfl) ?_
        refine j_add hx hb dX12_copies_19 ?_
        refine lv_aload_n hx hb dX12_copies_20 rfl (lv_at hl 0 rfl) ?_
        refine j_getR hx hb (C := RX12) (T := TX12) (N := 41) hts inX12_copies_X12 hown hK hS hW h0 rfl 0 rfl rfl (by decide) (hts _ flX12_copies_7) dX12_copies_21 ?_
        refine j_si hx hb dX12_copies_24 (by decide) ?_
        refine lv_iload_n hx hb dX12_copies_27 rfl (lv_at hl 1 rfl) ?_
        refine j_mul hx hb dX12_copies_28 ?_
        refine lv_iload_n hx hb dX12_copies_29 rfl (lv_at hl 3 rfl) ?_
        refine j_add hx hb dX12_copies_30 ?_
        refine j_ald hx hb hK hS hW hk_file (n := 17624) rfl (by omega) (by omega) (by decide) dX12_copies_31 ?_
        have := abd hW hk_file (n := 17624) (lo := -2147483648) (hi := 2147483647) (i := (4406 * x1) + v3_2) rfl (by omega) (by omega)
        refine j_ast hx hb hK hS hA hW hF hk_file (n := 17624) (lo := -2147483648) (hi := 2147483647) rfl (by omega) (by omega) (by decide) (by omega) dX12_copies_32 (fun σ_2 H locs e_3 hW hF => ?_)
        have st_file := e_3
        have hR := fr_up hR e_3 hk_file 40000 (cdA 40 (by decide) _) (by decide)
        refine j_iinc (lv' := [(3, .int (jI (v3_2 + 1))), (0, .ref a0), (1, .int (jI x1)), (2, .int (jI x2))]) hx hb dX12_copies_33 hl (k := 3) rfl (by decide) rfl (fun ls hl => ?_)
        refine lv_goto (tgt := 2) hx hb dX12_copies_36 (by decide) ?_
        exact ih_2 ((5000 - (v3_2 + 1) : Int).toNat) (by omega) (v3_2 + 1) σ_2 _ _ _ rfl (by omega) (by omega) (by first | exact CP_0 | exact CP_s i2_2 st_file rfl rfl q0 q2 q4 i0_2 (by omega)) (by omega) hW hF hR (lv_sub hl [1, 2, 3, 0] rfl)
  exact L_2 ((5000 - 0 : Int).toNat) 0 σ _ _ _ rfl (by omega) (by omega) (by first | exact CP_0 | exact CP_s i2_2 st_file rfl rfl q0 q2 q4 i0_2 (by omega)) (by decide) hW hF hR (lv_sub hl [1, 2, 3, 0] rfl)
abbrev wr_X12_empties : List Nat := [40000]
theorem flX12_empties_7 : Cond.fieldLink RX12 7 "PageTrieModel" "file" "[I" ∈ wsX12_empties := List.mem_of_getElem? (i := 1) rfl
theorem inX12_empties_X12 : ∀ w ∈ u_ws RX12 TX12 41, w ∈ wsX12_empties := mem_r _ [2, 3, 4, 5, 6, 7, 8, 9, 10, 11, 12, 13, 14, 15, 16, 17, 18, 19, 20, 21, 22, 23, 24, 25, 26, 27, 28, 29, 30, 31, 32, 33, 34, 35, 36, 37, 38, 39, 40, 41, 42] rfl
theorem hvX12_empties : yX12_empties.cls = RX12 ∧ yX12_empties.cls ≠ "java/lang/invoke/MethodHandle" ∧ yX12_empties.cls ≠ "java/lang/invoke/VarHandle" ∧ (parseMethodDescriptor yX12_empties.desc).map (fun d => d.parameters.length) = some 2 := by decide +kernel
set_option maxHeartbeats 4000000 in
set_option maxRecDepth 100000 in
theorem kX12_empties (l : Launch) {D : va_G} {cA : Nat → ClassId} {τ : Nat → Nat} {G : Nat → Nat → Nat} {L : List Nat} (hS : SW τ G L) (σ : Nat → Nat → Int) {a0 : Nat} (h0 : τ a0 = 13) {x1 : Int} (r1 : rg x1) {x2 : Int} (r2 : rg x2) : Met l yX12_empties wsX12_empties ({ frames := 0, cells := 0, slots := 0, locals := 0 }) (jP D cA τ G L σ [.ref a0, .int (jI x1), .int (jI x2)]) (jQV D cA τ G L (fun σ' => ((σ' (G a0 0) 0 = 0) ∧ (σ' (G a0 0) 1 = x1) ∧ (σ' (G a0 0) 2 = x2) ∧ (∀ q : Nat, 7 ≤ q → σ' (G a0 0) q = σ (G a0 0) q)) ∧ fr wr_X12_empties τ σ σ')) 0 0 (fun q => q ∈ L) := by
  refine j_metV (by decide +kernel) rfl (Nat.le_of_ble_eq_true rfl) ?_
  intro p e s m args below meth c Q hx hb hml hown hts hK hW hRet ls hl
  have hl : lv_has ls 4 [(0, .ref a0), (1, .int (jI x1)), (2, .int (jI x2))] := hl
  have hA : ∀ q ∈ L, (fun q => q ∈ L) q := fun _ h => h
  have hF : va_S (fun q => q ∈ L) s.heap s.heap [] := va_S.rf
  have hR : fr wr_X12_empties τ σ σ := fr_rf
  have hk_file : τ (G a0 0) = 40 := gty hS h0 (k := 0) rfl rfl
  refine lv_aload_n hx hb dX12_empties_0 rfl (lv_at hl 0 rfl) ?_
  refine j_getR hx hb (C := RX12) (T := TX12) (N := 41) hts inX12_empties_X12 hown hK hS hW h0 rfl 0 rfl rfl (by decide) (hts _ flX12_empties_7) dX12_empties_1 ?_
  refine j_const hx hb dX12_empties_4 ?_
  refine j_const hx hb dX12_empties_5 ?_
  refine j_ast hx hb hK hS hA hW hF hk_file (n := 17624) (lo := -2147483648) (hi := 2147483647) rfl (by omega) (by omega) (by decide) (by omega) dX12_empties_6 (fun σ_1 H locs e_2 hW hF => ?_)
  have st_file := e_2
  have hR := fr_up hR e_2 hk_file 40000 (cdA 40 (by decide) _) (by decide)
  have g0 := st_file
  refine lv_aload_n hx hb dX12_empties_7 rfl (lv_at hl 0 rfl) ?_
  refine j_getR hx hb (C := RX12) (T := TX12) (N := 41) hts inX12_empties_X12 hown hK hS hW h0 rfl 0 rfl rfl (by decide) (hts _ flX12_empties_7) dX12_empties_8 ?_
  refine j_const hx hb dX12_empties_11 ?_
  refine lv_iload_n hx hb dX12_empties_12 rfl (lv_at hl 1 rfl) ?_
  refine j_ast hx hb hK hS hA hW hF hk_file (n := 17624) (lo := -2147483648) (hi := 2147483647) rfl (by omega) (by omega) (by decide) (by omega) dX12_empties_13 (fun σ_3 H locs e_4 hW hF => ?_)
  have st_file := e_4
  have hR := fr_up hR e_4 hk_file 40000 (cdA 40 (by decide) _) (by decide)
  have g1 := st_file
  refine lv_aload_n hx hb dX12_empties_14 rfl (lv_at hl 0 rfl) ?_
  refine j_getR hx hb (C := RX12) (T := TX12) (N := 41) hts inX12_empties_X12 hown hK hS hW h0 rfl 0 rfl rfl (by decide) (hts _ flX12_empties_7) dX12_empties_15 ?_
  refine j_const hx hb dX12_empties_18 ?_
  refine lv_iload_n hx hb dX12_empties_19 rfl (lv_at hl 2 rfl) ?_
  refine j_ast hx hb hK hS hA hW hF hk_file (n := 17624) (lo := -2147483648) (hi := 2147483647) rfl (by omega) (by omega) (by decide) (by omega) dX12_empties_20 (fun σ_5 H locs e_6 hW hF => ?_)
  have st_file := e_6
  have hR := fr_up hR e_6 hk_file 40000 (cdA 40 (by decide) _) (by decide)
  have g2 := st_file
  have u2 : (σ_5 (G a0 0)) 2 = x2 := by (rw [g2]; exact up2_at _ _ _ _)
  have u1 : (σ_5 (G a0 0)) 1 = x1 := by (rw [g2, up2_ne _ _ (fun z => absurd z.2 (by decide)), g1]; exact up2_at _ _ _ _)
  have u0 : (σ_5 (G a0 0)) 0 = 0 := by (rw [g2, up2_ne _ _ (fun z => absurd z.2 (by decide)), g1, up2_ne _ _ (fun z => absurd z.2 (by decide)), g0]; exact up2_at _ _ _ _)
  have u7 : ∀ q : Nat, 7 ≤ q → (σ_5 (G a0 0)) q = σ (G a0 0) q := fun q hq => by (rw [g2, up2_ne _ _ (by omega), g1, up2_ne _ _ (by omega), g0, up2_ne _ _ (by omega)])
  refine j_const hx hb dX12_empties_21 ?_
  refine lv_istore_n (lv' := [(3, .int (jI 3)), (0, .ref a0), (1, .int (jI x1)), (2, .int (jI x2))]) hx hb dX12_empties_22 rfl hl (by decide) rfl (fun ls hl => ?_)
  have L_23 : ∀ (N : Nat) (v3_23 : Int) (σL_23 : Nat → Nat → Int) (H : Heap) (locs : List Loc) (ls : Array Slot), N = (30 - v3_23 : Int).toNat → (3 ≤ v3_23) → (v3_23 ≤ 7) → ((σL_23 (G a0 0)) 0 = 0) → ((σL_23 (G a0 0)) 1 = x1) → ((σL_23 (G a0 0)) 2 = x2) → (∀ q : Nat, 7 ≤ q → (σL_23 (G a0 0)) q = σ (G a0 0) q) → rg v3_23 → PW D cA τ G L σL_23 H → va_S (fun q => q ∈ L) s.heap H locs → fr wr_X12_empties τ σ σL_23 → lv_has ls 4 [(0, .ref a0), (3, .int (jI v3_23))] → W p l e ({ frames := 0, cells := 0, slots := 0, locals := 0 }) s m args below meth c H locs 0 0 Q (F0 m 23 ls []) := by
    intro N
    induction N using Nat.strongRecOn with
    | ind N ih_23 =>
      intro v3_23 σL_23 H locs ls hN i0_23 i1_23 i2_23 i3_23 i4_23 i5_23 rv3_23 hW hF hR hl
      refine lv_iload_n hx hb dX12_empties_23 rfl (lv_at hl 1 rfl) ?_
      refine j_bi hx hb dX12_empties_24 (by decide) ?_
      refine j_icmp_gt (tgt := 42) hx hb (by omega) (by decide) dX12_empties_26 (by decide) (fun c_7 => ?_) (fun c_7 => ?_)
      · exact hRet 42 _ _ _ _ dX12_empties_42 hW hF ⟨⟨i2_23, i3_23, i4_23, i5_23⟩, hR⟩
      · refine lv_aload_n hx hb dX12_empties_29 rfl (lv_at hl 0 rfl) ?_
        refine j_getR hx hb (C := RX12) (T := TX12) (N := 41) hts inX12_empties_X12 hown hK hS hW h0 rfl 0 rfl rfl (by decide) (hts _ flX12_empties_7) dX12_empties_30 ?_
        refine lv_iload_n hx hb dX12_empties_33 rfl (lv_at hl 1 rfl) ?_
        refine j_const hx hb dX12_empties_34 ?_
        refine j_ast hx hb hK hS hA hW hF hk_file (n := 17624) (lo := -2147483648) (hi := 2147483647) rfl (by omega) (by omega) (by decide) (by omega) dX12_empties_35 (fun σ_8 H locs e_9 hW hF => ?_)
        have st_file := e_9
        have hR := fr_up hR e_9 hk_file 40000 (cdA 40 (by decide) _) (by decide)
        refine j_iinc (lv' := [(3, .int (jI (v3_23 + 1))), (0, .ref a0)]) hx hb dX12_empties_36 hl (k := 1) rfl (by decide) rfl (fun ls hl => ?_)
        refine lv_goto (tgt := 23) hx hb dX12_empties_39 (by decide) ?_
        exact ih_23 ((30 - (v3_23 + 1) : Int).toNat) (by omega) (v3_23 + 1) σ_8 _ _ _ rfl (by omega) (by omega) (by first | exact u0 | (rw [st_file, up2_ne _ _ (by omega)]; exact i2_23)) (by first | exact u1 | (rw [st_file, up2_ne _ _ (by omega)]; exact i3_23)) (by first | exact u2 | (rw [st_file, up2_ne _ _ (by omega)]; exact i4_23)) (by first | exact u7 | exact fun q hq => by (rw [st_file, up2_ne _ _ (by omega)]; exact i5_23 q hq)) (by omega) hW hF hR (lv_sub hl [1, 0] rfl)
  exact L_23 ((30 - 3 : Int).toNat) 3 σ_5 _ _ _ rfl (by omega) (by omega) (by first | exact u0 | (rw [st_file, up2_ne _ _ (by omega)]; exact i2_23)) (by first | exact u1 | (rw [st_file, up2_ne _ _ (by omega)]; exact i3_23)) (by first | exact u2 | (rw [st_file, up2_ne _ _ (by omega)]; exact i4_23)) (by first | exact u7 | exact fun q hq => by (rw [st_file, up2_ne _ _ (by omega)]; exact i5_23 q hq)) (by decide) hW hF hR (lv_sub hl [1, 0] rfl)
abbrev wr_X12_begin : List Nat := [40000]
theorem flX12_begin_7 : Cond.fieldLink RX12 7 "PageTrieModel" "file" "[I" ∈ wsX12_begin := List.mem_of_getElem? (i := 1) rfl
theorem inX12_begin_X12 : ∀ w ∈ u_ws RX12 TX12 41, w ∈ wsX12_begin := mem_r _ [10, 11, 12, 13, 14, 15, 16, 17, 18, 19, 20, 21, 22, 23, 24, 25, 26, 27, 28, 29, 30, 31, 32, 33, 34, 35, 36, 37, 38, 39, 40, 41, 42, 43, 44, 45, 46, 47, 48, 49, 50] rfl
theorem hvX12_begin : yX12_begin.cls = RX12 ∧ yX12_begin.cls ≠ "java/lang/invoke/MethodHandle" ∧ yX12_begin.cls ≠ "java/lang/invoke/VarHandle" ∧ (parseMethodDescriptor yX12_begin.desc).map (fun d => d.parameters.length) = some 2 := by decide +kernel
set_option maxHeartbeats 4000000 in
set_option maxRecDepth 100000 in
theorem kX12_begin (l : Launch) {D : va_G} {cA : Nat → ClassId} {τ : Nat → Nat} {G : Nat → Nat → Nat} {L : List Nat} (hS : SW τ G L) (σ : Nat → Nat → Int) {a0 : Nat} (h0 : τ a0 = 13) {x1 : Int} (r1 : rg x1) {x2 : Int} (r2 : rg x2) (hI : FI G a0 σ) (q0 : FM (σ (G a0 0))) : Met l yX12_begin wsX12_begin ({ frames := 1, cells := 0, slots := 0, locals := 23 }) (jP D cA τ G L σ [.ref a0, .int (jI x1), .int (jI x2)]) (jQI D cA τ G L (fun r σ' => ((r = if 1 ≤ x1 ∧ x1 ≤ 8 ∧ 2 ≤ x2 ∧ x2 ≤ 8 then 0 else -1) ∧ (FI G a0 σ') ∧ (FM (σ' (G a0 0)))) ∧ fr wr_X12_begin τ σ σ')) 0 0 (fun q => q ∈ L) := by
  refine j_metI (by decide +kernel) rfl (Nat.le_of_ble_eq_true rfl) ?_
  intro p e s m args below meth c Q hx hb hml hown hts hK hW hRet ls hl
  have hl : lv_has ls 4 [(0, .ref a0), (1, .int (jI x1)), (2, .int (jI x2))] := hl
  have hA : ∀ q ∈ L, (fun q => q ∈ L) q := fun _ h => h
  have hF : va_S (fun q => q ∈ L) s.heap s.heap [] := va_S.rf
  have hR : fr wr_X12_begin τ σ σ := fr_rf
  have hk_file : τ (G a0 0) = 40 := gty hS h0 (k := 0) rfl rfl
  have := FI_bd hI
  have := fbd hW h0 (k := 3) (lo := 0) (hi := 24) rfl rfl
  have hI0 := hI
  refine lv_iload_n hx hb dX12_begin_0 rfl (lv_at hl 1 rfl) ?_
  refine j_const hx hb dX12_begin_1 ?_
  refine j_bi hx hb dX12_begin_2 (by decide) ?_
  refine j_cR (j_runS (As := [.int (jI x1), .int (jI 1), .int (jI 8)]) (rest := []) hx hb hml hown hts hK hW (kX12_in l hS σ (x0 := x1) (r0 := (by omega)) (x1 := 1) (r1 := (by decide)) (x2 := 8) (r2 := (by decide))) 3 gX12_begin_X12_in rfl hsX12_in ⟨Nat.le_of_ble_eq_true rfl, Nat.le_of_ble_eq_true rfl⟩ rfl rfl rfl hl.1 rfl (Nat.le_of_ble_eq_true rfl) dX12_begin_4 ⟨Nat.le_of_ble_eq_true rfl, Nat.le_of_ble_eq_true rfl⟩) (fun v_1 rv_1 pv_1 => ?_)
  try dsimp only at pv_1
  have q_in := pv_1
  refine j_if_eq (tgt := 20) hx hb (by omega) dX12_begin_7 (by decide) (fun c_2 => ?_) (fun c_2 => ?_)
  · refine j_const hx hb dX12_begin_20 ?_
    exact hRet 21 _ _ _ (-1) _ dX12_begin_21 hW hF (by decide) ⟨⟨by rw [if_neg (by omega)], hI, q0⟩, hR⟩
  · refine lv_iload_n hx hb dX12_begin_10 rfl (lv_at hl 2 rfl) ?_
    refine j_const hx hb dX12_begin_11 ?_
    refine j_bi hx hb dX12_begin_12 (by decide) ?_
    refine j_cR (j_runS (As := [.int (jI x2), .int (jI 2), .int (jI 8)]) (rest := []) hx hb hml hown hts hK hW (kX12_in l hS σ (x0 := x2) (r0 := (by omega)) (x1 := 2) (r1 := (by decide)) (x2 := 8) (r2 := (by decide))) 3 gX12_begin_X12_in rfl hsX12_in ⟨Nat.le_of_ble_eq_true rfl, Nat.le_of_ble_eq_true rfl⟩ rfl rfl rfl hl.1 rfl (Nat.le_of_ble_eq_true rfl) dX12_begin_14 ⟨Nat.le_of_ble_eq_true rfl, Nat.le_of_ble_eq_true rfl⟩) (fun v_3 rv_3 pv_3 => ?_)
    try dsimp only at pv_3
    have q_in := pv_3
    refine j_if_ne (tgt := 22) hx hb (by omega) dX12_begin_17 (by decide) (fun c_4 => ?_) (fun c_4 => ?_)
    · refine lv_aload_n hx hb dX12_begin_22 rfl (lv_at hl 0 rfl) ?_
      refine lv_iload_n hx hb dX12_begin_23 rfl (lv_at hl 1 rfl) ?_
      refine lv_iload_n hx hb dX12_begin_24 rfl (lv_at hl 2 rfl) ?_
      refine j_cV (j_runV (As := [.int (jI x1), .int (jI x2)]) (rest := []) hx hb hml hown hts hK hS hW (kX12_empties l hS σ (a0 := a0) (h0 := h0) (x1 := x1) (r1 := (by omega)) (x2 := x2) (r2 := (by omega))) 2 gX12_begin_X12_empties rfl hvX12_empties ⟨Nat.le_of_ble_eq_true rfl, Nat.le_of_ble_eq_true rfl⟩ rfl rfl h0 rfl rfl rfl rfl hl.1 rfl (Nat.le_of_ble_eq_true rfl) dX12_begin_25 ⟨Nat.le_of_ble_eq_true rfl, Nat.le_of_ble_eq_true rfl⟩) hA hF (fun σ_5 H locs hW hF pσ_5 => ?_)
      try dsimp only at pσ_5
      obtain ⟨pσ_5, fpσ_5⟩ := pσ_5
      have q_empties := pσ_5
      have hR := fr_call hR fpσ_5 (by decide)
      have Ekept : σ_5 a0 1 = σ a0 1 := fr_at fpσ_5 h0 1 13001 rfl (by decide)
      have hv_ : (1 ≤ x1 ∧ x1 ≤ 8) ∧ (2 ≤ x2 ∧ x2 ≤ 8) := by omega
      have g7 := q_empties.2.2.2
      refine j_si hx hb dX12_begin_28 (by decide) ?_
      refine lv_istore_n (lv' := [(3, .int (jI 4290)), (0, .ref a0), (1, .int (jI x1)), (2, .int (jI x2))]) hx hb dX12_begin_31 rfl hl (by decide) rfl (fun ls hl => ?_)
      have L_32 : ∀ (N : Nat) (v3_32 : Int) (σL_32 : Nat → Nat → Int) (H : Heap) (locs : List Loc) (ls : Array Slot), N = (5000 - v3_32 : Int).toNat → (4290 ≤ v3_32) → (v3_32 ≤ 4406) → ((σL_32 (G a0 0)) 0 = 0) → ((σL_32 (G a0 0)) 1 = x1) → ((σL_32 (G a0 0)) 2 = x2) → (∀ q : Nat, (7 ≤ q ∧ q < 240) ∨ 4406 ≤ q → (σL_32 (G a0 0)) q = σ (G a0 0) q) → (∀ q : Nat, 4290 ≤ q → (q : Int) < v3_32 → (σL_32 (G a0 0)) q = 0) → rg v3_32 → PW D cA τ G L σL_32 H → va_S (fun q => q ∈ L) s.heap H locs → fr wr_X12_begin τ σ σL_32 → σL_32 a0 1 = σ a0 1 → lv_has ls 4 [(0, .ref a0), (3, .int (jI v3_32))] → W p l e ({ frames := 1, cells := 0, slots := 0, locals := 23 }) s m args below meth c H locs 0 0 Q (F0 m 32 ls []) := by
        intro N
        induction N using Nat.strongRecOn with
        | ind N ih_32 =>
          intro v3_32 σL_32 H locs ls hN i0_32 i1_32 i2_32 i3_32 i4_32 i5_32 i6_32 rv3_32 hW hF hR Ekept hl
          refine lv_iload_n hx hb dX12_begin_32 rfl (lv_at hl 1 rfl) ?_
          refine j_si hx hb dX12_begin_33 (by decide) ?_
          refine j_icmp_ge (tgt := 52) hx hb (by omega) (by decide) dX12_begin_36 (by decide) (fun c_6 => ?_) (fun c_6 => ?_)
          · have hfb := FI_begin hI0 i2_32 (by omega) (by omega) i5_32 (fun q a b => i6_32 q a (by omega)) Ekept
            refine j_const hx hb dX12_begin_52 ?_
            exact hRet 53 _ _ _ 0 _ dX12_begin_53 hW hF (by decide) ⟨(by first | exact ⟨by rw [if_pos (by omega)], hfb.1, hfb.2⟩ | (simp only [Ekept]; exact ⟨by rw [if_pos (by omega)], hfb.1, hfb.2⟩)), hR⟩
          · refine lv_aload_n hx hb dX12_begin_39 rfl (lv_at hl 0 rfl) ?_
            refine j_getR hx hb (C := RX12) (T := TX12) (N := 41) hts inX12_begin_X12 hown hK hS hW h0 rfl 0 rfl rfl (by decide) (hts _ flX12_begin_7) dX12_begin_40 ?_
            refine lv_iload_n hx hb dX12_begin_43 rfl (lv_at hl 1 rfl) ?_
            refine j_const hx hb dX12_begin_44 ?_
            refine j_ast hx hb hK hS hA hW hF hk_file (n := 17624) (lo := -2147483648) (hi := 2147483647) rfl (by omega) (by omega) (by decide) (by omega) dX12_begin_45 (fun σ_7 H locs e_8 hW hF => ?_)
            have st_file := e_8
            have hR := fr_up hR e_8 hk_file 40000 (cdA 40 (by decide) _) (by decide)
            have Ekept : σ_7 a0 1 = σ a0 1 := (fld_up e_8 hk_file h0 (fun q => absurd q.1 (by decide))).trans Ekept
            refine j_iinc (lv' := [(3, .int (jI (v3_32 + 1))), (0, .ref a0)]) hx hb dX12_begin_46 hl (k := 1) rfl (by decide) rfl (fun ls hl => ?_)
            refine lv_goto (tgt := 32) hx hb dX12_begin_49 (by decide) ?_
            exact ih_32 ((5000 - (v3_32 + 1) : Int).toNat) (by omega) (v3_32 + 1) σ_7 _ _ _ rfl (by omega) (by omega) (by first | exact (by first | exact q_empties.1 | (rw [st_file, up2_ne _ _ (by omega)]; exact i2_32)) | (simp only [Ekept]; exact (by first | exact q_empties.1 | (rw [st_file, up2_ne _ _ (by omega)]; exact i2_32)))) (by first | exact (by first | exact q_empties.2.1 | (rw [st_file, up2_ne _ _ (by omega)]; exact i3_32)) | (simp only [Ekept]; exact (by first | exact q_empties.2.1 | (rw [st_file, up2_ne _ _ (by omega)]; exact i3_32)))) (by first | exact (by first | exact q_empties.2.2.1 | (rw [st_file, up2_ne _ _ (by omega)]; exact i4_32)) | (simp only [Ekept]; exact (by first | exact q_empties.2.2.1 | (rw [st_file, up2_ne _ _ (by omega)]; exact i4_32)))) (by first | exact (by first | exact fun q hq => g7 q (by omega) | exact fun q hq => by (rw [st_file, up2_ne _ _ (by omega)]; exact i5_32 q hq)) | (simp only [Ekept]; exact (by first | exact fun q hq => g7 q (by omega) | exact fun q hq => by (rw [st_file, up2_ne _ _ (by omega)]; exact i5_32 q hq)))) (by first | exact (by first | (intro q a b; exfalso; omega) | exact fun q a b => by (rcases (show q = (v3_32 : Int).toNat ∨ q ≠ (v3_32 : Int).toNat by omega) with z | z; (rw [z, st_file]; exact up2_at _ _ _ _); (rw [st_file, up2_ne _ _ (by omega)]; exact i6_32 q a (by omega)))) | (simp only [Ekept]; exact (by first | (intro q a b; exfalso; omega) | exact fun q a b => by (rcases (show q = (v3_32 : Int).toNat ∨ q ≠ (v3_32 : Int).toNat by omega) with z | z; (rw [z, st_file]; exact up2_at _ _ _ _); (rw [st_file, up2_ne _ _ (by omega)]; exact i6_32 q a (by omega)))))) (by omega) hW hF hR Ekept (lv_sub hl [1, 0] rfl)
      exact L_32 ((5000 - 4290 : Int).toNat) 4290 σ_5 _ _ _ rfl (by omega) (by omega) (by first | exact (by first | exact q_empties.1 | (rw [st_file, up2_ne _ _ (by omega)]; exact i2_32)) | (simp only [Ekept]; exact (by first | exact q_empties.1 | (rw [st_file, up2_ne _ _ (by omega)]; exact i2_32)))) (by first | exact (by first | exact q_empties.2.1 | (rw [st_file, up2_ne _ _ (by omega)]; exact i3_32)) | (simp only [Ekept]; exact (by first | exact q_empties.2.1 | (rw [st_file, up2_ne _ _ (by omega)]; exact i3_32)))) (by first | exact (by first | exact q_empties.2.2.1 | (rw [st_file, up2_ne _ _ (by omega)]; exact i4_32)) | (simp only [Ekept]; exact (by first | exact q_empties.2.2.1 | (rw [st_file, up2_ne _ _ (by omega)]; exact i4_32)))) (by first | exact (by first | exact fun q hq => g7 q (by omega) | exact fun q hq => by (rw [st_file, up2_ne _ _ (by omega)]; exact i5_32 q hq)) | (simp only [Ekept]; exact (by first | exact fun q hq => g7 q (by omega) | exact fun q hq => by (rw [st_file, up2_ne _ _ (by omega)]; exact i5_32 q hq)))) (by first | exact (by first | (intro q a b; exfalso; omega) | exact fun q a b => by (rcases (show q = (v3_32 : Int).toNat ∨ q ≠ (v3_32 : Int).toNat by omega) with z | z; (rw [z, st_file]; exact up2_at _ _ _ _); (rw [st_file, up2_ne _ _ (by omega)]; exact i6_32 q a (by omega)))) | (simp only [Ekept]; exact (by first | (intro q a b; exfalso; omega) | exact fun q a b => by (rcases (show q = (v3_32 : Int).toNat ∨ q ≠ (v3_32 : Int).toNat by omega) with z | z; (rw [z, st_file]; exact up2_at _ _ _ _); (rw [st_file, up2_ne _ _ (by omega)]; exact i6_32 q a (by omega)))))) (by decide) hW hF hR Ekept (lv_sub hl [1, 0] rfl)
    · refine j_const hx hb dX12_begin_20 ?_
      exact hRet 21 _ _ _ (-1) _ dX12_begin_21 hW hF (by decide) ⟨⟨by rw [if_neg (by omega)], hI, q0⟩, hR⟩
abbrev wr_X12_types : List Nat := [13011, 44000]
theorem flX12_types_22 : Cond.fieldLink RX12 22 "PageTrieModel" "tape" "[B" ∈ wsX12_types := List.mem_of_getElem? (i := 1) rfl
theorem flX12_types_147 : Cond.fieldLink RX12 147 "PageTrieModel" "taped" "I" ∈ wsX12_types := List.mem_of_getElem? (i := 2) rfl
theorem inX12_types_X12 : ∀ w ∈ u_ws RX12 TX12 41, w ∈ wsX12_types := mem_r _ [3, 4, 5, 6, 7, 8, 9, 10, 11, 12, 13, 14, 15, 16, 17, 18, 19, 20, 21, 22, 23, 24, 25, 26, 27, 28, 29, 30, 31, 32, 33, 34, 35, 36, 37, 38, 39, 40, 41, 42, 43] rfl
theorem hvX12_types : yX12_types.cls = RX12 ∧ yX12_types.cls ≠ "java/lang/invoke/MethodHandle" ∧ yX12_types.cls ≠ "java/lang/invoke/VarHandle" ∧ (parseMethodDescriptor yX12_types.desc).map (fun d => d.parameters.length) = some 1 := by decide +kernel
set_option maxHeartbeats 4000000 in
set_option maxRecDepth 100000 in
theorem kX12_types (l : Launch) {D : va_G} {cA : Nat → ClassId} {τ : Nat → Nat} {G : Nat → Nat → Nat} {L : List Nat} (hS : SW τ G L) (σ : Nat → Nat → Int) {a0 : Nat} (h0 : τ a0 = 13) {x1 : Int} (r1 : rg x1) (q0 : σ a0 11 + 4 ≤ 240) : Met l yX12_types wsX12_types ({ frames := 0, cells := 0, slots := 0, locals := 0 }) (jP D cA τ G L σ [.ref a0, .int (jI x1)]) (jQV D cA τ G L (fun σ' => ((σ' a0 11 = σ a0 11 + 4)) ∧ fr wr_X12_types τ σ σ')) 0 0 (fun q => q ∈ L) := by
  refine j_metV (by decide +kernel) rfl (Nat.le_of_ble_eq_true rfl) ?_
  intro p e s m args below meth c Q hx hb hml hown hts hK hW hRet ls hl
  have hl : lv_has ls 3 [(0, .ref a0), (1, .int (jI x1))] := hl
  have hA : ∀ q ∈ L, (fun q => q ∈ L) q := fun _ h => h
  have hF : va_S (fun q => q ∈ L) s.heap s.heap [] := va_S.rf
  have hR : fr wr_X12_types τ σ σ := fr_rf
  refine j_const hx hb dX12_types_0 ?_
  refine lv_istore_n (lv' := [(2, .int (jI 3)), (0, .ref a0), (1, .int (jI x1))]) hx hb dX12_types_1 rfl hl (by decide) rfl (fun ls hl => ?_)
  have L_2 : ∀ (N : Nat) (v2_2 : Int) (σL_2 : Nat → Nat → Int) (H : Heap) (locs : List Loc) (ls : Array Slot), N = (v2_2 + 1 : Int).toNat → (-1 ≤ v2_2) → (v2_2 ≤ 3) → (σL_2 a0 11 = σ a0 11 + 3 - v2_2) → rg v2_2 → PW D cA τ G L σL_2 H → va_S (fun q => q ∈ L) s.heap H locs → fr wr_X12_types τ σ σL_2 → lv_has ls 3 [(0, .ref a0), (1, .int (jI x1)), (2, .int (jI v2_2))] → W p l e ({ frames := 0, cells := 0, slots := 0, locals := 0 }) s m args below meth c H locs 0 0 Q (F0 m 2 ls []) := by
    intro N
    induction N using Nat.strongRecOn with
    | ind N ih_2 =>
      intro v2_2 σL_2 H locs ls hN i0_2 i1_2 i2_2 rv2_2 hW hF hR hl
      refine lv_iload_n hx hb dX12_types_2 rfl (lv_at hl 2 rfl) ?_
      refine j_if_lt (tgt := 38) hx hb (by omega) dX12_types_3 (by decide) (fun c_1 => ?_) (fun c_1 => ?_)
      · exact hRet 38 _ _ _ _ dX12_types_38 hW hF ⟨(by omega), hR⟩
      · refine lv_aload_n hx hb dX12_types_6 rfl (lv_at hl 0 rfl) ?_
        refine j_getR hx hb (C := RX12) (T := TX12) (N := 41) hts inX12_types_X12 hown hK hS hW h0 rfl 10 rfl rfl (by decide) (hts _ flX12_types_22) dX12_types_7 ?_
        have h_2 : τ (G a0 10) = 44 := gty hS h0 (k := 10) rfl rfl
        refine lv_aload_n hx hb dX12_types_10 rfl (lv_at hl 0 rfl) ?_
        refine j_getI hx hb (C := RX12) (T := TX12) (N := 41) hts inX12_types_X12 hown hK hS hW h0 rfl 11 rfl rfl (by decide) (hts _ flX12_types_147) dX12_types_11 ?_
        have := fbd hW h0 (k := 11) (lo := 0) (hi := 240) rfl rfl
        refine lv_iload_n hx hb dX12_types_14 rfl (lv_at hl 1 rfl) ?_
        refine j_bi hx hb dX12_types_15 (by decide) ?_
        refine lv_iload_n hx hb dX12_types_17 rfl (lv_at hl 2 rfl) ?_
        refine j_mul hx hb dX12_types_18 ?_
        refine lv_ishr hx hb dX12_types_19 (j_raw fun z_3 rz_3 ez_3 => ?_)
        have z_shr := ez_3
        refine j_i2b hx hb dX12_types_20 (fun z_4 rz_4 sz_4 ez_4 => ?_)
        refine j_bast hx hb hK hS hA hW hF h_2 (n := 240) rfl (by omega) (by omega) (by decide) (by omega) dX12_types_21 (fun σ_5 H locs e_6 hW hF => ?_)
        have st_tape := e_6
        have hR := fr_up hR e_6 h_2 44000 (cdA 44 (by decide) _) (by decide)
        have Etaped : σ_5 a0 11 = σL_2 a0 11 := fld_up e_6 h_2 h0 (fun q => absurd q.1 (by decide))
        refine lv_aload_n hx hb dX12_types_22 rfl (lv_at hl 0 rfl) ?_
        refine lv_aload_n hx hb dX12_types_23 rfl (lv_at hl 0 rfl) ?_
        refine j_getI hx hb (C := RX12) (T := TX12) (N := 41) hts inX12_types_X12 hown hK hS hW h0 rfl 11 rfl rfl (by decide) (hts _ flX12_types_147) dX12_types_24 ?_
        rw [Etaped]
        refine j_const hx hb dX12_types_27 ?_
        refine j_add hx hb dX12_types_28 ?_
        refine j_putI hx hb (C := RX12) (T := TX12) (N := 41) hts inX12_types_X12 tyX12 tyX12_ok nmX12 hown hK hS hA hW hF h0 rfl 11 (lo := 0) (hi := 240) rfl rfl (by decide) (hts _ flX12_types_147) rfl .int rfl (by omega) rfl rfl dX12_types_29 (fun σ_7 H locs e_8 hW hF => ?_)
        have hR := fr_up hR e_8 h0 13011 rfl (by decide)
        have hfk : σ_7 a0 11 = (σL_2 a0 11) + 1 := by rw [e_8]; exact up2_at _ _ _ _
        refine j_iinc (lv' := [(2, .int (jI (v2_2 + (-1)))), (0, .ref a0), (1, .int (jI x1))]) hx hb dX12_types_32 hl (k := 2) rfl (by decide) rfl (fun ls hl => ?_)
        refine lv_goto (tgt := 2) hx hb dX12_types_35 (by decide) ?_
        exact ih_2 (((v2_2 + (-1)) + 1 : Int).toNat) (by omega) (v2_2 + (-1)) σ_7 _ _ _ rfl (by omega) (by omega) (by omega) (by omega) hW hF hR (lv_sub hl [1, 2, 0] rfl)
  exact L_2 ((3 + 1 : Int).toNat) 3 σ _ _ _ rfl (by omega) (by omega) (by omega) (by decide) hW hF hR (lv_sub hl [1, 2, 0] rfl)
abbrev wr_X12_feed : List Nat := [13011, 44000]
theorem flX12_feed_147 : Cond.fieldLink RX12 147 "PageTrieModel" "taped" "I" ∈ wsX12_feed := List.mem_of_getElem? (i := 1) rfl
theorem inX12_feed_X12 : ∀ w ∈ u_ws RX12 TX12 41, w ∈ wsX12_feed := mem_r _ [8, 9, 10, 11, 12, 13, 14, 15, 16, 17, 18, 19, 20, 21, 22, 23, 24, 25, 26, 27, 28, 29, 30, 31, 32, 33, 34, 35, 36, 37, 38, 39, 40, 41, 42, 43, 44, 45, 46, 47, 48] rfl
theorem hvX12_feed : yX12_feed.cls = RX12 ∧ yX12_feed.cls ≠ "java/lang/invoke/MethodHandle" ∧ yX12_feed.cls ≠ "java/lang/invoke/VarHandle" ∧ (parseMethodDescriptor yX12_feed.desc).map (fun d => d.parameters.length) = some 5 := by decide +kernel
set_option maxHeartbeats 4000000 in
set_option maxRecDepth 100000 in
theorem kX12_feed (l : Launch) {D : va_G} {cA : Nat → ClassId} {τ : Nat → Nat} {G : Nat → Nat → Nat} {L : List Nat} (hS : SW τ G L) (σ : Nat → Nat → Int) {a0 : Nat} (h0 : τ a0 = 13) {x1 : Int} (r1 : rg x1) {x2 : Int} (r2 : rg x2) {x3 : Int} (r3 : rg x3) {x4 : Int} (r4 : rg x4) {x5 : Int} (r5 : rg x5) : Met l yX12_feed wsX12_feed ({ frames := 1, cells := 0, slots := 0, locals := 22 }) (jP D cA τ G L σ [.ref a0, .int (jI x1), .int (jI x2), .int (jI x3), .int (jI x4), .int (jI x5)]) (jQI D cA τ G L (fun r σ' => (True) ∧ fr wr_X12_feed τ σ σ')) 0 0 (fun q => q ∈ L) := by
  refine j_metI (by decide +kernel) rfl (Nat.le_of_ble_eq_true rfl) ?_
  intro p e s m args below meth c Q hx hb hml hown hts hK hW hRet ls hl
  have hl : lv_has ls 6 [(0, .ref a0), (1, .int (jI x1)), (2, .int (jI x2)), (3, .int (jI x3)), (4, .int (jI x4)), (5, .int (jI x5))] := hl
  have hA : ∀ q ∈ L, (fun q => q ∈ L) q := fun _ h => h
  have hF : va_S (fun q => q ∈ L) s.heap s.heap [] := va_S.rf
  have hR : fr wr_X12_feed τ σ σ := fr_rf
  refine lv_aload_n hx hb dX12_feed_0 rfl (lv_at hl 0 rfl) ?_
  refine j_getI hx hb (C := RX12) (T := TX12) (N := 41) hts inX12_feed_X12 hown hK hS hW h0 rfl 11 rfl rfl (by decide) (hts _ flX12_feed_147) dX12_feed_1 ?_
  have := fbd hW h0 (k := 11) (lo := 0) (hi := 240) rfl rfl
  refine j_bi hx hb dX12_feed_4 (by decide) ?_
  refine j_add hx hb dX12_feed_6 ?_
  refine j_si hx hb dX12_feed_7 (by decide) ?_
  refine j_icmp_le (tgt := 15) hx hb (by omega) (by decide) dX12_feed_10 (by decide) (fun c_1 => ?_) (fun c_1 => ?_)
  · refine lv_aload_n hx hb dX12_feed_15 rfl (lv_at hl 0 rfl) ?_
    refine lv_iload_n hx hb dX12_feed_16 rfl (lv_at hl 1 rfl) ?_
    refine j_cV (j_runV (As := [.int (jI x1)]) (rest := []) hx hb hml hown hts hK hS hW (kX12_types l hS σ (a0 := a0) (h0 := h0) (x1 := x1) (r1 := (by omega)) (q0 := (by omega))) 1 gX12_feed_X12_types rfl hvX12_types ⟨Nat.le_of_ble_eq_true rfl, Nat.le_of_ble_eq_true rfl⟩ rfl rfl h0 rfl rfl rfl rfl hl.1 rfl (Nat.le_of_ble_eq_true rfl) dX12_feed_17 ⟨Nat.le_of_ble_eq_true rfl, Nat.le_of_ble_eq_true rfl⟩) hA hF (fun σ_2 H locs hW hF pσ_2 => ?_)
    try dsimp only at pσ_2
    obtain ⟨pσ_2, fpσ_2⟩ := pσ_2
    have q_types := pσ_2
    have hR := fr_call hR fpσ_2 (by decide)
    refine lv_aload_n hx hb dX12_feed_20 rfl (lv_at hl 0 rfl) ?_
    refine lv_iload_n hx hb dX12_feed_21 rfl (lv_at hl 2 rfl) ?_
    refine j_cV (j_runV (As := [.int (jI x2)]) (rest := []) hx hb hml hown hts hK hS hW (kX12_types l hS σ_2 (a0 := a0) (h0 := h0) (x1 := x2) (r1 := (by omega)) (q0 := (by omega))) 1 gX12_feed_X12_types rfl hvX12_types ⟨Nat.le_of_ble_eq_true rfl, Nat.le_of_ble_eq_true rfl⟩ rfl rfl h0 rfl rfl rfl rfl hl.1 rfl (Nat.le_of_ble_eq_true rfl) dX12_feed_22 ⟨Nat.le_of_ble_eq_true rfl, Nat.le_of_ble_eq_true rfl⟩) hA hF (fun σ_3 H locs hW hF pσ_3 => ?_)
    try dsimp only at pσ_3
    obtain ⟨pσ_3, fpσ_3⟩ := pσ_3
    have q_types := pσ_3
    have hR := fr_call hR fpσ_3 (by decide)
    refine lv_aload_n hx hb dX12_feed_25 rfl (lv_at hl 0 rfl) ?_
    refine lv_iload_n hx hb dX12_feed_26 rfl (lv_at hl 3 rfl) ?_
    refine j_cV (j_runV (As := [.int (jI x3)]) (rest := []) hx hb hml hown hts hK hS hW (kX12_types l hS σ_3 (a0 := a0) (h0 := h0) (x1 := x3) (r1 := (by omega)) (q0 := (by omega))) 1 gX12_feed_X12_types rfl hvX12_types ⟨Nat.le_of_ble_eq_true rfl, Nat.le_of_ble_eq_true rfl⟩ rfl rfl h0 rfl rfl rfl rfl hl.1 rfl (Nat.le_of_ble_eq_true rfl) dX12_feed_27 ⟨Nat.le_of_ble_eq_true rfl, Nat.le_of_ble_eq_true rfl⟩) hA hF (fun σ_4 H locs hW hF pσ_4 => ?_)
    try dsimp only at pσ_4
    obtain ⟨pσ_4, fpσ_4⟩ := pσ_4
    have q_types := pσ_4
    have hR := fr_call hR fpσ_4 (by decide)
    refine lv_aload_n hx hb dX12_feed_30 rfl (lv_at hl 0 rfl) ?_
    refine lv_iload hx hb dX12_feed_31 (lv_at hl 4 rfl) ?_
    refine j_cV (j_runV (As := [.int (jI x4)]) (rest := []) hx hb hml hown hts hK hS hW (kX12_types l hS σ_4 (a0 := a0) (h0 := h0) (x1 := x4) (r1 := (by omega)) (q0 := (by omega))) 1 gX12_feed_X12_types rfl hvX12_types ⟨Nat.le_of_ble_eq_true rfl, Nat.le_of_ble_eq_true rfl⟩ rfl rfl h0 rfl rfl rfl rfl hl.1 rfl (Nat.le_of_ble_eq_true rfl) dX12_feed_33 ⟨Nat.le_of_ble_eq_true rfl, Nat.le_of_ble_eq_true rfl⟩) hA hF (fun σ_5 H locs hW hF pσ_5 => ?_)
    try dsimp only at pσ_5
    obtain ⟨pσ_5, fpσ_5⟩ := pσ_5
    have q_types := pσ_5
    have hR := fr_call hR fpσ_5 (by decide)
    refine lv_aload_n hx hb dX12_feed_36 rfl (lv_at hl 0 rfl) ?_
    refine lv_iload hx hb dX12_feed_37 (lv_at hl 5 rfl) ?_
    refine j_cV (j_runV (As := [.int (jI x5)]) (rest := []) hx hb hml hown hts hK hS hW (kX12_types l hS σ_5 (a0 := a0) (h0 := h0) (x1 := x5) (r1 := (by omega)) (q0 := (by omega))) 1 gX12_feed_X12_types rfl hvX12_types ⟨Nat.le_of_ble_eq_true rfl, Nat.le_of_ble_eq_true rfl⟩ rfl rfl h0 rfl rfl rfl rfl hl.1 rfl (Nat.le_of_ble_eq_true rfl) dX12_feed_39 ⟨Nat.le_of_ble_eq_true rfl, Nat.le_of_ble_eq_true rfl⟩) hA hF (fun σ_6 H locs hW hF pσ_6 => ?_)
    try dsimp only at pσ_6
    obtain ⟨pσ_6, fpσ_6⟩ := pσ_6
    have q_types := pσ_6
    have hR := fr_call hR fpσ_6 (by decide)
    refine lv_aload_n hx hb dX12_feed_42 rfl (lv_at hl 0 rfl) ?_
    refine j_getI hx hb (C := RX12) (T := TX12) (N := 41) hts inX12_feed_X12 hown hK hS hW h0 rfl 11 rfl rfl (by decide) (hts _ flX12_feed_147) dX12_feed_43 ?_
    have := fbd hW h0 (k := 11) (lo := 0) (hi := 240) rfl rfl
    exact hRet 46 _ _ _ (σ_6 a0 11) _ dX12_feed_46 hW hF (by omega) ⟨trivial, hR⟩
  · refine j_const hx hb dX12_feed_13 ?_
    exact hRet 14 _ _ _ (-1) _ dX12_feed_14 hW hF (by decide) ⟨trivial, hR⟩
theorem hsX12_isByte : yX12_isByte.cls = RX12 ∧ yX12_isByte.cls ≠ "java/lang/invoke/MethodHandle" ∧ yX12_isByte.cls ≠ "java/lang/invoke/VarHandle" ∧ (parseMethodDescriptor yX12_isByte.desc).map (fun d => d.parameters.length) = some 1 := by decide +kernel
theorem hvX12_isByte : yX12_isByte.cls ≠ "java/lang/invoke/MethodHandle" ∧ yX12_isByte.cls ≠ "java/lang/invoke/VarHandle" ∧ (parseMethodDescriptor yX12_isByte.desc).map (fun d => d.parameters.length) = some 1 := hsX12_isByte.2
set_option maxHeartbeats 4000000 in
set_option maxRecDepth 100000 in
theorem kX12_isByte (l : Launch) {D : va_G} {cA : Nat → ClassId} {τ : Nat → Nat} {G : Nat → Nat → Nat} {L : List Nat} (hS : SW τ G L) (σ : Nat → Nat → Int) {x0 : Int} (r0 : rg x0) : Met l yX12_isByte wsX12_isByte ({ frames := 1, cells := 0, slots := 0, locals := 22 }) (jP D cA τ G L σ [.int (jI x0)]) (jQR (fun r => (0 ≤ r ∧ r ≤ 1) ∧ ((r = 1 ↔ (33 ≤ x0 ∧ x0 ≤ 126 ∧ x0 ≠ 59 ∧ x0 ≠ 61 ∧ x0 ≠ 44 ∧ x0 ≠ 126))))) 0 0 (fun _ => False) := by
  refine j_metRZ (by decide +kernel) rfl (Nat.le_of_ble_eq_true rfl) ?_
  intro p e s m args below meth c Q hx hb hml hown hts hK hW hRet ls hl
  have hl : lv_has ls 1 [(0, .int (jI x0))] := hl
  refine lv_iload_n hx hb dX12_isByte_0 rfl (lv_at hl 0 rfl) ?_
  refine j_bi hx hb dX12_isByte_1 (by decide) ?_
  refine j_bi hx hb dX12_isByte_3 (by decide) ?_
  refine j_cR (j_runS (As := [.int (jI x0), .int (jI 33), .int (jI 126)]) (rest := []) hx hb hml hown hts hK hW (kX12_in l hS σ (x0 := x0) (r0 := (by omega)) (x1 := 33) (r1 := (by decide)) (x2 := 126) (r2 := (by decide))) 3 gX12_isByte_X12_in rfl hsX12_in ⟨Nat.le_of_ble_eq_true rfl, Nat.le_of_ble_eq_true rfl⟩ rfl rfl rfl hl.1 rfl (Nat.le_of_ble_eq_true rfl) dX12_isByte_5 ⟨Nat.le_of_ble_eq_true rfl, Nat.le_of_ble_eq_true rfl⟩) (fun v_1 rv_1 pv_1 => ?_)
  try dsimp only at pv_1
  have q_in := pv_1
  refine j_if_eq (tgt := 39) hx hb (by omega) dX12_isByte_8 (by decide) (fun c_2 => ?_) (fun c_2 => ?_)
  · refine j_const hx hb dX12_isByte_39 ?_
    exact hRet 40 _ 0 dX12_isByte_40 (by omega) (by omega)
  · refine lv_iload_n hx hb dX12_isByte_11 rfl (lv_at hl 0 rfl) ?_
    refine j_bi hx hb dX12_isByte_12 (by decide) ?_
    refine j_icmp_eq (tgt := 39) hx hb (by omega) (by decide) dX12_isByte_14 (by decide) (fun c_3 => ?_) (fun c_3 => ?_)
    · refine j_const hx hb dX12_isByte_39 ?_
      exact hRet 40 _ 0 dX12_isByte_40 (by omega) (by omega)
    · refine lv_iload_n hx hb dX12_isByte_17 rfl (lv_at hl 0 rfl) ?_
      refine j_bi hx hb dX12_isByte_18 (by decide) ?_
      refine j_icmp_eq (tgt := 39) hx hb (by omega) (by decide) dX12_isByte_20 (by decide) (fun c_4 => ?_) (fun c_4 => ?_)
      · refine j_const hx hb dX12_isByte_39 ?_
        exact hRet 40 _ 0 dX12_isByte_40 (by omega) (by omega)
      · refine lv_iload_n hx hb dX12_isByte_23 rfl (lv_at hl 0 rfl) ?_
        refine j_bi hx hb dX12_isByte_24 (by decide) ?_
        refine j_icmp_eq (tgt := 39) hx hb (by omega) (by decide) dX12_isByte_26 (by decide) (fun c_5 => ?_) (fun c_5 => ?_)
        · refine j_const hx hb dX12_isByte_39 ?_
          exact hRet 40 _ 0 dX12_isByte_40 (by omega) (by omega)
        · refine lv_iload_n hx hb dX12_isByte_29 rfl (lv_at hl 0 rfl) ?_
          refine j_bi hx hb dX12_isByte_30 (by decide) ?_
          refine j_icmp_eq (tgt := 39) hx hb (by omega) (by decide) dX12_isByte_32 (by decide) (fun c_6 => ?_) (fun c_6 => ?_)
          · refine j_const hx hb dX12_isByte_39 ?_
            exact hRet 40 _ 0 dX12_isByte_40 (by omega) (by omega)
          · refine j_const hx hb dX12_isByte_35 ?_
            refine lv_goto (tgt := 40) hx hb dX12_isByte_36 (by decide) ?_
            exact hRet 40 _ 1 dX12_isByte_40 (by omega) (by omega)
theorem flX12_isLong_147 : Cond.fieldLink RX12 147 "PageTrieModel" "taped" "I" ∈ wsX12_isLong := List.mem_of_getElem? (i := 1) rfl
theorem inX12_isLong_X12 : ∀ w ∈ u_ws RX12 TX12 41, w ∈ wsX12_isLong := mem_r _ [6, 7, 8, 9, 10, 11, 12, 13, 14, 15, 16, 17, 18, 19, 20, 21, 22, 23, 24, 25, 26, 27, 28, 29, 30, 31, 32, 33, 34, 35, 36, 37, 38, 39, 40, 41, 42, 43, 44, 45, 46] rfl
theorem hvX12_isLong : yX12_isLong.cls = RX12 ∧ yX12_isLong.cls ≠ "java/lang/invoke/MethodHandle" ∧ yX12_isLong.cls ≠ "java/lang/invoke/VarHandle" ∧ (parseMethodDescriptor yX12_isLong.desc).map (fun d => d.parameters.length) = some 1 := by decide +kernel
set_option maxHeartbeats 4000000 in
set_option maxRecDepth 100000 in
theorem kX12_isLong (l : Launch) {D : va_G} {cA : Nat → ClassId} {τ : Nat → Nat} {G : Nat → Nat → Nat} {L : List Nat} (hS : SW τ G L) (σ : Nat → Nat → Int) {a0 : Nat} (h0 : τ a0 = 13) {x1 : Int} (r1 : rg x1) : Met l yX12_isLong wsX12_isLong ({ frames := 1, cells := 0, slots := 0, locals := 22 }) (jP D cA τ G L σ [.ref a0, .int (jI x1)]) (jQR (fun r => (0 ≤ r ∧ r ≤ 1) ∧ ((r = 1 ↔ (1 ≤ x1 ∧ x1 ≤ 24 ∧ x1 ≤ σ a0 11))))) 0 0 (fun _ => False) := by
  refine j_metRZ (by decide +kernel) rfl (Nat.le_of_ble_eq_true rfl) ?_
  intro p e s m args below meth c Q hx hb hml hown hts hK hW hRet ls hl
  have hl : lv_has ls 2 [(0, .ref a0), (1, .int (jI x1))] := hl
  refine lv_iload_n hx hb dX12_isLong_0 rfl (lv_at hl 1 rfl) ?_
  refine j_const hx hb dX12_isLong_1 ?_
  refine j_bi hx hb dX12_isLong_2 (by decide) ?_
  refine j_cR (j_runS (As := [.int (jI x1), .int (jI 1), .int (jI 24)]) (rest := []) hx hb hml hown hts hK hW (kX12_in l hS σ (x0 := x1) (r0 := (by omega)) (x1 := 1) (r1 := (by decide)) (x2 := 24) (r2 := (by decide))) 3 gX12_isLong_X12_in rfl hsX12_in ⟨Nat.le_of_ble_eq_true rfl, Nat.le_of_ble_eq_true rfl⟩ rfl rfl rfl hl.1 rfl (Nat.le_of_ble_eq_true rfl) dX12_isLong_4 ⟨Nat.le_of_ble_eq_true rfl, Nat.le_of_ble_eq_true rfl⟩) (fun v_1 rv_1 pv_1 => ?_)
  try dsimp only at pv_1
  have q_in := pv_1
  refine j_if_eq (tgt := 22) hx hb (by omega) dX12_isLong_7 (by decide) (fun c_2 => ?_) (fun c_2 => ?_)
  · refine j_const hx hb dX12_isLong_22 ?_
    exact hRet 23 _ 0 dX12_isLong_23 (by omega) (by omega)
  · refine lv_iload_n hx hb dX12_isLong_10 rfl (lv_at hl 1 rfl) ?_
    refine lv_aload_n hx hb dX12_isLong_11 rfl (lv_at hl 0 rfl) ?_
    refine j_getI hx hb (C := RX12) (T := TX12) (N := 41) hts inX12_isLong_X12 hown hK hS hW h0 rfl 11 rfl rfl (by decide) (hts _ flX12_isLong_147) dX12_isLong_12 ?_
    have := fbd hW h0 (k := 11) (lo := 0) (hi := 240) rfl rfl
    refine j_icmp_gt (tgt := 22) hx hb (by omega) (by omega) dX12_isLong_15 (by decide) (fun c_3 => ?_) (fun c_3 => ?_)
    · refine j_const hx hb dX12_isLong_22 ?_
      exact hRet 23 _ 0 dX12_isLong_23 (by omega) (by omega)
    · refine j_const hx hb dX12_isLong_18 ?_
      refine lv_goto (tgt := 23) hx hb dX12_isLong_19 (by decide) ?_
      exact hRet 23 _ 1 dX12_isLong_23 (by omega) (by omega)
abbrev wr_X12_takesKey : List Nat := [13003, 13011, 41000]
theorem flX12_takesKey_13 : Cond.fieldLink RX12 13 "PageTrieModel" "hand" "[I" ∈ wsX12_takesKey := List.mem_of_getElem? (i := 3) rfl
theorem flX12_takesKey_22 : Cond.fieldLink RX12 22 "PageTrieModel" "tape" "[B" ∈ wsX12_takesKey := List.mem_of_getElem? (i := 4) rfl
theorem flX12_takesKey_70 : Cond.fieldLink RX12 70 "PageTrieModel" "handLong" "I" ∈ wsX12_takesKey := List.mem_of_getElem? (i := 2) rfl
theorem flX12_takesKey_147 : Cond.fieldLink RX12 147 "PageTrieModel" "taped" "I" ∈ wsX12_takesKey := List.mem_of_getElem? (i := 1) rfl
theorem inX12_takesKey_X12 : ∀ w ∈ u_ws RX12 TX12 41, w ∈ wsX12_takesKey := mem_r _ [12, 13, 14, 15, 16, 17, 18, 19, 20, 21, 22, 23, 24, 25, 26, 27, 28, 29, 30, 31, 32, 33, 34, 35, 36, 37, 38, 39, 40, 41, 42, 43, 44, 45, 46, 47, 48, 49, 50, 51, 52] rfl
theorem hvX12_takesKey : yX12_takesKey.cls = RX12 ∧ yX12_takesKey.cls ≠ "java/lang/invoke/MethodHandle" ∧ yX12_takesKey.cls ≠ "java/lang/invoke/VarHandle" ∧ (parseMethodDescriptor yX12_takesKey.desc).map (fun d => d.parameters.length) = some 1 := by decide +kernel
set_option maxHeartbeats 4000000 in
set_option maxRecDepth 100000 in
theorem kX12_takesKey (l : Launch) {D : va_G} {cA : Nat → ClassId} {τ : Nat → Nat} {G : Nat → Nat → Nat} {L : List Nat} (hS : SW τ G L) (σ : Nat → Nat → Int) {a0 : Nat} (h0 : τ a0 = 13) {x1 : Int} (r1 : rg x1) (q0 : 1 ≤ x1) (q1 : x1 ≤ 24) : Met l yX12_takesKey wsX12_takesKey ({ frames := 2, cells := 0, slots := 0, locals := 42 }) (jP D cA τ G L σ [.ref a0, .int (jI x1)]) (jQI D cA τ G L (fun r σ' => (0 ≤ r ∧ r ≤ 1) ∧ (((σ' a0 3 = x1)) ∧ fr wr_X12_takesKey τ σ σ'))) 0 0 (fun q => q ∈ L) := by
  refine j_metZ (by decide +kernel) rfl (Nat.le_of_ble_eq_true rfl) ?_
  intro p e s m args below meth c Q hx hb hml hown hts hK hW hRet ls hl
  have hl : lv_has ls 4 [(0, .ref a0), (1, .int (jI x1))] := hl
  have hA : ∀ q ∈ L, (fun q => q ∈ L) q := fun _ h => h
  have hF : va_S (fun q => q ∈ L) s.heap s.heap [] := va_S.rf
  have hR : fr wr_X12_takesKey τ σ σ := fr_rf
  refine lv_aload_n hx hb dX12_takesKey_0 rfl (lv_at hl 0 rfl) ?_
  refine j_const hx hb dX12_takesKey_1 ?_
  refine j_putI hx hb (C := RX12) (T := TX12) (N := 41) hts inX12_takesKey_X12 tyX12 tyX12_ok nmX12 hown hK hS hA hW hF h0 rfl 11 (lo := 0) (hi := 240) rfl rfl (by decide) (hts _ flX12_takesKey_147) rfl .int rfl (by omega) rfl rfl dX12_takesKey_2 (fun σ_1 H locs e_2 hW hF => ?_)
  have hR := fr_up hR e_2 h0 13011 rfl (by decide)
  have Ehl : σ_1 a0 3 = σ a0 3 := fld_up e_2 h0 h0 (fun q => absurd q.2 (by decide))
  have hfk : σ_1 a0 11 = 0 := by rw [e_2]; exact up2_at _ _ _ _
  refine lv_aload_n hx hb dX12_takesKey_5 rfl (lv_at hl 0 rfl) ?_
  refine lv_iload_n hx hb dX12_takesKey_6 rfl (lv_at hl 1 rfl) ?_
  refine j_putI hx hb (C := RX12) (T := TX12) (N := 41) hts inX12_takesKey_X12 tyX12 tyX12_ok nmX12 hown hK hS hA hW hF h0 rfl 3 (lo := 0) (hi := 24) rfl rfl (by decide) (hts _ flX12_takesKey_70) rfl .int rfl (by omega) rfl rfl dX12_takesKey_7 (fun σ_3 H locs e_4 hW hF => ?_)
  have hR := fr_up hR e_4 h0 13003 rfl (by decide)
  have hfk : σ_3 a0 3 = x1 := by rw [e_4]; exact up2_at _ _ _ _
  have hx3 := hfk
  refine j_const hx hb dX12_takesKey_10 ?_
  refine lv_istore_n (lv' := [(2, .int (jI 1)), (0, .ref a0), (1, .int (jI x1))]) hx hb dX12_takesKey_11 rfl hl (by decide) rfl (fun ls hl => ?_)
  refine j_const hx hb dX12_takesKey_12 ?_
  refine lv_istore_n (lv' := [(3, .int (jI 0)), (2, .int (jI 1)), (0, .ref a0), (1, .int (jI x1))]) hx hb dX12_takesKey_13 rfl hl (by decide) rfl (fun ls hl => ?_)
  have L_14 : ∀ (N : Nat) (v2_14 v3_14 : Int) (σL_14 : Nat → Nat → Int) (H : Heap) (locs : List Loc) (ls : Array Slot), N = (2147483647 - v3_14 : Int).toNat → (0 ≤ v3_14) → (0 ≤ v2_14) → (v2_14 ≤ 1) → rg v2_14 → rg v3_14 → PW D cA τ G L σL_14 H → va_S (fun q => q ∈ L) s.heap H locs → fr wr_X12_takesKey τ σ σL_14 → σL_14 a0 3 = σ_3 a0 3 → lv_has ls 4 [(0, .ref a0), (1, .int (jI x1)), (2, .int (jI v2_14)), (3, .int (jI v3_14))] → W p l e ({ frames := 2, cells := 0, slots := 0, locals := 42 }) s m args below meth c H locs 0 0 Q (F0 m 14 ls []) := by
    intro N
    induction N using Nat.strongRecOn with
    | ind N ih_14 =>
      intro v2_14 v3_14 σL_14 H locs ls hN i0_14 i1_14 i2_14 rv2_14 rv3_14 hW hF hR Ehl hl
      refine lv_iload_n hx hb dX12_takesKey_14 rfl (lv_at hl 3 rfl) ?_
      refine lv_iload_n hx hb dX12_takesKey_15 rfl (lv_at hl 1 rfl) ?_
      refine j_icmp_ge (tgt := 63) hx hb (by omega) (by omega) dX12_takesKey_16 (by decide) (fun c_5 => ?_) (fun c_5 => ?_)
      · refine lv_iload_n hx hb dX12_takesKey_63 rfl (lv_at hl 2 rfl) ?_
        exact hRet 64 _ _ _ v2_14 _ dX12_takesKey_64 hW hF (by omega) ⟨(by omega), hR⟩
      · refine lv_aload_n hx hb dX12_takesKey_19 rfl (lv_at hl 0 rfl) ?_
        refine j_getR hx hb (C := RX12) (T := TX12) (N := 41) hts inX12_takesKey_X12 hown hK hS hW h0 rfl 2 rfl rfl (by decide) (hts _ flX12_takesKey_13) dX12_takesKey_20 ?_
        have h_6 : τ (G a0 2) = 41 := gty hS h0 (k := 2) rfl rfl
        refine lv_iload_n hx hb dX12_takesKey_23 rfl (lv_at hl 3 rfl) ?_
        refine lv_aload_n hx hb dX12_takesKey_24 rfl (lv_at hl 0 rfl) ?_
        refine j_getR hx hb (C := RX12) (T := TX12) (N := 41) hts inX12_takesKey_X12 hown hK hS hW h0 rfl 10 rfl rfl (by decide) (hts _ flX12_takesKey_22) dX12_takesKey_25 ?_
        have h_7 : τ (G a0 10) = 44 := gty hS h0 (k := 10) rfl rfl
        refine lv_iload_n hx hb dX12_takesKey_28 rfl (lv_at hl 3 rfl) ?_
        refine j_bald hx hb hK hS hW h_7 (n := 240) rfl (by omega) (by omega) (by decide) dX12_takesKey_29 ?_
        have := abd hW h_7 (n := 240) (lo := -128) (hi := 127) (i := v3_14) rfl (by omega) (by omega)
        refine j_si hx hb dX12_takesKey_30 (by decide) ?_
        refine j_and255 hx hb dX12_takesKey_33 ?_
        refine j_ast hx hb hK hS hA hW hF h_6 (n := 24) (lo := 0) (hi := 255) rfl (by omega) (by omega) (by decide) (by omega) dX12_takesKey_34 (fun σ_8 H locs e_9 hW hF => ?_)
        have st_hand := e_9
        have hR := fr_up hR e_9 h_6 41000 (cdA 41 (by decide) _) (by decide)
        have Ehl : σ_8 a0 3 = σ_3 a0 3 := (fld_up e_9 h_6 h0 (fun q => absurd q.1 (by decide))).trans Ehl
        refine lv_iload_n hx hb dX12_takesKey_35 rfl (lv_at hl 2 rfl) ?_
        have L_56 : ∀ (t0_56 : Int) (ls : Array Slot), (0 ≤ t0_56) → (t0_56 ≤ 1) → rg t0_56 → lv_has ls 4 [(0, .ref a0), (1, .int (jI x1)), (3, .int (jI v3_14))] → W p l e ({ frames := 2, cells := 0, slots := 0, locals := 42 }) s m args below meth c H locs 0 0 Q (F0 m 56 ls [.int (jI t0_56)]) := by
          intro t0_56 ls i0_56 i1_56 rt0_56 hl
          refine lv_istore_n (lv' := [(2, .int (jI t0_56)), (0, .ref a0), (1, .int (jI x1)), (3, .int (jI v3_14))]) hx hb dX12_takesKey_56 rfl hl (by decide) rfl (fun ls hl => ?_)
          refine j_iinc (lv' := [(3, .int (jI (v3_14 + 1))), (2, .int (jI t0_56)), (0, .ref a0), (1, .int (jI x1))]) hx hb dX12_takesKey_57 hl (k := 3) rfl (by decide) rfl (fun ls hl => ?_)
          refine lv_goto (tgt := 14) hx hb dX12_takesKey_60 (by decide) ?_
          exact ih_14 ((2147483647 - (v3_14 + 1) : Int).toNat) (by omega) t0_56 (v3_14 + 1) σ_8 _ _ _ rfl (by omega) (by omega) (by omega) (by omega) (by omega) hW hF hR Ehl (lv_sub hl [2, 3, 1, 0] rfl)
        refine j_if_eq (tgt := 55) hx hb (by omega) dX12_takesKey_36 (by decide) (fun c_10 => ?_) (fun c_10 => ?_)
        · refine j_const hx hb dX12_takesKey_55 ?_
          exact L_56 0 _ (by omega) (by omega) (by decide) (lv_sub hl [0, 1, 3] rfl)
        · refine lv_aload_n hx hb dX12_takesKey_39 rfl (lv_at hl 0 rfl) ?_
          refine j_getR hx hb (C := RX12) (T := TX12) (N := 41) hts inX12_takesKey_X12 hown hK hS hW h0 rfl 2 rfl rfl (by decide) (hts _ flX12_takesKey_13) dX12_takesKey_40 ?_
          refine lv_iload_n hx hb dX12_takesKey_43 rfl (lv_at hl 3 rfl) ?_
          refine j_ald hx hb hK hS hW h_6 (n := 24) rfl (by omega) (by omega) (by decide) dX12_takesKey_44 ?_
          have := abd hW h_6 (n := 24) (lo := 0) (hi := 255) (i := v3_14) rfl (by omega) (by omega)
          refine j_cR (j_runS (As := [.int (jI (σ_8 (G a0 2) (v3_14).toNat))]) (rest := []) hx hb hml hown hts hK hW (kX12_isByte l hS σ_8 (x0 := σ_8 (G a0 2) (v3_14).toNat) (r0 := (by omega))) 1 gX12_takesKey_X12_isByte rfl hsX12_isByte ⟨Nat.le_of_ble_eq_true rfl, Nat.le_of_ble_eq_true rfl⟩ rfl rfl rfl hl.1 rfl (Nat.le_of_ble_eq_true rfl) dX12_takesKey_45 ⟨Nat.le_of_ble_eq_true rfl, Nat.le_of_ble_eq_true rfl⟩) (fun v_11 rv_11 pv_11 => ?_)
          try dsimp only at pv_11
          try simp only [Ehl] at pv_11
          have q_isByte := pv_11
          refine j_if_eq (tgt := 55) hx hb (by omega) dX12_takesKey_48 (by decide) (fun c_12 => ?_) (fun c_12 => ?_)
          · refine j_const hx hb dX12_takesKey_55 ?_
            exact L_56 0 _ (by omega) (by omega) (by decide) (lv_sub hl [0, 1, 3] rfl)
          · refine j_const hx hb dX12_takesKey_51 ?_
            refine lv_goto (tgt := 56) hx hb dX12_takesKey_52 (by decide) ?_
            exact L_56 1 _ (by omega) (by omega) (by decide) (lv_sub hl [0, 1, 3] rfl)
  exact L_14 ((2147483647 - 0 : Int).toNat) 1 0 σ_3 _ _ _ rfl (by omega) (by omega) (by omega) (by decide) (by decide) hW hF hR rfl (lv_sub hl [2, 3, 1, 0] rfl)
abbrev wr_X12_putsHand : List Nat := [13004, 13005, 13008, 13009, 40000, 42000, 43000]
theorem hvX12_putsHand : yX12_putsHand.cls = RX12 ∧ yX12_putsHand.cls ≠ "java/lang/invoke/MethodHandle" ∧ yX12_putsHand.cls ≠ "java/lang/invoke/VarHandle" ∧ (parseMethodDescriptor yX12_putsHand.desc).map (fun d => d.parameters.length) = some 1 := by decide +kernel
set_option maxHeartbeats 4000000 in
set_option maxRecDepth 100000 in
theorem kX12_putsHand (l : Launch) {D : va_G} {cA : Nat → ClassId} {τ : Nat → Nat} {G : Nat → Nat → Nat} {L : List Nat} (hS : SW τ G L) (σ : Nat → Nat → Int) {a0 : Nat} (h0 : τ a0 = 13) {x1 : Int} (r1 : rg x1) (hI : FI G a0 σ) (q0 : FM (σ (G a0 0))) (q1 : 1 ≤ σ a0 3) : Met l yX12_putsHand wsX12_putsHand ({ frames := 5, cells := 0, slots := 0, locals := 115 }) (jP D cA τ G L σ [.ref a0, .int (jI x1)]) (jQI D cA τ G L (fun r σ' => ((FI G a0 σ') ∧ (FM (σ' (G a0 0))) ∧ (∀ q : Nat, 4290 ≤ q → σ' (G a0 0) q = σ (G a0 0) q)) ∧ fr wr_X12_putsHand τ σ σ')) 0 0 (fun q => q ∈ L) := by
  refine j_metI (by decide +kernel) rfl (Nat.le_of_ble_eq_true rfl) ?_
  intro p e s m args below meth c Q hx hb hml hown hts hK hW hRet ls hl
  have hl : lv_has ls 4 [(0, .ref a0), (1, .int (jI x1))] := hl
  have hA : ∀ q ∈ L, (fun q => q ∈ L) q := fun _ h => h
  have hF : va_S (fun q => q ∈ L) s.heap s.heap [] := va_S.rf
  have hR : fr wr_X12_putsHand τ σ σ := fr_rf
  have hk_file : τ (G a0 0) = 40 := gty hS h0 (k := 0) rfl rfl
  have hk_hand : τ (G a0 2) = 41 := gty hS h0 (k := 2) rfl rfl
  have := FI_bd hI
  have := fbd hW h0 (k := 3) (lo := 0) (hi := 24) rfl rfl
  refine lv_aload_n hx hb dX12_putsHand_0 rfl (lv_at hl 0 rfl) ?_
  refine j_cR (j_runV (As := []) (rest := []) hx hb hml hown hts hK hS hW (kX12_isHandThere l hS σ (a0 := a0) (h0 := h0) (hI := hI)) 0 gX12_putsHand_X12_isHandThere rfl hvX12_isHandThere ⟨Nat.le_of_ble_eq_true rfl, Nat.le_of_ble_eq_true rfl⟩ rfl rfl h0 rfl rfl rfl rfl hl.1 rfl (Nat.le_of_ble_eq_true rfl) dX12_putsHand_1 ⟨Nat.le_of_ble_eq_true rfl, Nat.le_of_ble_eq_true rfl⟩) (fun v_1 rv_1 pv_1 => ?_)
  try dsimp only at pv_1
  have q_isHandThere := pv_1
  refine j_if_eq (tgt := 28) hx hb (by omega) dX12_putsHand_4 (by decide) (fun c_2 => ?_) (fun c_2 => ?_)
  · refine lv_aload_n hx hb dX12_putsHand_28 rfl (lv_at hl 0 rfl) ?_
    refine j_cR (j_runV (As := []) (rest := []) hx hb hml hown hts hK hS hW (kX12_many l hS σ (a0 := a0) (h0 := h0)) 0 gX12_putsHand_X12_many rfl hvX12_many ⟨Nat.le_of_ble_eq_true rfl, Nat.le_of_ble_eq_true rfl⟩ rfl rfl h0 rfl rfl rfl rfl hl.1 rfl (Nat.le_of_ble_eq_true rfl) dX12_putsHand_29 ⟨Nat.le_of_ble_eq_true rfl, Nat.le_of_ble_eq_true rfl⟩) (fun v_3 rv_3 pv_3 => ?_)
    try dsimp only at pv_3
    have q_many := pv_3
    have := FI_bd hI
    refine j_si hx hb dX12_putsHand_32 (by decide) ?_
    refine j_icmp_ne (tgt := 41) hx hb (by omega) (by decide) dX12_putsHand_35 (by decide) (fun c_4 => ?_) (fun c_4 => ?_)
    · obtain ⟨tz, htz⟩ := PL_ex (n := σ (G a0 0) 0) (lh := σ a0 3) (fh := hB (σ (G a0 2))) (by omega) hI.1.2.2.2.2.2 hI.1.2.2.2.1 (by omega) (fun z => by have := q_isHandThere.2.mpr z; omega)
      refine lv_aload_n hx hb dX12_putsHand_41 rfl (lv_at hl 0 rfl) ?_
      refine lv_iload_n hx hb dX12_putsHand_42 rfl (lv_at hl 1 rfl) ?_
      refine j_cV (j_runV (As := [.int (jI x1)]) (rest := []) hx hb hml hown hts hK hS hW (kX12_comes l hS σ (a0 := a0) (h0 := h0) (x1 := x1) (r1 := (by omega)) (t := tz) (hI := hI) (q0 := htz) (q1 := q0) (q2 := (by omega)) (q3 := (by omega))) 1 gX12_putsHand_X12_comes rfl hvX12_comes ⟨Nat.le_of_ble_eq_true rfl, Nat.le_of_ble_eq_true rfl⟩ rfl rfl h0 rfl rfl rfl rfl hl.1 rfl (Nat.le_of_ble_eq_true rfl) dX12_putsHand_43 ⟨Nat.le_of_ble_eq_true rfl, Nat.le_of_ble_eq_true rfl⟩) hA hF (fun σ_5 H locs hW hF pσ_5 => ?_)
      try dsimp only at pσ_5
      obtain ⟨pσ_5, fpσ_5⟩ := pσ_5
      have q_comes := pσ_5
      have hR := fr_call hR fpσ_5 (by decide)
      have Ehl : σ_5 a0 3 = σ a0 3 := fr_at fpσ_5 h0 3 13003 rfl (by decide)
      have Ehand : σ_5 (G a0 2) = σ (G a0 2) := row_fr fpσ_5 hk_hand 41 (by decide) (by decide)
      have Ekept : σ_5 a0 1 = σ a0 1 := fr_at fpσ_5 h0 1 13001 rfl (by decide)
      refine j_bi hx hb dX12_putsHand_46 (by decide) ?_
      exact hRet 48 _ _ _ (-3) _ dX12_putsHand_48 hW hF (by decide) ⟨(by first | exact ⟨q_comes.1, q_comes.2.1, fun q hq => q_comes.2.2.2.2.2.2.2 q (by omega)⟩ | (simp only [Ehl, Ehand, Ekept]; exact ⟨q_comes.1, q_comes.2.1, fun q hq => q_comes.2.2.2.2.2.2.2 q (by omega)⟩)), hR⟩
    · refine j_bi hx hb dX12_putsHand_38 (by decide) ?_
      exact hRet 40 _ _ _ (-4) _ dX12_putsHand_40 hW hF (by decide) ⟨⟨hI, q0, fun _ _ => rfl⟩, hR⟩
  · refine lv_aload_n hx hb dX12_putsHand_7 rfl (lv_at hl 0 rfl) ?_
    refine j_cR (j_runV (As := []) (rest := []) hx hb hml hown hts hK hS hW (kX12_rankOfHand l hS σ (a0 := a0) (h0 := h0) (hI := hI)) 0 gX12_putsHand_X12_rankOfHand rfl hvX12_rankOfHand ⟨Nat.le_of_ble_eq_true rfl, Nat.le_of_ble_eq_true rfl⟩ rfl rfl h0 rfl rfl rfl rfl hl.1 rfl (Nat.le_of_ble_eq_true rfl) dX12_putsHand_8 ⟨Nat.le_of_ble_eq_true rfl, Nat.le_of_ble_eq_true rfl⟩) (fun v_6 rv_6 pv_6 => ?_)
    try dsimp only at pv_6
    have q_rankOfHand := pv_6
    have : 0 ≤ v_6 ∧ v_6 ≤ σ (G a0 0) 0 := ⟨pv_6.1, pv_6.2.1⟩
    have hrk := TH_rank q_rankOfHand (q_isHandThere.2.mp (by omega))
    refine lv_istore_n (lv' := [(2, .int (jI v_6)), (0, .ref a0), (1, .int (jI x1))]) hx hb dX12_putsHand_11 rfl hl (by decide) rfl (fun ls hl => ?_)
    refine lv_aload_n hx hb dX12_putsHand_12 rfl (lv_at hl 1 rfl) ?_
    refine lv_iload_n hx hb dX12_putsHand_13 rfl (lv_at hl 0 rfl) ?_
    refine j_const hx hb dX12_putsHand_14 ?_
    refine j_cR (j_runV (As := [.int (jI v_6), .int (jI 1)]) (rest := []) hx hb hml hown hts hK hS hW (kX12_of l hS σ (a0 := a0) (h0 := h0) (x1 := v_6) (r1 := (by omega)) (x2 := 1) (r2 := (by decide)) (q0 := (by omega)) (q1 := (by omega))) 2 gX12_putsHand_X12_of rfl hvX12_of ⟨Nat.le_of_ble_eq_true rfl, Nat.le_of_ble_eq_true rfl⟩ rfl rfl h0 rfl rfl rfl rfl hl.1 rfl (Nat.le_of_ble_eq_true rfl) dX12_putsHand_15 ⟨Nat.le_of_ble_eq_true rfl, Nat.le_of_ble_eq_true rfl⟩) (fun v_7 rv_7 pv_7 => ?_)
    try dsimp only at pv_7
    have q_of := pv_7
    refine lv_istore_n (lv' := [(3, .int (jI v_7)), (2, .int (jI v_6)), (0, .ref a0), (1, .int (jI x1))]) hx hb dX12_putsHand_18 rfl hl (by decide) rfl (fun ls hl => ?_)
    refine lv_aload_n hx hb dX12_putsHand_19 rfl (lv_at hl 2 rfl) ?_
    refine lv_iload_n hx hb dX12_putsHand_20 rfl (lv_at hl 1 rfl) ?_
    refine j_const hx hb dX12_putsHand_21 ?_
    refine lv_iload_n hx hb dX12_putsHand_22 rfl (lv_at hl 3 rfl) ?_
    refine j_cV (j_runV (As := [.int (jI v_6), .int (jI 1), .int (jI x1)]) (rest := []) hx hb hml hown hts hK hS hW (kX12_sets l hS σ (a0 := a0) (h0 := h0) (x1 := v_6) (r1 := (by omega)) (x2 := 1) (r2 := (by decide)) (x3 := x1) (r3 := (by omega)) (q0 := (by omega)) (q1 := (by omega))) 3 gX12_putsHand_X12_sets rfl hvX12_sets ⟨Nat.le_of_ble_eq_true rfl, Nat.le_of_ble_eq_true rfl⟩ rfl rfl h0 rfl rfl rfl rfl hl.1 rfl (Nat.le_of_ble_eq_true rfl) dX12_putsHand_23 ⟨Nat.le_of_ble_eq_true rfl, Nat.le_of_ble_eq_true rfl⟩) hA hF (fun σ_8 H locs hW hF pσ_8 => ?_)
    try dsimp only at pσ_8
    obtain ⟨pσ_8, fpσ_8⟩ := pσ_8
    have q_sets := pσ_8
    have hR := fr_call hR fpσ_8 (by decide)
    have Ehl : σ_8 a0 3 = σ a0 3 := fr_at fpσ_8 h0 3 13003 rfl (by decide)
    have Ehand : σ_8 (G a0 2) = σ (G a0 2) := row_fr fpσ_8 hk_hand 41 (by decide) (by decide)
    have Ekept : σ_8 a0 1 = σ a0 1 := fr_at fpσ_8 h0 1 13001 rfl (by decide)
    have hrow := st_row q_sets (by omega) (by omega) (by omega)
    have hat_ := st_at q_sets
    have hoth := st_oth q_sets (by omega) (by omega) (by omega) (by omega)
    try simp only [Efile] at hrow hoth
    have hfv := FI_val hI q0 q_sets (by omega) (by omega) Ekept
    refine lv_iload_n hx hb dX12_putsHand_26 rfl (lv_at hl 0 rfl) ?_
    exact hRet 27 _ _ _ v_7 _ dX12_putsHand_27 hW hF (by omega) ⟨(by first | exact ⟨hfv.1, hfv.2, fun q hq => st_oth q_sets (by omega) (by omega) (by omega) (by omega) q (by omega)⟩ | (simp only [Ehl, Ehand, Ekept]; exact ⟨hfv.1, hfv.2, fun q hq => st_oth q_sets (by omega) (by omega) (by omega) (by omega) q (by omega)⟩)), hR⟩
abbrev wr_X12_put : List Nat := [13003, 13004, 13005, 13008, 13009, 13011, 40000, 41000, 42000, 43000]
theorem hvX12_put : yX12_put.cls = RX12 ∧ yX12_put.cls ≠ "java/lang/invoke/MethodHandle" ∧ yX12_put.cls ≠ "java/lang/invoke/VarHandle" ∧ (parseMethodDescriptor yX12_put.desc).map (fun d => d.parameters.length) = some 2 := by decide +kernel
set_option maxHeartbeats 4000000 in
set_option maxRecDepth 100000 in
theorem kX12_put (l : Launch) {D : va_G} {cA : Nat → ClassId} {τ : Nat → Nat} {G : Nat → Nat → Nat} {L : List Nat} (hS : SW τ G L) (σ : Nat → Nat → Int) {a0 : Nat} (h0 : τ a0 = 13) {x1 : Int} (r1 : rg x1) {x2 : Int} (r2 : rg x2) (hI : FI G a0 σ) (q0 : FM (σ (G a0 0))) : Met l yX12_put wsX12_put ({ frames := 6, cells := 0, slots := 0, locals := 138 }) (jP D cA τ G L σ [.ref a0, .int (jI x1), .int (jI x2)]) (jQI D cA τ G L (fun r σ' => ((FI G a0 σ') ∧ (FM (σ' (G a0 0)))) ∧ fr wr_X12_put τ σ σ')) 0 0 (fun q => q ∈ L) := by
  refine j_metI (by decide +kernel) rfl (Nat.le_of_ble_eq_true rfl) ?_
  intro p e s m args below meth c Q hx hb hml hown hts hK hW hRet ls hl
  have hl : lv_has ls 3 [(0, .ref a0), (1, .int (jI x1)), (2, .int (jI x2))] := hl
  have hA : ∀ q ∈ L, (fun q => q ∈ L) q := fun _ h => h
  have hF : va_S (fun q => q ∈ L) s.heap s.heap [] := va_S.rf
  have hR : fr wr_X12_put τ σ σ := fr_rf
  have hk_file : τ (G a0 0) = 40 := gty hS h0 (k := 0) rfl rfl
  have := FI_bd hI
  have := fbd hW h0 (k := 3) (lo := 0) (hi := 24) rfl rfl
  refine lv_aload_n hx hb dX12_put_0 rfl (lv_at hl 0 rfl) ?_
  refine lv_iload_n hx hb dX12_put_1 rfl (lv_at hl 1 rfl) ?_
  refine j_cR (j_runV (As := [.int (jI x1)]) (rest := []) hx hb hml hown hts hK hS hW (kX12_isLong l hS σ (a0 := a0) (h0 := h0) (x1 := x1) (r1 := (by omega))) 1 gX12_put_X12_isLong rfl hvX12_isLong ⟨Nat.le_of_ble_eq_true rfl, Nat.le_of_ble_eq_true rfl⟩ rfl rfl h0 rfl rfl rfl rfl hl.1 rfl (Nat.le_of_ble_eq_true rfl) dX12_put_2 ⟨Nat.le_of_ble_eq_true rfl, Nat.le_of_ble_eq_true rfl⟩) (fun v_1 rv_1 pv_1 => ?_)
  try dsimp only at pv_1
  have q_isLong := pv_1
  refine j_if_eq (tgt := 18) hx hb (by omega) dX12_put_5 (by decide) (fun c_2 => ?_) (fun c_2 => ?_)
  · refine j_const hx hb dX12_put_18 ?_
    exact hRet 19 _ _ _ (-1) _ dX12_put_19 hW hF (by decide) ⟨⟨hI, q0⟩, hR⟩
  · refine lv_iload_n hx hb dX12_put_8 rfl (lv_at hl 2 rfl) ?_
    refine j_const hx hb dX12_put_9 ?_
    refine j_ldc hx hb hown (hts (.constant RX12 160 (99999)) (by decide +kernel)) (n := 99999) rfl dX12_put_10 ?_
    refine j_cR (j_runS (As := [.int (jI x2), .int (jI 0), .int (jI 99999)]) (rest := []) hx hb hml hown hts hK hW (kX12_in l hS σ (x0 := x2) (r0 := (by omega)) (x1 := 0) (r1 := (by decide)) (x2 := 99999) (r2 := (by decide))) 3 gX12_put_X12_in rfl hsX12_in ⟨Nat.le_of_ble_eq_true rfl, Nat.le_of_ble_eq_true rfl⟩ rfl rfl rfl hl.1 rfl (Nat.le_of_ble_eq_true rfl) dX12_put_12 ⟨Nat.le_of_ble_eq_true rfl, Nat.le_of_ble_eq_true rfl⟩) (fun v_3 rv_3 pv_3 => ?_)
    try dsimp only at pv_3
    have q_in := pv_3
    refine j_if_ne (tgt := 20) hx hb (by omega) dX12_put_15 (by decide) (fun c_4 => ?_) (fun c_4 => ?_)
    · refine lv_aload_n hx hb dX12_put_20 rfl (lv_at hl 0 rfl) ?_
      refine lv_iload_n hx hb dX12_put_21 rfl (lv_at hl 1 rfl) ?_
      refine j_cI (j_runV (As := [.int (jI x1)]) (rest := []) hx hb hml hown hts hK hS hW (kX12_takesKey l hS σ (a0 := a0) (h0 := h0) (x1 := x1) (r1 := (by omega)) (q0 := (by omega)) (q1 := (by omega))) 1 gX12_put_X12_takesKey rfl hvX12_takesKey ⟨Nat.le_of_ble_eq_true rfl, Nat.le_of_ble_eq_true rfl⟩ rfl rfl h0 rfl rfl rfl rfl hl.1 rfl (Nat.le_of_ble_eq_true rfl) dX12_put_22 ⟨Nat.le_of_ble_eq_true rfl, Nat.le_of_ble_eq_true rfl⟩) hA hF (fun v_5 σ_6 H locs hW hF rv_5 pv_5 => ?_)
      try dsimp only at pv_5
      obtain ⟨bpv_5, pv_5, fpv_5⟩ := pv_5
      have q_takesKey := pv_5
      have hR := fr_call hR fpv_5 (by decide)
      have Efile : σ_6 (G a0 0) = σ (G a0 0) := row_fr fpv_5 hk_file 40 (by decide) (by decide)
      have := congrFun Efile 0
      have hI := FI_dep hS h0 hI (kp_fr fpv_5 (by decide))
      refine j_if_ne (tgt := 31) hx hb (by omega) dX12_put_25 (by decide) (fun c_7 => ?_) (fun c_7 => ?_)
      · refine lv_aload_n hx hb dX12_put_31 rfl (lv_at hl 0 rfl) ?_
        refine lv_iload_n hx hb dX12_put_32 rfl (lv_at hl 2 rfl) ?_
        refine j_cI (j_runV (As := [.int (jI x2)]) (rest := []) hx hb hml hown hts hK hS hW (kX12_putsHand l hS σ_6 (a0 := a0) (h0 := h0) (x1 := x2) (r1 := (by omega)) (hI := hI) (q0 := (by first | exact q0 | (rw [Efile]; exact q0))) (q1 := (by omega))) 1 gX12_put_X12_putsHand rfl hvX12_putsHand ⟨Nat.le_of_ble_eq_true rfl, Nat.le_of_ble_eq_true rfl⟩ rfl rfl h0 rfl rfl rfl rfl hl.1 rfl (Nat.le_of_ble_eq_true rfl) dX12_put_33 ⟨Nat.le_of_ble_eq_true rfl, Nat.le_of_ble_eq_true rfl⟩) hA hF (fun v_8 σ_9 H locs hW hF rv_8 pv_8 => ?_)
        try dsimp only at pv_8
        obtain ⟨pv_8, fpv_8⟩ := pv_8
        try simp only [Efile] at pv_8
        have q_putsHand := pv_8
        have hR := fr_call hR fpv_8 (by decide)
        have Ehl : σ_9 a0 3 = σ_6 a0 3 := fr_at fpv_8 h0 3 13003 rfl (by decide)
        exact hRet 36 _ _ _ v_8 _ dX12_put_36 hW hF (by omega) ⟨(by first | exact ⟨q_putsHand.1, q_putsHand.2.1⟩ | (simp only [Ehl]; exact ⟨q_putsHand.1, q_putsHand.2.1⟩)), hR⟩
      · refine j_bi hx hb dX12_put_28 (by decide) ?_
        exact hRet 30 _ _ _ (-2) _ dX12_put_30 hW hF (by decide) ⟨(by first | exact ⟨hI, q0⟩ | (simp only [Efile]; exact ⟨hI, q0⟩)), hR⟩
    · refine j_const hx hb dX12_put_18 ?_
      exact hRet 19 _ _ _ (-1) _ dX12_put_19 hW hF (by decide) ⟨⟨hI, q0⟩, hR⟩
abbrev wr_X12_takesOut : List Nat := [13003, 13004, 13005, 13008, 40000, 41000, 42000, 43000]
theorem hvX12_takesOut : yX12_takesOut.cls = RX12 ∧ yX12_takesOut.cls ≠ "java/lang/invoke/MethodHandle" ∧ yX12_takesOut.cls ≠ "java/lang/invoke/VarHandle" ∧ (parseMethodDescriptor yX12_takesOut.desc).map (fun d => d.parameters.length) = some 0 := by decide +kernel
set_option maxHeartbeats 4000000 in
set_option maxRecDepth 100000 in
theorem kX12_takesOut (l : Launch) {D : va_G} {cA : Nat → ClassId} {τ : Nat → Nat} {G : Nat → Nat → Nat} {L : List Nat} (hS : SW τ G L) (σ : Nat → Nat → Int) {a0 : Nat} (h0 : τ a0 = 13) (hI : FI G a0 σ) (q0 : FM (σ (G a0 0))) : Met l yX12_takesOut wsX12_takesOut ({ frames := 6, cells := 0, slots := 0, locals := 139 }) (jP D cA τ G L σ [.ref a0]) (jQI D cA τ G L (fun r σ' => ((FI G a0 σ') ∧ (FM (σ' (G a0 0))) ∧ (∀ q : Nat, 4290 ≤ q → σ' (G a0 0) q = σ (G a0 0) q)) ∧ fr wr_X12_takesOut τ σ σ')) 0 0 (fun q => q ∈ L) := by
  refine j_metI (by decide +kernel) rfl (Nat.le_of_ble_eq_true rfl) ?_
  intro p e s m args below meth c Q hx hb hml hown hts hK hW hRet ls hl
  have hl : lv_has ls 3 [(0, .ref a0)] := hl
  have hA : ∀ q ∈ L, (fun q => q ∈ L) q := fun _ h => h
  have hF : va_S (fun q => q ∈ L) s.heap s.heap [] := va_S.rf
  have hR : fr wr_X12_takesOut τ σ σ := fr_rf
  have hk_file : τ (G a0 0) = 40 := gty hS h0 (k := 0) rfl rfl
  have := FI_bd hI
  have := fbd hW h0 (k := 3) (lo := 0) (hi := 24) rfl rfl
  refine lv_aload_n hx hb dX12_takesOut_0 rfl (lv_at hl 0 rfl) ?_
  refine j_cR (j_runV (As := []) (rest := []) hx hb hml hown hts hK hS hW (kX12_isHandThere l hS σ (a0 := a0) (h0 := h0) (hI := hI)) 0 gX12_takesOut_X12_isHandThere rfl hvX12_isHandThere ⟨Nat.le_of_ble_eq_true rfl, Nat.le_of_ble_eq_true rfl⟩ rfl rfl h0 rfl rfl rfl rfl hl.1 rfl (Nat.le_of_ble_eq_true rfl) dX12_takesOut_1 ⟨Nat.le_of_ble_eq_true rfl, Nat.le_of_ble_eq_true rfl⟩) (fun v_1 rv_1 pv_1 => ?_)
  try dsimp only at pv_1
  have q_isHandThere := pv_1
  refine j_if_ne (tgt := 10) hx hb (by omega) dX12_takesOut_4 (by decide) (fun c_2 => ?_) (fun c_2 => ?_)
  · refine lv_aload_n hx hb dX12_takesOut_10 rfl (lv_at hl 0 rfl) ?_
    refine j_cR (j_runV (As := []) (rest := []) hx hb hml hown hts hK hS hW (kX12_rankOfHand l hS σ (a0 := a0) (h0 := h0) (hI := hI)) 0 gX12_takesOut_X12_rankOfHand rfl hvX12_rankOfHand ⟨Nat.le_of_ble_eq_true rfl, Nat.le_of_ble_eq_true rfl⟩ rfl rfl h0 rfl rfl rfl rfl hl.1 rfl (Nat.le_of_ble_eq_true rfl) dX12_takesOut_11 ⟨Nat.le_of_ble_eq_true rfl, Nat.le_of_ble_eq_true rfl⟩) (fun v_3 rv_3 pv_3 => ?_)
    try dsimp only at pv_3
    have q_rankOfHand := pv_3
    have : 0 ≤ v_3 ∧ v_3 ≤ σ (G a0 0) 0 := ⟨pv_3.1, pv_3.2.1⟩
    have hrk := TH_rank q_rankOfHand (q_isHandThere.2.mp (by omega))
    refine lv_istore_n (lv' := [(1, .int (jI v_3)), (0, .ref a0)]) hx hb dX12_takesOut_14 rfl hl (by decide) rfl (fun ls hl => ?_)
    refine lv_aload_n hx hb dX12_takesOut_15 rfl (lv_at hl 1 rfl) ?_
    refine lv_iload_n hx hb dX12_takesOut_16 rfl (lv_at hl 0 rfl) ?_
    refine j_const hx hb dX12_takesOut_17 ?_
    refine j_cR (j_runV (As := [.int (jI v_3), .int (jI 1)]) (rest := []) hx hb hml hown hts hK hS hW (kX12_of l hS σ (a0 := a0) (h0 := h0) (x1 := v_3) (r1 := (by omega)) (x2 := 1) (r2 := (by decide)) (q0 := (by omega)) (q1 := (by omega))) 2 gX12_takesOut_X12_of rfl hvX12_of ⟨Nat.le_of_ble_eq_true rfl, Nat.le_of_ble_eq_true rfl⟩ rfl rfl h0 rfl rfl rfl rfl hl.1 rfl (Nat.le_of_ble_eq_true rfl) dX12_takesOut_18 ⟨Nat.le_of_ble_eq_true rfl, Nat.le_of_ble_eq_true rfl⟩) (fun v_4 rv_4 pv_4 => ?_)
    try dsimp only at pv_4
    have q_of := pv_4
    refine lv_istore_n (lv' := [(2, .int (jI v_4)), (1, .int (jI v_3)), (0, .ref a0)]) hx hb dX12_takesOut_21 rfl hl (by decide) rfl (fun ls hl => ?_)
    refine lv_aload_n hx hb dX12_takesOut_22 rfl (lv_at hl 2 rfl) ?_
    refine lv_iload_n hx hb dX12_takesOut_23 rfl (lv_at hl 1 rfl) ?_
    refine j_cV (j_runV (As := [.int (jI v_3)]) (rest := []) hx hb hml hown hts hK hS hW (kX12_goes l hS σ (a0 := a0) (h0 := h0) (x1 := v_3) (r1 := (by omega)) (hI := hI) (q0 := (by omega)) (q1 := (by omega)) (q2 := q0)) 1 gX12_takesOut_X12_goes rfl hvX12_goes ⟨Nat.le_of_ble_eq_true rfl, Nat.le_of_ble_eq_true rfl⟩ rfl rfl h0 rfl rfl rfl rfl hl.1 rfl (Nat.le_of_ble_eq_true rfl) dX12_takesOut_24 ⟨Nat.le_of_ble_eq_true rfl, Nat.le_of_ble_eq_true rfl⟩) hA hF (fun σ_5 H locs hW hF pσ_5 => ?_)
    try dsimp only at pσ_5
    obtain ⟨pσ_5, fpσ_5⟩ := pσ_5
    have q_goes := pσ_5
    have hR := fr_call hR fpσ_5 (by decide)
    refine lv_iload_n hx hb dX12_takesOut_27 rfl (lv_at hl 0 rfl) ?_
    exact hRet 28 _ _ _ v_4 _ dX12_takesOut_28 hW hF (by omega) ⟨⟨q_goes.1, q_goes.2.1, fun q hq => q_goes.2.2.2.2.2 q (by omega)⟩, hR⟩
  · refine j_bi hx hb dX12_takesOut_7 (by decide) ?_
    exact hRet 9 _ _ _ (-3) _ dX12_takesOut_9 hW hF (by decide) ⟨⟨hI, q0, fun _ _ => rfl⟩, hR⟩
abbrev wr_X12_take : List Nat := [13003, 13004, 13005, 13008, 13011, 40000, 41000, 42000, 43000]
theorem hvX12_take : yX12_take.cls = RX12 ∧ yX12_take.cls ≠ "java/lang/invoke/MethodHandle" ∧ yX12_take.cls ≠ "java/lang/invoke/VarHandle" ∧ (parseMethodDescriptor yX12_take.desc).map (fun d => d.parameters.length) = some 1 := by decide +kernel
set_option maxHeartbeats 4000000 in
set_option maxRecDepth 100000 in
theorem kX12_take (l : Launch) {D : va_G} {cA : Nat → ClassId} {τ : Nat → Nat} {G : Nat → Nat → Nat} {L : List Nat} (hS : SW τ G L) (σ : Nat → Nat → Int) {a0 : Nat} (h0 : τ a0 = 13) {x1 : Int} (r1 : rg x1) (hI : FI G a0 σ) (q0 : FM (σ (G a0 0))) : Met l yX12_take wsX12_take ({ frames := 7, cells := 0, slots := 0, locals := 161 }) (jP D cA τ G L σ [.ref a0, .int (jI x1)]) (jQI D cA τ G L (fun r σ' => ((FI G a0 σ') ∧ (FM (σ' (G a0 0)))) ∧ fr wr_X12_take τ σ σ')) 0 0 (fun q => q ∈ L) := by
  refine j_metI (by decide +kernel) rfl (Nat.le_of_ble_eq_true rfl) ?_
  intro p e s m args below meth c Q hx hb hml hown hts hK hW hRet ls hl
  have hl : lv_has ls 2 [(0, .ref a0), (1, .int (jI x1))] := hl
  have hA : ∀ q ∈ L, (fun q => q ∈ L) q := fun _ h => h
  have hF : va_S (fun q => q ∈ L) s.heap s.heap [] := va_S.rf
  have hR : fr wr_X12_take τ σ σ := fr_rf
  have hk_file : τ (G a0 0) = 40 := gty hS h0 (k := 0) rfl rfl
  have := FI_bd hI
  have := fbd hW h0 (k := 3) (lo := 0) (hi := 24) rfl rfl
  refine lv_aload_n hx hb dX12_take_0 rfl (lv_at hl 0 rfl) ?_
  refine lv_iload_n hx hb dX12_take_1 rfl (lv_at hl 1 rfl) ?_
  refine j_cR (j_runV (As := [.int (jI x1)]) (rest := []) hx hb hml hown hts hK hS hW (kX12_isLong l hS σ (a0 := a0) (h0 := h0) (x1 := x1) (r1 := (by omega))) 1 gX12_take_X12_isLong rfl hvX12_isLong ⟨Nat.le_of_ble_eq_true rfl, Nat.le_of_ble_eq_true rfl⟩ rfl rfl h0 rfl rfl rfl rfl hl.1 rfl (Nat.le_of_ble_eq_true rfl) dX12_take_2 ⟨Nat.le_of_ble_eq_true rfl, Nat.le_of_ble_eq_true rfl⟩) (fun v_1 rv_1 pv_1 => ?_)
  try dsimp only at pv_1
  have q_isLong := pv_1
  refine j_if_ne (tgt := 10) hx hb (by omega) dX12_take_5 (by decide) (fun c_2 => ?_) (fun c_2 => ?_)
  · refine lv_aload_n hx hb dX12_take_10 rfl (lv_at hl 0 rfl) ?_
    refine lv_iload_n hx hb dX12_take_11 rfl (lv_at hl 1 rfl) ?_
    refine j_cI (j_runV (As := [.int (jI x1)]) (rest := []) hx hb hml hown hts hK hS hW (kX12_takesKey l hS σ (a0 := a0) (h0 := h0) (x1 := x1) (r1 := (by omega)) (q0 := (by omega)) (q1 := (by omega))) 1 gX12_take_X12_takesKey rfl hvX12_takesKey ⟨Nat.le_of_ble_eq_true rfl, Nat.le_of_ble_eq_true rfl⟩ rfl rfl h0 rfl rfl rfl rfl hl.1 rfl (Nat.le_of_ble_eq_true rfl) dX12_take_12 ⟨Nat.le_of_ble_eq_true rfl, Nat.le_of_ble_eq_true rfl⟩) hA hF (fun v_3 σ_4 H locs hW hF rv_3 pv_3 => ?_)
    try dsimp only at pv_3
    obtain ⟨bpv_3, pv_3, fpv_3⟩ := pv_3
    have q_takesKey := pv_3
    have hR := fr_call hR fpv_3 (by decide)
    have Efile : σ_4 (G a0 0) = σ (G a0 0) := row_fr fpv_3 hk_file 40 (by decide) (by decide)
    have := congrFun Efile 0
    have hI := FI_dep hS h0 hI (kp_fr fpv_3 (by decide))
    refine j_if_eq (tgt := 25) hx hb (by omega) dX12_take_15 (by decide) (fun c_5 => ?_) (fun c_5 => ?_)
    · refine j_bi hx hb dX12_take_25 (by decide) ?_
      exact hRet 27 _ _ _ (-2) _ dX12_take_27 hW hF (by decide) ⟨(by first | exact (by first | exact ⟨q_takesOut.1, q_takesOut.2.1⟩ | exact ⟨hI, q0⟩) | (simp only [Efile]; exact (by first | exact ⟨q_takesOut.1, q_takesOut.2.1⟩ | exact ⟨hI, q0⟩))), hR⟩
    · refine lv_aload_n hx hb dX12_take_18 rfl (lv_at hl 0 rfl) ?_
      refine j_cI (j_runV (As := []) (rest := []) hx hb hml hown hts hK hS hW (kX12_takesOut l hS σ_4 (a0 := a0) (h0 := h0) (hI := hI) (q0 := (by first | exact q0 | (rw [Efile]; exact q0)))) 0 gX12_take_X12_takesOut rfl hvX12_takesOut ⟨Nat.le_of_ble_eq_true rfl, Nat.le_of_ble_eq_true rfl⟩ rfl rfl h0 rfl rfl rfl rfl hl.1 rfl (Nat.le_of_ble_eq_true rfl) dX12_take_19 ⟨Nat.le_of_ble_eq_true rfl, Nat.le_of_ble_eq_true rfl⟩) hA hF (fun v_6 σ_7 H locs hW hF rv_6 pv_6 => ?_)
      try dsimp only at pv_6
      obtain ⟨pv_6, fpv_6⟩ := pv_6
      try simp only [Efile] at pv_6
      have q_takesOut := pv_6
      have hR := fr_call hR fpv_6 (by decide)
      refine lv_goto (tgt := 27) hx hb dX12_take_22 (by decide) ?_
      exact hRet 27 _ _ _ v_6 _ dX12_take_27 hW hF (by omega) ⟨(by first | exact ⟨q_takesOut.1, q_takesOut.2.1⟩ | exact ⟨hI, q0⟩), hR⟩
  · refine j_const hx hb dX12_take_8 ?_
    exact hRet 9 _ _ _ (-1) _ dX12_take_9 hW hF (by decide) ⟨(by first | exact ⟨q_takesOut.1, q_takesOut.2.1⟩ | exact ⟨hI, q0⟩), hR⟩
