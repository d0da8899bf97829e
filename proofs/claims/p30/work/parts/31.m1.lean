theorem hsX12_in : yX12_in.cls = RX12 ∧ yX12_in.cls ≠ "java/lang/invoke/MethodHandle" ∧ yX12_in.cls ≠ "java/lang/invoke/VarHandle" ∧ (parseMethodDescriptor yX12_in.desc).map (fun d => d.parameters.length) = some 3 := by decide +kernel
theorem hvX12_in : yX12_in.cls ≠ "java/lang/invoke/MethodHandle" ∧ yX12_in.cls ≠ "java/lang/invoke/VarHandle" ∧ (parseMethodDescriptor yX12_in.desc).map (fun d => d.parameters.length) = some 3 := hsX12_in.2
set_option maxHeartbeats 4000000 in
set_option maxRecDepth 100000 in
theorem kX12_in (l : Launch) {D : va_G} {cA : Nat → ClassId} {τ : Nat → Nat} {G : Nat → Nat → Nat} {L : List Nat} (hS : SW τ G L) (σ : Nat → Nat → Int) {x0 : Int} (r0 : rg x0) {x1 : Int} (r1 : rg x1) {x2 : Int} (r2 : rg x2) : Met l yX12_in wsX12_in ({ frames := 0, cells := 0, slots := 0, locals := 0 }) (jP D cA τ G L σ [.int (jI x0), .int (jI x1), .int (jI x2)]) (jQR (fun r => (0 ≤ r ∧ r ≤ 1) ∧ ((r = 1 ↔ (x1 ≤ x0 ∧ x0 ≤ x2))))) 0 0 (fun _ => False) := by
  refine j_metRZ (by decide +kernel) rfl (Nat.le_of_ble_eq_true rfl) ?_
  intro p e s m args below meth c Q hx hb hml hown hts hK hW hRet ls hl
  have hl : lv_has ls 3 [(0, .int (jI x0)), (1, .int (jI x1)), (2, .int (jI x2))] := hl
  refine lv_iload_n hx hb dX12_in_0 rfl (lv_at hl 0 rfl) ?_
  refine lv_iload_n hx hb dX12_in_1 rfl (lv_at hl 1 rfl) ?_
  refine j_icmp_lt (tgt := 14) hx hb (by omega) (by omega) dX12_in_2 (by decide) (fun c_1 => ?_) (fun c_1 => ?_)
  · refine j_const hx hb dX12_in_14 ?_
    exact hRet 15 _ 0 dX12_in_15 (by omega) (by omega)
  · refine lv_iload_n hx hb dX12_in_5 rfl (lv_at hl 0 rfl) ?_
    refine lv_iload_n hx hb dX12_in_6 rfl (lv_at hl 2 rfl) ?_
    refine j_icmp_gt (tgt := 14) hx hb (by omega) (by omega) dX12_in_7 (by decide) (fun c_2 => ?_) (fun c_2 => ?_)
    · refine j_const hx hb dX12_in_14 ?_
      exact hRet 15 _ 0 dX12_in_15 (by omega) (by omega)
    · refine j_const hx hb dX12_in_10 ?_
      refine lv_goto (tgt := 15) hx hb dX12_in_11 (by decide) ?_
      exact hRet 15 _ 1 dX12_in_15 (by omega) (by omega)
theorem hsX12_min : yX12_min.cls = RX12 ∧ yX12_min.cls ≠ "java/lang/invoke/MethodHandle" ∧ yX12_min.cls ≠ "java/lang/invoke/VarHandle" ∧ (parseMethodDescriptor yX12_min.desc).map (fun d => d.parameters.length) = some 2 := by decide +kernel
theorem hvX12_min : yX12_min.cls ≠ "java/lang/invoke/MethodHandle" ∧ yX12_min.cls ≠ "java/lang/invoke/VarHandle" ∧ (parseMethodDescriptor yX12_min.desc).map (fun d => d.parameters.length) = some 2 := hsX12_min.2
set_option maxHeartbeats 4000000 in
set_option maxRecDepth 100000 in
theorem kX12_min (l : Launch) {D : va_G} {cA : Nat → ClassId} {τ : Nat → Nat} {G : Nat → Nat → Nat} {L : List Nat} (hS : SW τ G L) (σ : Nat → Nat → Int) {x0 : Int} (r0 : rg x0) {x1 : Int} (r1 : rg x1) : Met l yX12_min wsX12_min ({ frames := 0, cells := 0, slots := 0, locals := 0 }) (jP D cA τ G L σ [.int (jI x0), .int (jI x1)]) (jQR (fun r => (r ≤ x0) ∧ (r ≤ x1) ∧ (r = x0 ∨ r = x1))) 0 0 (fun _ => False) := by
  refine j_metR (by decide +kernel) rfl (Nat.le_of_ble_eq_true rfl) ?_
  intro p e s m args below meth c Q hx hb hml hown hts hK hW hRet ls hl
  have hl : lv_has ls 2 [(0, .int (jI x0)), (1, .int (jI x1))] := hl
  refine lv_iload_n hx hb dX12_min_0 rfl (lv_at hl 0 rfl) ?_
  refine lv_iload_n hx hb dX12_min_1 rfl (lv_at hl 1 rfl) ?_
  refine j_icmp_ge (tgt := 9) hx hb (by omega) (by omega) dX12_min_2 (by decide) (fun c_1 => ?_) (fun c_1 => ?_)
  · refine lv_iload_n hx hb dX12_min_9 rfl (lv_at hl 1 rfl) ?_
    exact hRet 10 _ x1 dX12_min_10 (by omega) ⟨by omega, by omega, by omega⟩
  · refine lv_iload_n hx hb dX12_min_5 rfl (lv_at hl 0 rfl) ?_
    refine lv_goto (tgt := 10) hx hb dX12_min_6 (by decide) ?_
    exact hRet 10 _ x0 dX12_min_10 (by omega) ⟨by omega, by omega, by omega⟩
theorem hsX12_max : yX12_max.cls = RX12 ∧ yX12_max.cls ≠ "java/lang/invoke/MethodHandle" ∧ yX12_max.cls ≠ "java/lang/invoke/VarHandle" ∧ (parseMethodDescriptor yX12_max.desc).map (fun d => d.parameters.length) = some 2 := by decide +kernel
theorem hvX12_max : yX12_max.cls ≠ "java/lang/invoke/MethodHandle" ∧ yX12_max.cls ≠ "java/lang/invoke/VarHandle" ∧ (parseMethodDescriptor yX12_max.desc).map (fun d => d.parameters.length) = some 2 := hsX12_max.2
set_option maxHeartbeats 4000000 in
set_option maxRecDepth 100000 in
theorem kX12_max (l : Launch) {D : va_G} {cA : Nat → ClassId} {τ : Nat → Nat} {G : Nat → Nat → Nat} {L : List Nat} (hS : SW τ G L) (σ : Nat → Nat → Int) {x0 : Int} (r0 : rg x0) {x1 : Int} (r1 : rg x1) : Met l yX12_max wsX12_max ({ frames := 0, cells := 0, slots := 0, locals := 0 }) (jP D cA τ G L σ [.int (jI x0), .int (jI x1)]) (jQR (fun r => (x0 ≤ r) ∧ (x1 ≤ r) ∧ (r = x0 ∨ r = x1))) 0 0 (fun _ => False) := by
  refine j_metR (by decide +kernel) rfl (Nat.le_of_ble_eq_true rfl) ?_
  intro p e s m args below meth c Q hx hb hml hown hts hK hW hRet ls hl
  have hl : lv_has ls 2 [(0, .int (jI x0)), (1, .int (jI x1))] := hl
  refine lv_iload_n hx hb dX12_max_0 rfl (lv_at hl 0 rfl) ?_
  refine lv_iload_n hx hb dX12_max_1 rfl (lv_at hl 1 rfl) ?_
  refine j_icmp_le (tgt := 9) hx hb (by omega) (by omega) dX12_max_2 (by decide) (fun c_1 => ?_) (fun c_1 => ?_)
  · refine lv_iload_n hx hb dX12_max_9 rfl (lv_at hl 1 rfl) ?_
    exact hRet 10 _ x1 dX12_max_10 (by omega) ⟨by omega, by omega, by omega⟩
  · refine lv_iload_n hx hb dX12_max_5 rfl (lv_at hl 0 rfl) ?_
    refine lv_goto (tgt := 10) hx hb dX12_max_6 (by decide) ?_
    exact hRet 10 _ x0 dX12_max_10 (by omega) ⟨by omega, by omega, by omega⟩
theorem hsX12_has : yX12_has.cls = RX12 ∧ yX12_has.cls ≠ "java/lang/invoke/MethodHandle" ∧ yX12_has.cls ≠ "java/lang/invoke/VarHandle" ∧ (parseMethodDescriptor yX12_has.desc).map (fun d => d.parameters.length) = some 2 := by decide +kernel
theorem hvX12_has : yX12_has.cls ≠ "java/lang/invoke/MethodHandle" ∧ yX12_has.cls ≠ "java/lang/invoke/VarHandle" ∧ (parseMethodDescriptor yX12_has.desc).map (fun d => d.parameters.length) = some 2 := hsX12_has.2
set_option maxHeartbeats 4000000 in
set_option maxRecDepth 100000 in
theorem kX12_has (l : Launch) {D : va_G} {cA : Nat → ClassId} {τ : Nat → Nat} {G : Nat → Nat → Nat} {L : List Nat} (hS : SW τ G L) (σ : Nat → Nat → Int) {x0 : Int} (r0 : rg x0) {x1 : Int} (r1 : rg x1) (q0 : 0 ≤ x1) (q1 : x1 < 32) : Met l yX12_has wsX12_has ({ frames := 0, cells := 0, slots := 0, locals := 0 }) (jP D cA τ G L σ [.int (jI x0), .int (jI x1)]) (jQR (fun r => (0 ≤ r ∧ r ≤ 1) ∧ ((r = 1 ↔ bit x0 x1)))) 0 0 (fun _ => False) := by
  refine j_metRZ (by decide +kernel) rfl (Nat.le_of_ble_eq_true rfl) ?_
  intro p e s m args below meth c Q hx hb hml hown hts hK hW hRet ls hl
  have hl : lv_has ls 2 [(0, .int (jI x0)), (1, .int (jI x1))] := hl
  refine lv_iload_n hx hb dX12_has_0 rfl (lv_at hl 0 rfl) ?_
  refine lv_iload_n hx hb dX12_has_1 rfl (lv_at hl 1 rfl) ?_
  refine lv_ishr hx hb dX12_has_2 (j_raw fun z_1 rz_1 ez_1 => ?_)
  have z_shr := ez_1
  refine j_const hx hb dX12_has_3 ?_
  refine j_and1 hx hb dX12_has_4 ?_
  refine j_const hx hb dX12_has_5 ?_
  refine j_icmp_ne (tgt := 13) hx hb (by omega) (by decide) dX12_has_6 (by decide) (fun c_2 => ?_) (fun c_2 => ?_)
  · refine j_const hx hb dX12_has_13 ?_
    exact hRet 14 _ 0 dX12_has_14 (by omega) (by have hb_ := bit_shr q0 q1 ez_1; first | exact ⟨fun h => absurd h (by decide), fun h => absurd (hb_.mpr h) (by assumption)⟩ | exact ⟨fun _ => hb_.mp (by assumption), fun _ => rfl⟩)
  · refine j_const hx hb dX12_has_9 ?_
    refine lv_goto (tgt := 14) hx hb dX12_has_10 (by decide) ?_
    exact hRet 14 _ 1 dX12_has_14 (by omega) (by have hb_ := bit_shr q0 q1 ez_1; first | exact ⟨fun h => absurd h (by decide), fun h => absurd (hb_.mpr h) (by assumption)⟩ | exact ⟨fun _ => hb_.mp (by assumption), fun _ => rfl⟩)
theorem flX12_many_7 : Cond.fieldLink RX12 7 "PageTrieModel" "file" "[I" ∈ wsX12_many := List.mem_of_getElem? (i := 1) rfl
theorem inX12_many_X12 : ∀ w ∈ u_ws RX12 TX12 41, w ∈ wsX12_many := mem_r _ [2, 3, 4, 5, 6, 7, 8, 9, 10, 11, 12, 13, 14, 15, 16, 17, 18, 19, 20, 21, 22, 23, 24, 25, 26, 27, 28, 29, 30, 31, 32, 33, 34, 35, 36, 37, 38, 39, 40, 41, 42] rfl
theorem hvX12_many : yX12_many.cls = RX12 ∧ yX12_many.cls ≠ "java/lang/invoke/MethodHandle" ∧ yX12_many.cls ≠ "java/lang/invoke/VarHandle" ∧ (parseMethodDescriptor yX12_many.desc).map (fun d => d.parameters.length) = some 0 := by decide +kernel
set_option maxHeartbeats 4000000 in
set_option maxRecDepth 100000 in
theorem kX12_many (l : Launch) {D : va_G} {cA : Nat → ClassId} {τ : Nat → Nat} {G : Nat → Nat → Nat} {L : List Nat} (hS : SW τ G L) (σ : Nat → Nat → Int) {a0 : Nat} (h0 : τ a0 = 13) : Met l yX12_many wsX12_many ({ frames := 0, cells := 0, slots := 0, locals := 0 }) (jP D cA τ G L σ [.ref a0]) (jQR (fun r => (r = σ (G a0 0) 0))) 0 0 (fun _ => False) := by
  refine j_metR (by decide +kernel) rfl (Nat.le_of_ble_eq_true rfl) ?_
  intro p e s m args below meth c Q hx hb hml hown hts hK hW hRet ls hl
  have hl : lv_has ls 1 [(0, .ref a0)] := hl
  refine lv_aload_n hx hb dX12_many_0 rfl (lv_at hl 0 rfl) ?_
  refine j_getR hx hb (C := RX12) (T := TX12) (N := 41) hts inX12_many_X12 hown hK hS hW h0 rfl 0 rfl rfl (by decide) (hts _ flX12_many_7) dX12_many_1 ?_
  have h_1 : τ (G a0 0) = 40 := gty hS h0 (k := 0) rfl rfl
  refine j_const hx hb dX12_many_4 ?_
  refine j_ald hx hb hK hS hW h_1 (n := 17624) rfl (by omega) (by omega) (by decide) dX12_many_5 ?_
  have : -2147483648 ≤ σ (G a0 0) 0 ∧ σ (G a0 0) 0 ≤ 2147483647 := abd hW h_1 (n := 17624) (lo := -2147483648) (hi := 2147483647) (i := 0) rfl (by decide) (by decide)
  refine j_eq (z := σ (G a0 0) 0) rfl ?_
  exact hRet 6 _ (σ (G a0 0) 0) dX12_many_6 (by omega) rfl
theorem flX12_of_7 : Cond.fieldLink RX12 7 "PageTrieModel" "file" "[I" ∈ wsX12_of := List.mem_of_getElem? (i := 1) rfl
theorem inX12_of_X12 : ∀ w ∈ u_ws RX12 TX12 41, w ∈ wsX12_of := mem_r _ [2, 3, 4, 5, 6, 7, 8, 9, 10, 11, 12, 13, 14, 15, 16, 17, 18, 19, 20, 21, 22, 23, 24, 25, 26, 27, 28, 29, 30, 31, 32, 33, 34, 35, 36, 37, 38, 39, 40, 41, 42] rfl
theorem hvX12_of : yX12_of.cls = RX12 ∧ yX12_of.cls ≠ "java/lang/invoke/MethodHandle" ∧ yX12_of.cls ≠ "java/lang/invoke/VarHandle" ∧ (parseMethodDescriptor yX12_of.desc).map (fun d => d.parameters.length) = some 2 := by decide +kernel
set_option maxHeartbeats 4000000 in
set_option maxRecDepth 100000 in
theorem kX12_of (l : Launch) {D : va_G} {cA : Nat → ClassId} {τ : Nat → Nat} {G : Nat → Nat → Nat} {L : List Nat} (hS : SW τ G L) (σ : Nat → Nat → Int) {a0 : Nat} (h0 : τ a0 = 13) {x1 : Int} (r1 : rg x1) {x2 : Int} (r2 : rg x2) (q0 : 0 ≤ 240 + 27 * x1 + x2) (q1 : 240 + 27 * x1 + x2 < 17624) : Met l yX12_of wsX12_of ({ frames := 0, cells := 0, slots := 0, locals := 0 }) (jP D cA τ G L σ [.ref a0, .int (jI x1), .int (jI x2)]) (jQR (fun r => (r = kO (σ (G a0 0)) x1 x2))) 0 0 (fun _ => False) := by
  refine j_metR (by decide +kernel) rfl (Nat.le_of_ble_eq_true rfl) ?_
  intro p e s m args below meth c Q hx hb hml hown hts hK hW hRet ls hl
  have hl : lv_has ls 3 [(0, .ref a0), (1, .int (jI x1)), (2, .int (jI x2))] := hl
  refine lv_aload_n hx hb dX12_of_0 rfl (lv_at hl 0 rfl) ?_
  refine j_getR hx hb (C := RX12) (T := TX12) (N := 41) hts inX12_of_X12 hown hK hS hW h0 rfl 0 rfl rfl (by decide) (hts _ flX12_of_7) dX12_of_1 ?_
  have h_1 : τ (G a0 0) = 40 := gty hS h0 (k := 0) rfl rfl
  refine j_si hx hb dX12_of_4 (by decide) ?_
  refine j_bi hx hb dX12_of_7 (by decide) ?_
  refine lv_iload_n hx hb dX12_of_9 rfl (lv_at hl 1 rfl) ?_
  refine j_mul hx hb dX12_of_10 ?_
  refine j_add hx hb dX12_of_11 ?_
  refine lv_iload_n hx hb dX12_of_12 rfl (lv_at hl 2 rfl) ?_
  refine j_add hx hb dX12_of_13 ?_
  refine j_ald hx hb hK hS hW h_1 (n := 17624) rfl (by omega) (by omega) (by decide) dX12_of_14 ?_
  have := abd hW h_1 (n := 17624) (lo := -2147483648) (hi := 2147483647) (i := (240 + (27 * x1)) + x2) rfl (by omega) (by omega)
  exact hRet 15 _ (σ (G a0 0) ((240 + (27 * x1)) + x2).toNat) dX12_of_15 (by omega) rfl
theorem flX12_byteOf_7 : Cond.fieldLink RX12 7 "PageTrieModel" "file" "[I" ∈ wsX12_byteOf := List.mem_of_getElem? (i := 1) rfl
theorem inX12_byteOf_X12 : ∀ w ∈ u_ws RX12 TX12 41, w ∈ wsX12_byteOf := mem_r _ [2, 3, 4, 5, 6, 7, 8, 9, 10, 11, 12, 13, 14, 15, 16, 17, 18, 19, 20, 21, 22, 23, 24, 25, 26, 27, 28, 29, 30, 31, 32, 33, 34, 35, 36, 37, 38, 39, 40, 41, 42] rfl
theorem hvX12_byteOf : yX12_byteOf.cls = RX12 ∧ yX12_byteOf.cls ≠ "java/lang/invoke/MethodHandle" ∧ yX12_byteOf.cls ≠ "java/lang/invoke/VarHandle" ∧ (parseMethodDescriptor yX12_byteOf.desc).map (fun d => d.parameters.length) = some 2 := by decide +kernel
set_option maxHeartbeats 4000000 in
set_option maxRecDepth 100000 in
theorem kX12_byteOf (l : Launch) {D : va_G} {cA : Nat → ClassId} {τ : Nat → Nat} {G : Nat → Nat → Nat} {L : List Nat} (hS : SW τ G L) (σ : Nat → Nat → Int) {a0 : Nat} (h0 : τ a0 = 13) {x1 : Int} (r1 : rg x1) {x2 : Int} (r2 : rg x2) (q0 : 0 ≤ 243 + 27 * x1 + x2) (q1 : 243 + 27 * x1 + x2 < 17624) : Met l yX12_byteOf wsX12_byteOf ({ frames := 0, cells := 0, slots := 0, locals := 0 }) (jP D cA τ G L σ [.ref a0, .int (jI x1), .int (jI x2)]) (jQR (fun r => (r = kO (σ (G a0 0)) x1 (3 + x2)))) 0 0 (fun _ => False) := by
  refine j_metR (by decide +kernel) rfl (Nat.le_of_ble_eq_true rfl) ?_
  intro p e s m args below meth c Q hx hb hml hown hts hK hW hRet ls hl
  have hl : lv_has ls 3 [(0, .ref a0), (1, .int (jI x1)), (2, .int (jI x2))] := hl
  refine lv_aload_n hx hb dX12_byteOf_0 rfl (lv_at hl 0 rfl) ?_
  refine j_getR hx hb (C := RX12) (T := TX12) (N := 41) hts inX12_byteOf_X12 hown hK hS hW h0 rfl 0 rfl rfl (by decide) (hts _ flX12_byteOf_7) dX12_byteOf_1 ?_
  have h_1 : τ (G a0 0) = 40 := gty hS h0 (k := 0) rfl rfl
  refine j_si hx hb dX12_byteOf_4 (by decide) ?_
  refine j_bi hx hb dX12_byteOf_7 (by decide) ?_
  refine lv_iload_n hx hb dX12_byteOf_9 rfl (lv_at hl 1 rfl) ?_
  refine j_mul hx hb dX12_byteOf_10 ?_
  refine j_add hx hb dX12_byteOf_11 ?_
  refine j_const hx hb dX12_byteOf_12 ?_
  refine j_add hx hb dX12_byteOf_13 ?_
  refine lv_iload_n hx hb dX12_byteOf_14 rfl (lv_at hl 2 rfl) ?_
  refine j_add hx hb dX12_byteOf_15 ?_
  refine j_ald hx hb hK hS hW h_1 (n := 17624) rfl (by omega) (by omega) (by decide) dX12_byteOf_16 ?_
  have := abd hW h_1 (n := 17624) (lo := -2147483648) (hi := 2147483647) (i := ((240 + (27 * x1)) + 3) + x2) rfl (by omega) (by omega)
  exact hRet 17 _ (σ (G a0 0) (((240 + (27 * x1)) + 3) + x2).toNat) dX12_byteOf_17 (by omega) (by unfold kO; rw [show 240 + 27 * x1 + (3 + x2) = 240 + 27 * x1 + 3 + x2 by omega])
abbrev wr_X12_sets : List Nat := [40000]
theorem flX12_sets_7 : Cond.fieldLink RX12 7 "PageTrieModel" "file" "[I" ∈ wsX12_sets := List.mem_of_getElem? (i := 1) rfl
theorem inX12_sets_X12 : ∀ w ∈ u_ws RX12 TX12 41, w ∈ wsX12_sets := mem_r _ [2, 3, 4, 5, 6, 7, 8, 9, 10, 11, 12, 13, 14, 15, 16, 17, 18, 19, 20, 21, 22, 23, 24, 25, 26, 27, 28, 29, 30, 31, 32, 33, 34, 35, 36, 37, 38, 39, 40, 41, 42] rfl
theorem hvX12_sets : yX12_sets.cls = RX12 ∧ yX12_sets.cls ≠ "java/lang/invoke/MethodHandle" ∧ yX12_sets.cls ≠ "java/lang/invoke/VarHandle" ∧ (parseMethodDescriptor yX12_sets.desc).map (fun d => d.parameters.length) = some 3 := by decide +kernel
set_option maxHeartbeats 4000000 in
set_option maxRecDepth 100000 in
theorem kX12_sets (l : Launch) {D : va_G} {cA : Nat → ClassId} {τ : Nat → Nat} {G : Nat → Nat → Nat} {L : List Nat} (hS : SW τ G L) (σ : Nat → Nat → Int) {a0 : Nat} (h0 : τ a0 = 13) {x1 : Int} (r1 : rg x1) {x2 : Int} (r2 : rg x2) {x3 : Int} (r3 : rg x3) (q0 : 0 ≤ 240 + 27 * x1 + x2) (q1 : 240 + 27 * x1 + x2 < 17624) : Met l yX12_sets wsX12_sets ({ frames := 0, cells := 0, slots := 0, locals := 0 }) (jP D cA τ G L σ [.ref a0, .int (jI x1), .int (jI x2), .int (jI x3)]) (jQV D cA τ G L (fun σ' => ((σ' = up2 σ (G a0 0) (240 + 27 * x1 + x2).toNat x3)) ∧ fr wr_X12_sets τ σ σ')) 0 0 (fun q => q ∈ L) := by
  refine j_metV (by decide +kernel) rfl (Nat.le_of_ble_eq_true rfl) ?_
  intro p e s m args below meth c Q hx hb hml hown hts hK hW hRet ls hl
  have hl : lv_has ls 4 [(0, .ref a0), (1, .int (jI x1)), (2, .int (jI x2)), (3, .int (jI x3))] := hl
  have hA : ∀ q ∈ L, (fun q => q ∈ L) q := fun _ h => h
  have hF : va_S (fun q => q ∈ L) s.heap s.heap [] := va_S.rf
  have hR : fr wr_X12_sets τ σ σ := fr_rf
  refine lv_aload_n hx hb dX12_sets_0 rfl (lv_at hl 0 rfl) ?_
  refine j_getR hx hb (C := RX12) (T := TX12) (N := 41) hts inX12_sets_X12 hown hK hS hW h0 rfl 0 rfl rfl (by decide) (hts _ flX12_sets_7) dX12_sets_1 ?_
  have h_1 : τ (G a0 0) = 40 := gty hS h0 (k := 0) rfl rfl
  refine j_si hx hb dX12_sets_4 (by decide) ?_
  refine j_bi hx hb dX12_sets_7 (by decide) ?_
  refine lv_iload_n hx hb dX12_sets_9 rfl (lv_at hl 1 rfl) ?_
  refine j_mul hx hb dX12_sets_10 ?_
  refine j_add hx hb dX12_sets_11 ?_
  refine lv_iload_n hx hb dX12_sets_12 rfl (lv_at hl 2 rfl) ?_
  refine j_add hx hb dX12_sets_13 ?_
  refine lv_iload_n hx hb dX12_sets_14 rfl (lv_at hl 3 rfl) ?_
  refine j_ast hx hb hK hS hA hW hF h_1 (n := 17624) (lo := -2147483648) (hi := 2147483647) rfl (by omega) (by omega) (by decide) (by omega) dX12_sets_15 (fun σ_2 H locs e_3 hW hF => ?_)
  have st_file := e_3
  have hR := fr_up hR e_3 h_1 40000 (cdA 40 (by decide) _) (by decide)
  exact hRet 16 _ _ _ _ dX12_sets_16 hW hF ⟨e_3, hR⟩
theorem hvX12_beginsPage : yX12_beginsPage.cls = RX12 ∧ yX12_beginsPage.cls ≠ "java/lang/invoke/MethodHandle" ∧ yX12_beginsPage.cls ≠ "java/lang/invoke/VarHandle" ∧ (parseMethodDescriptor yX12_beginsPage.desc).map (fun d => d.parameters.length) = some 2 := by decide +kernel
set_option maxHeartbeats 4000000 in
set_option maxRecDepth 100000 in
theorem kX12_beginsPage (l : Launch) {D : va_G} {cA : Nat → ClassId} {τ : Nat → Nat} {G : Nat → Nat → Nat} {L : List Nat} (hS : SW τ G L) (σ : Nat → Nat → Int) {a0 : Nat} (h0 : τ a0 = 13) {x1 : Int} (r1 : rg x1) {x2 : Int} (r2 : rg x2) (q0 : 0 ≤ x1) (q1 : x1 ≤ 600) (q2 : 0 ≤ x2) (q3 : x2 < 32) : Met l yX12_beginsPage wsX12_beginsPage ({ frames := 1, cells := 0, slots := 0, locals := 22 }) (jP D cA τ G L σ [.ref a0, .int (jI x1), .int (jI x2)]) (jQR (fun r => (0 ≤ r ∧ r ≤ 1) ∧ ((r = 1 ↔ bit (kO (σ (G a0 0)) x1 2) x2)))) 0 0 (fun _ => False) := by
  refine j_metRZ (by decide +kernel) rfl (Nat.le_of_ble_eq_true rfl) ?_
  intro p e s m args below meth c Q hx hb hml hown hts hK hW hRet ls hl
  have hl : lv_has ls 3 [(0, .ref a0), (1, .int (jI x1)), (2, .int (jI x2))] := hl
  refine lv_aload_n hx hb dX12_beginsPage_0 rfl (lv_at hl 0 rfl) ?_
  refine lv_iload_n hx hb dX12_beginsPage_1 rfl (lv_at hl 1 rfl) ?_
  refine j_const hx hb dX12_beginsPage_2 ?_
  refine j_cR (j_runV (As := [.int (jI x1), .int (jI 2)]) (rest := []) hx hb hml hown hts hK hS hW (kX12_of l hS σ (a0 := a0) (h0 := h0) (x1 := x1) (r1 := (by omega)) (x2 := 2) (r2 := (by decide)) (q0 := (by omega)) (q1 := (by omega))) 2 gX12_beginsPage_X12_of rfl hvX12_of ⟨Nat.le_of_ble_eq_true rfl, Nat.le_of_ble_eq_true rfl⟩ rfl rfl h0 rfl rfl rfl rfl hl.1 rfl (Nat.le_of_ble_eq_true rfl) dX12_beginsPage_3 ⟨Nat.le_of_ble_eq_true rfl, Nat.le_of_ble_eq_true rfl⟩) (fun v_1 rv_1 pv_1 => ?_)
  try dsimp only at pv_1
  have q_of := pv_1
  refine lv_iload_n hx hb dX12_beginsPage_6 rfl (lv_at hl 2 rfl) ?_
  refine j_cR (j_runS (As := [.int (jI v_1), .int (jI x2)]) (rest := []) hx hb hml hown hts hK hW (kX12_has l hS σ (x0 := v_1) (r0 := (by omega)) (x1 := x2) (r1 := (by omega)) (q0 := (by omega)) (q1 := (by omega))) 2 gX12_beginsPage_X12_has rfl hsX12_has ⟨Nat.le_of_ble_eq_true rfl, Nat.le_of_ble_eq_true rfl⟩ rfl rfl rfl hl.1 rfl (Nat.le_of_ble_eq_true rfl) dX12_beginsPage_7 ⟨Nat.le_of_ble_eq_true rfl, Nat.le_of_ble_eq_true rfl⟩) (fun v_2 rv_2 pv_2 => ?_)
  try dsimp only at pv_2
  have q_has := pv_2
  exact hRet 10 _ v_2 dX12_beginsPage_10 (by omega) (by rw [← pv_1]; exact pv_2.2)
abbrev wr_X12_marks : List Nat := [40000]
theorem hvX12_marks : yX12_marks.cls = RX12 ∧ yX12_marks.cls ≠ "java/lang/invoke/MethodHandle" ∧ yX12_marks.cls ≠ "java/lang/invoke/VarHandle" ∧ (parseMethodDescriptor yX12_marks.desc).map (fun d => d.parameters.length) = some 3 := by decide +kernel
set_option maxHeartbeats 4000000 in
set_option maxRecDepth 100000 in
theorem kX12_marks (l : Launch) {D : va_G} {cA : Nat → ClassId} {τ : Nat → Nat} {G : Nat → Nat → Nat} {L : List Nat} (hS : SW τ G L) (σ : Nat → Nat → Int) {a0 : Nat} (h0 : τ a0 = 13) {x1 : Int} (r1 : rg x1) {x2 : Int} (r2 : rg x2) {x3 : Int} (r3 : rg x3) (q0 : 0 ≤ x1) (q1 : x1 ≤ 600) (q2 : 0 ≤ x2) (q3 : x2 < 32) (q4 : 0 ≤ x3) (q5 : x3 ≤ 1) : Met l yX12_marks wsX12_marks ({ frames := 1, cells := 0, slots := 0, locals := 23 }) (jP D cA τ G L σ [.ref a0, .int (jI x1), .int (jI x2), .int (jI x3)]) (jQV D cA τ G L (fun σ' => ((∃ v : Int, rg v ∧ σ' = up2 σ (G a0 0) (240 + 27 * x1 + 2).toNat v ∧ ∀ k : Int, 0 ≤ k → k < 32 → (bit v k ↔ if x3 = 0 then (bit (kO (σ (G a0 0)) x1 2) k ∧ ¬ k = x2) else (bit (kO (σ (G a0 0)) x1 2) k ∨ k = x2)))) ∧ fr wr_X12_marks τ σ σ')) 0 0 (fun q => q ∈ L) := by
  refine j_metV (by decide +kernel) rfl (Nat.le_of_ble_eq_true rfl) ?_
  intro p e s m args below meth c Q hx hb hml hown hts hK hW hRet ls hl
  have hl : lv_has ls 4 [(0, .ref a0), (1, .int (jI x1)), (2, .int (jI x2)), (3, .int (jI x3))] := hl
  have hA : ∀ q ∈ L, (fun q => q ∈ L) q := fun _ h => h
  have hF : va_S (fun q => q ∈ L) s.heap s.heap [] := va_S.rf
  have hR : fr wr_X12_marks τ σ σ := fr_rf
  refine lv_aload_n hx hb dX12_marks_0 rfl (lv_at hl 0 rfl) ?_
  refine lv_iload_n hx hb dX12_marks_1 rfl (lv_at hl 1 rfl) ?_
  refine j_const hx hb dX12_marks_2 ?_
  refine lv_iload_n hx hb dX12_marks_3 rfl (lv_at hl 3 rfl) ?_
  refine j_if_eq (tgt := 20) hx hb (by omega) dX12_marks_4 (by decide) (fun c_1 => ?_) (fun c_1 => ?_)
  · refine lv_aload_n hx hb dX12_marks_20 rfl (lv_at hl 0 rfl) ?_
    refine lv_iload_n hx hb dX12_marks_21 rfl (lv_at hl 1 rfl) ?_
    refine j_const hx hb dX12_marks_22 ?_
    refine j_cR (j_runV (As := [.int (jI x1), .int (jI 2)]) (rest := [.int (jI 2), .int (jI x1), .ref a0]) hx hb hml hown hts hK hS hW (kX12_of l hS σ (a0 := a0) (h0 := h0) (x1 := x1) (r1 := (by omega)) (x2 := 2) (r2 := (by decide)) (q0 := (by omega)) (q1 := (by omega))) 2 gX12_marks_X12_of rfl hvX12_of ⟨Nat.le_of_ble_eq_true rfl, Nat.le_of_ble_eq_true rfl⟩ rfl rfl h0 rfl rfl rfl rfl hl.1 rfl (Nat.le_of_ble_eq_true rfl) dX12_marks_23 ⟨Nat.le_of_ble_eq_true rfl, Nat.le_of_ble_eq_true rfl⟩) (fun v_2 rv_2 pv_2 => ?_)
    try dsimp only at pv_2
    have q_of := pv_2
    refine j_const hx hb dX12_marks_26 ?_
    refine lv_iload_n hx hb dX12_marks_27 rfl (lv_at hl 2 rfl) ?_
    refine lv_ishl hx hb dX12_marks_28 (j_raw fun z_3 rz_3 ez_3 => ?_)
    have z_shl := ez_3
    refine j_const hx hb dX12_marks_29 ?_
    refine lv_ixor hx hb dX12_marks_30 (j_raw fun z_4 rz_4 ez_4 => ?_)
    have z_xor := ez_4
    refine lv_iand hx hb dX12_marks_31 (j_raw fun z_5 rz_5 ez_5 => ?_)
    have z_and := ez_5
    refine j_cV (j_runV (As := [.int (jI x1), .int (jI 2), .int (jI z_5)]) (rest := []) hx hb hml hown hts hK hS hW (kX12_sets l hS σ (a0 := a0) (h0 := h0) (x1 := x1) (r1 := (by omega)) (x2 := 2) (r2 := (by decide)) (x3 := z_5) (r3 := (by omega)) (q0 := (by omega)) (q1 := (by omega))) 3 gX12_marks_X12_sets rfl hvX12_sets ⟨Nat.le_of_ble_eq_true rfl, Nat.le_of_ble_eq_true rfl⟩ rfl rfl h0 rfl rfl rfl rfl hl.1 rfl (Nat.le_of_ble_eq_true rfl) dX12_marks_32 ⟨Nat.le_of_ble_eq_true rfl, Nat.le_of_ble_eq_true rfl⟩) hA hF (fun σ_6 H locs hW hF pσ_6 => ?_)
    try dsimp only at pσ_6
    obtain ⟨pσ_6, fpσ_6⟩ := pσ_6
    have q_sets := pσ_6
    have hR := fr_call hR fpσ_6 (by decide)
    exact hRet 35 _ _ _ _ dX12_marks_35 hW hF ⟨(by first | exact ⟨z_5, rz_5, pσ_6, fun k k0 k1 => by rw [if_pos c_1, ← pv_2, bit_and ez_5, bit_not ez_4 k k0 k1, bit_shl ez_3 q2 q3 k k0 k1]⟩ | exact ⟨z_9, rz_9, pσ_10, fun k k0 k1 => by rw [if_neg c_1, ← pv_7, bit_or ez_9, bit_shl ez_8 q2 q3 k k0 k1]⟩), hR⟩
  · refine lv_aload_n hx hb dX12_marks_7 rfl (lv_at hl 0 rfl) ?_
    refine lv_iload_n hx hb dX12_marks_8 rfl (lv_at hl 1 rfl) ?_
    refine j_const hx hb dX12_marks_9 ?_
    refine j_cR (j_runV (As := [.int (jI x1), .int (jI 2)]) (rest := [.int (jI 2), .int (jI x1), .ref a0]) hx hb hml hown hts hK hS hW (kX12_of l hS σ (a0 := a0) (h0 := h0) (x1 := x1) (r1 := (by omega)) (x2 := 2) (r2 := (by decide)) (q0 := (by omega)) (q1 := (by omega))) 2 gX12_marks_X12_of rfl hvX12_of ⟨Nat.le_of_ble_eq_true rfl, Nat.le_of_ble_eq_true rfl⟩ rfl rfl h0 rfl rfl rfl rfl hl.1 rfl (Nat.le_of_ble_eq_true rfl) dX12_marks_10 ⟨Nat.le_of_ble_eq_true rfl, Nat.le_of_ble_eq_true rfl⟩) (fun v_7 rv_7 pv_7 => ?_)
    try dsimp only at pv_7
    have q_of := pv_7
    refine j_const hx hb dX12_marks_13 ?_
    refine lv_iload_n hx hb dX12_marks_14 rfl (lv_at hl 2 rfl) ?_
    refine lv_ishl hx hb dX12_marks_15 (j_raw fun z_8 rz_8 ez_8 => ?_)
    have z_shl := ez_8
    refine lv_ior hx hb dX12_marks_16 (j_raw fun z_9 rz_9 ez_9 => ?_)
    have z_or := ez_9
    refine lv_goto (tgt := 32) hx hb dX12_marks_17 (by decide) ?_
    refine j_cV (j_runV (As := [.int (jI x1), .int (jI 2), .int (jI z_9)]) (rest := []) hx hb hml hown hts hK hS hW (kX12_sets l hS σ (a0 := a0) (h0 := h0) (x1 := x1) (r1 := (by omega)) (x2 := 2) (r2 := (by decide)) (x3 := z_9) (r3 := (by omega)) (q0 := (by omega)) (q1 := (by omega))) 3 gX12_marks_X12_sets rfl hvX12_sets ⟨Nat.le_of_ble_eq_true rfl, Nat.le_of_ble_eq_true rfl⟩ rfl rfl h0 rfl rfl rfl rfl hl.1 rfl (Nat.le_of_ble_eq_true rfl) dX12_marks_32 ⟨Nat.le_of_ble_eq_true rfl, Nat.le_of_ble_eq_true rfl⟩) hA hF (fun σ_10 H locs hW hF pσ_10 => ?_)
    try dsimp only at pσ_10
    obtain ⟨pσ_10, fpσ_10⟩ := pσ_10
    have q_sets := pσ_10
    have hR := fr_call hR fpσ_10 (by decide)
    exact hRet 35 _ _ _ _ dX12_marks_35 hW hF ⟨(by first | exact ⟨z_5, rz_5, pσ_6, fun k k0 k1 => by rw [if_pos c_1, ← pv_2, bit_and ez_5, bit_not ez_4 k k0 k1, bit_shl ez_3 q2 q3 k k0 k1]⟩ | exact ⟨z_9, rz_9, pσ_10, fun k k0 k1 => by rw [if_neg c_1, ← pv_7, bit_or ez_9, bit_shl ez_8 q2 q3 k k0 k1]⟩), hR⟩
theorem hvX12_isThere : yX12_isThere.cls = RX12 ∧ yX12_isThere.cls ≠ "java/lang/invoke/MethodHandle" ∧ yX12_isThere.cls ≠ "java/lang/invoke/VarHandle" ∧ (parseMethodDescriptor yX12_isThere.desc).map (fun d => d.parameters.length) = some 1 := by decide +kernel
set_option maxHeartbeats 4000000 in
set_option maxRecDepth 100000 in
theorem kX12_isThere (l : Launch) {D : va_G} {cA : Nat → ClassId} {τ : Nat → Nat} {G : Nat → Nat → Nat} {L : List Nat} (hS : SW τ G L) (σ : Nat → Nat → Int) {a0 : Nat} (h0 : τ a0 = 13) {x1 : Int} (r1 : rg x1) (hI : FI G a0 σ) : Met l yX12_isThere wsX12_isThere ({ frames := 1, cells := 0, slots := 0, locals := 22 }) (jP D cA τ G L σ [.ref a0, .int (jI x1)]) (jQR (fun r => (0 ≤ r ∧ r ≤ 1) ∧ ((r = 1 ↔ (0 ≤ x1 ∧ x1 < σ (G a0 0) 0))))) 0 0 (fun _ => False) := by
  refine j_metRZ (by decide +kernel) rfl (Nat.le_of_ble_eq_true rfl) ?_
  intro p e s m args below meth c Q hx hb hml hown hts hK hW hRet ls hl
  have hl : lv_has ls 2 [(0, .ref a0), (1, .int (jI x1))] := hl
  have := FI_bd hI
  have := fbd hW h0 (k := 3) (lo := 0) (hi := 24) rfl rfl
  refine lv_iload_n hx hb dX12_isThere_0 rfl (lv_at hl 1 rfl) ?_
  refine j_const hx hb dX12_isThere_1 ?_
  refine lv_aload_n hx hb dX12_isThere_2 rfl (lv_at hl 0 rfl) ?_
  refine j_cR (j_runV (As := []) (rest := [.int (jI 0), .int (jI x1)]) hx hb hml hown hts hK hS hW (kX12_many l hS σ (a0 := a0) (h0 := h0)) 0 gX12_isThere_X12_many rfl hvX12_many ⟨Nat.le_of_ble_eq_true rfl, Nat.le_of_ble_eq_true rfl⟩ rfl rfl h0 rfl rfl rfl rfl hl.1 rfl (Nat.le_of_ble_eq_true rfl) dX12_isThere_3 ⟨Nat.le_of_ble_eq_true rfl, Nat.le_of_ble_eq_true rfl⟩) (fun v_1 rv_1 pv_1 => ?_)
  try dsimp only at pv_1
  have q_many := pv_1
  have := FI_bd hI
  refine j_const hx hb dX12_isThere_6 ?_
  refine j_sub hx hb dX12_isThere_7 ?_
  refine j_cR (j_runS (As := [.int (jI x1), .int (jI 0), .int (jI (v_1 - 1))]) (rest := []) hx hb hml hown hts hK hW (kX12_in l hS σ (x0 := x1) (r0 := (by omega)) (x1 := 0) (r1 := (by decide)) (x2 := v_1 - 1) (r2 := (by omega))) 3 gX12_isThere_X12_in rfl hsX12_in ⟨Nat.le_of_ble_eq_true rfl, Nat.le_of_ble_eq_true rfl⟩ rfl rfl rfl hl.1 rfl (Nat.le_of_ble_eq_true rfl) dX12_isThere_8 ⟨Nat.le_of_ble_eq_true rfl, Nat.le_of_ble_eq_true rfl⟩) (fun v_2 rv_2 pv_2 => ?_)
  try dsimp only at pv_2
  have q_in := pv_2
  exact hRet 11 _ v_2 dX12_isThere_11 (by omega) (by omega)
theorem flX12_against_13 : Cond.fieldLink RX12 13 "PageTrieModel" "hand" "[I" ∈ wsX12_against := List.mem_of_getElem? (i := 2) rfl
theorem flX12_against_70 : Cond.fieldLink RX12 70 "PageTrieModel" "handLong" "I" ∈ wsX12_against := List.mem_of_getElem? (i := 1) rfl
theorem inX12_against_X12 : ∀ w ∈ u_ws RX12 TX12 41, w ∈ wsX12_against := mem_r _ [13, 14, 15, 16, 17, 18, 19, 20, 21, 22, 23, 24, 25, 26, 27, 28, 29, 30, 31, 32, 33, 34, 35, 36, 37, 38, 39, 40, 41, 42, 43, 44, 45, 46, 47, 48, 49, 50, 51, 52, 53] rfl
theorem hvX12_against : yX12_against.cls = RX12 ∧ yX12_against.cls ≠ "java/lang/invoke/MethodHandle" ∧ yX12_against.cls ≠ "java/lang/invoke/VarHandle" ∧ (parseMethodDescriptor yX12_against.desc).map (fun d => d.parameters.length) = some 1 := by decide +kernel
set_option maxHeartbeats 4000000 in
set_option maxRecDepth 100000 in
theorem kX12_against (l : Launch) {D : va_G} {cA : Nat → ClassId} {τ : Nat → Nat} {G : Nat → Nat → Nat} {L : List Nat} (hS : SW τ G L) (σ : Nat → Nat → Int) {a0 : Nat} (h0 : τ a0 = 13) {x1 : Int} (r1 : rg x1) (hI : FI G a0 σ) (q0 : 0 ≤ x1) (q1 : x1 < σ (G a0 0) 0) : Met l yX12_against wsX12_against ({ frames := 1, cells := 0, slots := 0, locals := 22 }) (jP D cA τ G L σ [.ref a0, .int (jI x1)]) (jQR (fun r => (cmpP r (kO (σ (G a0 0)) x1 0) (kB (σ (G a0 0)) x1) (σ a0 3) (hB (σ (G a0 2)))))) 0 0 (fun _ => False) := by
  refine j_metR (by decide +kernel) rfl (Nat.le_of_ble_eq_true rfl) ?_
  intro p e s m args below meth c Q hx hb hml hown hts hK hW hRet ls hl
  have hl : lv_has ls 3 [(0, .ref a0), (1, .int (jI x1))] := hl
  have := FI_bd hI
  have := fbd hW h0 (k := 3) (lo := 0) (hi := 24) rfl rfl
  have := FI_len hI q0 q1
  refine j_const hx hb dX12_against_0 ?_
  refine lv_istore_n (lv' := [(2, .int (jI 0)), (0, .ref a0), (1, .int (jI x1))]) hx hb dX12_against_1 rfl hl (by decide) rfl (fun ls hl => ?_)
  have L_2 : ∀ (N : Nat) (v2_2 : Int) (ls : Array Slot), N = (2147483647 - v2_2 : Int).toNat → (0 ≤ v2_2) → (v2_2 ≤ kO (σ (G a0 0)) x1 0) → (v2_2 ≤ σ a0 3) → (∀ j : Int, 0 ≤ j → j < v2_2 → kO (σ (G a0 0)) x1 (3 + j) = σ (G a0 2) j.toNat) → rg v2_2 → lv_has ls 3 [(0, .ref a0), (1, .int (jI x1)), (2, .int (jI v2_2))] → W p l e ({ frames := 1, cells := 0, slots := 0, locals := 22 }) s m args below meth c s.heap [] 0 0 Q (F0 m 2 ls []) := by
    intro N
    induction N using Nat.strongRecOn with
    | ind N ih_2 =>
      intro v2_2 ls hN i0_2 i1_2 i2_2 i3_2 rv2_2 hl
      refine lv_iload_n hx hb dX12_against_2 rfl (lv_at hl 2 rfl) ?_
      refine lv_aload_n hx hb dX12_against_3 rfl (lv_at hl 0 rfl) ?_
      refine lv_iload_n hx hb dX12_against_4 rfl (lv_at hl 1 rfl) ?_
      refine j_const hx hb dX12_against_5 ?_
      refine j_cR (j_runV (As := [.int (jI x1), .int (jI 0)]) (rest := [.int (jI v2_2)]) hx hb hml hown hts hK hS hW (kX12_of l hS σ (a0 := a0) (h0 := h0) (x1 := x1) (r1 := (by omega)) (x2 := 0) (r2 := (by decide)) (q0 := (by omega)) (q1 := (by omega))) 2 gX12_against_X12_of rfl hvX12_of ⟨Nat.le_of_ble_eq_true rfl, Nat.le_of_ble_eq_true rfl⟩ rfl rfl h0 rfl rfl rfl rfl hl.1 rfl (Nat.le_of_ble_eq_true rfl) dX12_against_6 ⟨Nat.le_of_ble_eq_true rfl, Nat.le_of_ble_eq_true rfl⟩) (fun v_1 rv_1 pv_1 => ?_)
      try dsimp only at pv_1
      have q_of := pv_1
      have := @FI_len _ _ _ hI x1
      refine j_icmp_ge (tgt := 42) hx hb (by omega) (by omega) dX12_against_9 (by decide) (fun c_2 => ?_) (fun c_2 => ?_)
      · refine lv_iload_n hx hb dX12_against_42 rfl (lv_at hl 2 rfl) ?_
        refine lv_aload_n hx hb dX12_against_43 rfl (lv_at hl 0 rfl) ?_
        refine lv_iload_n hx hb dX12_against_44 rfl (lv_at hl 1 rfl) ?_
        refine j_const hx hb dX12_against_45 ?_
        refine j_cR (j_runV (As := [.int (jI x1), .int (jI 0)]) (rest := [.int (jI v2_2)]) hx hb hml hown hts hK hS hW (kX12_of l hS σ (a0 := a0) (h0 := h0) (x1 := x1) (r1 := (by omega)) (x2 := 0) (r2 := (by decide)) (q0 := (by omega)) (q1 := (by omega))) 2 gX12_against_X12_of rfl hvX12_of ⟨Nat.le_of_ble_eq_true rfl, Nat.le_of_ble_eq_true rfl⟩ rfl rfl h0 rfl rfl rfl rfl hl.1 rfl (Nat.le_of_ble_eq_true rfl) dX12_against_46 ⟨Nat.le_of_ble_eq_true rfl, Nat.le_of_ble_eq_true rfl⟩) (fun v_3 rv_3 pv_3 => ?_)
        try dsimp only at pv_3
        have q_of := pv_3
        have := @FI_len _ _ _ hI x1
        refine j_icmp_eq (tgt := 60) hx hb (by omega) (by omega) dX12_against_49 (by decide) (fun c_4 => ?_) (fun c_4 => ?_)
        · refine lv_aload_n hx hb dX12_against_60 rfl (lv_at hl 0 rfl) ?_
          refine lv_iload_n hx hb dX12_against_61 rfl (lv_at hl 1 rfl) ?_
          refine j_const hx hb dX12_against_62 ?_
          refine j_cR (j_runV (As := [.int (jI x1), .int (jI 0)]) (rest := []) hx hb hml hown hts hK hS hW (kX12_of l hS σ (a0 := a0) (h0 := h0) (x1 := x1) (r1 := (by omega)) (x2 := 0) (r2 := (by decide)) (q0 := (by omega)) (q1 := (by omega))) 2 gX12_against_X12_of rfl hvX12_of ⟨Nat.le_of_ble_eq_true rfl, Nat.le_of_ble_eq_true rfl⟩ rfl rfl h0 rfl rfl rfl rfl hl.1 rfl (Nat.le_of_ble_eq_true rfl) dX12_against_63 ⟨Nat.le_of_ble_eq_true rfl, Nat.le_of_ble_eq_true rfl⟩) (fun v_5 rv_5 pv_5 => ?_)
          try dsimp only at pv_5
          have q_of := pv_5
          have := @FI_len _ _ _ hI x1
          refine lv_aload_n hx hb dX12_against_66 rfl (lv_at hl 0 rfl) ?_
          refine j_getI hx hb (C := RX12) (T := TX12) (N := 41) hts inX12_against_X12 hown hK hS hW h0 rfl 3 rfl rfl (by decide) (hts _ flX12_against_70) dX12_against_67 ?_
          have := fbd hW h0 (k := 3) (lo := 0) (hi := 24) rfl rfl
          refine j_sub hx hb dX12_against_70 ?_
          exact hRet 71 _ (v_5 - (σ a0 3)) dX12_against_71 (by omega) (cmp_end i0_2 i1_2 i2_2 i3_2 (fk := kO (σ (G a0 0)) x1 (3 + v2_2)) (hk := σ (G a0 2) v2_2.toNat) rfl rfl (by omega))
        · refine lv_iload_n hx hb dX12_against_52 rfl (lv_at hl 2 rfl) ?_
          refine lv_aload_n hx hb dX12_against_53 rfl (lv_at hl 0 rfl) ?_
          refine j_getI hx hb (C := RX12) (T := TX12) (N := 41) hts inX12_against_X12 hown hK hS hW h0 rfl 3 rfl rfl (by decide) (hts _ flX12_against_70) dX12_against_54 ?_
          have := fbd hW h0 (k := 3) (lo := 0) (hi := 24) rfl rfl
          refine j_icmp_ne (tgt := 72) hx hb (by omega) (by omega) dX12_against_57 (by decide) (fun c_6 => ?_) (fun c_6 => ?_)
          · refine lv_aload_n hx hb dX12_against_72 rfl (lv_at hl 0 rfl) ?_
            refine lv_iload_n hx hb dX12_against_73 rfl (lv_at hl 1 rfl) ?_
            refine lv_iload_n hx hb dX12_against_74 rfl (lv_at hl 2 rfl) ?_
            refine j_cR (j_runV (As := [.int (jI x1), .int (jI v2_2)]) (rest := []) hx hb hml hown hts hK hS hW (kX12_byteOf l hS σ (a0 := a0) (h0 := h0) (x1 := x1) (r1 := (by omega)) (x2 := v2_2) (r2 := (by omega)) (q0 := (by omega)) (q1 := (by omega))) 2 gX12_against_X12_byteOf rfl hvX12_byteOf ⟨Nat.le_of_ble_eq_true rfl, Nat.le_of_ble_eq_true rfl⟩ rfl rfl h0 rfl rfl rfl rfl hl.1 rfl (Nat.le_of_ble_eq_true rfl) dX12_against_75 ⟨Nat.le_of_ble_eq_true rfl, Nat.le_of_ble_eq_true rfl⟩) (fun v_7 rv_7 pv_7 => ?_)
            try dsimp only at pv_7
            have q_byteOf := pv_7
            have := @FI_byte _ _ _ hI x1 v2_2
            refine lv_aload_n hx hb dX12_against_78 rfl (lv_at hl 0 rfl) ?_
            refine j_getR hx hb (C := RX12) (T := TX12) (N := 41) hts inX12_against_X12 hown hK hS hW h0 rfl 2 rfl rfl (by decide) (hts _ flX12_against_13) dX12_against_79 ?_
            have h_8 : τ (G a0 2) = 41 := gty hS h0 (k := 2) rfl rfl
            refine lv_iload_n hx hb dX12_against_82 rfl (lv_at hl 2 rfl) ?_
            refine j_ald hx hb hK hS hW h_8 (n := 24) rfl (by omega) (by omega) (by decide) dX12_against_83 ?_
            have := abd hW h_8 (n := 24) (lo := 0) (hi := 255) (i := v2_2) rfl (by omega) (by omega)
            refine j_sub hx hb dX12_against_84 ?_
            exact hRet 85 _ (v_7 - (σ (G a0 2) (v2_2).toNat)) dX12_against_85 (by omega) (cmp_end i0_2 i1_2 i2_2 i3_2 (fk := kO (σ (G a0 0)) x1 (3 + v2_2)) (hk := σ (G a0 2) v2_2.toNat) rfl rfl (by omega))
          · refine lv_aload_n hx hb dX12_against_60 rfl (lv_at hl 0 rfl) ?_
            refine lv_iload_n hx hb dX12_against_61 rfl (lv_at hl 1 rfl) ?_
            refine j_const hx hb dX12_against_62 ?_
            refine j_cR (j_runV (As := [.int (jI x1), .int (jI 0)]) (rest := []) hx hb hml hown hts hK hS hW (kX12_of l hS σ (a0 := a0) (h0 := h0) (x1 := x1) (r1 := (by omega)) (x2 := 0) (r2 := (by decide)) (q0 := (by omega)) (q1 := (by omega))) 2 gX12_against_X12_of rfl hvX12_of ⟨Nat.le_of_ble_eq_true rfl, Nat.le_of_ble_eq_true rfl⟩ rfl rfl h0 rfl rfl rfl rfl hl.1 rfl (Nat.le_of_ble_eq_true rfl) dX12_against_63 ⟨Nat.le_of_ble_eq_true rfl, Nat.le_of_ble_eq_true rfl⟩) (fun v_9 rv_9 pv_9 => ?_)
            try dsimp only at pv_9
            have q_of := pv_9
            have := @FI_len _ _ _ hI x1
            refine lv_aload_n hx hb dX12_against_66 rfl (lv_at hl 0 rfl) ?_
            refine j_getI hx hb (C := RX12) (T := TX12) (N := 41) hts inX12_against_X12 hown hK hS hW h0 rfl 3 rfl rfl (by decide) (hts _ flX12_against_70) dX12_against_67 ?_
            refine j_sub hx hb dX12_against_70 ?_
            exact hRet 71 _ (v_9 - (σ a0 3)) dX12_against_71 (by omega) (cmp_end i0_2 i1_2 i2_2 i3_2 (fk := kO (σ (G a0 0)) x1 (3 + v2_2)) (hk := σ (G a0 2) v2_2.toNat) rfl rfl (by omega))
      · refine lv_iload_n hx hb dX12_against_12 rfl (lv_at hl 2 rfl) ?_
        refine lv_aload_n hx hb dX12_against_13 rfl (lv_at hl 0 rfl) ?_
        refine j_getI hx hb (C := RX12) (T := TX12) (N := 41) hts inX12_against_X12 hown hK hS hW h0 rfl 3 rfl rfl (by decide) (hts _ flX12_against_70) dX12_against_14 ?_
        have := fbd hW h0 (k := 3) (lo := 0) (hi := 24) rfl rfl
        refine j_icmp_ge (tgt := 42) hx hb (by omega) (by omega) dX12_against_17 (by decide) (fun c_10 => ?_) (fun c_10 => ?_)
        · refine lv_iload_n hx hb dX12_against_42 rfl (lv_at hl 2 rfl) ?_
          refine lv_aload_n hx hb dX12_against_43 rfl (lv_at hl 0 rfl) ?_
          refine lv_iload_n hx hb dX12_against_44 rfl (lv_at hl 1 rfl) ?_
          refine j_const hx hb dX12_against_45 ?_
          refine j_cR (j_runV (As := [.int (jI x1), .int (jI 0)]) (rest := [.int (jI v2_2)]) hx hb hml hown hts hK hS hW (kX12_of l hS σ (a0 := a0) (h0 := h0) (x1 := x1) (r1 := (by omega)) (x2 := 0) (r2 := (by decide)) (q0 := (by omega)) (q1 := (by omega))) 2 gX12_against_X12_of rfl hvX12_of ⟨Nat.le_of_ble_eq_true rfl, Nat.le_of_ble_eq_true rfl⟩ rfl rfl h0 rfl rfl rfl rfl hl.1 rfl (Nat.le_of_ble_eq_true rfl) dX12_against_46 ⟨Nat.le_of_ble_eq_true rfl, Nat.le_of_ble_eq_true rfl⟩) (fun v_11 rv_11 pv_11 => ?_)
          try dsimp only at pv_11
          have q_of := pv_11
          have := @FI_len _ _ _ hI x1
          refine j_icmp_eq (tgt := 60) hx hb (by omega) (by omega) dX12_against_49 (by decide) (fun c_12 => ?_) (fun c_12 => ?_)
          · refine lv_aload_n hx hb dX12_against_60 rfl (lv_at hl 0 rfl) ?_
            refine lv_iload_n hx hb dX12_against_61 rfl (lv_at hl 1 rfl) ?_
            refine j_const hx hb dX12_against_62 ?_
            refine j_cR (j_runV (As := [.int (jI x1), .int (jI 0)]) (rest := []) hx hb hml hown hts hK hS hW (kX12_of l hS σ (a0 := a0) (h0 := h0) (x1 := x1) (r1 := (by omega)) (x2 := 0) (r2 := (by decide)) (q0 := (by omega)) (q1 := (by omega))) 2 gX12_against_X12_of rfl hvX12_of ⟨Nat.le_of_ble_eq_true rfl, Nat.le_of_ble_eq_true rfl⟩ rfl rfl h0 rfl rfl rfl rfl hl.1 rfl (Nat.le_of_ble_eq_true rfl) dX12_against_63 ⟨Nat.le_of_ble_eq_true rfl, Nat.le_of_ble_eq_true rfl⟩) (fun v_13 rv_13 pv_13 => ?_)
            try dsimp only at pv_13
            have q_of := pv_13
            have := @FI_len _ _ _ hI x1
            refine lv_aload_n hx hb dX12_against_66 rfl (lv_at hl 0 rfl) ?_
            refine j_getI hx hb (C := RX12) (T := TX12) (N := 41) hts inX12_against_X12 hown hK hS hW h0 rfl 3 rfl rfl (by decide) (hts _ flX12_against_70) dX12_against_67 ?_
            refine j_sub hx hb dX12_against_70 ?_
            exact hRet 71 _ (v_13 - (σ a0 3)) dX12_against_71 (by omega) (cmp_end i0_2 i1_2 i2_2 i3_2 (fk := kO (σ (G a0 0)) x1 (3 + v2_2)) (hk := σ (G a0 2) v2_2.toNat) rfl rfl (by omega))
          · refine lv_iload_n hx hb dX12_against_52 rfl (lv_at hl 2 rfl) ?_
            refine lv_aload_n hx hb dX12_against_53 rfl (lv_at hl 0 rfl) ?_
            refine j_getI hx hb (C := RX12) (T := TX12) (N := 41) hts inX12_against_X12 hown hK hS hW h0 rfl 3 rfl rfl (by decide) (hts _ flX12_against_70) dX12_against_54 ?_
            refine j_icmp_ne (tgt := 72) hx hb (by omega) (by omega) dX12_against_57 (by decide) (fun c_14 => ?_) (fun c_14 => ?_)
            · refine lv_aload_n hx hb dX12_against_72 rfl (lv_at hl 0 rfl) ?_
              refine lv_iload_n hx hb dX12_against_73 rfl (lv_at hl 1 rfl) ?_
              refine lv_iload_n hx hb dX12_against_74 rfl (lv_at hl 2 rfl) ?_
              refine j_cR (j_runV (As := [.int (jI x1), .int (jI v2_2)]) (rest := []) hx hb hml hown hts hK hS hW (kX12_byteOf l hS σ (a0 := a0) (h0 := h0) (x1 := x1) (r1 := (by omega)) (x2 := v2_2) (r2 := (by omega)) (q0 := (by omega)) (q1 := (by omega))) 2 gX12_against_X12_byteOf rfl hvX12_byteOf ⟨Nat.le_of_ble_eq_true rfl, Nat.le_of_ble_eq_true rfl⟩ rfl rfl h0 rfl rfl rfl rfl hl.1 rfl (Nat.le_of_ble_eq_true rfl) dX12_against_75 ⟨Nat.le_of_ble_eq_true rfl, Nat.le_of_ble_eq_true rfl⟩) (fun v_15 rv_15 pv_15 => ?_)
              try dsimp only at pv_15
              have q_byteOf := pv_15
              have := @FI_byte _ _ _ hI x1 v2_2
              refine lv_aload_n hx hb dX12_against_78 rfl (lv_at hl 0 rfl) ?_
              refine j_getR hx hb (C := RX12) (T := TX12) (N := 41) hts inX12_against_X12 hown hK hS hW h0 rfl 2 rfl rfl (by decide) (hts _ flX12_against_13) dX12_against_79 ?_
              have h_16 : τ (G a0 2) = 41 := gty hS h0 (k := 2) rfl rfl
              refine lv_iload_n hx hb dX12_against_82 rfl (lv_at hl 2 rfl) ?_
              refine j_ald hx hb hK hS hW h_16 (n := 24) rfl (by omega) (by omega) (by decide) dX12_against_83 ?_
              have := abd hW h_16 (n := 24) (lo := 0) (hi := 255) (i := v2_2) rfl (by omega) (by omega)
              refine j_sub hx hb dX12_against_84 ?_
              exact hRet 85 _ (v_15 - (σ (G a0 2) (v2_2).toNat)) dX12_against_85 (by omega) (cmp_end i0_2 i1_2 i2_2 i3_2 (fk := kO (σ (G a0 0)) x1 (3 + v2_2)) (hk := σ (G a0 2) v2_2.toNat) rfl rfl (by omega))
            · refine lv_aload_n hx hb dX12_against_60 rfl (lv_at hl 0 rfl) ?_
              refine lv_iload_n hx hb dX12_against_61 rfl (lv_at hl 1 rfl) ?_
              refine j_const hx hb dX12_against_62 ?_
              refine j_cR (j_runV (As := [.int (jI x1), .int (jI 0)]) (rest := []) hx hb hml hown hts hK hS hW (kX12_of l hS σ (a0 := a0) (h0 := h0) (x1 := x1) (r1 := (by omega)) (x2 := 0) (r2 := (by decide)) (q0 := (by omega)) (q1 := (by omega))) 2 gX12_against_X12_of rfl hvX12_of ⟨Nat.le_of_ble_eq_true rfl, Nat.le_of_ble_eq_true rfl⟩ rfl rfl h0 rfl rfl rfl rfl hl.1 rfl (Nat.le_of_ble_eq_true rfl) dX12_against_63 ⟨Nat.le_of_ble_eq_true rfl, Nat.le_of_ble_eq_true rfl⟩) (fun v_17 rv_17 pv_17 => ?_)
              try dsimp only at pv_17
              have q_of := pv_17
              have := @FI_len _ _ _ hI x1
              refine lv_aload_n hx hb dX12_against_66 rfl (lv_at hl 0 rfl) ?_
              refine j_getI hx hb (C := RX12) (T := TX12) (N := 41) hts inX12_against_X12 hown hK hS hW h0 rfl 3 rfl rfl (by decide) (hts _ flX12_against_70) dX12_against_67 ?_
              refine j_sub hx hb dX12_against_70 ?_
              exact hRet 71 _ (v_17 - (σ a0 3)) dX12_against_71 (by omega) (cmp_end i0_2 i1_2 i2_2 i3_2 (fk := kO (σ (G a0 0)) x1 (3 + v2_2)) (hk := σ (G a0 2) v2_2.toNat) rfl rfl (by omega))
        · refine lv_aload_n hx hb dX12_against_20 rfl (lv_at hl 0 rfl) ?_
          refine lv_iload_n hx hb dX12_against_21 rfl (lv_at hl 1 rfl) ?_
          refine lv_iload_n hx hb dX12_against_22 rfl (lv_at hl 2 rfl) ?_
          refine j_cR (j_runV (As := [.int (jI x1), .int (jI v2_2)]) (rest := []) hx hb hml hown hts hK hS hW (kX12_byteOf l hS σ (a0 := a0) (h0 := h0) (x1 := x1) (r1 := (by omega)) (x2 := v2_2) (r2 := (by omega)) (q0 := (by omega)) (q1 := (by omega))) 2 gX12_against_X12_byteOf rfl hvX12_byteOf ⟨Nat.le_of_ble_eq_true rfl, Nat.le_of_ble_eq_true rfl⟩ rfl rfl h0 rfl rfl rfl rfl hl.1 rfl (Nat.le_of_ble_eq_true rfl) dX12_against_23 ⟨Nat.le_of_ble_eq_true rfl, Nat.le_of_ble_eq_true rfl⟩) (fun v_18 rv_18 pv_18 => ?_)
          try dsimp only at pv_18
          have q_byteOf := pv_18
          have := @FI_byte _ _ _ hI x1 v2_2
          refine lv_aload_n hx hb dX12_against_26 rfl (lv_at hl 0 rfl) ?_
          refine j_getR hx hb (C := RX12) (T := TX12) (N := 41) hts inX12_against_X12 hown hK hS hW h0 rfl 2 rfl rfl (by decide) (hts _ flX12_against_13) dX12_against_27 ?_
          have h_19 : τ (G a0 2) = 41 := gty hS h0 (k := 2) rfl rfl
          refine lv_iload_n hx hb dX12_against_30 rfl (lv_at hl 2 rfl) ?_
          refine j_ald hx hb hK hS hW h_19 (n := 24) rfl (by omega) (by omega) (by decide) dX12_against_31 ?_
          have := abd hW h_19 (n := 24) (lo := 0) (hi := 255) (i := v2_2) rfl (by omega) (by omega)
          refine j_icmp_ne (tgt := 42) hx hb (by omega) (by omega) dX12_against_32 (by decide) (fun c_20 => ?_) (fun c_20 => ?_)
          · refine lv_iload_n hx hb dX12_against_42 rfl (lv_at hl 2 rfl) ?_
            refine lv_aload_n hx hb dX12_against_43 rfl (lv_at hl 0 rfl) ?_
            refine lv_iload_n hx hb dX12_against_44 rfl (lv_at hl 1 rfl) ?_
            refine j_const hx hb dX12_against_45 ?_
            refine j_cR (j_runV (As := [.int (jI x1), .int (jI 0)]) (rest := [.int (jI v2_2)]) hx hb hml hown hts hK hS hW (kX12_of l hS σ (a0 := a0) (h0 := h0) (x1 := x1) (r1 := (by omega)) (x2 := 0) (r2 := (by decide)) (q0 := (by omega)) (q1 := (by omega))) 2 gX12_against_X12_of rfl hvX12_of ⟨Nat.le_of_ble_eq_true rfl, Nat.le_of_ble_eq_true rfl⟩ rfl rfl h0 rfl rfl rfl rfl hl.1 rfl (Nat.le_of_ble_eq_true rfl) dX12_against_46 ⟨Nat.le_of_ble_eq_true rfl, Nat.le_of_ble_eq_true rfl⟩) (fun v_21 rv_21 pv_21 => ?_)
            try dsimp only at pv_21
            have q_of := pv_21
            have := @FI_len _ _ _ hI x1
            refine j_icmp_eq (tgt := 60) hx hb (by omega) (by omega) dX12_against_49 (by decide) (fun c_22 => ?_) (fun c_22 => ?_)
            · refine lv_aload_n hx hb dX12_against_60 rfl (lv_at hl 0 rfl) ?_
              refine lv_iload_n hx hb dX12_against_61 rfl (lv_at hl 1 rfl) ?_
              refine j_const hx hb dX12_against_62 ?_
              refine j_cR (j_runV (As := [.int (jI x1), .int (jI 0)]) (rest := []) hx hb hml hown hts hK hS hW (kX12_of l hS σ (a0 := a0) (h0 := h0) (x1 := x1) (r1 := (by omega)) (x2 := 0) (r2 := (by decide)) (q0 := (by omega)) (q1 := (by omega))) 2 gX12_against_X12_of rfl hvX12_of ⟨Nat.le_of_ble_eq_true rfl, Nat.le_of_ble_eq_true rfl⟩ rfl rfl h0 rfl rfl rfl rfl hl.1 rfl (Nat.le_of_ble_eq_true rfl) dX12_against_63 ⟨Nat.le_of_ble_eq_true rfl, Nat.le_of_ble_eq_true rfl⟩) (fun v_23 rv_23 pv_23 => ?_)
              try dsimp only at pv_23
              have q_of := pv_23
              have := @FI_len _ _ _ hI x1
              refine lv_aload_n hx hb dX12_against_66 rfl (lv_at hl 0 rfl) ?_
              refine j_getI hx hb (C := RX12) (T := TX12) (N := 41) hts inX12_against_X12 hown hK hS hW h0 rfl 3 rfl rfl (by decide) (hts _ flX12_against_70) dX12_against_67 ?_
              refine j_sub hx hb dX12_against_70 ?_
              exact hRet 71 _ (v_23 - (σ a0 3)) dX12_against_71 (by omega) (cmp_end i0_2 i1_2 i2_2 i3_2 (fk := kO (σ (G a0 0)) x1 (3 + v2_2)) (hk := σ (G a0 2) v2_2.toNat) rfl rfl (by omega))
            · refine lv_iload_n hx hb dX12_against_52 rfl (lv_at hl 2 rfl) ?_
              refine lv_aload_n hx hb dX12_against_53 rfl (lv_at hl 0 rfl) ?_
              refine j_getI hx hb (C := RX12) (T := TX12) (N := 41) hts inX12_against_X12 hown hK hS hW h0 rfl 3 rfl rfl (by decide) (hts _ flX12_against_70) dX12_against_54 ?_
              refine j_icmp_ne (tgt := 72) hx hb (by omega) (by omega) dX12_against_57 (by decide) (fun c_24 => ?_) (fun c_24 => ?_)
              · refine lv_aload_n hx hb dX12_against_72 rfl (lv_at hl 0 rfl) ?_
                refine lv_iload_n hx hb dX12_against_73 rfl (lv_at hl 1 rfl) ?_
                refine lv_iload_n hx hb dX12_against_74 rfl (lv_at hl 2 rfl) ?_
                refine j_cR (j_runV (As := [.int (jI x1), .int (jI v2_2)]) (rest := []) hx hb hml hown hts hK hS hW (kX12_byteOf l hS σ (a0 := a0) (h0 := h0) (x1 := x1) (r1 := (by omega)) (x2 := v2_2) (r2 := (by omega)) (q0 := (by omega)) (q1 := (by omega))) 2 gX12_against_X12_byteOf rfl hvX12_byteOf ⟨Nat.le_of_ble_eq_true rfl, Nat.le_of_ble_eq_true rfl⟩ rfl rfl h0 rfl rfl rfl rfl hl.1 rfl (Nat.le_of_ble_eq_true rfl) dX12_against_75 ⟨Nat.le_of_ble_eq_true rfl, Nat.le_of_ble_eq_true rfl⟩) (fun v_25 rv_25 pv_25 => ?_)
                try dsimp only at pv_25
                have q_byteOf := pv_25
                have := @FI_byte _ _ _ hI x1 v2_2
                refine lv_aload_n hx hb dX12_against_78 rfl (lv_at hl 0 rfl) ?_
                refine j_getR hx hb (C := RX12) (T := TX12) (N := 41) hts inX12_against_X12 hown hK hS hW h0 rfl 2 rfl rfl (by decide) (hts _ flX12_against_13) dX12_against_79 ?_
                refine lv_iload_n hx hb dX12_against_82 rfl (lv_at hl 2 rfl) ?_
                refine j_ald hx hb hK hS hW h_19 (n := 24) rfl (by omega) (by omega) (by decide) dX12_against_83 ?_
                refine j_sub hx hb dX12_against_84 ?_
                exact hRet 85 _ (v_25 - (σ (G a0 2) (v2_2).toNat)) dX12_against_85 (by omega) (cmp_end i0_2 i1_2 i2_2 i3_2 (fk := kO (σ (G a0 0)) x1 (3 + v2_2)) (hk := σ (G a0 2) v2_2.toNat) rfl rfl (by omega))
              · refine lv_aload_n hx hb dX12_against_60 rfl (lv_at hl 0 rfl) ?_
                refine lv_iload_n hx hb dX12_against_61 rfl (lv_at hl 1 rfl) ?_
                refine j_const hx hb dX12_against_62 ?_
                refine j_cR (j_runV (As := [.int (jI x1), .int (jI 0)]) (rest := []) hx hb hml hown hts hK hS hW (kX12_of l hS σ (a0 := a0) (h0 := h0) (x1 := x1) (r1 := (by omega)) (x2 := 0) (r2 := (by decide)) (q0 := (by omega)) (q1 := (by omega))) 2 gX12_against_X12_of rfl hvX12_of ⟨Nat.le_of_ble_eq_true rfl, Nat.le_of_ble_eq_true rfl⟩ rfl rfl h0 rfl rfl rfl rfl hl.1 rfl (Nat.le_of_ble_eq_true rfl) dX12_against_63 ⟨Nat.le_of_ble_eq_true rfl, Nat.le_of_ble_eq_true rfl⟩) (fun v_26 rv_26 pv_26 => ?_)
                try dsimp only at pv_26
                have q_of := pv_26
                have := @FI_len _ _ _ hI x1
                refine lv_aload_n hx hb dX12_against_66 rfl (lv_at hl 0 rfl) ?_
                refine j_getI hx hb (C := RX12) (T := TX12) (N := 41) hts inX12_against_X12 hown hK hS hW h0 rfl 3 rfl rfl (by decide) (hts _ flX12_against_70) dX12_against_67 ?_
                refine j_sub hx hb dX12_against_70 ?_
                exact hRet 71 _ (v_26 - (σ a0 3)) dX12_against_71 (by omega) (cmp_end i0_2 i1_2 i2_2 i3_2 (fk := kO (σ (G a0 0)) x1 (3 + v2_2)) (hk := σ (G a0 2) v2_2.toNat) rfl rfl (by omega))
          · refine lv_iload_n hx hb dX12_against_35 rfl (lv_at hl 2 rfl) ?_
            refine j_const hx hb dX12_against_36 ?_
            refine j_add hx hb dX12_against_37 ?_
            refine lv_istore_n (lv' := [(2, .int (jI (v2_2 + 1))), (0, .ref a0), (1, .int (jI x1))]) hx hb dX12_against_38 rfl hl (by decide) rfl (fun ls hl => ?_)
            refine lv_goto (tgt := 2) hx hb dX12_against_39 (by decide) ?_
            exact ih_2 ((2147483647 - (v2_2 + 1) : Int).toNat) (by omega) (v2_2 + 1) _ rfl (by omega) (by omega) (by omega) (by first | exact agree_succ i3_2 (by omega) | (intro j j0 j1; omega)) (by omega) (lv_sub hl [1, 2, 0] rfl)
  exact L_2 ((2147483647 - 0 : Int).toNat) 0 _ rfl (by omega) (by omega) (by omega) (by first | exact agree_succ i3_2 (by omega) | (intro j j0 j1; omega)) (by decide) (lv_sub hl [1, 2, 0] rfl)
theorem hvX12_rankOfHand : yX12_rankOfHand.cls = RX12 ∧ yX12_rankOfHand.cls ≠ "java/lang/invoke/MethodHandle" ∧ yX12_rankOfHand.cls ≠ "java/lang/invoke/VarHandle" ∧ (parseMethodDescriptor yX12_rankOfHand.desc).map (fun d => d.parameters.length) = some 0 := by decide +kernel
set_option maxHeartbeats 4000000 in
set_option maxRecDepth 100000 in
theorem kX12_rankOfHand (l : Launch) {D : va_G} {cA : Nat → ClassId} {τ : Nat → Nat} {G : Nat → Nat → Nat} {L : List Nat} (hS : SW τ G L) (σ : Nat → Nat → Int) {a0 : Nat} (h0 : τ a0 = 13) (hI : FI G a0 σ) : Met l yX12_rankOfHand wsX12_rankOfHand ({ frames := 2, cells := 0, slots := 0, locals := 44 }) (jP D cA τ G L σ [.ref a0]) (jQR (fun r => (RK (σ (G a0 0) 0) r (fun i => kO (σ (G a0 0)) i 0) (fun i => kB (σ (G a0 0)) i) (σ a0 3) (hB (σ (G a0 2)))))) 0 0 (fun _ => False) := by
  refine j_metR (by decide +kernel) rfl (Nat.le_of_ble_eq_true rfl) ?_
  intro p e s m args below meth c Q hx hb hml hown hts hK hW hRet ls hl
  have hl : lv_has ls 2 [(0, .ref a0)] := hl
  have := FI_bd hI
  have := fbd hW h0 (k := 3) (lo := 0) (hi := 24) rfl rfl
  refine j_const hx hb dX12_rankOfHand_0 ?_
  refine lv_istore_n (lv' := [(1, .int (jI 0)), (0, .ref a0)]) hx hb dX12_rankOfHand_1 rfl hl (by decide) rfl (fun ls hl => ?_)
  have L_2 : ∀ (N : Nat) (v1_2 : Int) (ls : Array Slot), N = (2147483647 - v1_2 : Int).toNat → (0 ≤ v1_2) → (v1_2 ≤ σ (G a0 0) 0) → (∀ j : Int, 0 ≤ j → j < v1_2 → klt (kO (σ (G a0 0)) j 0) (kB (σ (G a0 0)) j) (σ a0 3) (hB (σ (G a0 2)))) → rg v1_2 → lv_has ls 2 [(0, .ref a0), (1, .int (jI v1_2))] → W p l e ({ frames := 2, cells := 0, slots := 0, locals := 44 }) s m args below meth c s.heap [] 0 0 Q (F0 m 2 ls []) := by
    intro N
    induction N using Nat.strongRecOn with
    | ind N ih_2 =>
      intro v1_2 ls hN i0_2 i1_2 i2_2 rv1_2 hl
      refine lv_iload_n hx hb dX12_rankOfHand_2 rfl (lv_at hl 1 rfl) ?_
      refine lv_aload_n hx hb dX12_rankOfHand_3 rfl (lv_at hl 0 rfl) ?_
      refine j_cR (j_runV (As := []) (rest := [.int (jI v1_2)]) hx hb hml hown hts hK hS hW (kX12_many l hS σ (a0 := a0) (h0 := h0)) 0 gX12_rankOfHand_X12_many rfl hvX12_many ⟨Nat.le_of_ble_eq_true rfl, Nat.le_of_ble_eq_true rfl⟩ rfl rfl h0 rfl rfl rfl rfl hl.1 rfl (Nat.le_of_ble_eq_true rfl) dX12_rankOfHand_4 ⟨Nat.le_of_ble_eq_true rfl, Nat.le_of_ble_eq_true rfl⟩) (fun v_1 rv_1 pv_1 => ?_)
      try dsimp only at pv_1
      have q_many := pv_1
      have := FI_bd hI
      refine j_icmp_ge (tgt := 25) hx hb (by omega) (by omega) dX12_rankOfHand_7 (by decide) (fun c_2 => ?_) (fun c_2 => ?_)
      · refine lv_iload_n hx hb dX12_rankOfHand_25 rfl (lv_at hl 1 rfl) ?_
        exact hRet 26 _ v1_2 dX12_rankOfHand_26 (by omega) ⟨i0_2, i1_2, i2_2, fun h => (by first | (exfalso; omega) | exact cmp_nlt pv_3 (by omega))⟩
      · refine lv_aload_n hx hb dX12_rankOfHand_10 rfl (lv_at hl 0 rfl) ?_
        refine lv_iload_n hx hb dX12_rankOfHand_11 rfl (lv_at hl 1 rfl) ?_
        refine j_cR (j_runV (As := [.int (jI v1_2)]) (rest := []) hx hb hml hown hts hK hS hW (kX12_against l hS σ (a0 := a0) (h0 := h0) (x1 := v1_2) (r1 := (by omega)) (hI := hI) (q0 := (by omega)) (q1 := (by omega))) 1 gX12_rankOfHand_X12_against rfl hvX12_against ⟨Nat.le_of_ble_eq_true rfl, Nat.le_of_ble_eq_true rfl⟩ rfl rfl h0 rfl rfl rfl rfl hl.1 rfl (Nat.le_of_ble_eq_true rfl) dX12_rankOfHand_12 ⟨Nat.le_of_ble_eq_true rfl, Nat.le_of_ble_eq_true rfl⟩) (fun v_3 rv_3 pv_3 => ?_)
        try dsimp only at pv_3
        have q_against := pv_3
        refine j_if_ge (tgt := 25) hx hb (by omega) dX12_rankOfHand_15 (by decide) (fun c_4 => ?_) (fun c_4 => ?_)
        · refine lv_iload_n hx hb dX12_rankOfHand_25 rfl (lv_at hl 1 rfl) ?_
          exact hRet 26 _ v1_2 dX12_rankOfHand_26 (by omega) ⟨i0_2, i1_2, i2_2, fun h => (by first | (exfalso; omega) | exact cmp_nlt pv_3 (by omega))⟩
        · refine lv_iload_n hx hb dX12_rankOfHand_18 rfl (lv_at hl 1 rfl) ?_
          refine j_const hx hb dX12_rankOfHand_19 ?_
          refine j_add hx hb dX12_rankOfHand_20 ?_
          refine lv_istore_n (lv' := [(1, .int (jI (v1_2 + 1))), (0, .ref a0)]) hx hb dX12_rankOfHand_21 rfl hl (by decide) rfl (fun ls hl => ?_)
          refine lv_goto (tgt := 2) hx hb dX12_rankOfHand_22 (by decide) ?_
          exact ih_2 ((2147483647 - (v1_2 + 1) : Int).toNat) (by omega) (v1_2 + 1) _ rfl (by omega) (by omega) (by first | exact agree_succ i2_2 (pv_3.1 (by omega)) | (intro j j0 j1; omega)) (by omega) (lv_sub hl [1, 0] rfl)
  exact L_2 ((2147483647 - 0 : Int).toNat) 0 _ rfl (by omega) (by omega) (by first | exact agree_succ i2_2 (pv_3.1 (by omega)) | (intro j j0 j1; omega)) (by decide) (lv_sub hl [1, 0] rfl)
theorem hvX12_isHandThere : yX12_isHandThere.cls = RX12 ∧ yX12_isHandThere.cls ≠ "java/lang/invoke/MethodHandle" ∧ yX12_isHandThere.cls ≠ "java/lang/invoke/VarHandle" ∧ (parseMethodDescriptor yX12_isHandThere.desc).map (fun d => d.parameters.length) = some 0 := by decide +kernel
set_option maxHeartbeats 4000000 in
set_option maxRecDepth 100000 in
theorem kX12_isHandThere (l : Launch) {D : va_G} {cA : Nat → ClassId} {τ : Nat → Nat} {G : Nat → Nat → Nat} {L : List Nat} (hS : SW τ G L) (σ : Nat → Nat → Int) {a0 : Nat} (h0 : τ a0 = 13) (hI : FI G a0 σ) : Met l yX12_isHandThere wsX12_isHandThere ({ frames := 3, cells := 0, slots := 0, locals := 65 }) (jP D cA τ G L σ [.ref a0]) (jQR (fun r => (0 ≤ r ∧ r ≤ 1) ∧ ((r = 1 ↔ TH (σ (G a0 0) 0) (fun i => kO (σ (G a0 0)) i 0) (fun i => kB (σ (G a0 0)) i) (σ a0 3) (hB (σ (G a0 2))))))) 0 0 (fun _ => False) := by
  refine j_metRZ (by decide +kernel) rfl (Nat.le_of_ble_eq_true rfl) ?_
  intro p e s m args below meth c Q hx hb hml hown hts hK hW hRet ls hl
  have hl : lv_has ls 2 [(0, .ref a0)] := hl
  have := FI_bd hI
  have := fbd hW h0 (k := 3) (lo := 0) (hi := 24) rfl rfl
  refine lv_aload_n hx hb dX12_isHandThere_0 rfl (lv_at hl 0 rfl) ?_
  refine j_cR (j_runV (As := []) (rest := []) hx hb hml hown hts hK hS hW (kX12_rankOfHand l hS σ (a0 := a0) (h0 := h0) (hI := hI)) 0 gX12_isHandThere_X12_rankOfHand rfl hvX12_rankOfHand ⟨Nat.le_of_ble_eq_true rfl, Nat.le_of_ble_eq_true rfl⟩ rfl rfl h0 rfl rfl rfl rfl hl.1 rfl (Nat.le_of_ble_eq_true rfl) dX12_isHandThere_1 ⟨Nat.le_of_ble_eq_true rfl, Nat.le_of_ble_eq_true rfl⟩) (fun v_1 rv_1 pv_1 => ?_)
  try dsimp only at pv_1
  have q_rankOfHand := pv_1
  have : 0 ≤ v_1 ∧ v_1 ≤ σ (G a0 0) 0 := ⟨pv_1.1, pv_1.2.1⟩
  refine lv_istore_n (lv' := [(1, .int (jI v_1)), (0, .ref a0)]) hx hb dX12_isHandThere_4 rfl hl (by decide) rfl (fun ls hl => ?_)
  refine lv_iload_n hx hb dX12_isHandThere_5 rfl (lv_at hl 0 rfl) ?_
  refine lv_aload_n hx hb dX12_isHandThere_6 rfl (lv_at hl 1 rfl) ?_
  refine j_cR (j_runV (As := []) (rest := [.int (jI v_1)]) hx hb hml hown hts hK hS hW (kX12_many l hS σ (a0 := a0) (h0 := h0)) 0 gX12_isHandThere_X12_many rfl hvX12_many ⟨Nat.le_of_ble_eq_true rfl, Nat.le_of_ble_eq_true rfl⟩ rfl rfl h0 rfl rfl rfl rfl hl.1 rfl (Nat.le_of_ble_eq_true rfl) dX12_isHandThere_7 ⟨Nat.le_of_ble_eq_true rfl, Nat.le_of_ble_eq_true rfl⟩) (fun v_2 rv_2 pv_2 => ?_)
  try dsimp only at pv_2
  have q_many := pv_2
  have := FI_bd hI
  refine j_icmp_ge (tgt := 25) hx hb (by omega) (by omega) dX12_isHandThere_10 (by decide) (fun c_3 => ?_) (fun c_3 => ?_)
  · refine j_const hx hb dX12_isHandThere_25 ?_
    exact hRet 26 _ 0 dX12_isHandThere_26 (by omega) (by first | exact ⟨fun h => absurd h (by decide), fun h => absurd h (TH_no (r := 0) hI.1.2.2.2.2.2 pv_1 (Or.inl (by omega)))⟩ | exact ⟨fun h => absurd h (by decide), fun h => absurd h (TH_no hI.1.2.2.2.2.2 pv_1 (Or.inr ⟨pv_4, (by assumption)⟩))⟩ | exact ⟨fun _ => ⟨_, pv_1.1, by omega, pv_4.2.2 (by assumption)⟩, fun _ => rfl⟩)
  · refine lv_aload_n hx hb dX12_isHandThere_13 rfl (lv_at hl 1 rfl) ?_
    refine lv_iload_n hx hb dX12_isHandThere_14 rfl (lv_at hl 0 rfl) ?_
    refine j_cR (j_runV (As := [.int (jI v_1)]) (rest := []) hx hb hml hown hts hK hS hW (kX12_against l hS σ (a0 := a0) (h0 := h0) (x1 := v_1) (r1 := (by omega)) (hI := hI) (q0 := (by omega)) (q1 := (by omega))) 1 gX12_isHandThere_X12_against rfl hvX12_against ⟨Nat.le_of_ble_eq_true rfl, Nat.le_of_ble_eq_true rfl⟩ rfl rfl h0 rfl rfl rfl rfl hl.1 rfl (Nat.le_of_ble_eq_true rfl) dX12_isHandThere_15 ⟨Nat.le_of_ble_eq_true rfl, Nat.le_of_ble_eq_true rfl⟩) (fun v_4 rv_4 pv_4 => ?_)
    try dsimp only at pv_4
    have q_against := pv_4
    refine j_if_ne (tgt := 25) hx hb (by omega) dX12_isHandThere_18 (by decide) (fun c_5 => ?_) (fun c_5 => ?_)
    · refine j_const hx hb dX12_isHandThere_25 ?_
      exact hRet 26 _ 0 dX12_isHandThere_26 (by omega) (by first | exact ⟨fun h => absurd h (by decide), fun h => absurd h (TH_no (r := 0) hI.1.2.2.2.2.2 pv_1 (Or.inl (by omega)))⟩ | exact ⟨fun h => absurd h (by decide), fun h => absurd h (TH_no hI.1.2.2.2.2.2 pv_1 (Or.inr ⟨pv_4, (by assumption)⟩))⟩ | exact ⟨fun _ => ⟨_, pv_1.1, by omega, pv_4.2.2 (by assumption)⟩, fun _ => rfl⟩)
    · refine j_const hx hb dX12_isHandThere_21 ?_
      refine lv_goto (tgt := 26) hx hb dX12_isHandThere_22 (by decide) ?_
      exact hRet 26 _ 1 dX12_isHandThere_26 (by omega) (by first | exact ⟨fun h => absurd h (by decide), fun h => absurd h (TH_no (r := 0) hI.1.2.2.2.2.2 pv_1 (Or.inl (by omega)))⟩ | exact ⟨fun h => absurd h (by decide), fun h => absurd h (TH_no hI.1.2.2.2.2.2 pv_1 (Or.inr ⟨pv_4, (by assumption)⟩))⟩ | exact ⟨fun _ => ⟨_, pv_1.1, by omega, pv_4.2.2 (by assumption)⟩, fun _ => rfl⟩)
theorem flX12_goesOn_13 : Cond.fieldLink RX12 13 "PageTrieModel" "hand" "[I" ∈ wsX12_goesOn := List.mem_of_getElem? (i := 2) rfl
theorem flX12_goesOn_70 : Cond.fieldLink RX12 70 "PageTrieModel" "handLong" "I" ∈ wsX12_goesOn := List.mem_of_getElem? (i := 1) rfl
theorem inX12_goesOn_X12 : ∀ w ∈ u_ws RX12 TX12 41, w ∈ wsX12_goesOn := mem_r _ [13, 14, 15, 16, 17, 18, 19, 20, 21, 22, 23, 24, 25, 26, 27, 28, 29, 30, 31, 32, 33, 34, 35, 36, 37, 38, 39, 40, 41, 42, 43, 44, 45, 46, 47, 48, 49, 50, 51, 52, 53] rfl
theorem hvX12_goesOn : yX12_goesOn.cls = RX12 ∧ yX12_goesOn.cls ≠ "java/lang/invoke/MethodHandle" ∧ yX12_goesOn.cls ≠ "java/lang/invoke/VarHandle" ∧ (parseMethodDescriptor yX12_goesOn.desc).map (fun d => d.parameters.length) = some 2 := by decide +kernel
set_option maxHeartbeats 4000000 in
set_option maxRecDepth 100000 in
theorem kX12_goesOn (l : Launch) {D : va_G} {cA : Nat → ClassId} {τ : Nat → Nat} {G : Nat → Nat → Nat} {L : List Nat} (hS : SW τ G L) (σ : Nat → Nat → Int) {a0 : Nat} (h0 : τ a0 = 13) {x1 : Int} (r1 : rg x1) {x2 : Int} (r2 : rg x2) (hI : FI G a0 σ) (q0 : 0 ≤ x1) (q1 : x1 < σ (G a0 0) 0) (q2 : 0 ≤ x2) : Met l yX12_goesOn wsX12_goesOn ({ frames := 1, cells := 0, slots := 0, locals := 22 }) (jP D cA τ G L σ [.ref a0, .int (jI x1), .int (jI x2)]) (jQR (fun r => (0 ≤ r ∧ r ≤ 1) ∧ ((r = 1 ↔ kgo x2 (kO (σ (G a0 0)) x1 0) (kB (σ (G a0 0)) x1) (σ a0 3) (hB (σ (G a0 2))))))) 0 0 (fun _ => False) := by
  refine j_metRZ (by decide +kernel) rfl (Nat.le_of_ble_eq_true rfl) ?_
  intro p e s m args below meth c Q hx hb hml hown hts hK hW hRet ls hl
  have hl : lv_has ls 4 [(0, .ref a0), (1, .int (jI x1)), (2, .int (jI x2))] := hl
  have := FI_bd hI
  have := fbd hW h0 (k := 3) (lo := 0) (hi := 24) rfl rfl
  refine lv_aload_n hx hb dX12_goesOn_0 rfl (lv_at hl 0 rfl) ?_
  refine lv_iload_n hx hb dX12_goesOn_1 rfl (lv_at hl 1 rfl) ?_
  refine j_const hx hb dX12_goesOn_2 ?_
  refine j_cR (j_runV (As := [.int (jI x1), .int (jI 0)]) (rest := []) hx hb hml hown hts hK hS hW (kX12_of l hS σ (a0 := a0) (h0 := h0) (x1 := x1) (r1 := (by omega)) (x2 := 0) (r2 := (by decide)) (q0 := (by omega)) (q1 := (by omega))) 2 gX12_goesOn_X12_of rfl hvX12_of ⟨Nat.le_of_ble_eq_true rfl, Nat.le_of_ble_eq_true rfl⟩ rfl rfl h0 rfl rfl rfl rfl hl.1 rfl (Nat.le_of_ble_eq_true rfl) dX12_goesOn_3 ⟨Nat.le_of_ble_eq_true rfl, Nat.le_of_ble_eq_true rfl⟩) (fun v_1 rv_1 pv_1 => ?_)
  try dsimp only at pv_1
  have q_of := pv_1
  have := @FI_len _ _ _ hI x1
  refine lv_iload_n hx hb dX12_goesOn_6 rfl (lv_at hl 2 rfl) ?_
  refine j_icmp_le (tgt := 18) hx hb (by omega) (by omega) dX12_goesOn_7 (by decide) (fun c_2 => ?_) (fun c_2 => ?_)
  · refine j_const hx hb dX12_goesOn_18 ?_
    exact hRet 19 _ 0 dX12_goesOn_19 (by omega) (by first | exact ⟨fun h => absurd h (by decide), fun h => by have h1 := h.1; have h2 := h.2.1; omega⟩ | exact ⟨fun h => absurd h (by decide), fun h => by have h3 : kO (σ (G a0 0)) x1 (3 + v3_22) = σ (G a0 2) v3_22.toNat := h.2.2 _ (by omega) (by omega); omega⟩ | exact ⟨fun _ => ⟨by omega, by omega, fun j j0 j1 => i2_22 j j0 (by omega)⟩, fun _ => rfl⟩)
  · refine lv_aload_n hx hb dX12_goesOn_10 rfl (lv_at hl 0 rfl) ?_
    refine j_getI hx hb (C := RX12) (T := TX12) (N := 41) hts inX12_goesOn_X12 hown hK hS hW h0 rfl 3 rfl rfl (by decide) (hts _ flX12_goesOn_70) dX12_goesOn_11 ?_
    have := fbd hW h0 (k := 3) (lo := 0) (hi := 24) rfl rfl
    refine lv_iload_n hx hb dX12_goesOn_14 rfl (lv_at hl 2 rfl) ?_
    refine j_icmp_ge (tgt := 20) hx hb (by omega) (by omega) dX12_goesOn_15 (by decide) (fun c_3 => ?_) (fun c_3 => ?_)
    · refine j_const hx hb dX12_goesOn_20 ?_
      refine lv_istore_n (lv' := [(3, .int (jI 0)), (0, .ref a0), (1, .int (jI x1)), (2, .int (jI x2))]) hx hb dX12_goesOn_21 rfl hl (by decide) rfl (fun ls hl => ?_)
      have L_22 : ∀ (N : Nat) (v3_22 : Int) (ls : Array Slot), N = (2147483647 - v3_22 : Int).toNat → (0 ≤ v3_22) → (v3_22 ≤ x2) → (∀ j : Int, 0 ≤ j → j < v3_22 → kO (σ (G a0 0)) x1 (3 + j) = σ (G a0 2) j.toNat) → rg v3_22 → lv_has ls 4 [(0, .ref a0), (1, .int (jI x1)), (2, .int (jI x2)), (3, .int (jI v3_22))] → W p l e ({ frames := 1, cells := 0, slots := 0, locals := 22 }) s m args below meth c s.heap [] 0 0 Q (F0 m 22 ls []) := by
        intro N
        induction N using Nat.strongRecOn with
        | ind N ih_22 =>
          intro v3_22 ls hN i0_22 i1_22 i2_22 rv3_22 hl
          refine lv_iload_n hx hb dX12_goesOn_22 rfl (lv_at hl 3 rfl) ?_
          refine lv_iload_n hx hb dX12_goesOn_23 rfl (lv_at hl 2 rfl) ?_
          refine j_icmp_ge (tgt := 50) hx hb (by omega) (by omega) dX12_goesOn_24 (by decide) (fun c_4 => ?_) (fun c_4 => ?_)
          · refine j_const hx hb dX12_goesOn_50 ?_
            exact hRet 51 _ 1 dX12_goesOn_51 (by omega) (by first | exact ⟨fun h => absurd h (by decide), fun h => by have h1 := h.1; have h2 := h.2.1; omega⟩ | exact ⟨fun h => absurd h (by decide), fun h => by have h3 : kO (σ (G a0 0)) x1 (3 + v3_22) = σ (G a0 2) v3_22.toNat := h.2.2 _ (by omega) (by omega); omega⟩ | exact ⟨fun _ => ⟨by omega, by omega, fun j j0 j1 => i2_22 j j0 (by omega)⟩, fun _ => rfl⟩)
          · refine lv_aload_n hx hb dX12_goesOn_27 rfl (lv_at hl 0 rfl) ?_
            refine lv_iload_n hx hb dX12_goesOn_28 rfl (lv_at hl 1 rfl) ?_
            refine lv_iload_n hx hb dX12_goesOn_29 rfl (lv_at hl 3 rfl) ?_
            refine j_cR (j_runV (As := [.int (jI x1), .int (jI v3_22)]) (rest := []) hx hb hml hown hts hK hS hW (kX12_byteOf l hS σ (a0 := a0) (h0 := h0) (x1 := x1) (r1 := (by omega)) (x2 := v3_22) (r2 := (by omega)) (q0 := (by omega)) (q1 := (by omega))) 2 gX12_goesOn_X12_byteOf rfl hvX12_byteOf ⟨Nat.le_of_ble_eq_true rfl, Nat.le_of_ble_eq_true rfl⟩ rfl rfl h0 rfl rfl rfl rfl hl.1 rfl (Nat.le_of_ble_eq_true rfl) dX12_goesOn_30 ⟨Nat.le_of_ble_eq_true rfl, Nat.le_of_ble_eq_true rfl⟩) (fun v_5 rv_5 pv_5 => ?_)
            try dsimp only at pv_5
            have q_byteOf := pv_5
            have := @FI_byte _ _ _ hI x1 v3_22
            refine lv_aload_n hx hb dX12_goesOn_33 rfl (lv_at hl 0 rfl) ?_
            refine j_getR hx hb (C := RX12) (T := TX12) (N := 41) hts inX12_goesOn_X12 hown hK hS hW h0 rfl 2 rfl rfl (by decide) (hts _ flX12_goesOn_13) dX12_goesOn_34 ?_
            have h_6 : τ (G a0 2) = 41 := gty hS h0 (k := 2) rfl rfl
            refine lv_iload_n hx hb dX12_goesOn_37 rfl (lv_at hl 3 rfl) ?_
            refine j_ald hx hb hK hS hW h_6 (n := 24) rfl (by omega) (by omega) (by decide) dX12_goesOn_38 ?_
            have := abd hW h_6 (n := 24) (lo := 0) (hi := 255) (i := v3_22) rfl (by omega) (by omega)
            refine j_icmp_eq (tgt := 44) hx hb (by omega) (by omega) dX12_goesOn_39 (by decide) (fun c_7 => ?_) (fun c_7 => ?_)
            · refine j_iinc (lv' := [(3, .int (jI (v3_22 + 1))), (0, .ref a0), (1, .int (jI x1)), (2, .int (jI x2))]) hx hb dX12_goesOn_44 hl (k := 3) rfl (by decide) rfl (fun ls hl => ?_)
              refine lv_goto (tgt := 22) hx hb dX12_goesOn_47 (by decide) ?_
              exact ih_22 ((2147483647 - (v3_22 + 1) : Int).toNat) (by omega) (v3_22 + 1) _ rfl (by omega) (by omega) (by first | exact agree_succ i2_22 (by omega) | (intro j j0 j1; omega)) (by omega) (lv_sub hl [1, 2, 3, 0] rfl)
            · refine j_const hx hb dX12_goesOn_42 ?_
              exact hRet 43 _ 0 dX12_goesOn_43 (by omega) (by first | exact ⟨fun h => absurd h (by decide), fun h => by have h1 := h.1; have h2 := h.2.1; omega⟩ | exact ⟨fun h => absurd h (by decide), fun h => by have h3 : kO (σ (G a0 0)) x1 (3 + v3_22) = σ (G a0 2) v3_22.toNat := h.2.2 _ (by omega) (by omega); omega⟩ | exact ⟨fun _ => ⟨by omega, by omega, fun j j0 j1 => i2_22 j j0 (by omega)⟩, fun _ => rfl⟩)
      exact L_22 ((2147483647 - 0 : Int).toNat) 0 _ rfl (by omega) (by omega) (by first | exact agree_succ i2_22 (by omega) | (intro j j0 j1; omega)) (by decide) (lv_sub hl [1, 2, 3, 0] rfl)
    · refine j_const hx hb dX12_goesOn_18 ?_
      exact hRet 19 _ 0 dX12_goesOn_19 (by omega) (by first | exact ⟨fun h => absurd h (by decide), fun h => by have h1 := h.1; have h2 := h.2.1; omega⟩ | exact ⟨fun h => absurd h (by decide), fun h => by have h3 : kO (σ (G a0 0)) x1 (3 + v3_22) = σ (G a0 2) v3_22.toNat := h.2.2 _ (by omega) (by omega); omega⟩ | exact ⟨fun _ => ⟨by omega, by omega, fun j j0 j1 => i2_22 j j0 (by omega)⟩, fun _ => rfl⟩)
theorem hvX12_areOne : yX12_areOne.cls = RX12 ∧ yX12_areOne.cls ≠ "java/lang/invoke/MethodHandle" ∧ yX12_areOne.cls ≠ "java/lang/invoke/VarHandle" ∧ (parseMethodDescriptor yX12_areOne.desc).map (fun d => d.parameters.length) = some 3 := by decide +kernel
set_option maxHeartbeats 4000000 in
set_option maxRecDepth 100000 in
theorem kX12_areOne (l : Launch) {D : va_G} {cA : Nat → ClassId} {τ : Nat → Nat} {G : Nat → Nat → Nat} {L : List Nat} (hS : SW τ G L) (σ : Nat → Nat → Int) {a0 : Nat} (h0 : τ a0 = 13) {x1 : Int} (r1 : rg x1) {x2 : Int} (r2 : rg x2) {x3 : Int} (r3 : rg x3) (hI : FI G a0 σ) (q0 : 0 ≤ x1) (q1 : x1 < σ (G a0 0) 0) (q2 : 0 ≤ x2) (q3 : x2 < σ (G a0 0) 0) (q4 : 0 ≤ x3) : Met l yX12_areOne wsX12_areOne ({ frames := 1, cells := 0, slots := 0, locals := 22 }) (jP D cA τ G L σ [.ref a0, .int (jI x1), .int (jI x2), .int (jI x3)]) (jQR (fun r => (0 ≤ r ∧ r ≤ 1) ∧ ((r = 1 ↔ shr (fun i => kO (σ (G a0 0)) i 0) (fun i => kB (σ (G a0 0)) i) x1 x2 x3)))) 0 0 (fun _ => False) := by
  refine j_metRZ (by decide +kernel) rfl (Nat.le_of_ble_eq_true rfl) ?_
  intro p e s m args below meth c Q hx hb hml hown hts hK hW hRet ls hl
  have hl : lv_has ls 5 [(0, .ref a0), (1, .int (jI x1)), (2, .int (jI x2)), (3, .int (jI x3))] := hl
  have := FI_bd hI
  have := fbd hW h0 (k := 3) (lo := 0) (hi := 24) rfl rfl
  refine lv_aload_n hx hb dX12_areOne_0 rfl (lv_at hl 0 rfl) ?_
  refine lv_iload_n hx hb dX12_areOne_1 rfl (lv_at hl 1 rfl) ?_
  refine j_const hx hb dX12_areOne_2 ?_
  refine j_cR (j_runV (As := [.int (jI x1), .int (jI 0)]) (rest := []) hx hb hml hown hts hK hS hW (kX12_of l hS σ (a0 := a0) (h0 := h0) (x1 := x1) (r1 := (by omega)) (x2 := 0) (r2 := (by decide)) (q0 := (by omega)) (q1 := (by omega))) 2 gX12_areOne_X12_of rfl hvX12_of ⟨Nat.le_of_ble_eq_true rfl, Nat.le_of_ble_eq_true rfl⟩ rfl rfl h0 rfl rfl rfl rfl hl.1 rfl (Nat.le_of_ble_eq_true rfl) dX12_areOne_3 ⟨Nat.le_of_ble_eq_true rfl, Nat.le_of_ble_eq_true rfl⟩) (fun v_1 rv_1 pv_1 => ?_)
  try dsimp only at pv_1
  have q_of := pv_1
  have := @FI_len _ _ _ hI x1
  refine lv_iload_n hx hb dX12_areOne_6 rfl (lv_at hl 3 rfl) ?_
  refine j_icmp_le (tgt := 20) hx hb (by omega) (by omega) dX12_areOne_7 (by decide) (fun c_2 => ?_) (fun c_2 => ?_)
  · refine j_const hx hb dX12_areOne_20 ?_
    exact hRet 21 _ 0 dX12_areOne_21 (by omega) (by first | exact ⟨fun h => absurd h (by decide), fun h => by have h1 : x3 < kO (σ (G a0 0)) x1 0 := h.1; have h2 : x3 < kO (σ (G a0 0)) x2 0 := h.2.1; omega⟩ | exact ⟨fun h => absurd h (by decide), fun h => by have h3 : kO (σ (G a0 0)) x1 (3 + v4_25) = kO (σ (G a0 0)) x2 (3 + v4_25) := h.2.2 _ (by omega) (by omega); omega⟩ | exact ⟨fun _ => ⟨(by show x3 < kO (σ (G a0 0)) x1 0; omega), (by show x3 < kO (σ (G a0 0)) x2 0; omega), fun j j0 j1 => i2_25 j j0 (by omega)⟩, fun _ => rfl⟩)
  · refine lv_aload_n hx hb dX12_areOne_10 rfl (lv_at hl 0 rfl) ?_
    refine lv_iload_n hx hb dX12_areOne_11 rfl (lv_at hl 2 rfl) ?_
    refine j_const hx hb dX12_areOne_12 ?_
    refine j_cR (j_runV (As := [.int (jI x2), .int (jI 0)]) (rest := []) hx hb hml hown hts hK hS hW (kX12_of l hS σ (a0 := a0) (h0 := h0) (x1 := x2) (r1 := (by omega)) (x2 := 0) (r2 := (by decide)) (q0 := (by omega)) (q1 := (by omega))) 2 gX12_areOne_X12_of rfl hvX12_of ⟨Nat.le_of_ble_eq_true rfl, Nat.le_of_ble_eq_true rfl⟩ rfl rfl h0 rfl rfl rfl rfl hl.1 rfl (Nat.le_of_ble_eq_true rfl) dX12_areOne_13 ⟨Nat.le_of_ble_eq_true rfl, Nat.le_of_ble_eq_true rfl⟩) (fun v_3 rv_3 pv_3 => ?_)
    try dsimp only at pv_3
    have q_of := pv_3
    have := @FI_len _ _ _ hI x2
    refine lv_iload_n hx hb dX12_areOne_16 rfl (lv_at hl 3 rfl) ?_
    refine j_icmp_gt (tgt := 22) hx hb (by omega) (by omega) dX12_areOne_17 (by decide) (fun c_4 => ?_) (fun c_4 => ?_)
    · refine j_const hx hb dX12_areOne_22 ?_
      refine lv_istore (lv' := [(4, .int (jI 0)), (0, .ref a0), (1, .int (jI x1)), (2, .int (jI x2)), (3, .int (jI x3))]) hx hb dX12_areOne_23 hl (by decide) rfl (fun ls hl => ?_)
      have L_25 : ∀ (N : Nat) (v4_25 : Int) (ls : Array Slot), N = (2147483647 - v4_25 : Int).toNat → (0 ≤ v4_25) → (v4_25 ≤ x3) → (∀ j : Int, 0 ≤ j → j < v4_25 → kO (σ (G a0 0)) x1 (3 + j) = kO (σ (G a0 0)) x2 (3 + j)) → rg v4_25 → lv_has ls 5 [(0, .ref a0), (1, .int (jI x1)), (2, .int (jI x2)), (3, .int (jI x3)), (4, .int (jI v4_25))] → W p l e ({ frames := 1, cells := 0, slots := 0, locals := 22 }) s m args below meth c s.heap [] 0 0 Q (F0 m 25 ls []) := by
        intro N
        induction N using Nat.strongRecOn with
        | ind N ih_25 =>
          intro v4_25 ls hN i0_25 i1_25 i2_25 rv4_25 hl
          refine lv_iload hx hb dX12_areOne_25 (lv_at hl 4 rfl) ?_
          refine lv_iload_n hx hb dX12_areOne_27 rfl (lv_at hl 3 rfl) ?_
          refine j_icmp_ge (tgt := 56) hx hb (by omega) (by omega) dX12_areOne_28 (by decide) (fun c_5 => ?_) (fun c_5 => ?_)
          · refine j_const hx hb dX12_areOne_56 ?_
            exact hRet 57 _ 1 dX12_areOne_57 (by omega) (by first | exact ⟨fun h => absurd h (by decide), fun h => by have h1 : x3 < kO (σ (G a0 0)) x1 0 := h.1; have h2 : x3 < kO (σ (G a0 0)) x2 0 := h.2.1; omega⟩ | exact ⟨fun h => absurd h (by decide), fun h => by have h3 : kO (σ (G a0 0)) x1 (3 + v4_25) = kO (σ (G a0 0)) x2 (3 + v4_25) := h.2.2 _ (by omega) (by omega); omega⟩ | exact ⟨fun _ => ⟨(by show x3 < kO (σ (G a0 0)) x1 0; omega), (by show x3 < kO (σ (G a0 0)) x2 0; omega), fun j j0 j1 => i2_25 j j0 (by omega)⟩, fun _ => rfl⟩)
          · refine lv_aload_n hx hb dX12_areOne_31 rfl (lv_at hl 0 rfl) ?_
            refine lv_iload_n hx hb dX12_areOne_32 rfl (lv_at hl 1 rfl) ?_
            refine lv_iload hx hb dX12_areOne_33 (lv_at hl 4 rfl) ?_
            refine j_cR (j_runV (As := [.int (jI x1), .int (jI v4_25)]) (rest := []) hx hb hml hown hts hK hS hW (kX12_byteOf l hS σ (a0 := a0) (h0 := h0) (x1 := x1) (r1 := (by omega)) (x2 := v4_25) (r2 := (by omega)) (q0 := (by omega)) (q1 := (by omega))) 2 gX12_areOne_X12_byteOf rfl hvX12_byteOf ⟨Nat.le_of_ble_eq_true rfl, Nat.le_of_ble_eq_true rfl⟩ rfl rfl h0 rfl rfl rfl rfl hl.1 rfl (Nat.le_of_ble_eq_true rfl) dX12_areOne_35 ⟨Nat.le_of_ble_eq_true rfl, Nat.le_of_ble_eq_true rfl⟩) (fun v_6 rv_6 pv_6 => ?_)
            try dsimp only at pv_6
            have q_byteOf := pv_6
            have := @FI_byte _ _ _ hI x1 v4_25
            refine lv_aload_n hx hb dX12_areOne_38 rfl (lv_at hl 0 rfl) ?_
            refine lv_iload_n hx hb dX12_areOne_39 rfl (lv_at hl 2 rfl) ?_
            refine lv_iload hx hb dX12_areOne_40 (lv_at hl 4 rfl) ?_
            refine j_cR (j_runV (As := [.int (jI x2), .int (jI v4_25)]) (rest := [.int (jI v_6)]) hx hb hml hown hts hK hS hW (kX12_byteOf l hS σ (a0 := a0) (h0 := h0) (x1 := x2) (r1 := (by omega)) (x2 := v4_25) (r2 := (by omega)) (q0 := (by omega)) (q1 := (by omega))) 2 gX12_areOne_X12_byteOf rfl hvX12_byteOf ⟨Nat.le_of_ble_eq_true rfl, Nat.le_of_ble_eq_true rfl⟩ rfl rfl h0 rfl rfl rfl rfl hl.1 rfl (Nat.le_of_ble_eq_true rfl) dX12_areOne_42 ⟨Nat.le_of_ble_eq_true rfl, Nat.le_of_ble_eq_true rfl⟩) (fun v_7 rv_7 pv_7 => ?_)
            try dsimp only at pv_7
            have q_byteOf := pv_7
            have := @FI_byte _ _ _ hI x2 v4_25
            refine j_icmp_eq (tgt := 50) hx hb (by omega) (by omega) dX12_areOne_45 (by decide) (fun c_8 => ?_) (fun c_8 => ?_)
            · refine j_iinc (lv' := [(4, .int (jI (v4_25 + 1))), (0, .ref a0), (1, .int (jI x1)), (2, .int (jI x2)), (3, .int (jI x3))]) hx hb dX12_areOne_50 hl (k := 4) rfl (by decide) rfl (fun ls hl => ?_)
              refine lv_goto (tgt := 25) hx hb dX12_areOne_53 (by decide) ?_
              exact ih_25 ((2147483647 - (v4_25 + 1) : Int).toNat) (by omega) (v4_25 + 1) _ rfl (by omega) (by omega) (by first | exact agree_succ i2_25 (by omega) | (intro j j0 j1; omega)) (by omega) (lv_sub hl [1, 2, 3, 4, 0] rfl)
            · refine j_const hx hb dX12_areOne_48 ?_
              exact hRet 49 _ 0 dX12_areOne_49 (by omega) (by first | exact ⟨fun h => absurd h (by decide), fun h => by have h1 : x3 < kO (σ (G a0 0)) x1 0 := h.1; have h2 : x3 < kO (σ (G a0 0)) x2 0 := h.2.1; omega⟩ | exact ⟨fun h => absurd h (by decide), fun h => by have h3 : kO (σ (G a0 0)) x1 (3 + v4_25) = kO (σ (G a0 0)) x2 (3 + v4_25) := h.2.2 _ (by omega) (by omega); omega⟩ | exact ⟨fun _ => ⟨(by show x3 < kO (σ (G a0 0)) x1 0; omega), (by show x3 < kO (σ (G a0 0)) x2 0; omega), fun j j0 j1 => i2_25 j j0 (by omega)⟩, fun _ => rfl⟩)
      exact L_25 ((2147483647 - 0 : Int).toNat) 0 _ rfl (by omega) (by omega) (by first | exact agree_succ i2_25 (by omega) | (intro j j0 j1; omega)) (by decide) (lv_sub hl [1, 2, 3, 4, 0] rfl)
    · refine j_const hx hb dX12_areOne_20 ?_
      exact hRet 21 _ 0 dX12_areOne_21 (by omega) (by first | exact ⟨fun h => absurd h (by decide), fun h => by have h1 : x3 < kO (σ (G a0 0)) x1 0 := h.1; have h2 : x3 < kO (σ (G a0 0)) x2 0 := h.2.1; omega⟩ | exact ⟨fun h => absurd h (by decide), fun h => by have h3 : kO (σ (G a0 0)) x1 (3 + v4_25) = kO (σ (G a0 0)) x2 (3 + v4_25) := h.2.2 _ (by omega) (by omega); omega⟩ | exact ⟨fun _ => ⟨(by show x3 < kO (σ (G a0 0)) x1 0; omega), (by show x3 < kO (σ (G a0 0)) x2 0; omega), fun j j0 j1 => i2_25 j j0 (by omega)⟩, fun _ => rfl⟩)
abbrev wr_X12_takesHand : List Nat := [13003, 41000]
theorem flX12_takesHand_13 : Cond.fieldLink RX12 13 "PageTrieModel" "hand" "[I" ∈ wsX12_takesHand := List.mem_of_getElem? (i := 2) rfl
theorem flX12_takesHand_70 : Cond.fieldLink RX12 70 "PageTrieModel" "handLong" "I" ∈ wsX12_takesHand := List.mem_of_getElem? (i := 1) rfl
theorem inX12_takesHand_X12 : ∀ w ∈ u_ws RX12 TX12 41, w ∈ wsX12_takesHand := mem_r _ [13, 14, 15, 16, 17, 18, 19, 20, 21, 22, 23, 24, 25, 26, 27, 28, 29, 30, 31, 32, 33, 34, 35, 36, 37, 38, 39, 40, 41, 42, 43, 44, 45, 46, 47, 48, 49, 50, 51, 52, 53] rfl
theorem hvX12_takesHand : yX12_takesHand.cls = RX12 ∧ yX12_takesHand.cls ≠ "java/lang/invoke/MethodHandle" ∧ yX12_takesHand.cls ≠ "java/lang/invoke/VarHandle" ∧ (parseMethodDescriptor yX12_takesHand.desc).map (fun d => d.parameters.length) = some 1 := by decide +kernel
set_option maxHeartbeats 4000000 in
set_option maxRecDepth 100000 in
theorem kX12_takesHand (l : Launch) {D : va_G} {cA : Nat → ClassId} {τ : Nat → Nat} {G : Nat → Nat → Nat} {L : List Nat} (hS : SW τ G L) (σ : Nat → Nat → Int) {a0 : Nat} (h0 : τ a0 = 13) {x1 : Int} (r1 : rg x1) (hI : FI G a0 σ) (q0 : 0 ≤ x1) (q1 : x1 < σ (G a0 0) 0) : Met l yX12_takesHand wsX12_takesHand ({ frames := 1, cells := 0, slots := 0, locals := 22 }) (jP D cA τ G L σ [.ref a0, .int (jI x1)]) (jQV D cA τ G L (fun σ' => ((σ' a0 3 = kO (σ (G a0 0)) x1 0) ∧ (∀ j : Int, 0 ≤ j → j < kO (σ (G a0 0)) x1 0 → σ' (G a0 2) j.toNat = kO (σ (G a0 0)) x1 (3 + j))) ∧ fr wr_X12_takesHand τ σ σ')) 0 0 (fun q => q ∈ L) := by
  refine j_metV (by decide +kernel) rfl (Nat.le_of_ble_eq_true rfl) ?_
  intro p e s m args below meth c Q hx hb hml hown hts hK hW hRet ls hl
  have hl : lv_has ls 3 [(0, .ref a0), (1, .int (jI x1))] := hl
  have hA : ∀ q ∈ L, (fun q => q ∈ L) q := fun _ h => h
  have hF : va_S (fun q => q ∈ L) s.heap s.heap [] := va_S.rf
  have hR : fr wr_X12_takesHand τ σ σ := fr_rf
  have hk_file : τ (G a0 0) = 40 := gty hS h0 (k := 0) rfl rfl
  have := FI_bd hI
  have := fbd hW h0 (k := 3) (lo := 0) (hi := 24) rfl rfl
  refine lv_aload_n hx hb dX12_takesHand_0 rfl (lv_at hl 0 rfl) ?_
  refine lv_aload_n hx hb dX12_takesHand_1 rfl (lv_at hl 0 rfl) ?_
  refine lv_iload_n hx hb dX12_takesHand_2 rfl (lv_at hl 1 rfl) ?_
  refine j_const hx hb dX12_takesHand_3 ?_
  refine j_cR (j_runV (As := [.int (jI x1), .int (jI 0)]) (rest := [.ref a0]) hx hb hml hown hts hK hS hW (kX12_of l hS σ (a0 := a0) (h0 := h0) (x1 := x1) (r1 := (by omega)) (x2 := 0) (r2 := (by decide)) (q0 := (by omega)) (q1 := (by omega))) 2 gX12_takesHand_X12_of rfl hvX12_of ⟨Nat.le_of_ble_eq_true rfl, Nat.le_of_ble_eq_true rfl⟩ rfl rfl h0 rfl rfl rfl rfl hl.1 rfl (Nat.le_of_ble_eq_true rfl) dX12_takesHand_4 ⟨Nat.le_of_ble_eq_true rfl, Nat.le_of_ble_eq_true rfl⟩) (fun v_1 rv_1 pv_1 => ?_)
  try dsimp only at pv_1
  have q_of := pv_1
  have := @FI_len _ _ _ hI x1
  refine j_putI hx hb (C := RX12) (T := TX12) (N := 41) hts inX12_takesHand_X12 tyX12 tyX12_ok nmX12 hown hK hS hA hW hF h0 rfl 3 (lo := 0) (hi := 24) rfl rfl (by decide) (hts _ flX12_takesHand_70) rfl .int rfl (by omega) rfl rfl dX12_takesHand_7 (fun σ_2 H locs e_3 hW hF => ?_)
  have hR := fr_up hR e_3 h0 13003 rfl (by decide)
  have Efile : σ_2 (G a0 0) = σ (G a0 0) := row_up e_3 h0 hk_file (by decide)
  have := congrFun Efile 0
  have hI := FI_dep hS h0 hI (kp_up e_3 h0 13003 rfl (by decide))
  have hfk : σ_2 a0 3 = v_1 := by rw [e_3]; exact up2_at _ _ _ _
  refine j_const hx hb dX12_takesHand_10 ?_
  refine lv_istore_n (lv' := [(2, .int (jI 0)), (0, .ref a0), (1, .int (jI x1))]) hx hb dX12_takesHand_11 rfl hl (by decide) rfl (fun ls hl => ?_)
  have L_12 : ∀ (N : Nat) (v2_12 : Int) (σL_12 : Nat → Nat → Int) (H : Heap) (locs : List Loc) (ls : Array Slot), N = (2147483647 - v2_12 : Int).toNat → (0 ≤ v2_12) → (v2_12 ≤ kO (σ (G a0 0)) x1 0) → (∀ j : Int, 0 ≤ j → j < v2_12 → σL_12 (G a0 2) j.toNat = kO (σ (G a0 0)) x1 (3 + j)) → rg v2_12 → PW D cA τ G L σL_12 H → va_S (fun q => q ∈ L) s.heap H locs → fr wr_X12_takesHand τ σ σL_12 → FI G a0 σL_12 → σL_12 (G a0 0) = σ (G a0 0) → σL_12 a0 3 = σ_2 a0 3 → lv_has ls 3 [(0, .ref a0), (1, .int (jI x1)), (2, .int (jI v2_12))] → W p l e ({ frames := 1, cells := 0, slots := 0, locals := 22 }) s m args below meth c H locs 0 0 Q (F0 m 12 ls []) := by
    intro N
    induction N using Nat.strongRecOn with
    | ind N ih_12 =>
      intro v2_12 σL_12 H locs ls hN i0_12 i1_12 i2_12 rv2_12 hW hF hR hI Efile Ehl hl
      have := congrFun Efile 0
      refine lv_iload_n hx hb dX12_takesHand_12 rfl (lv_at hl 2 rfl) ?_
      refine lv_aload_n hx hb dX12_takesHand_13 rfl (lv_at hl 0 rfl) ?_
      refine j_getI hx hb (C := RX12) (T := TX12) (N := 41) hts inX12_takesHand_X12 hown hK hS hW h0 rfl 3 rfl rfl (by decide) (hts _ flX12_takesHand_70) dX12_takesHand_14 ?_
      rw [Ehl]
      have := fbd hW h0 (k := 3) (lo := 0) (hi := 24) rfl rfl
      try simp only [Ehl] at this
      refine j_icmp_ge (tgt := 38) hx hb (by omega) (by omega) dX12_takesHand_17 (by decide) (fun c_4 => ?_) (fun c_4 => ?_)
      · exact hRet 38 _ _ _ _ dX12_takesHand_38 hW hF ⟨(by first | exact ⟨by omega, fun j j0 j1 => i2_12 j j0 (by omega)⟩ | (simp only [Efile, Ehl]; exact ⟨by omega, fun j j0 j1 => i2_12 j j0 (by omega)⟩)), hR⟩
      · refine lv_aload_n hx hb dX12_takesHand_20 rfl (lv_at hl 0 rfl) ?_
        refine j_getR hx hb (C := RX12) (T := TX12) (N := 41) hts inX12_takesHand_X12 hown hK hS hW h0 rfl 2 rfl rfl (by decide) (hts _ flX12_takesHand_13) dX12_takesHand_21 ?_
        have h_5 : τ (G a0 2) = 41 := gty hS h0 (k := 2) rfl rfl
        refine lv_iload_n hx hb dX12_takesHand_24 rfl (lv_at hl 2 rfl) ?_
        refine lv_aload_n hx hb dX12_takesHand_25 rfl (lv_at hl 0 rfl) ?_
        refine lv_iload_n hx hb dX12_takesHand_26 rfl (lv_at hl 1 rfl) ?_
        refine lv_iload_n hx hb dX12_takesHand_27 rfl (lv_at hl 2 rfl) ?_
        refine j_cR (j_runV (As := [.int (jI x1), .int (jI v2_12)]) (rest := [.int (jI v2_12), .ref (G a0 2)]) hx hb hml hown hts hK hS hW (kX12_byteOf l hS σL_12 (a0 := a0) (h0 := h0) (x1 := x1) (r1 := (by omega)) (x2 := v2_12) (r2 := (by omega)) (q0 := (by omega)) (q1 := (by omega))) 2 gX12_takesHand_X12_byteOf rfl hvX12_byteOf ⟨Nat.le_of_ble_eq_true rfl, Nat.le_of_ble_eq_true rfl⟩ rfl rfl h0 rfl rfl rfl rfl hl.1 rfl (Nat.le_of_ble_eq_true rfl) dX12_takesHand_28 ⟨Nat.le_of_ble_eq_true rfl, Nat.le_of_ble_eq_true rfl⟩) (fun v_6 rv_6 pv_6 => ?_)
        try dsimp only at pv_6
        try simp only [Efile, Ehl] at pv_6
        have q_byteOf := pv_6
        have := @FI_byte _ _ _ hI x1 v2_12
        try simp only [Efile] at this
        refine j_ast hx hb hK hS hA hW hF h_5 (n := 24) (lo := 0) (hi := 255) rfl (by omega) (by omega) (by decide) (by omega) dX12_takesHand_31 (fun σ_7 H locs e_8 hW hF => ?_)
        have st_hand := e_8
        have hR := fr_up hR e_8 h_5 41000 (cdA 41 (by decide) _) (by decide)
        have Efile : σ_7 (G a0 0) = σ (G a0 0) := (row_up e_8 h_5 hk_file (by decide)).trans Efile
        have := congrFun Efile 0
        have Ehl : σ_7 a0 3 = σ_2 a0 3 := (fld_up e_8 h_5 h0 (fun q => absurd q.1 (by decide))).trans Ehl
        have hI := FI_dep hS h0 hI (kp_up e_8 h_5 41000 (cdA 41 (by decide) _) (by decide))
        refine j_iinc (lv' := [(2, .int (jI (v2_12 + 1))), (0, .ref a0), (1, .int (jI x1))]) hx hb dX12_takesHand_32 hl (k := 2) rfl (by decide) rfl (fun ls hl => ?_)
        refine lv_goto (tgt := 12) hx hb dX12_takesHand_35 (by decide) ?_
        exact ih_12 ((2147483647 - (v2_12 + 1) : Int).toNat) (by omega) (v2_12 + 1) σ_7 _ _ _ rfl (by omega) (by omega) (by first | exact (by first | (intro j j0 j1; exfalso; omega) | exact row_succ (f := fun j => kO (σ (G a0 0)) x1 (3 + j)) i0_12 (by assumption) i2_12 (by assumption)) | (simp only [Efile, Ehl]; exact (by first | (intro j j0 j1; exfalso; omega) | exact row_succ (f := fun j => kO (σ (G a0 0)) x1 (3 + j)) i0_12 (by assumption) i2_12 (by assumption)))) (by omega) hW hF hR hI Efile Ehl (lv_sub hl [1, 2, 0] rfl)
  exact L_12 ((2147483647 - 0 : Int).toNat) 0 σ_2 _ _ _ rfl (by omega) (by omega) (by first | exact (by first | (intro j j0 j1; exfalso; omega) | exact row_succ (f := fun j => kO (σ (G a0 0)) x1 (3 + j)) i0_12 (by assumption) i2_12 (by assumption)) | (simp only [Efile]; exact (by first | (intro j j0 j1; exfalso; omega) | exact row_succ (f := fun j => kO (σ (G a0 0)) x1 (3 + j)) i0_12 (by assumption) i2_12 (by assumption)))) (by decide) hW hF hR hI Efile rfl (lv_sub hl [1, 2, 0] rfl)
abbrev wr_X12_findsRange : List Nat := [13004, 13005]
theorem flX12_findsRange_84 : Cond.fieldLink RX12 84 "PageTrieModel" "low" "I" ∈ wsX12_findsRange := List.mem_of_getElem? (i := 1) rfl
theorem flX12_findsRange_90 : Cond.fieldLink RX12 90 "PageTrieModel" "high" "I" ∈ wsX12_findsRange := List.mem_of_getElem? (i := 2) rfl
theorem inX12_findsRange_X12 : ∀ w ∈ u_ws RX12 TX12 41, w ∈ wsX12_findsRange := mem_r _ [23, 24, 25, 26, 27, 28, 29, 30, 31, 32, 33, 34, 35, 36, 37, 38, 39, 40, 41, 42, 43, 44, 45, 46, 47, 48, 49, 50, 51, 52, 53, 54, 55, 56, 57, 58, 59, 60, 61, 62, 63] rfl
theorem hvX12_findsRange : yX12_findsRange.cls = RX12 ∧ yX12_findsRange.cls ≠ "java/lang/invoke/MethodHandle" ∧ yX12_findsRange.cls ≠ "java/lang/invoke/VarHandle" ∧ (parseMethodDescriptor yX12_findsRange.desc).map (fun d => d.parameters.length) = some 1 := by decide +kernel
set_option maxHeartbeats 4000000 in
set_option maxRecDepth 100000 in
theorem kX12_findsRange (l : Launch) {D : va_G} {cA : Nat → ClassId} {τ : Nat → Nat} {G : Nat → Nat → Nat} {L : List Nat} (hS : SW τ G L) (σ : Nat → Nat → Int) {a0 : Nat} (h0 : τ a0 = 13) {x1 : Int} (r1 : rg x1) (hI : FI G a0 σ) (q0 : 0 ≤ x1) (q1 : x1 ≤ 400) : Met l yX12_findsRange wsX12_findsRange ({ frames := 2, cells := 0, slots := 0, locals := 45 }) (jP D cA τ G L σ [.ref a0, .int (jI x1)]) (jQV D cA τ G L (fun σ' => ((RG (σ (G a0 0) 0) x1 (σ' a0 4) (σ' a0 5) (fun i => kO (σ (G a0 0)) i 0) (fun i => kB (σ (G a0 0)) i) (σ a0 3) (hB (σ (G a0 2))) ∧ (σ' a0 4 < σ (G a0 0) 0 → σ' a0 4 < σ' a0 5))) ∧ fr wr_X12_findsRange τ σ σ')) 0 0 (fun q => q ∈ L) := by
  refine j_metV (by decide +kernel) rfl (Nat.le_of_ble_eq_true rfl) ?_
  intro p e s m args below meth c Q hx hb hml hown hts hK hW hRet ls hl
  have hl : lv_has ls 2 [(0, .ref a0), (1, .int (jI x1))] := hl
  have hA : ∀ q ∈ L, (fun q => q ∈ L) q := fun _ h => h
  have hF : va_S (fun q => q ∈ L) s.heap s.heap [] := va_S.rf
  have hR : fr wr_X12_findsRange τ σ σ := fr_rf
  have hk_file : τ (G a0 0) = 40 := gty hS h0 (k := 0) rfl rfl
  have hk_hand : τ (G a0 2) = 41 := gty hS h0 (k := 2) rfl rfl
  have := FI_bd hI
  have := fbd hW h0 (k := 3) (lo := 0) (hi := 24) rfl rfl
  refine lv_aload_n hx hb dX12_findsRange_0 rfl (lv_at hl 0 rfl) ?_
  refine j_const hx hb dX12_findsRange_1 ?_
  refine j_putI hx hb (C := RX12) (T := TX12) (N := 41) hts inX12_findsRange_X12 tyX12 tyX12_ok nmX12 hown hK hS hA hW hF h0 rfl 4 (lo := 0) (hi := 150) rfl rfl (by decide) (hts _ flX12_findsRange_84) rfl .int rfl (by omega) rfl rfl dX12_findsRange_2 (fun σ_1 H locs e_2 hW hF => ?_)
  have hR := fr_up hR e_2 h0 13004 rfl (by decide)
  have Efile : σ_1 (G a0 0) = σ (G a0 0) := row_up e_2 h0 hk_file (by decide)
  have := congrFun Efile 0
  have Ehl : σ_1 a0 3 = σ a0 3 := fld_up e_2 h0 h0 (fun q => absurd q.2 (by decide))
  have Ehand : σ_1 (G a0 2) = σ (G a0 2) := row_up e_2 h0 hk_hand (by decide)
  have hI := FI_dep hS h0 hI (kp_up e_2 h0 13004 rfl (by decide))
  have hfk : σ_1 a0 4 = 0 := by rw [e_2]; exact up2_at _ _ _ _
  have L_5 : ∀ (N : Nat) (σL_5 : Nat → Nat → Int) (H : Heap) (locs : List Loc) (ls : Array Slot), N = (2147483647 - σL_5 a0 4 : Int).toNat → (0 ≤ σL_5 a0 4) → (σL_5 a0 4 ≤ σ (G a0 0) 0) → (∀ j : Int, 0 ≤ j → j < σL_5 a0 4 → ¬ kgo x1 (kO (σ (G a0 0)) j 0) (kB (σ (G a0 0)) j) (σ a0 3) (hB (σ (G a0 2)))) → PW D cA τ G L σL_5 H → va_S (fun q => q ∈ L) s.heap H locs → fr wr_X12_findsRange τ σ σL_5 → FI G a0 σL_5 → σL_5 (G a0 0) = σ (G a0 0) → σL_5 a0 3 = σ a0 3 → σL_5 (G a0 2) = σ (G a0 2) → lv_has ls 2 [(0, .ref a0), (1, .int (jI x1))] → W p l e ({ frames := 2, cells := 0, slots := 0, locals := 45 }) s m args below meth c H locs 0 0 Q (F0 m 5 ls []) := by
    intro N
    induction N using Nat.strongRecOn with
    | ind N ih_5 =>
      intro σL_5 H locs ls hN i0_5 i1_5 i2_5 hW hF hR hI Efile Ehl Ehand hl
      have := congrFun Efile 0
      refine lv_aload_n hx hb dX12_findsRange_5 rfl (lv_at hl 0 rfl) ?_
      refine j_getI hx hb (C := RX12) (T := TX12) (N := 41) hts inX12_findsRange_X12 hown hK hS hW h0 rfl 4 rfl rfl (by decide) (hts _ flX12_findsRange_84) dX12_findsRange_6 ?_
      have := fbd hW h0 (k := 4) (lo := 0) (hi := 150) rfl rfl
      refine lv_aload_n hx hb dX12_findsRange_9 rfl (lv_at hl 0 rfl) ?_
      refine j_cR (j_runV (As := []) (rest := [.int (jI (σL_5 a0 4))]) hx hb hml hown hts hK hS hW (kX12_many l hS σL_5 (a0 := a0) (h0 := h0)) 0 gX12_findsRange_X12_many rfl hvX12_many ⟨Nat.le_of_ble_eq_true rfl, Nat.le_of_ble_eq_true rfl⟩ rfl rfl h0 rfl rfl rfl rfl hl.1 rfl (Nat.le_of_ble_eq_true rfl) dX12_findsRange_10 ⟨Nat.le_of_ble_eq_true rfl, Nat.le_of_ble_eq_true rfl⟩) (fun v_3 rv_3 pv_3 => ?_)
      try dsimp only at pv_3
      try simp only [Efile, Ehl, Ehand] at pv_3
      have q_many := pv_3
      have := FI_bd hI
      try simp only [Efile] at this
      refine j_icmp_ge (tgt := 41) hx hb (by omega) (by omega) dX12_findsRange_13 (by decide) (fun c_4 => ?_) (fun c_4 => ?_)
      · refine lv_aload_n hx hb dX12_findsRange_41 rfl (lv_at hl 0 rfl) ?_
        refine lv_aload_n hx hb dX12_findsRange_42 rfl (lv_at hl 0 rfl) ?_
        refine j_getI hx hb (C := RX12) (T := TX12) (N := 41) hts inX12_findsRange_X12 hown hK hS hW h0 rfl 4 rfl rfl (by decide) (hts _ flX12_findsRange_84) dX12_findsRange_43 ?_
        refine j_putI hx hb (C := RX12) (T := TX12) (N := 41) hts inX12_findsRange_X12 tyX12 tyX12_ok nmX12 hown hK hS hA hW hF h0 rfl 5 (lo := 0) (hi := 150) rfl rfl (by decide) (hts _ flX12_findsRange_90) rfl .int rfl (by omega) rfl rfl dX12_findsRange_46 (fun σ_5 H locs e_6 hW hF => ?_)
        have hR := fr_up hR e_6 h0 13005 rfl (by decide)
        have Efile : σ_5 (G a0 0) = σ (G a0 0) := (row_up e_6 h0 hk_file (by decide)).trans Efile
        have := congrFun Efile 0
        have Ehl : σ_5 a0 3 = σ a0 3 := (fld_up e_6 h0 h0 (fun q => absurd q.2 (by decide))).trans Ehl
        have Ehand : σ_5 (G a0 2) = σ (G a0 2) := (row_up e_6 h0 hk_hand (by decide)).trans Ehand
        have Elow : σ_5 a0 4 = σL_5 a0 4 := fld_up e_6 h0 h0 (fun q => absurd q.2 (by decide))
        have hI := FI_dep hS h0 hI (kp_up e_6 h0 13005 rfl (by decide))
        have hfk : σ_5 a0 5 = σL_5 a0 4 := by rw [e_6]; exact up2_at _ _ _ _
        have L_49 : ∀ (N : Nat) (σL_49 : Nat → Nat → Int) (H : Heap) (locs : List Loc) (ls : Array Slot), N = (2147483647 - σL_49 a0 5 : Int).toNat → ((σL_5 a0 4) ≤ σL_49 a0 5) → (σL_49 a0 5 ≤ σ (G a0 0) 0) → (∀ j : Int, (σL_5 a0 4) ≤ j → j < σL_49 a0 5 → kgo x1 (kO (σ (G a0 0)) j 0) (kB (σ (G a0 0)) j) (σ a0 3) (hB (σ (G a0 2)))) → ((σL_5 a0 4) < σ (G a0 0) 0 → kgo x1 (kO (σ (G a0 0)) ((σL_5 a0 4)) 0) (kB (σ (G a0 0)) ((σL_5 a0 4))) (σ a0 3) (hB (σ (G a0 2)))) → PW D cA τ G L σL_49 H → va_S (fun q => q ∈ L) s.heap H locs → fr wr_X12_findsRange τ σ σL_49 → FI G a0 σL_49 → σL_49 (G a0 0) = σ (G a0 0) → σL_49 a0 3 = σ a0 3 → σL_49 (G a0 2) = σ (G a0 2) → σL_49 a0 4 = σL_5 a0 4 → lv_has ls 2 [(0, .ref a0), (1, .int (jI x1))] → W p l e ({ frames := 2, cells := 0, slots := 0, locals := 45 }) s m args below meth c H locs 0 0 Q (F0 m 49 ls []) := by
          intro N
          induction N using Nat.strongRecOn with
          | ind N ih_49 =>
            intro σL_49 H locs ls hN i0_49 i1_49 i2_49 i3_49 hW hF hR hI Efile Ehl Ehand Elow hl
            have := congrFun Efile 0
            refine lv_aload_n hx hb dX12_findsRange_49 rfl (lv_at hl 0 rfl) ?_
            refine j_getI hx hb (C := RX12) (T := TX12) (N := 41) hts inX12_findsRange_X12 hown hK hS hW h0 rfl 5 rfl rfl (by decide) (hts _ flX12_findsRange_90) dX12_findsRange_50 ?_
            have := fbd hW h0 (k := 5) (lo := 0) (hi := 150) rfl rfl
            refine lv_aload_n hx hb dX12_findsRange_53 rfl (lv_at hl 0 rfl) ?_
            refine j_cR (j_runV (As := []) (rest := [.int (jI (σL_49 a0 5))]) hx hb hml hown hts hK hS hW (kX12_many l hS σL_49 (a0 := a0) (h0 := h0)) 0 gX12_findsRange_X12_many rfl hvX12_many ⟨Nat.le_of_ble_eq_true rfl, Nat.le_of_ble_eq_true rfl⟩ rfl rfl h0 rfl rfl rfl rfl hl.1 rfl (Nat.le_of_ble_eq_true rfl) dX12_findsRange_54 ⟨Nat.le_of_ble_eq_true rfl, Nat.le_of_ble_eq_true rfl⟩) (fun v_7 rv_7 pv_7 => ?_)
            try dsimp only at pv_7
            try simp only [Efile, Ehl, Ehand, Elow] at pv_7
            have q_many := pv_7
            have := FI_bd hI
            try simp only [Efile] at this
            refine j_icmp_ge (tgt := 85) hx hb (by omega) (by omega) dX12_findsRange_57 (by decide) (fun c_8 => ?_) (fun c_8 => ?_)
            · exact hRet 85 _ _ _ _ dX12_findsRange_85 hW hF ⟨(by first | exact ⟨⟨by omega, by omega, by omega, fun j j0 j1 => i2_5 j j0 (by omega), fun j j0 j1 => i2_49 j (by omega) j1, fun h => (by first | (exfalso; omega) | exact fun z => by have := q_goesOn.2.mpr z; omega)⟩, fun h => (by first | omega | (rcases (show (σL_5 a0 4) = σL_49 a0 5 ∨ (σL_5 a0 4) < σL_49 a0 5 by omega) with z | z; exact absurd (q_goesOn.2.mpr (by rw [← z]; exact i3_49 (by omega))) (by omega); omega))⟩ | (simp only [Efile, Ehl, Ehand, Elow]; exact ⟨⟨by omega, by omega, by omega, fun j j0 j1 => i2_5 j j0 (by omega), fun j j0 j1 => i2_49 j (by omega) j1, fun h => (by first | (exfalso; omega) | exact fun z => by have := q_goesOn.2.mpr z; omega)⟩, fun h => (by first | omega | (rcases (show (σL_5 a0 4) = σL_49 a0 5 ∨ (σL_5 a0 4) < σL_49 a0 5 by omega) with z | z; exact absurd (q_goesOn.2.mpr (by rw [← z]; exact i3_49 (by omega))) (by omega); omega))⟩)), hR⟩
            · refine lv_aload_n hx hb dX12_findsRange_60 rfl (lv_at hl 0 rfl) ?_
              refine lv_aload_n hx hb dX12_findsRange_61 rfl (lv_at hl 0 rfl) ?_
              refine j_getI hx hb (C := RX12) (T := TX12) (N := 41) hts inX12_findsRange_X12 hown hK hS hW h0 rfl 5 rfl rfl (by decide) (hts _ flX12_findsRange_90) dX12_findsRange_62 ?_
              refine lv_iload_n hx hb dX12_findsRange_65 rfl (lv_at hl 1 rfl) ?_
              refine j_cR (j_runV (As := [.int (jI (σL_49 a0 5)), .int (jI x1)]) (rest := []) hx hb hml hown hts hK hS hW (kX12_goesOn l hS σL_49 (a0 := a0) (h0 := h0) (x1 := σL_49 a0 5) (r1 := (by omega)) (x2 := x1) (r2 := (by omega)) (hI := hI) (q0 := (by omega)) (q1 := (by omega)) (q2 := (by omega))) 2 gX12_findsRange_X12_goesOn rfl hvX12_goesOn ⟨Nat.le_of_ble_eq_true rfl, Nat.le_of_ble_eq_true rfl⟩ rfl rfl h0 rfl rfl rfl rfl hl.1 rfl (Nat.le_of_ble_eq_true rfl) dX12_findsRange_66 ⟨Nat.le_of_ble_eq_true rfl, Nat.le_of_ble_eq_true rfl⟩) (fun v_9 rv_9 pv_9 => ?_)
              try dsimp only at pv_9
              try simp only [Efile, Ehl, Ehand, Elow] at pv_9
              have q_goesOn := pv_9
              refine j_if_eq (tgt := 85) hx hb (by omega) dX12_findsRange_69 (by decide) (fun c_10 => ?_) (fun c_10 => ?_)
              · exact hRet 85 _ _ _ _ dX12_findsRange_85 hW hF ⟨(by first | exact ⟨⟨by omega, by omega, by omega, fun j j0 j1 => i2_5 j j0 (by omega), fun j j0 j1 => i2_49 j (by omega) j1, fun h => (by first | (exfalso; omega) | exact fun z => by have := q_goesOn.2.mpr z; omega)⟩, fun h => (by first | omega | (rcases (show (σL_5 a0 4) = σL_49 a0 5 ∨ (σL_5 a0 4) < σL_49 a0 5 by omega) with z | z; exact absurd (q_goesOn.2.mpr (by rw [← z]; exact i3_49 (by omega))) (by omega); omega))⟩ | (simp only [Efile, Ehl, Ehand, Elow]; exact ⟨⟨by omega, by omega, by omega, fun j j0 j1 => i2_5 j j0 (by omega), fun j j0 j1 => i2_49 j (by omega) j1, fun h => (by first | (exfalso; omega) | exact fun z => by have := q_goesOn.2.mpr z; omega)⟩, fun h => (by first | omega | (rcases (show (σL_5 a0 4) = σL_49 a0 5 ∨ (σL_5 a0 4) < σL_49 a0 5 by omega) with z | z; exact absurd (q_goesOn.2.mpr (by rw [← z]; exact i3_49 (by omega))) (by omega); omega))⟩)), hR⟩
              · refine lv_aload_n hx hb dX12_findsRange_72 rfl (lv_at hl 0 rfl) ?_
                refine lv_aload_n hx hb dX12_findsRange_73 rfl (lv_at hl 0 rfl) ?_
                refine j_getI hx hb (C := RX12) (T := TX12) (N := 41) hts inX12_findsRange_X12 hown hK hS hW h0 rfl 5 rfl rfl (by decide) (hts _ flX12_findsRange_90) dX12_findsRange_74 ?_
                refine j_const hx hb dX12_findsRange_77 ?_
                refine j_add hx hb dX12_findsRange_78 ?_
                refine j_putI hx hb (C := RX12) (T := TX12) (N := 41) hts inX12_findsRange_X12 tyX12 tyX12_ok nmX12 hown hK hS hA hW hF h0 rfl 5 (lo := 0) (hi := 150) rfl rfl (by decide) (hts _ flX12_findsRange_90) rfl .int rfl (by omega) rfl rfl dX12_findsRange_79 (fun σ_11 H locs e_12 hW hF => ?_)
                have hR := fr_up hR e_12 h0 13005 rfl (by decide)
                have Efile : σ_11 (G a0 0) = σ (G a0 0) := (row_up e_12 h0 hk_file (by decide)).trans Efile
                have := congrFun Efile 0
                have Ehl : σ_11 a0 3 = σ a0 3 := (fld_up e_12 h0 h0 (fun q => absurd q.2 (by decide))).trans Ehl
                have Ehand : σ_11 (G a0 2) = σ (G a0 2) := (row_up e_12 h0 hk_hand (by decide)).trans Ehand
                have Elow : σ_11 a0 4 = σL_5 a0 4 := (fld_up e_12 h0 h0 (fun q => absurd q.2 (by decide))).trans Elow
                have hI := FI_dep hS h0 hI (kp_up e_12 h0 13005 rfl (by decide))
                have hfk : σ_11 a0 5 = (σL_49 a0 5) + 1 := by rw [e_12]; exact up2_at _ _ _ _
                refine lv_goto (tgt := 49) hx hb dX12_findsRange_82 (by decide) ?_
                exact ih_49 ((2147483647 - σ_11 a0 5 : Int).toNat) (by omega) σ_11 _ _ _ rfl (by omega) (by omega) (by first | exact (by first | (intro j j0 j1; exfalso; omega) | exact upto_succ i2_49 (q_goesOn.2.mp (by omega)) (by omega)) | (simp only [Efile, Ehl, Ehand, Elow]; exact (by first | (intro j j0 j1; exfalso; omega) | exact upto_succ i2_49 (q_goesOn.2.mp (by omega)) (by omega)))) (by first | exact (by first | exact i3_49 | (intro h; exfalso; omega) | exact fun _ => q_goesOn.2.mp (by omega)) | (simp only [Efile, Ehl, Ehand, Elow]; exact (by first | exact i3_49 | (intro h; exfalso; omega) | exact fun _ => q_goesOn.2.mp (by omega)))) hW hF hR hI Efile Ehl Ehand Elow (lv_sub hl [0, 1] rfl)
        exact L_49 ((2147483647 - σ_5 a0 5 : Int).toNat) σ_5 _ _ _ rfl (by omega) (by omega) (by first | exact (by first | (intro j j0 j1; exfalso; omega) | exact upto_succ i2_49 (q_goesOn.2.mp (by omega)) (by omega)) | (simp only [Efile, Ehl, Ehand, Elow]; exact (by first | (intro j j0 j1; exfalso; omega) | exact upto_succ i2_49 (q_goesOn.2.mp (by omega)) (by omega)))) (by first | exact (by first | exact i3_49 | (intro h; exfalso; omega) | exact fun _ => q_goesOn.2.mp (by omega)) | (simp only [Efile, Ehl, Ehand, Elow]; exact (by first | exact i3_49 | (intro h; exfalso; omega) | exact fun _ => q_goesOn.2.mp (by omega)))) hW hF hR hI Efile Ehl Ehand Elow (lv_sub hl [0, 1] rfl)
      · refine lv_aload_n hx hb dX12_findsRange_16 rfl (lv_at hl 0 rfl) ?_
        refine lv_aload_n hx hb dX12_findsRange_17 rfl (lv_at hl 0 rfl) ?_
        refine j_getI hx hb (C := RX12) (T := TX12) (N := 41) hts inX12_findsRange_X12 hown hK hS hW h0 rfl 4 rfl rfl (by decide) (hts _ flX12_findsRange_84) dX12_findsRange_18 ?_
        refine lv_iload_n hx hb dX12_findsRange_21 rfl (lv_at hl 1 rfl) ?_
        refine j_cR (j_runV (As := [.int (jI (σL_5 a0 4)), .int (jI x1)]) (rest := []) hx hb hml hown hts hK hS hW (kX12_goesOn l hS σL_5 (a0 := a0) (h0 := h0) (x1 := σL_5 a0 4) (r1 := (by omega)) (x2 := x1) (r2 := (by omega)) (hI := hI) (q0 := (by omega)) (q1 := (by omega)) (q2 := (by omega))) 2 gX12_findsRange_X12_goesOn rfl hvX12_goesOn ⟨Nat.le_of_ble_eq_true rfl, Nat.le_of_ble_eq_true rfl⟩ rfl rfl h0 rfl rfl rfl rfl hl.1 rfl (Nat.le_of_ble_eq_true rfl) dX12_findsRange_22 ⟨Nat.le_of_ble_eq_true rfl, Nat.le_of_ble_eq_true rfl⟩) (fun v_13 rv_13 pv_13 => ?_)
        try dsimp only at pv_13
        try simp only [Efile, Ehl, Ehand] at pv_13
        have q_goesOn := pv_13
        refine j_if_ne (tgt := 41) hx hb (by omega) dX12_findsRange_25 (by decide) (fun c_14 => ?_) (fun c_14 => ?_)
        · refine lv_aload_n hx hb dX12_findsRange_41 rfl (lv_at hl 0 rfl) ?_
          refine lv_aload_n hx hb dX12_findsRange_42 rfl (lv_at hl 0 rfl) ?_
          refine j_getI hx hb (C := RX12) (T := TX12) (N := 41) hts inX12_findsRange_X12 hown hK hS hW h0 rfl 4 rfl rfl (by decide) (hts _ flX12_findsRange_84) dX12_findsRange_43 ?_
          refine j_putI hx hb (C := RX12) (T := TX12) (N := 41) hts inX12_findsRange_X12 tyX12 tyX12_ok nmX12 hown hK hS hA hW hF h0 rfl 5 (lo := 0) (hi := 150) rfl rfl (by decide) (hts _ flX12_findsRange_90) rfl .int rfl (by omega) rfl rfl dX12_findsRange_46 (fun σ_15 H locs e_16 hW hF => ?_)
          have hR := fr_up hR e_16 h0 13005 rfl (by decide)
          have Efile : σ_15 (G a0 0) = σ (G a0 0) := (row_up e_16 h0 hk_file (by decide)).trans Efile
          have := congrFun Efile 0
          have Ehl : σ_15 a0 3 = σ a0 3 := (fld_up e_16 h0 h0 (fun q => absurd q.2 (by decide))).trans Ehl
          have Ehand : σ_15 (G a0 2) = σ (G a0 2) := (row_up e_16 h0 hk_hand (by decide)).trans Ehand
          have Elow : σ_15 a0 4 = σL_5 a0 4 := fld_up e_16 h0 h0 (fun q => absurd q.2 (by decide))
          have hI := FI_dep hS h0 hI (kp_up e_16 h0 13005 rfl (by decide))
          have hfk : σ_15 a0 5 = σL_5 a0 4 := by rw [e_16]; exact up2_at _ _ _ _
          have L_49 : ∀ (N : Nat) (σL_49 : Nat → Nat → Int) (H : Heap) (locs : List Loc) (ls : Array Slot), N = (2147483647 - σL_49 a0 5 : Int).toNat → ((σL_5 a0 4) ≤ σL_49 a0 5) → (σL_49 a0 5 ≤ σ (G a0 0) 0) → (∀ j : Int, (σL_5 a0 4) ≤ j → j < σL_49 a0 5 → kgo x1 (kO (σ (G a0 0)) j 0) (kB (σ (G a0 0)) j) (σ a0 3) (hB (σ (G a0 2)))) → ((σL_5 a0 4) < σ (G a0 0) 0 → kgo x1 (kO (σ (G a0 0)) ((σL_5 a0 4)) 0) (kB (σ (G a0 0)) ((σL_5 a0 4))) (σ a0 3) (hB (σ (G a0 2)))) → PW D cA τ G L σL_49 H → va_S (fun q => q ∈ L) s.heap H locs → fr wr_X12_findsRange τ σ σL_49 → FI G a0 σL_49 → σL_49 (G a0 0) = σ (G a0 0) → σL_49 a0 3 = σ a0 3 → σL_49 (G a0 2) = σ (G a0 2) → σL_49 a0 4 = σL_5 a0 4 → lv_has ls 2 [(0, .ref a0), (1, .int (jI x1))] → W p l e ({ frames := 2, cells := 0, slots := 0, locals := 45 }) s m args below meth c H locs 0 0 Q (F0 m 49 ls []) := by
            intro N
            induction N using Nat.strongRecOn with
            | ind N ih_49 =>
              intro σL_49 H locs ls hN i0_49 i1_49 i2_49 i3_49 hW hF hR hI Efile Ehl Ehand Elow hl
              have := congrFun Efile 0
              refine lv_aload_n hx hb dX12_findsRange_49 rfl (lv_at hl 0 rfl) ?_
              refine j_getI hx hb (C := RX12) (T := TX12) (N := 41) hts inX12_findsRange_X12 hown hK hS hW h0 rfl 5 rfl rfl (by decide) (hts _ flX12_findsRange_90) dX12_findsRange_50 ?_
              have := fbd hW h0 (k := 5) (lo := 0) (hi := 150) rfl rfl
              refine lv_aload_n hx hb dX12_findsRange_53 rfl (lv_at hl 0 rfl) ?_
              refine j_cR (j_runV (As := []) (rest := [.int (jI (σL_49 a0 5))]) hx hb hml hown hts hK hS hW (kX12_many l hS σL_49 (a0 := a0) (h0 := h0)) 0 gX12_findsRange_X12_many rfl hvX12_many ⟨Nat.le_of_ble_eq_true rfl, Nat.le_of_ble_eq_true rfl⟩ rfl rfl h0 rfl rfl rfl rfl hl.1 rfl (Nat.le_of_ble_eq_true rfl) dX12_findsRange_54 ⟨Nat.le_of_ble_eq_true rfl, Nat.le_of_ble_eq_true rfl⟩) (fun v_17 rv_17 pv_17 => ?_)
              try dsimp only at pv_17
              try simp only [Efile, Ehl, Ehand, Elow] at pv_17
              have q_many := pv_17
              have := FI_bd hI
              try simp only [Efile] at this
              refine j_icmp_ge (tgt := 85) hx hb (by omega) (by omega) dX12_findsRange_57 (by decide) (fun c_18 => ?_) (fun c_18 => ?_)
              · exact hRet 85 _ _ _ _ dX12_findsRange_85 hW hF ⟨(by first | exact ⟨⟨by omega, by omega, by omega, fun j j0 j1 => i2_5 j j0 (by omega), fun j j0 j1 => i2_49 j (by omega) j1, fun h => (by first | (exfalso; omega) | exact fun z => by have := q_goesOn.2.mpr z; omega)⟩, fun h => (by first | omega | (rcases (show (σL_5 a0 4) = σL_49 a0 5 ∨ (σL_5 a0 4) < σL_49 a0 5 by omega) with z | z; exact absurd (q_goesOn.2.mpr (by rw [← z]; exact i3_49 (by omega))) (by omega); omega))⟩ | (simp only [Efile, Ehl, Ehand, Elow]; exact ⟨⟨by omega, by omega, by omega, fun j j0 j1 => i2_5 j j0 (by omega), fun j j0 j1 => i2_49 j (by omega) j1, fun h => (by first | (exfalso; omega) | exact fun z => by have := q_goesOn.2.mpr z; omega)⟩, fun h => (by first | omega | (rcases (show (σL_5 a0 4) = σL_49 a0 5 ∨ (σL_5 a0 4) < σL_49 a0 5 by omega) with z | z; exact absurd (q_goesOn.2.mpr (by rw [← z]; exact i3_49 (by omega))) (by omega); omega))⟩)), hR⟩
              · refine lv_aload_n hx hb dX12_findsRange_60 rfl (lv_at hl 0 rfl) ?_
                refine lv_aload_n hx hb dX12_findsRange_61 rfl (lv_at hl 0 rfl) ?_
                refine j_getI hx hb (C := RX12) (T := TX12) (N := 41) hts inX12_findsRange_X12 hown hK hS hW h0 rfl 5 rfl rfl (by decide) (hts _ flX12_findsRange_90) dX12_findsRange_62 ?_
                refine lv_iload_n hx hb dX12_findsRange_65 rfl (lv_at hl 1 rfl) ?_
                refine j_cR (j_runV (As := [.int (jI (σL_49 a0 5)), .int (jI x1)]) (rest := []) hx hb hml hown hts hK hS hW (kX12_goesOn l hS σL_49 (a0 := a0) (h0 := h0) (x1 := σL_49 a0 5) (r1 := (by omega)) (x2 := x1) (r2 := (by omega)) (hI := hI) (q0 := (by omega)) (q1 := (by omega)) (q2 := (by omega))) 2 gX12_findsRange_X12_goesOn rfl hvX12_goesOn ⟨Nat.le_of_ble_eq_true rfl, Nat.le_of_ble_eq_true rfl⟩ rfl rfl h0 rfl rfl rfl rfl hl.1 rfl (Nat.le_of_ble_eq_true rfl) dX12_findsRange_66 ⟨Nat.le_of_ble_eq_true rfl, Nat.le_of_ble_eq_true rfl⟩) (fun v_19 rv_19 pv_19 => ?_)
                try dsimp only at pv_19
                try simp only [Efile, Ehl, Ehand, Elow] at pv_19
                have q_goesOn := pv_19
                refine j_if_eq (tgt := 85) hx hb (by omega) dX12_findsRange_69 (by decide) (fun c_20 => ?_) (fun c_20 => ?_)
                · exact hRet 85 _ _ _ _ dX12_findsRange_85 hW hF ⟨(by first | exact ⟨⟨by omega, by omega, by omega, fun j j0 j1 => i2_5 j j0 (by omega), fun j j0 j1 => i2_49 j (by omega) j1, fun h => (by first | (exfalso; omega) | exact fun z => by have := q_goesOn.2.mpr z; omega)⟩, fun h => (by first | omega | (rcases (show (σL_5 a0 4) = σL_49 a0 5 ∨ (σL_5 a0 4) < σL_49 a0 5 by omega) with z | z; exact absurd (q_goesOn.2.mpr (by rw [← z]; exact i3_49 (by omega))) (by omega); omega))⟩ | (simp only [Efile, Ehl, Ehand, Elow]; exact ⟨⟨by omega, by omega, by omega, fun j j0 j1 => i2_5 j j0 (by omega), fun j j0 j1 => i2_49 j (by omega) j1, fun h => (by first | (exfalso; omega) | exact fun z => by have := q_goesOn.2.mpr z; omega)⟩, fun h => (by first | omega | (rcases (show (σL_5 a0 4) = σL_49 a0 5 ∨ (σL_5 a0 4) < σL_49 a0 5 by omega) with z | z; exact absurd (q_goesOn.2.mpr (by rw [← z]; exact i3_49 (by omega))) (by omega); omega))⟩)), hR⟩
                · refine lv_aload_n hx hb dX12_findsRange_72 rfl (lv_at hl 0 rfl) ?_
                  refine lv_aload_n hx hb dX12_findsRange_73 rfl (lv_at hl 0 rfl) ?_
                  refine j_getI hx hb (C := RX12) (T := TX12) (N := 41) hts inX12_findsRange_X12 hown hK hS hW h0 rfl 5 rfl rfl (by decide) (hts _ flX12_findsRange_90) dX12_findsRange_74 ?_
                  refine j_const hx hb dX12_findsRange_77 ?_
                  refine j_add hx hb dX12_findsRange_78 ?_
                  refine j_putI hx hb (C := RX12) (T := TX12) (N := 41) hts inX12_findsRange_X12 tyX12 tyX12_ok nmX12 hown hK hS hA hW hF h0 rfl 5 (lo := 0) (hi := 150) rfl rfl (by decide) (hts _ flX12_findsRange_90) rfl .int rfl (by omega) rfl rfl dX12_findsRange_79 (fun σ_21 H locs e_22 hW hF => ?_)
                  have hR := fr_up hR e_22 h0 13005 rfl (by decide)
                  have Efile : σ_21 (G a0 0) = σ (G a0 0) := (row_up e_22 h0 hk_file (by decide)).trans Efile
                  have := congrFun Efile 0
                  have Ehl : σ_21 a0 3 = σ a0 3 := (fld_up e_22 h0 h0 (fun q => absurd q.2 (by decide))).trans Ehl
                  have Ehand : σ_21 (G a0 2) = σ (G a0 2) := (row_up e_22 h0 hk_hand (by decide)).trans Ehand
                  have Elow : σ_21 a0 4 = σL_5 a0 4 := (fld_up e_22 h0 h0 (fun q => absurd q.2 (by decide))).trans Elow
                  have hI := FI_dep hS h0 hI (kp_up e_22 h0 13005 rfl (by decide))
                  have hfk : σ_21 a0 5 = (σL_49 a0 5) + 1 := by rw [e_22]; exact up2_at _ _ _ _
                  refine lv_goto (tgt := 49) hx hb dX12_findsRange_82 (by decide) ?_
                  exact ih_49 ((2147483647 - σ_21 a0 5 : Int).toNat) (by omega) σ_21 _ _ _ rfl (by omega) (by omega) (by first | exact (by first | (intro j j0 j1; exfalso; omega) | exact upto_succ i2_49 (q_goesOn.2.mp (by omega)) (by omega)) | (simp only [Efile, Ehl, Ehand, Elow]; exact (by first | (intro j j0 j1; exfalso; omega) | exact upto_succ i2_49 (q_goesOn.2.mp (by omega)) (by omega)))) (by first | exact (by first | exact i3_49 | (intro h; exfalso; omega) | exact fun _ => q_goesOn.2.mp (by omega)) | (simp only [Efile, Ehl, Ehand, Elow]; exact (by first | exact i3_49 | (intro h; exfalso; omega) | exact fun _ => q_goesOn.2.mp (by omega)))) hW hF hR hI Efile Ehl Ehand Elow (lv_sub hl [0, 1] rfl)
          exact L_49 ((2147483647 - σ_15 a0 5 : Int).toNat) σ_15 _ _ _ rfl (by omega) (by omega) (by first | exact (by first | (intro j j0 j1; exfalso; omega) | exact upto_succ i2_49 (q_goesOn.2.mp (by omega)) (by omega)) | (simp only [Efile, Ehl, Ehand, Elow]; exact (by first | (intro j j0 j1; exfalso; omega) | exact upto_succ i2_49 (q_goesOn.2.mp (by omega)) (by omega)))) (by first | exact (by first | exact i3_49 | (intro h; exfalso; omega) | exact fun _ => q_goesOn.2.mp (by omega)) | (simp only [Efile, Ehl, Ehand, Elow]; exact (by first | exact i3_49 | (intro h; exfalso; omega) | exact fun _ => q_goesOn.2.mp (by omega)))) hW hF hR hI Efile Ehl Ehand Elow (lv_sub hl [0, 1] rfl)
        · refine lv_aload_n hx hb dX12_findsRange_28 rfl (lv_at hl 0 rfl) ?_
          refine lv_aload_n hx hb dX12_findsRange_29 rfl (lv_at hl 0 rfl) ?_
          refine j_getI hx hb (C := RX12) (T := TX12) (N := 41) hts inX12_findsRange_X12 hown hK hS hW h0 rfl 4 rfl rfl (by decide) (hts _ flX12_findsRange_84) dX12_findsRange_30 ?_
          refine j_const hx hb dX12_findsRange_33 ?_
          refine j_add hx hb dX12_findsRange_34 ?_
          refine j_putI hx hb (C := RX12) (T := TX12) (N := 41) hts inX12_findsRange_X12 tyX12 tyX12_ok nmX12 hown hK hS hA hW hF h0 rfl 4 (lo := 0) (hi := 150) rfl rfl (by decide) (hts _ flX12_findsRange_84) rfl .int rfl (by omega) rfl rfl dX12_findsRange_35 (fun σ_23 H locs e_24 hW hF => ?_)
          have hR := fr_up hR e_24 h0 13004 rfl (by decide)
          have Efile : σ_23 (G a0 0) = σ (G a0 0) := (row_up e_24 h0 hk_file (by decide)).trans Efile
          have := congrFun Efile 0
          have Ehl : σ_23 a0 3 = σ a0 3 := (fld_up e_24 h0 h0 (fun q => absurd q.2 (by decide))).trans Ehl
          have Ehand : σ_23 (G a0 2) = σ (G a0 2) := (row_up e_24 h0 hk_hand (by decide)).trans Ehand
          have hI := FI_dep hS h0 hI (kp_up e_24 h0 13004 rfl (by decide))
          have hfk : σ_23 a0 4 = (σL_5 a0 4) + 1 := by rw [e_24]; exact up2_at _ _ _ _
          refine lv_goto (tgt := 5) hx hb dX12_findsRange_38 (by decide) ?_
          exact ih_5 ((2147483647 - σ_23 a0 4 : Int).toNat) (by omega) σ_23 _ _ _ rfl (by omega) (by omega) (by first | exact (by first | (intro j j0 j1; exfalso; omega) | exact upto_succ i2_5 (fun h => by have := q_goesOn.2.mpr h; omega) (by omega)) | (simp only [Efile, Ehl, Ehand]; exact (by first | (intro j j0 j1; exfalso; omega) | exact upto_succ i2_5 (fun h => by have := q_goesOn.2.mpr h; omega) (by omega)))) hW hF hR hI Efile Ehl Ehand (lv_sub hl [0, 1] rfl)
  exact L_5 ((2147483647 - σ_1 a0 4 : Int).toNat) σ_1 _ _ _ rfl (by omega) (by omega) (by first | exact (by first | (intro j j0 j1; exfalso; omega) | exact upto_succ i2_5 (fun h => by have := q_goesOn.2.mpr h; omega) (by omega)) | (simp only [Efile, Ehl, Ehand]; exact (by first | (intro j j0 j1; exfalso; omega) | exact upto_succ i2_5 (fun h => by have := q_goesOn.2.mpr h; omega) (by omega)))) hW hF hR hI Efile Ehl Ehand (lv_sub hl [0, 1] rfl)
