theorem hsX11_isKeyByte : yX11_isKeyByte.cls = RX11 ∧ yX11_isKeyByte.cls ≠ "java/lang/invoke/MethodHandle" ∧ yX11_isKeyByte.cls ≠ "java/lang/invoke/VarHandle" ∧ (parseMethodDescriptor yX11_isKeyByte.desc).map (fun d => d.parameters.length) = some 1 := by decide +kernel
theorem hvX11_isKeyByte : yX11_isKeyByte.cls ≠ "java/lang/invoke/MethodHandle" ∧ yX11_isKeyByte.cls ≠ "java/lang/invoke/VarHandle" ∧ (parseMethodDescriptor yX11_isKeyByte.desc).map (fun d => d.parameters.length) = some 1 := hsX11_isKeyByte.2
set_option maxHeartbeats 4000000 in
set_option maxRecDepth 100000 in
theorem kX11_isKeyByte (l : Launch) {D : va_G} {cA : Nat → ClassId} {τ : Nat → Nat} {G : Nat → Nat → Nat} {L : List Nat} (hS : SW τ G L) (σ : Nat → Nat → Int) {x0 : Int} (r0 : rg x0) : Met l yX11_isKeyByte wsX11_isKeyByte ({ frames := 0, cells := 0, slots := 0, locals := 0 }) (jP D cA τ G L σ [.int (jI x0)]) (jQR (fun r => (0 ≤ r ∧ r ≤ 1) ∧ (True))) 0 0 (fun _ => False) := by
  refine j_metRZ (by decide +kernel) rfl (Nat.le_of_ble_eq_true rfl) ?_
  intro p e s m args below meth c Q hx hb hml hown hts hK hW hRet ls hl
  have hl : lv_has ls 2 [(0, .int (jI x0))] := hl
  refine lv_iload_n hx hb dX11_isKeyByte_0 rfl (lv_at hl 0 rfl) ?_
  refine j_bi hx hb dX11_isKeyByte_1 (by decide) ?_
  refine j_icmp_eq (tgt := 24) hx hb (by omega) (by decide) dX11_isKeyByte_3 (by decide) (fun c_1 => ?_) (fun c_1 => ?_)
  · refine j_const hx hb dX11_isKeyByte_24 ?_
    refine lv_goto (tgt := 29) hx hb dX11_isKeyByte_25 (by decide) ?_
    refine lv_istore_n (lv' := [(1, .int (jI 1)), (0, .int (jI x0))]) hx hb dX11_isKeyByte_29 rfl hl (by decide) rfl (fun ls hl => ?_)
    refine lv_iload_n hx hb dX11_isKeyByte_30 rfl (lv_at hl 1 rfl) ?_
    refine j_bi hx hb dX11_isKeyByte_31 (by decide) ?_
    refine j_icmp_lt (tgt := 50) hx hb (by omega) (by decide) dX11_isKeyByte_33 (by decide) (fun c_2 => ?_) (fun c_2 => ?_)
    · refine j_const hx hb dX11_isKeyByte_50 ?_
      exact hRet 51 _ 0 dX11_isKeyByte_51 (by omega) trivial
    · refine lv_iload_n hx hb dX11_isKeyByte_36 rfl (lv_at hl 1 rfl) ?_
      refine j_bi hx hb dX11_isKeyByte_37 (by decide) ?_
      refine j_icmp_gt (tgt := 50) hx hb (by omega) (by decide) dX11_isKeyByte_39 (by decide) (fun c_3 => ?_) (fun c_3 => ?_)
      · refine j_const hx hb dX11_isKeyByte_50 ?_
        exact hRet 51 _ 0 dX11_isKeyByte_51 (by omega) trivial
      · refine lv_iload_n hx hb dX11_isKeyByte_42 rfl (lv_at hl 0 rfl) ?_
        refine j_if_ne (tgt := 50) hx hb (by decide) dX11_isKeyByte_43 (by decide) (fun _ => ?_) (fun h => absurd h (by decide))
        refine j_const hx hb dX11_isKeyByte_50 ?_
        exact hRet 51 _ 0 dX11_isKeyByte_51 (by omega) trivial
  · refine lv_iload_n hx hb dX11_isKeyByte_6 rfl (lv_at hl 0 rfl) ?_
    refine j_bi hx hb dX11_isKeyByte_7 (by decide) ?_
    refine j_icmp_eq (tgt := 24) hx hb (by omega) (by decide) dX11_isKeyByte_9 (by decide) (fun c_5 => ?_) (fun c_5 => ?_)
    · refine j_const hx hb dX11_isKeyByte_24 ?_
      refine lv_goto (tgt := 29) hx hb dX11_isKeyByte_25 (by decide) ?_
      refine lv_istore_n (lv' := [(1, .int (jI 1)), (0, .int (jI x0))]) hx hb dX11_isKeyByte_29 rfl hl (by decide) rfl (fun ls hl => ?_)
      refine lv_iload_n hx hb dX11_isKeyByte_30 rfl (lv_at hl 1 rfl) ?_
      refine j_bi hx hb dX11_isKeyByte_31 (by decide) ?_
      refine j_icmp_lt (tgt := 50) hx hb (by omega) (by decide) dX11_isKeyByte_33 (by decide) (fun c_6 => ?_) (fun c_6 => ?_)
      · refine j_const hx hb dX11_isKeyByte_50 ?_
        exact hRet 51 _ 0 dX11_isKeyByte_51 (by omega) trivial
      · refine lv_iload_n hx hb dX11_isKeyByte_36 rfl (lv_at hl 1 rfl) ?_
        refine j_bi hx hb dX11_isKeyByte_37 (by decide) ?_
        refine j_icmp_gt (tgt := 50) hx hb (by omega) (by decide) dX11_isKeyByte_39 (by decide) (fun c_7 => ?_) (fun c_7 => ?_)
        · refine j_const hx hb dX11_isKeyByte_50 ?_
          exact hRet 51 _ 0 dX11_isKeyByte_51 (by omega) trivial
        · refine lv_iload_n hx hb dX11_isKeyByte_42 rfl (lv_at hl 0 rfl) ?_
          refine j_if_ne (tgt := 50) hx hb (by decide) dX11_isKeyByte_43 (by decide) (fun _ => ?_) (fun h => absurd h (by decide))
          refine j_const hx hb dX11_isKeyByte_50 ?_
          exact hRet 51 _ 0 dX11_isKeyByte_51 (by omega) trivial
    · refine lv_iload_n hx hb dX11_isKeyByte_12 rfl (lv_at hl 0 rfl) ?_
      refine j_bi hx hb dX11_isKeyByte_13 (by decide) ?_
      refine j_icmp_eq (tgt := 24) hx hb (by omega) (by decide) dX11_isKeyByte_15 (by decide) (fun c_9 => ?_) (fun c_9 => ?_)
      · refine j_const hx hb dX11_isKeyByte_24 ?_
        refine lv_goto (tgt := 29) hx hb dX11_isKeyByte_25 (by decide) ?_
        refine lv_istore_n (lv' := [(1, .int (jI 1)), (0, .int (jI x0))]) hx hb dX11_isKeyByte_29 rfl hl (by decide) rfl (fun ls hl => ?_)
        refine lv_iload_n hx hb dX11_isKeyByte_30 rfl (lv_at hl 1 rfl) ?_
        refine j_bi hx hb dX11_isKeyByte_31 (by decide) ?_
        refine j_icmp_lt (tgt := 50) hx hb (by omega) (by decide) dX11_isKeyByte_33 (by decide) (fun c_10 => ?_) (fun c_10 => ?_)
        · refine j_const hx hb dX11_isKeyByte_50 ?_
          exact hRet 51 _ 0 dX11_isKeyByte_51 (by omega) trivial
        · refine lv_iload_n hx hb dX11_isKeyByte_36 rfl (lv_at hl 1 rfl) ?_
          refine j_bi hx hb dX11_isKeyByte_37 (by decide) ?_
          refine j_icmp_gt (tgt := 50) hx hb (by omega) (by decide) dX11_isKeyByte_39 (by decide) (fun c_11 => ?_) (fun c_11 => ?_)
          · refine j_const hx hb dX11_isKeyByte_50 ?_
            exact hRet 51 _ 0 dX11_isKeyByte_51 (by omega) trivial
          · refine lv_iload_n hx hb dX11_isKeyByte_42 rfl (lv_at hl 0 rfl) ?_
            refine j_if_ne (tgt := 50) hx hb (by decide) dX11_isKeyByte_43 (by decide) (fun _ => ?_) (fun h => absurd h (by decide))
            refine j_const hx hb dX11_isKeyByte_50 ?_
            exact hRet 51 _ 0 dX11_isKeyByte_51 (by omega) trivial
      · refine lv_iload_n hx hb dX11_isKeyByte_18 rfl (lv_at hl 0 rfl) ?_
        refine j_bi hx hb dX11_isKeyByte_19 (by decide) ?_
        refine j_icmp_ne (tgt := 28) hx hb (by omega) (by decide) dX11_isKeyByte_21 (by decide) (fun c_13 => ?_) (fun c_13 => ?_)
        · refine j_const hx hb dX11_isKeyByte_28 ?_
          refine lv_istore_n (lv' := [(1, .int (jI 0)), (0, .int (jI x0))]) hx hb dX11_isKeyByte_29 rfl hl (by decide) rfl (fun ls hl => ?_)
          refine lv_iload_n hx hb dX11_isKeyByte_30 rfl (lv_at hl 1 rfl) ?_
          refine j_bi hx hb dX11_isKeyByte_31 (by decide) ?_
          refine j_icmp_lt (tgt := 50) hx hb (by omega) (by decide) dX11_isKeyByte_33 (by decide) (fun c_14 => ?_) (fun c_14 => ?_)
          · refine j_const hx hb dX11_isKeyByte_50 ?_
            exact hRet 51 _ 0 dX11_isKeyByte_51 (by omega) trivial
          · refine lv_iload_n hx hb dX11_isKeyByte_36 rfl (lv_at hl 1 rfl) ?_
            refine j_bi hx hb dX11_isKeyByte_37 (by decide) ?_
            refine j_icmp_gt (tgt := 50) hx hb (by omega) (by decide) dX11_isKeyByte_39 (by decide) (fun c_15 => ?_) (fun c_15 => ?_)
            · refine j_const hx hb dX11_isKeyByte_50 ?_
              exact hRet 51 _ 0 dX11_isKeyByte_51 (by omega) trivial
            · refine lv_iload_n hx hb dX11_isKeyByte_42 rfl (lv_at hl 0 rfl) ?_
              refine j_if_ne (tgt := 50) hx hb (by decide) dX11_isKeyByte_43 (by decide) (fun h => absurd h (by decide)) (fun _ => ?_)
              refine j_const hx hb dX11_isKeyByte_46 ?_
              refine lv_goto (tgt := 51) hx hb dX11_isKeyByte_47 (by decide) ?_
              exact hRet 51 _ 1 dX11_isKeyByte_51 (by omega) trivial
        · refine j_const hx hb dX11_isKeyByte_24 ?_
          refine lv_goto (tgt := 29) hx hb dX11_isKeyByte_25 (by decide) ?_
          refine lv_istore_n (lv' := [(1, .int (jI 1)), (0, .int (jI x0))]) hx hb dX11_isKeyByte_29 rfl hl (by decide) rfl (fun ls hl => ?_)
          refine lv_iload_n hx hb dX11_isKeyByte_30 rfl (lv_at hl 1 rfl) ?_
          refine j_bi hx hb dX11_isKeyByte_31 (by decide) ?_
          refine j_icmp_lt (tgt := 50) hx hb (by omega) (by decide) dX11_isKeyByte_33 (by decide) (fun c_17 => ?_) (fun c_17 => ?_)
          · refine j_const hx hb dX11_isKeyByte_50 ?_
            exact hRet 51 _ 0 dX11_isKeyByte_51 (by omega) trivial
          · refine lv_iload_n hx hb dX11_isKeyByte_36 rfl (lv_at hl 1 rfl) ?_
            refine j_bi hx hb dX11_isKeyByte_37 (by decide) ?_
            refine j_icmp_gt (tgt := 50) hx hb (by omega) (by decide) dX11_isKeyByte_39 (by decide) (fun c_18 => ?_) (fun c_18 => ?_)
            · refine j_const hx hb dX11_isKeyByte_50 ?_
              exact hRet 51 _ 0 dX11_isKeyByte_51 (by omega) trivial
            · refine lv_iload_n hx hb dX11_isKeyByte_42 rfl (lv_at hl 0 rfl) ?_
              refine j_if_ne (tgt := 50) hx hb (by decide) dX11_isKeyByte_43 (by decide) (fun _ => ?_) (fun h => absurd h (by decide))
              refine j_const hx hb dX11_isKeyByte_50 ?_
              exact hRet 51 _ 0 dX11_isKeyByte_51 (by omega) trivial
theorem hsX11_isDigit : yX11_isDigit.cls = RX11 ∧ yX11_isDigit.cls ≠ "java/lang/invoke/MethodHandle" ∧ yX11_isDigit.cls ≠ "java/lang/invoke/VarHandle" ∧ (parseMethodDescriptor yX11_isDigit.desc).map (fun d => d.parameters.length) = some 1 := by decide +kernel
theorem hvX11_isDigit : yX11_isDigit.cls ≠ "java/lang/invoke/MethodHandle" ∧ yX11_isDigit.cls ≠ "java/lang/invoke/VarHandle" ∧ (parseMethodDescriptor yX11_isDigit.desc).map (fun d => d.parameters.length) = some 1 := hsX11_isDigit.2
set_option maxHeartbeats 4000000 in
set_option maxRecDepth 100000 in
theorem kX11_isDigit (l : Launch) {D : va_G} {cA : Nat → ClassId} {τ : Nat → Nat} {G : Nat → Nat → Nat} {L : List Nat} (hS : SW τ G L) (σ : Nat → Nat → Int) {x0 : Int} (r0 : rg x0) : Met l yX11_isDigit wsX11_isDigit ({ frames := 0, cells := 0, slots := 0, locals := 0 }) (jP D cA τ G L σ [.int (jI x0)]) (jQR (fun r => (0 ≤ r ∧ r ≤ 1) ∧ (True))) 0 0 (fun _ => False) := by
  refine j_metRZ (by decide +kernel) rfl (Nat.le_of_ble_eq_true rfl) ?_
  intro p e s m args below meth c Q hx hb hml hown hts hK hW hRet ls hl
  have hl : lv_has ls 1 [(0, .int (jI x0))] := hl
  refine lv_iload_n hx hb dX11_isDigit_0 rfl (lv_at hl 0 rfl) ?_
  refine j_bi hx hb dX11_isDigit_1 (by decide) ?_
  refine j_icmp_lt (tgt := 16) hx hb (by omega) (by decide) dX11_isDigit_3 (by decide) (fun c_1 => ?_) (fun c_1 => ?_)
  · refine j_const hx hb dX11_isDigit_16 ?_
    exact hRet 17 _ 0 dX11_isDigit_17 (by omega) trivial
  · refine lv_iload_n hx hb dX11_isDigit_6 rfl (lv_at hl 0 rfl) ?_
    refine j_bi hx hb dX11_isDigit_7 (by decide) ?_
    refine j_icmp_gt (tgt := 16) hx hb (by omega) (by decide) dX11_isDigit_9 (by decide) (fun c_2 => ?_) (fun c_2 => ?_)
    · refine j_const hx hb dX11_isDigit_16 ?_
      exact hRet 17 _ 0 dX11_isDigit_17 (by omega) trivial
    · refine j_const hx hb dX11_isDigit_12 ?_
      refine lv_goto (tgt := 17) hx hb dX11_isDigit_13 (by decide) ?_
      exact hRet 17 _ 1 dX11_isDigit_17 (by omega) trivial
theorem hsX11_isWidth : yX11_isWidth.cls = RX11 ∧ yX11_isWidth.cls ≠ "java/lang/invoke/MethodHandle" ∧ yX11_isWidth.cls ≠ "java/lang/invoke/VarHandle" ∧ (parseMethodDescriptor yX11_isWidth.desc).map (fun d => d.parameters.length) = some 1 := by decide +kernel
theorem hvX11_isWidth : yX11_isWidth.cls ≠ "java/lang/invoke/MethodHandle" ∧ yX11_isWidth.cls ≠ "java/lang/invoke/VarHandle" ∧ (parseMethodDescriptor yX11_isWidth.desc).map (fun d => d.parameters.length) = some 1 := hsX11_isWidth.2
set_option maxHeartbeats 4000000 in
set_option maxRecDepth 100000 in
theorem kX11_isWidth (l : Launch) {D : va_G} {cA : Nat → ClassId} {τ : Nat → Nat} {G : Nat → Nat → Nat} {L : List Nat} (hS : SW τ G L) (σ : Nat → Nat → Int) {x0 : Int} (r0 : rg x0) : Met l yX11_isWidth wsX11_isWidth ({ frames := 0, cells := 0, slots := 0, locals := 0 }) (jP D cA τ G L σ [.int (jI x0)]) (jQR (fun r => (0 ≤ r ∧ r ≤ 1) ∧ ((r = 1 ↔ 1 ≤ x0 ∧ x0 ≤ 8)))) 0 0 (fun _ => False) := by
  refine j_metRZ (by decide +kernel) rfl (Nat.le_of_ble_eq_true rfl) ?_
  intro p e s m args below meth c Q hx hb hml hown hts hK hW hRet ls hl
  have hl : lv_has ls 1 [(0, .int (jI x0))] := hl
  refine lv_iload_n hx hb dX11_isWidth_0 rfl (lv_at hl 0 rfl) ?_
  refine j_const hx hb dX11_isWidth_1 ?_
  refine j_icmp_lt (tgt := 15) hx hb (by omega) (by decide) dX11_isWidth_2 (by decide) (fun c_1 => ?_) (fun c_1 => ?_)
  · refine j_const hx hb dX11_isWidth_15 ?_
    exact hRet 16 _ 0 dX11_isWidth_16 (by omega) (by omega)
  · refine lv_iload_n hx hb dX11_isWidth_5 rfl (lv_at hl 0 rfl) ?_
    refine j_bi hx hb dX11_isWidth_6 (by decide) ?_
    refine j_icmp_gt (tgt := 15) hx hb (by omega) (by decide) dX11_isWidth_8 (by decide) (fun c_2 => ?_) (fun c_2 => ?_)
    · refine j_const hx hb dX11_isWidth_15 ?_
      exact hRet 16 _ 0 dX11_isWidth_16 (by omega) (by omega)
    · refine j_const hx hb dX11_isWidth_11 ?_
      refine lv_goto (tgt := 16) hx hb dX11_isWidth_12 (by decide) ?_
      exact hRet 16 _ 1 dX11_isWidth_16 (by omega) (by omega)
theorem hsX11_isRoom : yX11_isRoom.cls = RX11 ∧ yX11_isRoom.cls ≠ "java/lang/invoke/MethodHandle" ∧ yX11_isRoom.cls ≠ "java/lang/invoke/VarHandle" ∧ (parseMethodDescriptor yX11_isRoom.desc).map (fun d => d.parameters.length) = some 1 := by decide +kernel
theorem hvX11_isRoom : yX11_isRoom.cls ≠ "java/lang/invoke/MethodHandle" ∧ yX11_isRoom.cls ≠ "java/lang/invoke/VarHandle" ∧ (parseMethodDescriptor yX11_isRoom.desc).map (fun d => d.parameters.length) = some 1 := hsX11_isRoom.2
set_option maxHeartbeats 4000000 in
set_option maxRecDepth 100000 in
theorem kX11_isRoom (l : Launch) {D : va_G} {cA : Nat → ClassId} {τ : Nat → Nat} {G : Nat → Nat → Nat} {L : List Nat} (hS : SW τ G L) (σ : Nat → Nat → Int) {x0 : Int} (r0 : rg x0) : Met l yX11_isRoom wsX11_isRoom ({ frames := 0, cells := 0, slots := 0, locals := 0 }) (jP D cA τ G L σ [.int (jI x0)]) (jQR (fun r => (0 ≤ r ∧ r ≤ 1) ∧ ((r = 1 ↔ 2 ≤ x0 ∧ x0 ≤ 8)))) 0 0 (fun _ => False) := by
  refine j_metRZ (by decide +kernel) rfl (Nat.le_of_ble_eq_true rfl) ?_
  intro p e s m args below meth c Q hx hb hml hown hts hK hW hRet ls hl
  have hl : lv_has ls 1 [(0, .int (jI x0))] := hl
  refine lv_iload_n hx hb dX11_isRoom_0 rfl (lv_at hl 0 rfl) ?_
  refine j_const hx hb dX11_isRoom_1 ?_
  refine j_icmp_lt (tgt := 15) hx hb (by omega) (by decide) dX11_isRoom_2 (by decide) (fun c_1 => ?_) (fun c_1 => ?_)
  · refine j_const hx hb dX11_isRoom_15 ?_
    exact hRet 16 _ 0 dX11_isRoom_16 (by omega) (by omega)
  · refine lv_iload_n hx hb dX11_isRoom_5 rfl (lv_at hl 0 rfl) ?_
    refine j_bi hx hb dX11_isRoom_6 (by decide) ?_
    refine j_icmp_gt (tgt := 15) hx hb (by omega) (by decide) dX11_isRoom_8 (by decide) (fun c_2 => ?_) (fun c_2 => ?_)
    · refine j_const hx hb dX11_isRoom_15 ?_
      exact hRet 16 _ 0 dX11_isRoom_16 (by omega) (by omega)
    · refine j_const hx hb dX11_isRoom_11 ?_
      refine lv_goto (tgt := 16) hx hb dX11_isRoom_12 (by decide) ?_
      exact hRet 16 _ 1 dX11_isRoom_16 (by omega) (by omega)
theorem hsX11_isValue : yX11_isValue.cls = RX11 ∧ yX11_isValue.cls ≠ "java/lang/invoke/MethodHandle" ∧ yX11_isValue.cls ≠ "java/lang/invoke/VarHandle" ∧ (parseMethodDescriptor yX11_isValue.desc).map (fun d => d.parameters.length) = some 1 := by decide +kernel
theorem hvX11_isValue : yX11_isValue.cls ≠ "java/lang/invoke/MethodHandle" ∧ yX11_isValue.cls ≠ "java/lang/invoke/VarHandle" ∧ (parseMethodDescriptor yX11_isValue.desc).map (fun d => d.parameters.length) = some 1 := hsX11_isValue.2
set_option maxHeartbeats 4000000 in
set_option maxRecDepth 100000 in
theorem kX11_isValue (l : Launch) {D : va_G} {cA : Nat → ClassId} {τ : Nat → Nat} {G : Nat → Nat → Nat} {L : List Nat} (hS : SW τ G L) (σ : Nat → Nat → Int) {x0 : Int} (r0 : rg x0) : Met l yX11_isValue wsX11_isValue ({ frames := 0, cells := 0, slots := 0, locals := 0 }) (jP D cA τ G L σ [.int (jI x0)]) (jQR (fun r => (0 ≤ r ∧ r ≤ 1) ∧ (True))) 0 0 (fun _ => False) := by
  refine j_metRZ (by decide +kernel) rfl (Nat.le_of_ble_eq_true rfl) ?_
  intro p e s m args below meth c Q hx hb hml hown hts hK hW hRet ls hl
  have hl : lv_has ls 1 [(0, .int (jI x0))] := hl
  refine lv_iload_n hx hb dX11_isValue_0 rfl (lv_at hl 0 rfl) ?_
  refine j_if_lt (tgt := 15) hx hb (by omega) dX11_isValue_1 (by decide) (fun c_1 => ?_) (fun c_1 => ?_)
  · refine j_const hx hb dX11_isValue_15 ?_
    exact hRet 16 _ 0 dX11_isValue_16 (by omega) trivial
  · refine lv_iload_n hx hb dX11_isValue_4 rfl (lv_at hl 0 rfl) ?_
    refine j_ldc_w hx hb hown (hts (.constant RX11 347 (99999)) (by decide +kernel)) (n := 99999) rfl dX11_isValue_5 ?_
    refine j_icmp_gt (tgt := 15) hx hb (by omega) (by decide) dX11_isValue_8 (by decide) (fun c_2 => ?_) (fun c_2 => ?_)
    · refine j_const hx hb dX11_isValue_15 ?_
      exact hRet 16 _ 0 dX11_isValue_16 (by omega) trivial
    · refine j_const hx hb dX11_isValue_11 ?_
      refine lv_goto (tgt := 16) hx hb dX11_isValue_12 (by decide) ?_
      exact hRet 16 _ 1 dX11_isValue_16 (by omega) trivial
theorem hsX11_isCursor : yX11_isCursor.cls = RX11 ∧ yX11_isCursor.cls ≠ "java/lang/invoke/MethodHandle" ∧ yX11_isCursor.cls ≠ "java/lang/invoke/VarHandle" ∧ (parseMethodDescriptor yX11_isCursor.desc).map (fun d => d.parameters.length) = some 1 := by decide +kernel
theorem hvX11_isCursor : yX11_isCursor.cls ≠ "java/lang/invoke/MethodHandle" ∧ yX11_isCursor.cls ≠ "java/lang/invoke/VarHandle" ∧ (parseMethodDescriptor yX11_isCursor.desc).map (fun d => d.parameters.length) = some 1 := hsX11_isCursor.2
set_option maxHeartbeats 4000000 in
set_option maxRecDepth 100000 in
theorem kX11_isCursor (l : Launch) {D : va_G} {cA : Nat → ClassId} {τ : Nat → Nat} {G : Nat → Nat → Nat} {L : List Nat} (hS : SW τ G L) (σ : Nat → Nat → Int) {x0 : Int} (r0 : rg x0) : Met l yX11_isCursor wsX11_isCursor ({ frames := 0, cells := 0, slots := 0, locals := 0 }) (jP D cA τ G L σ [.int (jI x0)]) (jQR (fun r => (0 ≤ r ∧ r ≤ 1) ∧ ((r = 1 → 0 ≤ x0 ∧ x0 < 4)))) 0 0 (fun _ => False) := by
  refine j_metRZ (by decide +kernel) rfl (Nat.le_of_ble_eq_true rfl) ?_
  intro p e s m args below meth c Q hx hb hml hown hts hK hW hRet ls hl
  have hl : lv_has ls 1 [(0, .int (jI x0))] := hl
  refine lv_iload_n hx hb dX11_isCursor_0 rfl (lv_at hl 0 rfl) ?_
  refine j_if_lt (tgt := 13) hx hb (by omega) dX11_isCursor_1 (by decide) (fun c_1 => ?_) (fun c_1 => ?_)
  · refine j_const hx hb dX11_isCursor_13 ?_
    exact hRet 14 _ 0 dX11_isCursor_14 (by omega) (by omega)
  · refine lv_iload_n hx hb dX11_isCursor_4 rfl (lv_at hl 0 rfl) ?_
    refine j_const hx hb dX11_isCursor_5 ?_
    refine j_icmp_ge (tgt := 13) hx hb (by omega) (by decide) dX11_isCursor_6 (by decide) (fun c_2 => ?_) (fun c_2 => ?_)
    · refine j_const hx hb dX11_isCursor_13 ?_
      exact hRet 14 _ 0 dX11_isCursor_14 (by omega) (by omega)
    · refine j_const hx hb dX11_isCursor_9 ?_
      refine lv_goto (tgt := 14) hx hb dX11_isCursor_10 (by decide) ?_
      exact hRet 14 _ 1 dX11_isCursor_14 (by omega) (by omega)
theorem hsX11_isEntryWhat : yX11_isEntryWhat.cls = RX11 ∧ yX11_isEntryWhat.cls ≠ "java/lang/invoke/MethodHandle" ∧ yX11_isEntryWhat.cls ≠ "java/lang/invoke/VarHandle" ∧ (parseMethodDescriptor yX11_isEntryWhat.desc).map (fun d => d.parameters.length) = some 1 := by decide +kernel
theorem hvX11_isEntryWhat : yX11_isEntryWhat.cls ≠ "java/lang/invoke/MethodHandle" ∧ yX11_isEntryWhat.cls ≠ "java/lang/invoke/VarHandle" ∧ (parseMethodDescriptor yX11_isEntryWhat.desc).map (fun d => d.parameters.length) = some 1 := hsX11_isEntryWhat.2
set_option maxHeartbeats 4000000 in
set_option maxRecDepth 100000 in
theorem kX11_isEntryWhat (l : Launch) {D : va_G} {cA : Nat → ClassId} {τ : Nat → Nat} {G : Nat → Nat → Nat} {L : List Nat} (hS : SW τ G L) (σ : Nat → Nat → Int) {x0 : Int} (r0 : rg x0) : Met l yX11_isEntryWhat wsX11_isEntryWhat ({ frames := 0, cells := 0, slots := 0, locals := 0 }) (jP D cA τ G L σ [.int (jI x0)]) (jQR (fun r => (0 ≤ r ∧ r ≤ 1) ∧ (True))) 0 0 (fun _ => False) := by
  refine j_metRZ (by decide +kernel) rfl (Nat.le_of_ble_eq_true rfl) ?_
  intro p e s m args below meth c Q hx hb hml hown hts hK hW hRet ls hl
  have hl : lv_has ls 3 [(0, .int (jI x0))] := hl
  refine lv_iload_n hx hb dX11_isEntryWhat_0 rfl (lv_at hl 0 rfl) ?_
  refine j_bi hx hb dX11_isEntryWhat_1 (by decide) ?_
  refine j_icmp_lt (tgt := 16) hx hb (by omega) (by decide) dX11_isEntryWhat_3 (by decide) (fun c_1 => ?_) (fun c_1 => ?_)
  · refine j_const hx hb dX11_isEntryWhat_16 ?_
    refine lv_istore_n (lv' := [(1, .int (jI 0)), (0, .int (jI x0))]) hx hb dX11_isEntryWhat_17 rfl hl (by decide) rfl (fun ls hl => ?_)
    refine lv_iload_n hx hb dX11_isEntryWhat_18 rfl (lv_at hl 1 rfl) ?_
    refine j_bi hx hb dX11_isEntryWhat_19 (by decide) ?_
    refine j_icmp_lt (tgt := 34) hx hb (by omega) (by decide) dX11_isEntryWhat_21 (by decide) (fun c_2 => ?_) (fun c_2 => ?_)
    · refine j_const hx hb dX11_isEntryWhat_34 ?_
      refine lv_istore_n (lv' := [(2, .int (jI 0)), (1, .int (jI 0)), (0, .int (jI x0))]) hx hb dX11_isEntryWhat_35 rfl hl (by decide) rfl (fun ls hl => ?_)
      refine lv_iload_n hx hb dX11_isEntryWhat_36 rfl (lv_at hl 2 rfl) ?_
      refine j_if_lt (tgt := 45) hx hb (by omega) dX11_isEntryWhat_37 (by decide) (fun c_3 => ?_) (fun c_3 => ?_)
      · refine lv_iload_n hx hb dX11_isEntryWhat_45 rfl (lv_at hl 1 rfl) ?_
        refine j_if_ne (tgt := 53) hx hb (by decide) dX11_isEntryWhat_46 (by decide) (fun h => absurd h (by decide)) (fun _ => ?_)
        refine lv_iload_n hx hb dX11_isEntryWhat_49 rfl (lv_at hl 0 rfl) ?_
        refine j_if_eq (tgt := 57) hx hb (by decide) dX11_isEntryWhat_50 (by decide) (fun _ => ?_) (fun h => absurd h (by decide))
        refine j_const hx hb dX11_isEntryWhat_57 ?_
        exact hRet 58 _ 0 dX11_isEntryWhat_58 (by omega) trivial
      · refine lv_iload_n hx hb dX11_isEntryWhat_40 rfl (lv_at hl 2 rfl) ?_
        refine j_const hx hb dX11_isEntryWhat_41 ?_
        refine j_icmp_le (tgt := 53) hx hb (by omega) (by decide) dX11_isEntryWhat_42 (by decide) (fun c_6 => ?_) (fun c_6 => ?_)
        · refine j_const hx hb dX11_isEntryWhat_53 ?_
          refine lv_goto (tgt := 58) hx hb dX11_isEntryWhat_54 (by decide) ?_
          exact hRet 58 _ 1 dX11_isEntryWhat_58 (by omega) trivial
        · refine lv_iload_n hx hb dX11_isEntryWhat_45 rfl (lv_at hl 1 rfl) ?_
          refine j_if_ne (tgt := 53) hx hb (by decide) dX11_isEntryWhat_46 (by decide) (fun h => absurd h (by decide)) (fun _ => ?_)
          refine lv_iload_n hx hb dX11_isEntryWhat_49 rfl (lv_at hl 0 rfl) ?_
          refine j_if_eq (tgt := 57) hx hb (by decide) dX11_isEntryWhat_50 (by decide) (fun _ => ?_) (fun h => absurd h (by decide))
          refine j_const hx hb dX11_isEntryWhat_57 ?_
          exact hRet 58 _ 0 dX11_isEntryWhat_58 (by omega) trivial
    · refine lv_iload_n hx hb dX11_isEntryWhat_24 rfl (lv_at hl 1 rfl) ?_
      refine j_bi hx hb dX11_isEntryWhat_25 (by decide) ?_
      refine j_icmp_ge (tgt := 34) hx hb (by omega) (by decide) dX11_isEntryWhat_27 (by decide) (fun c_9 => ?_) (fun c_9 => ?_)
      · refine j_const hx hb dX11_isEntryWhat_34 ?_
        refine lv_istore_n (lv' := [(2, .int (jI 0)), (1, .int (jI 0)), (0, .int (jI x0))]) hx hb dX11_isEntryWhat_35 rfl hl (by decide) rfl (fun ls hl => ?_)
        refine lv_iload_n hx hb dX11_isEntryWhat_36 rfl (lv_at hl 2 rfl) ?_
        refine j_if_lt (tgt := 45) hx hb (by omega) dX11_isEntryWhat_37 (by decide) (fun c_10 => ?_) (fun c_10 => ?_)
        · refine lv_iload_n hx hb dX11_isEntryWhat_45 rfl (lv_at hl 1 rfl) ?_
          refine j_if_ne (tgt := 53) hx hb (by decide) dX11_isEntryWhat_46 (by decide) (fun h => absurd h (by decide)) (fun _ => ?_)
          refine lv_iload_n hx hb dX11_isEntryWhat_49 rfl (lv_at hl 0 rfl) ?_
          refine j_if_eq (tgt := 57) hx hb (by decide) dX11_isEntryWhat_50 (by decide) (fun _ => ?_) (fun h => absurd h (by decide))
          refine j_const hx hb dX11_isEntryWhat_57 ?_
          exact hRet 58 _ 0 dX11_isEntryWhat_58 (by omega) trivial
        · refine lv_iload_n hx hb dX11_isEntryWhat_40 rfl (lv_at hl 2 rfl) ?_
          refine j_const hx hb dX11_isEntryWhat_41 ?_
          refine j_icmp_le (tgt := 53) hx hb (by omega) (by decide) dX11_isEntryWhat_42 (by decide) (fun c_13 => ?_) (fun c_13 => ?_)
          · refine j_const hx hb dX11_isEntryWhat_53 ?_
            refine lv_goto (tgt := 58) hx hb dX11_isEntryWhat_54 (by decide) ?_
            exact hRet 58 _ 1 dX11_isEntryWhat_58 (by omega) trivial
          · refine lv_iload_n hx hb dX11_isEntryWhat_45 rfl (lv_at hl 1 rfl) ?_
            refine j_if_ne (tgt := 53) hx hb (by decide) dX11_isEntryWhat_46 (by decide) (fun h => absurd h (by decide)) (fun _ => ?_)
            refine lv_iload_n hx hb dX11_isEntryWhat_49 rfl (lv_at hl 0 rfl) ?_
            refine j_if_eq (tgt := 57) hx hb (by decide) dX11_isEntryWhat_50 (by decide) (fun _ => ?_) (fun h => absurd h (by decide))
            refine j_const hx hb dX11_isEntryWhat_57 ?_
            exact hRet 58 _ 0 dX11_isEntryWhat_58 (by omega) trivial
      · refine j_const hx hb dX11_isEntryWhat_30 ?_
        refine lv_goto (tgt := 35) hx hb dX11_isEntryWhat_31 (by decide) ?_
        refine lv_istore_n (lv' := [(2, .int (jI 1)), (1, .int (jI 0)), (0, .int (jI x0))]) hx hb dX11_isEntryWhat_35 rfl hl (by decide) rfl (fun ls hl => ?_)
        refine lv_iload_n hx hb dX11_isEntryWhat_36 rfl (lv_at hl 2 rfl) ?_
        refine j_if_lt (tgt := 45) hx hb (by omega) dX11_isEntryWhat_37 (by decide) (fun c_16 => ?_) (fun c_16 => ?_)
        · refine lv_iload_n hx hb dX11_isEntryWhat_45 rfl (lv_at hl 1 rfl) ?_
          refine j_if_ne (tgt := 53) hx hb (by decide) dX11_isEntryWhat_46 (by decide) (fun h => absurd h (by decide)) (fun _ => ?_)
          refine lv_iload_n hx hb dX11_isEntryWhat_49 rfl (lv_at hl 0 rfl) ?_
          refine j_if_eq (tgt := 57) hx hb (by decide) dX11_isEntryWhat_50 (by decide) (fun h => absurd h (by decide)) (fun _ => ?_)
          refine j_const hx hb dX11_isEntryWhat_53 ?_
          refine lv_goto (tgt := 58) hx hb dX11_isEntryWhat_54 (by decide) ?_
          exact hRet 58 _ 1 dX11_isEntryWhat_58 (by omega) trivial
        · refine lv_iload_n hx hb dX11_isEntryWhat_40 rfl (lv_at hl 2 rfl) ?_
          refine j_const hx hb dX11_isEntryWhat_41 ?_
          refine j_icmp_le (tgt := 53) hx hb (by omega) (by decide) dX11_isEntryWhat_42 (by decide) (fun c_19 => ?_) (fun c_19 => ?_)
          · refine j_const hx hb dX11_isEntryWhat_53 ?_
            refine lv_goto (tgt := 58) hx hb dX11_isEntryWhat_54 (by decide) ?_
            exact hRet 58 _ 1 dX11_isEntryWhat_58 (by omega) trivial
          · refine lv_iload_n hx hb dX11_isEntryWhat_45 rfl (lv_at hl 1 rfl) ?_
            refine j_if_ne (tgt := 53) hx hb (by decide) dX11_isEntryWhat_46 (by decide) (fun h => absurd h (by decide)) (fun _ => ?_)
            refine lv_iload_n hx hb dX11_isEntryWhat_49 rfl (lv_at hl 0 rfl) ?_
            refine j_if_eq (tgt := 57) hx hb (by decide) dX11_isEntryWhat_50 (by decide) (fun h => absurd h (by decide)) (fun _ => ?_)
            refine j_const hx hb dX11_isEntryWhat_53 ?_
            refine lv_goto (tgt := 58) hx hb dX11_isEntryWhat_54 (by decide) ?_
            exact hRet 58 _ 1 dX11_isEntryWhat_58 (by omega) trivial
  · refine lv_iload_n hx hb dX11_isEntryWhat_6 rfl (lv_at hl 0 rfl) ?_
    refine j_bi hx hb dX11_isEntryWhat_7 (by decide) ?_
    refine j_icmp_ge (tgt := 16) hx hb (by omega) (by decide) dX11_isEntryWhat_9 (by decide) (fun c_22 => ?_) (fun c_22 => ?_)
    · refine j_const hx hb dX11_isEntryWhat_16 ?_
      refine lv_istore_n (lv' := [(1, .int (jI 0)), (0, .int (jI x0))]) hx hb dX11_isEntryWhat_17 rfl hl (by decide) rfl (fun ls hl => ?_)
      refine lv_iload_n hx hb dX11_isEntryWhat_18 rfl (lv_at hl 1 rfl) ?_
      refine j_bi hx hb dX11_isEntryWhat_19 (by decide) ?_
      refine j_icmp_lt (tgt := 34) hx hb (by omega) (by decide) dX11_isEntryWhat_21 (by decide) (fun c_23 => ?_) (fun c_23 => ?_)
      · refine j_const hx hb dX11_isEntryWhat_34 ?_
        refine lv_istore_n (lv' := [(2, .int (jI 0)), (1, .int (jI 0)), (0, .int (jI x0))]) hx hb dX11_isEntryWhat_35 rfl hl (by decide) rfl (fun ls hl => ?_)
        refine lv_iload_n hx hb dX11_isEntryWhat_36 rfl (lv_at hl 2 rfl) ?_
        refine j_if_lt (tgt := 45) hx hb (by omega) dX11_isEntryWhat_37 (by decide) (fun c_24 => ?_) (fun c_24 => ?_)
        · refine lv_iload_n hx hb dX11_isEntryWhat_45 rfl (lv_at hl 1 rfl) ?_
          refine j_if_ne (tgt := 53) hx hb (by decide) dX11_isEntryWhat_46 (by decide) (fun h => absurd h (by decide)) (fun _ => ?_)
          refine lv_iload_n hx hb dX11_isEntryWhat_49 rfl (lv_at hl 0 rfl) ?_
          refine j_if_eq (tgt := 57) hx hb (by decide) dX11_isEntryWhat_50 (by decide) (fun _ => ?_) (fun h => absurd h (by decide))
          refine j_const hx hb dX11_isEntryWhat_57 ?_
          exact hRet 58 _ 0 dX11_isEntryWhat_58 (by omega) trivial
        · refine lv_iload_n hx hb dX11_isEntryWhat_40 rfl (lv_at hl 2 rfl) ?_
          refine j_const hx hb dX11_isEntryWhat_41 ?_
          refine j_icmp_le (tgt := 53) hx hb (by omega) (by decide) dX11_isEntryWhat_42 (by decide) (fun c_27 => ?_) (fun c_27 => ?_)
          · refine j_const hx hb dX11_isEntryWhat_53 ?_
            refine lv_goto (tgt := 58) hx hb dX11_isEntryWhat_54 (by decide) ?_
            exact hRet 58 _ 1 dX11_isEntryWhat_58 (by omega) trivial
          · refine lv_iload_n hx hb dX11_isEntryWhat_45 rfl (lv_at hl 1 rfl) ?_
            refine j_if_ne (tgt := 53) hx hb (by decide) dX11_isEntryWhat_46 (by decide) (fun h => absurd h (by decide)) (fun _ => ?_)
            refine lv_iload_n hx hb dX11_isEntryWhat_49 rfl (lv_at hl 0 rfl) ?_
            refine j_if_eq (tgt := 57) hx hb (by decide) dX11_isEntryWhat_50 (by decide) (fun _ => ?_) (fun h => absurd h (by decide))
            refine j_const hx hb dX11_isEntryWhat_57 ?_
            exact hRet 58 _ 0 dX11_isEntryWhat_58 (by omega) trivial
      · refine lv_iload_n hx hb dX11_isEntryWhat_24 rfl (lv_at hl 1 rfl) ?_
        refine j_bi hx hb dX11_isEntryWhat_25 (by decide) ?_
        refine j_icmp_ge (tgt := 34) hx hb (by omega) (by decide) dX11_isEntryWhat_27 (by decide) (fun c_30 => ?_) (fun c_30 => ?_)
        · refine j_const hx hb dX11_isEntryWhat_34 ?_
          refine lv_istore_n (lv' := [(2, .int (jI 0)), (1, .int (jI 0)), (0, .int (jI x0))]) hx hb dX11_isEntryWhat_35 rfl hl (by decide) rfl (fun ls hl => ?_)
          refine lv_iload_n hx hb dX11_isEntryWhat_36 rfl (lv_at hl 2 rfl) ?_
          refine j_if_lt (tgt := 45) hx hb (by omega) dX11_isEntryWhat_37 (by decide) (fun c_31 => ?_) (fun c_31 => ?_)
          · refine lv_iload_n hx hb dX11_isEntryWhat_45 rfl (lv_at hl 1 rfl) ?_
            refine j_if_ne (tgt := 53) hx hb (by decide) dX11_isEntryWhat_46 (by decide) (fun h => absurd h (by decide)) (fun _ => ?_)
            refine lv_iload_n hx hb dX11_isEntryWhat_49 rfl (lv_at hl 0 rfl) ?_
            refine j_if_eq (tgt := 57) hx hb (by decide) dX11_isEntryWhat_50 (by decide) (fun _ => ?_) (fun h => absurd h (by decide))
            refine j_const hx hb dX11_isEntryWhat_57 ?_
            exact hRet 58 _ 0 dX11_isEntryWhat_58 (by omega) trivial
          · refine lv_iload_n hx hb dX11_isEntryWhat_40 rfl (lv_at hl 2 rfl) ?_
            refine j_const hx hb dX11_isEntryWhat_41 ?_
            refine j_icmp_le (tgt := 53) hx hb (by omega) (by decide) dX11_isEntryWhat_42 (by decide) (fun c_34 => ?_) (fun c_34 => ?_)
            · refine j_const hx hb dX11_isEntryWhat_53 ?_
              refine lv_goto (tgt := 58) hx hb dX11_isEntryWhat_54 (by decide) ?_
              exact hRet 58 _ 1 dX11_isEntryWhat_58 (by omega) trivial
            · refine lv_iload_n hx hb dX11_isEntryWhat_45 rfl (lv_at hl 1 rfl) ?_
              refine j_if_ne (tgt := 53) hx hb (by decide) dX11_isEntryWhat_46 (by decide) (fun h => absurd h (by decide)) (fun _ => ?_)
              refine lv_iload_n hx hb dX11_isEntryWhat_49 rfl (lv_at hl 0 rfl) ?_
              refine j_if_eq (tgt := 57) hx hb (by decide) dX11_isEntryWhat_50 (by decide) (fun _ => ?_) (fun h => absurd h (by decide))
              refine j_const hx hb dX11_isEntryWhat_57 ?_
              exact hRet 58 _ 0 dX11_isEntryWhat_58 (by omega) trivial
        · refine j_const hx hb dX11_isEntryWhat_30 ?_
          refine lv_goto (tgt := 35) hx hb dX11_isEntryWhat_31 (by decide) ?_
          refine lv_istore_n (lv' := [(2, .int (jI 1)), (1, .int (jI 0)), (0, .int (jI x0))]) hx hb dX11_isEntryWhat_35 rfl hl (by decide) rfl (fun ls hl => ?_)
          refine lv_iload_n hx hb dX11_isEntryWhat_36 rfl (lv_at hl 2 rfl) ?_
          refine j_if_lt (tgt := 45) hx hb (by omega) dX11_isEntryWhat_37 (by decide) (fun c_37 => ?_) (fun c_37 => ?_)
          · refine lv_iload_n hx hb dX11_isEntryWhat_45 rfl (lv_at hl 1 rfl) ?_
            refine j_if_ne (tgt := 53) hx hb (by decide) dX11_isEntryWhat_46 (by decide) (fun h => absurd h (by decide)) (fun _ => ?_)
            refine lv_iload_n hx hb dX11_isEntryWhat_49 rfl (lv_at hl 0 rfl) ?_
            refine j_if_eq (tgt := 57) hx hb (by decide) dX11_isEntryWhat_50 (by decide) (fun h => absurd h (by decide)) (fun _ => ?_)
            refine j_const hx hb dX11_isEntryWhat_53 ?_
            refine lv_goto (tgt := 58) hx hb dX11_isEntryWhat_54 (by decide) ?_
            exact hRet 58 _ 1 dX11_isEntryWhat_58 (by omega) trivial
          · refine lv_iload_n hx hb dX11_isEntryWhat_40 rfl (lv_at hl 2 rfl) ?_
            refine j_const hx hb dX11_isEntryWhat_41 ?_
            refine j_icmp_le (tgt := 53) hx hb (by omega) (by decide) dX11_isEntryWhat_42 (by decide) (fun c_40 => ?_) (fun c_40 => ?_)
            · refine j_const hx hb dX11_isEntryWhat_53 ?_
              refine lv_goto (tgt := 58) hx hb dX11_isEntryWhat_54 (by decide) ?_
              exact hRet 58 _ 1 dX11_isEntryWhat_58 (by omega) trivial
            · refine lv_iload_n hx hb dX11_isEntryWhat_45 rfl (lv_at hl 1 rfl) ?_
              refine j_if_ne (tgt := 53) hx hb (by decide) dX11_isEntryWhat_46 (by decide) (fun h => absurd h (by decide)) (fun _ => ?_)
              refine lv_iload_n hx hb dX11_isEntryWhat_49 rfl (lv_at hl 0 rfl) ?_
              refine j_if_eq (tgt := 57) hx hb (by decide) dX11_isEntryWhat_50 (by decide) (fun h => absurd h (by decide)) (fun _ => ?_)
              refine j_const hx hb dX11_isEntryWhat_53 ?_
              refine lv_goto (tgt := 58) hx hb dX11_isEntryWhat_54 (by decide) ?_
              exact hRet 58 _ 1 dX11_isEntryWhat_58 (by omega) trivial
    · refine j_const hx hb dX11_isEntryWhat_12 ?_
      refine lv_goto (tgt := 17) hx hb dX11_isEntryWhat_13 (by decide) ?_
      refine lv_istore_n (lv' := [(1, .int (jI 1)), (0, .int (jI x0))]) hx hb dX11_isEntryWhat_17 rfl hl (by decide) rfl (fun ls hl => ?_)
      refine lv_iload_n hx hb dX11_isEntryWhat_18 rfl (lv_at hl 1 rfl) ?_
      refine j_bi hx hb dX11_isEntryWhat_19 (by decide) ?_
      refine j_icmp_lt (tgt := 34) hx hb (by omega) (by decide) dX11_isEntryWhat_21 (by decide) (fun c_43 => ?_) (fun c_43 => ?_)
      · refine j_const hx hb dX11_isEntryWhat_34 ?_
        refine lv_istore_n (lv' := [(2, .int (jI 0)), (1, .int (jI 1)), (0, .int (jI x0))]) hx hb dX11_isEntryWhat_35 rfl hl (by decide) rfl (fun ls hl => ?_)
        refine lv_iload_n hx hb dX11_isEntryWhat_36 rfl (lv_at hl 2 rfl) ?_
        refine j_if_lt (tgt := 45) hx hb (by omega) dX11_isEntryWhat_37 (by decide) (fun c_44 => ?_) (fun c_44 => ?_)
        · refine lv_iload_n hx hb dX11_isEntryWhat_45 rfl (lv_at hl 1 rfl) ?_
          refine j_if_ne (tgt := 53) hx hb (by decide) dX11_isEntryWhat_46 (by decide) (fun _ => ?_) (fun h => absurd h (by decide))
          refine j_const hx hb dX11_isEntryWhat_53 ?_
          refine lv_goto (tgt := 58) hx hb dX11_isEntryWhat_54 (by decide) ?_
          exact hRet 58 _ 1 dX11_isEntryWhat_58 (by omega) trivial
        · refine lv_iload_n hx hb dX11_isEntryWhat_40 rfl (lv_at hl 2 rfl) ?_
          refine j_const hx hb dX11_isEntryWhat_41 ?_
          refine j_icmp_le (tgt := 53) hx hb (by omega) (by decide) dX11_isEntryWhat_42 (by decide) (fun c_46 => ?_) (fun c_46 => ?_)
          · refine j_const hx hb dX11_isEntryWhat_53 ?_
            refine lv_goto (tgt := 58) hx hb dX11_isEntryWhat_54 (by decide) ?_
            exact hRet 58 _ 1 dX11_isEntryWhat_58 (by omega) trivial
          · refine lv_iload_n hx hb dX11_isEntryWhat_45 rfl (lv_at hl 1 rfl) ?_
            refine j_if_ne (tgt := 53) hx hb (by decide) dX11_isEntryWhat_46 (by decide) (fun _ => ?_) (fun h => absurd h (by decide))
            refine j_const hx hb dX11_isEntryWhat_53 ?_
            refine lv_goto (tgt := 58) hx hb dX11_isEntryWhat_54 (by decide) ?_
            exact hRet 58 _ 1 dX11_isEntryWhat_58 (by omega) trivial
      · refine lv_iload_n hx hb dX11_isEntryWhat_24 rfl (lv_at hl 1 rfl) ?_
        refine j_bi hx hb dX11_isEntryWhat_25 (by decide) ?_
        refine j_icmp_ge (tgt := 34) hx hb (by omega) (by decide) dX11_isEntryWhat_27 (by decide) (fun c_48 => ?_) (fun c_48 => ?_)
        · refine j_const hx hb dX11_isEntryWhat_34 ?_
          refine lv_istore_n (lv' := [(2, .int (jI 0)), (1, .int (jI 1)), (0, .int (jI x0))]) hx hb dX11_isEntryWhat_35 rfl hl (by decide) rfl (fun ls hl => ?_)
          refine lv_iload_n hx hb dX11_isEntryWhat_36 rfl (lv_at hl 2 rfl) ?_
          refine j_if_lt (tgt := 45) hx hb (by omega) dX11_isEntryWhat_37 (by decide) (fun c_49 => ?_) (fun c_49 => ?_)
          · refine lv_iload_n hx hb dX11_isEntryWhat_45 rfl (lv_at hl 1 rfl) ?_
            refine j_if_ne (tgt := 53) hx hb (by decide) dX11_isEntryWhat_46 (by decide) (fun _ => ?_) (fun h => absurd h (by decide))
            refine j_const hx hb dX11_isEntryWhat_53 ?_
            refine lv_goto (tgt := 58) hx hb dX11_isEntryWhat_54 (by decide) ?_
            exact hRet 58 _ 1 dX11_isEntryWhat_58 (by omega) trivial
          · refine lv_iload_n hx hb dX11_isEntryWhat_40 rfl (lv_at hl 2 rfl) ?_
            refine j_const hx hb dX11_isEntryWhat_41 ?_
            refine j_icmp_le (tgt := 53) hx hb (by omega) (by decide) dX11_isEntryWhat_42 (by decide) (fun c_51 => ?_) (fun c_51 => ?_)
            · refine j_const hx hb dX11_isEntryWhat_53 ?_
              refine lv_goto (tgt := 58) hx hb dX11_isEntryWhat_54 (by decide) ?_
              exact hRet 58 _ 1 dX11_isEntryWhat_58 (by omega) trivial
            · refine lv_iload_n hx hb dX11_isEntryWhat_45 rfl (lv_at hl 1 rfl) ?_
              refine j_if_ne (tgt := 53) hx hb (by decide) dX11_isEntryWhat_46 (by decide) (fun _ => ?_) (fun h => absurd h (by decide))
              refine j_const hx hb dX11_isEntryWhat_53 ?_
              refine lv_goto (tgt := 58) hx hb dX11_isEntryWhat_54 (by decide) ?_
              exact hRet 58 _ 1 dX11_isEntryWhat_58 (by omega) trivial
        · refine j_const hx hb dX11_isEntryWhat_30 ?_
          refine lv_goto (tgt := 35) hx hb dX11_isEntryWhat_31 (by decide) ?_
          refine lv_istore_n (lv' := [(2, .int (jI 1)), (1, .int (jI 1)), (0, .int (jI x0))]) hx hb dX11_isEntryWhat_35 rfl hl (by decide) rfl (fun ls hl => ?_)
          refine lv_iload_n hx hb dX11_isEntryWhat_36 rfl (lv_at hl 2 rfl) ?_
          refine j_if_lt (tgt := 45) hx hb (by omega) dX11_isEntryWhat_37 (by decide) (fun c_53 => ?_) (fun c_53 => ?_)
          · refine lv_iload_n hx hb dX11_isEntryWhat_45 rfl (lv_at hl 1 rfl) ?_
            refine j_if_ne (tgt := 53) hx hb (by decide) dX11_isEntryWhat_46 (by decide) (fun _ => ?_) (fun h => absurd h (by decide))
            refine j_const hx hb dX11_isEntryWhat_53 ?_
            refine lv_goto (tgt := 58) hx hb dX11_isEntryWhat_54 (by decide) ?_
            exact hRet 58 _ 1 dX11_isEntryWhat_58 (by omega) trivial
          · refine lv_iload_n hx hb dX11_isEntryWhat_40 rfl (lv_at hl 2 rfl) ?_
            refine j_const hx hb dX11_isEntryWhat_41 ?_
            refine j_icmp_le (tgt := 53) hx hb (by omega) (by decide) dX11_isEntryWhat_42 (by decide) (fun c_55 => ?_) (fun c_55 => ?_)
            · refine j_const hx hb dX11_isEntryWhat_53 ?_
              refine lv_goto (tgt := 58) hx hb dX11_isEntryWhat_54 (by decide) ?_
              exact hRet 58 _ 1 dX11_isEntryWhat_58 (by omega) trivial
            · refine lv_iload_n hx hb dX11_isEntryWhat_45 rfl (lv_at hl 1 rfl) ?_
              refine j_if_ne (tgt := 53) hx hb (by decide) dX11_isEntryWhat_46 (by decide) (fun _ => ?_) (fun h => absurd h (by decide))
              refine j_const hx hb dX11_isEntryWhat_53 ?_
              refine lv_goto (tgt := 58) hx hb dX11_isEntryWhat_54 (by decide) ?_
              exact hRet 58 _ 1 dX11_isEntryWhat_58 (by omega) trivial
theorem hsX11_changed : yX11_changed.cls = RX11 ∧ yX11_changed.cls ≠ "java/lang/invoke/MethodHandle" ∧ yX11_changed.cls ≠ "java/lang/invoke/VarHandle" ∧ (parseMethodDescriptor yX11_changed.desc).map (fun d => d.parameters.length) = some 3 := by decide +kernel
theorem hvX11_changed : yX11_changed.cls ≠ "java/lang/invoke/MethodHandle" ∧ yX11_changed.cls ≠ "java/lang/invoke/VarHandle" ∧ (parseMethodDescriptor yX11_changed.desc).map (fun d => d.parameters.length) = some 3 := hsX11_changed.2
set_option maxHeartbeats 4000000 in
set_option maxRecDepth 100000 in
theorem kX11_changed (l : Launch) {D : va_G} {cA : Nat → ClassId} {τ : Nat → Nat} {G : Nat → Nat → Nat} {L : List Nat} (hS : SW τ G L) (σ : Nat → Nat → Int) {x0 : Int} (r0 : rg x0) {x1 : Int} (r1 : rg x1) {x2 : Int} (r2 : rg x2) : Met l yX11_changed wsX11_changed ({ frames := 1, cells := 0, slots := 0, locals := 24 }) (jP D cA τ G L σ [.int (jI x0), .int (jI x1), .int (jI x2)]) (jQR (fun r => True)) 0 0 (fun _ => False) := by
  refine j_metR (by decide +kernel) rfl (Nat.le_of_ble_eq_true rfl) ?_
  intro p e s m args below meth c Q hx hb hml hown hts hK hW hRet ls hl
  have hl : lv_has ls 5 [(0, .int (jI x0)), (1, .int (jI x1)), (2, .int (jI x2))] := hl
  refine lv_iload_n hx hb dX11_changed_0 rfl (lv_at hl 0 rfl) ?_
  have hrc_1 : rg x0 := by omega
  by_cases c_1_0 : x0 = 0
  · refine lv_lookup (tgt := 28) (off := 27) hx hb dX11_changed_1 (by decide) (by rw [jI_toInt hrc_1, c_1_0]; decide) (by decide) ?_
    refine lv_iload_n hx hb dX11_changed_28 rfl (lv_at hl 1 rfl) ?_
    refine lv_i2l hx hb dX11_changed_29 rfl ?_
    refine lv_iload_n hx hb dX11_changed_30 rfl (lv_at hl 2 rfl) ?_
    refine lv_i2l hx hb dX11_changed_31 rfl ?_
    refine lv_ladd hx hb dX11_changed_32 ?_
    refine lv_lstore_n (lv' := [(3, .long (((jI x1).toInt64) + ((jI x2).toInt64))), (0, .int (jI x0)), (1, .int (jI x1)), (2, .int (jI x2))]) hx hb dX11_changed_33 rfl hl (by decide) rfl (fun ls hl => ?_)
    refine lv_goto (tgt := 49) hx hb dX11_changed_34 (by decide) ?_
    refine lv_lconst hx hb dX11_changed_49 rfl ?_
    refine lv_lload_n hx hb dX11_changed_50 rfl (lv_at hl 0 rfl) ?_
    refine lv_ldc2 hx hb hown (hts (.constantLong RX11 348 (99999)) (by decide +kernel)) dX11_changed_51 ?_
    refine j_mminL hx hb (hml.trans hl.1.symm) hown (hts (.methodLink RX11 350 Lib.MathLoose.min_long.x) (by decide +kernel)) (hts (.static Lib.MathLoose.min_long.x) (by decide +kernel)) (hts (.initialized "java/lang/Math") (by decide +kernel)) (hts (.code Lib.MathLoose.min_long.x Lib.MathLoose.min_long.code 4 (some .long)) (by decide +kernel)) (Nat.le_of_ble_eq_true rfl) (Nat.le_of_ble_eq_true rfl) (Nat.le_of_ble_eq_true rfl) (Nat.le_of_ble_eq_true rfl) dX11_changed_54 (fun w54 => ?_)
    refine j_mmaxL hx hb (hml.trans hl.1.symm) hown (hts (.methodLink RX11 356 Lib.MathLoose.max_long.x) (by decide +kernel)) (hts (.static Lib.MathLoose.max_long.x) (by decide +kernel)) (hts (.initialized "java/lang/Math") (by decide +kernel)) (hts (.code Lib.MathLoose.max_long.x Lib.MathLoose.max_long.code 4 (some .long)) (by decide +kernel)) (Nat.le_of_ble_eq_true rfl) (Nat.le_of_ble_eq_true rfl) (Nat.le_of_ble_eq_true rfl) (Nat.le_of_ble_eq_true rfl) dX11_changed_57 (fun w57 => ?_)
    refine lv_l2i hx hb dX11_changed_60 rfl (j_raw fun z_2 rz_2 ez_2 => ?_)
    exact hRet 61 _ z_2 dX11_changed_61 (by omega) trivial
  by_cases c_1_1 : x0 = 1
  · refine lv_lookup (tgt := 37) (off := 36) hx hb dX11_changed_1 (by decide) (by rw [jI_toInt hrc_1, c_1_1]; decide) (by decide) ?_
    refine lv_iload_n hx hb dX11_changed_37 rfl (lv_at hl 1 rfl) ?_
    refine lv_i2l hx hb dX11_changed_38 rfl ?_
    refine lv_iload_n hx hb dX11_changed_39 rfl (lv_at hl 2 rfl) ?_
    refine lv_i2l hx hb dX11_changed_40 rfl ?_
    refine lv_lmul hx hb dX11_changed_41 ?_
    refine lv_lstore_n (lv' := [(3, .long (((jI x1).toInt64) * ((jI x2).toInt64))), (0, .int (jI x0)), (1, .int (jI x1)), (2, .int (jI x2))]) hx hb dX11_changed_42 rfl hl (by decide) rfl (fun ls hl => ?_)
    refine lv_goto (tgt := 49) hx hb dX11_changed_43 (by decide) ?_
    refine lv_lconst hx hb dX11_changed_49 rfl ?_
    refine lv_lload_n hx hb dX11_changed_50 rfl (lv_at hl 0 rfl) ?_
    refine lv_ldc2 hx hb hown (hts (.constantLong RX11 348 (99999)) (by decide +kernel)) dX11_changed_51 ?_
    refine j_mminL hx hb (hml.trans hl.1.symm) hown (hts (.methodLink RX11 350 Lib.MathLoose.min_long.x) (by decide +kernel)) (hts (.static Lib.MathLoose.min_long.x) (by decide +kernel)) (hts (.initialized "java/lang/Math") (by decide +kernel)) (hts (.code Lib.MathLoose.min_long.x Lib.MathLoose.min_long.code 4 (some .long)) (by decide +kernel)) (Nat.le_of_ble_eq_true rfl) (Nat.le_of_ble_eq_true rfl) (Nat.le_of_ble_eq_true rfl) (Nat.le_of_ble_eq_true rfl) dX11_changed_54 (fun w54 => ?_)
    refine j_mmaxL hx hb (hml.trans hl.1.symm) hown (hts (.methodLink RX11 356 Lib.MathLoose.max_long.x) (by decide +kernel)) (hts (.static Lib.MathLoose.max_long.x) (by decide +kernel)) (hts (.initialized "java/lang/Math") (by decide +kernel)) (hts (.code Lib.MathLoose.max_long.x Lib.MathLoose.max_long.code 4 (some .long)) (by decide +kernel)) (Nat.le_of_ble_eq_true rfl) (Nat.le_of_ble_eq_true rfl) (Nat.le_of_ble_eq_true rfl) (Nat.le_of_ble_eq_true rfl) dX11_changed_57 (fun w57 => ?_)
    refine lv_l2i hx hb dX11_changed_60 rfl (j_raw fun z_3 rz_3 ez_3 => ?_)
    exact hRet 61 _ z_3 dX11_changed_61 (by omega) trivial
  refine lv_lookup (tgt := 46) (off := 45) hx hb dX11_changed_1 (by decide) (by rw [jI_toInt hrc_1]; simp [Op.lookupswitch.offset, Ne.symm c_1_0, Ne.symm c_1_1]) (by decide) ?_
  refine lv_iload_n hx hb dX11_changed_46 rfl (lv_at hl 2 rfl) ?_
  refine lv_i2l hx hb dX11_changed_47 rfl ?_
  refine lv_lstore_n (lv' := [(3, .long ((jI x2).toInt64)), (0, .int (jI x0)), (1, .int (jI x1)), (2, .int (jI x2))]) hx hb dX11_changed_48 rfl hl (by decide) rfl (fun ls hl => ?_)
  refine lv_lconst hx hb dX11_changed_49 rfl ?_
  refine lv_lload_n hx hb dX11_changed_50 rfl (lv_at hl 0 rfl) ?_
  refine lv_ldc2 hx hb hown (hts (.constantLong RX11 348 (99999)) (by decide +kernel)) dX11_changed_51 ?_
  refine j_mminL hx hb (hml.trans hl.1.symm) hown (hts (.methodLink RX11 350 Lib.MathLoose.min_long.x) (by decide +kernel)) (hts (.static Lib.MathLoose.min_long.x) (by decide +kernel)) (hts (.initialized "java/lang/Math") (by decide +kernel)) (hts (.code Lib.MathLoose.min_long.x Lib.MathLoose.min_long.code 4 (some .long)) (by decide +kernel)) (Nat.le_of_ble_eq_true rfl) (Nat.le_of_ble_eq_true rfl) (Nat.le_of_ble_eq_true rfl) (Nat.le_of_ble_eq_true rfl) dX11_changed_54 (fun w54 => ?_)
  refine j_mmaxL hx hb (hml.trans hl.1.symm) hown (hts (.methodLink RX11 356 Lib.MathLoose.max_long.x) (by decide +kernel)) (hts (.static Lib.MathLoose.max_long.x) (by decide +kernel)) (hts (.initialized "java/lang/Math") (by decide +kernel)) (hts (.code Lib.MathLoose.max_long.x Lib.MathLoose.max_long.code 4 (some .long)) (by decide +kernel)) (Nat.le_of_ble_eq_true rfl) (Nat.le_of_ble_eq_true rfl) (Nat.le_of_ble_eq_true rfl) (Nat.le_of_ble_eq_true rfl) dX11_changed_57 (fun w57 => ?_)
  refine lv_l2i hx hb dX11_changed_60 rfl (j_raw fun z_4 rz_4 ez_4 => ?_)
  exact hRet 61 _ z_4 dX11_changed_61 (by omega) trivial
abbrev wr_X7_open : List Nat := [8001, 8002, 8003]
theorem flX7_open_15 : Cond.fieldLink RX7 15 "PageTrie$Reader" "at" "I" ∈ wsX7_open := List.mem_of_getElem? (i := 1) rfl
theorem flX7_open_19 : Cond.fieldLink RX7 19 "PageTrie$Reader" "end" "I" ∈ wsX7_open := List.mem_of_getElem? (i := 2) rfl
theorem flX7_open_22 : Cond.fieldLink RX7 22 "PageTrie$Reader" "fault" "I" ∈ wsX7_open := List.mem_of_getElem? (i := 3) rfl
theorem inX7_open_X7 : ∀ w ∈ u_ws RX7 TX7 4, w ∈ wsX7_open := mem_r _ [4, 5, 6, 7] rfl
theorem hvX7_open : yX7_open.cls = RX7 ∧ yX7_open.cls ≠ "java/lang/invoke/MethodHandle" ∧ yX7_open.cls ≠ "java/lang/invoke/VarHandle" ∧ (parseMethodDescriptor yX7_open.desc).map (fun d => d.parameters.length) = some 1 := by decide +kernel
set_option maxHeartbeats 4000000 in
set_option maxRecDepth 100000 in
theorem kX7_open (l : Launch) {D : va_G} {cA : Nat → ClassId} {τ : Nat → Nat} {G : Nat → Nat → Nat} {L : List Nat} (hS : SW τ G L) (σ : Nat → Nat → Int) {a0 : Nat} (h0 : τ a0 = 8) {x1 : Int} (r1 : rg x1) : Met l yX7_open wsX7_open ({ frames := 0, cells := 0, slots := 0, locals := 0 }) (jP D cA τ G L σ [.ref a0, .int (jI x1)]) (jQV D cA τ G L (fun σ' => (True) ∧ fr wr_X7_open τ σ σ')) 0 0 (fun q => q ∈ L) := by
  refine j_metV (by decide +kernel) rfl (Nat.le_of_ble_eq_true rfl) ?_
  intro p e s m args below meth c Q hx hb hml hown hts hK hW hRet ls hl
  have hl : lv_has ls 2 [(0, .ref a0), (1, .int (jI x1))] := hl
  have hA : ∀ q ∈ L, (fun q => q ∈ L) q := fun _ h => h
  have hF : va_S (fun q => q ∈ L) s.heap s.heap [] := va_S.rf
  have hR : fr wr_X7_open τ σ σ := fr_rf
  refine lv_aload_n hx hb dX7_open_0 rfl (lv_at hl 0 rfl) ?_
  refine j_const hx hb dX7_open_1 ?_
  refine j_putI hx hb (C := RX7) (T := TX7) (N := 4) hts inX7_open_X7 tyX7 tyX7_ok nmX7 hown hK hS hA hW hF h0 rfl 1 (lo := -2147483648) (hi := 2147483647) rfl rfl (by decide) (hts _ flX7_open_15) rfl .int rfl (by omega) rfl rfl dX7_open_2 (fun σ_1 H locs e_2 hW hF => ?_)
  have hR := fr_up hR e_2 h0 8001 rfl (by decide)
  have : σ_1 a0 1 = 0 := by rw [e_2]; exact up2_at _ _ _ _
  refine lv_aload_n hx hb dX7_open_5 rfl (lv_at hl 0 rfl) ?_
  refine lv_iload_n hx hb dX7_open_6 rfl (lv_at hl 1 rfl) ?_
  refine j_putI hx hb (C := RX7) (T := TX7) (N := 4) hts inX7_open_X7 tyX7 tyX7_ok nmX7 hown hK hS hA hW hF h0 rfl 2 (lo := -2147483648) (hi := 2147483647) rfl rfl (by decide) (hts _ flX7_open_19) rfl .int rfl (by omega) rfl rfl dX7_open_7 (fun σ_3 H locs e_4 hW hF => ?_)
  have hR := fr_up hR e_4 h0 8002 rfl (by decide)
  have : σ_3 a0 2 = x1 := by rw [e_4]; exact up2_at _ _ _ _
  refine lv_aload_n hx hb dX7_open_10 rfl (lv_at hl 0 rfl) ?_
  refine j_const hx hb dX7_open_11 ?_
  refine j_putI hx hb (C := RX7) (T := TX7) (N := 4) hts inX7_open_X7 tyX7 tyX7_ok nmX7 hown hK hS hA hW hF h0 rfl 3 (lo := -2147483648) (hi := 2147483647) rfl rfl (by decide) (hts _ flX7_open_22) rfl .int rfl (by omega) rfl rfl dX7_open_12 (fun σ_5 H locs e_6 hW hF => ?_)
  have hR := fr_up hR e_6 h0 8003 rfl (by decide)
  have : σ_5 a0 3 = 0 := by rw [e_6]; exact up2_at _ _ _ _
  exact hRet 15 _ _ _ _ dX7_open_15 hW hF ⟨trivial, hR⟩
theorem flX7_isAtEnd_15 : Cond.fieldLink RX7 15 "PageTrie$Reader" "at" "I" ∈ wsX7_isAtEnd := List.mem_of_getElem? (i := 1) rfl
theorem flX7_isAtEnd_19 : Cond.fieldLink RX7 19 "PageTrie$Reader" "end" "I" ∈ wsX7_isAtEnd := List.mem_of_getElem? (i := 2) rfl
theorem inX7_isAtEnd_X7 : ∀ w ∈ u_ws RX7 TX7 4, w ∈ wsX7_isAtEnd := mem_r _ [3, 4, 5, 6] rfl
theorem hvX7_isAtEnd : yX7_isAtEnd.cls = RX7 ∧ yX7_isAtEnd.cls ≠ "java/lang/invoke/MethodHandle" ∧ yX7_isAtEnd.cls ≠ "java/lang/invoke/VarHandle" ∧ (parseMethodDescriptor yX7_isAtEnd.desc).map (fun d => d.parameters.length) = some 0 := by decide +kernel
set_option maxHeartbeats 4000000 in
set_option maxRecDepth 100000 in
theorem kX7_isAtEnd (l : Launch) {D : va_G} {cA : Nat → ClassId} {τ : Nat → Nat} {G : Nat → Nat → Nat} {L : List Nat} (hS : SW τ G L) (σ : Nat → Nat → Int) {a0 : Nat} (h0 : τ a0 = 8) : Met l yX7_isAtEnd wsX7_isAtEnd ({ frames := 0, cells := 0, slots := 0, locals := 0 }) (jP D cA τ G L σ [.ref a0]) (jQR (fun r => (0 ≤ r ∧ r ≤ 1) ∧ (True))) 0 0 (fun _ => False) := by
  refine j_metRZ (by decide +kernel) rfl (Nat.le_of_ble_eq_true rfl) ?_
  intro p e s m args below meth c Q hx hb hml hown hts hK hW hRet ls hl
  have hl : lv_has ls 1 [(0, .ref a0)] := hl
  refine lv_aload_n hx hb dX7_isAtEnd_0 rfl (lv_at hl 0 rfl) ?_
  refine j_getI hx hb (C := RX7) (T := TX7) (N := 4) hts inX7_isAtEnd_X7 hown hK hS hW h0 rfl 1 rfl rfl (by decide) (hts _ flX7_isAtEnd_15) dX7_isAtEnd_1 ?_
  have := fbd hW h0 (k := 1) (lo := -2147483648) (hi := 2147483647) rfl rfl
  refine lv_aload_n hx hb dX7_isAtEnd_4 rfl (lv_at hl 0 rfl) ?_
  refine j_getI hx hb (C := RX7) (T := TX7) (N := 4) hts inX7_isAtEnd_X7 hown hK hS hW h0 rfl 2 rfl rfl (by decide) (hts _ flX7_isAtEnd_19) dX7_isAtEnd_5 ?_
  have := fbd hW h0 (k := 2) (lo := -2147483648) (hi := 2147483647) rfl rfl
  refine j_icmp_lt (tgt := 15) hx hb (by omega) (by omega) dX7_isAtEnd_8 (by decide) (fun c_1 => ?_) (fun c_1 => ?_)
  · refine j_const hx hb dX7_isAtEnd_15 ?_
    exact hRet 16 _ 0 dX7_isAtEnd_16 (by omega) trivial
  · refine j_const hx hb dX7_isAtEnd_11 ?_
    refine lv_goto (tgt := 16) hx hb dX7_isAtEnd_12 (by decide) ?_
    exact hRet 16 _ 1 dX7_isAtEnd_16 (by omega) trivial
theorem flX7_sign_9 : Cond.fieldLink RX7 9 "PageTrie$Reader" "tape" "LPageTrie$Tape;" ∈ wsX7_sign := List.mem_of_getElem? (i := 3) rfl
theorem flX7_sign_15 : Cond.fieldLink RX7 15 "PageTrie$Reader" "at" "I" ∈ wsX7_sign := List.mem_of_getElem? (i := 1) rfl
theorem flX7_sign_19 : Cond.fieldLink RX7 19 "PageTrie$Reader" "end" "I" ∈ wsX7_sign := List.mem_of_getElem? (i := 2) rfl
theorem inX7_sign_X7 : ∀ w ∈ u_ws RX7 TX7 4, w ∈ wsX7_sign := mem_r _ [11, 12, 13, 14] rfl
theorem hvX7_sign : yX7_sign.cls = RX7 ∧ yX7_sign.cls ≠ "java/lang/invoke/MethodHandle" ∧ yX7_sign.cls ≠ "java/lang/invoke/VarHandle" ∧ (parseMethodDescriptor yX7_sign.desc).map (fun d => d.parameters.length) = some 0 := by decide +kernel
set_option maxHeartbeats 4000000 in
set_option maxRecDepth 100000 in
theorem kX7_sign (l : Launch) {D : va_G} {cA : Nat → ClassId} {τ : Nat → Nat} {G : Nat → Nat → Nat} {L : List Nat} (hS : SW τ G L) (σ : Nat → Nat → Int) {a0 : Nat} (h0 : τ a0 = 8) : Met l yX7_sign wsX7_sign ({ frames := 1, cells := 0, slots := 0, locals := 21 }) (jP D cA τ G L σ [.ref a0]) (jQR (fun r => True)) 0 0 (fun _ => False) := by
  refine j_metR (by decide +kernel) rfl (Nat.le_of_ble_eq_true rfl) ?_
  intro p e s m args below meth c Q hx hb hml hown hts hK hW hRet ls hl
  have hl : lv_has ls 1 [(0, .ref a0)] := hl
  refine lv_aload_n hx hb dX7_sign_0 rfl (lv_at hl 0 rfl) ?_
  refine j_getI hx hb (C := RX7) (T := TX7) (N := 4) hts inX7_sign_X7 hown hK hS hW h0 rfl 1 rfl rfl (by decide) (hts _ flX7_sign_15) dX7_sign_1 ?_
  have := fbd hW h0 (k := 1) (lo := -2147483648) (hi := 2147483647) rfl rfl
  refine lv_aload_n hx hb dX7_sign_4 rfl (lv_at hl 0 rfl) ?_
  refine j_getI hx hb (C := RX7) (T := TX7) (N := 4) hts inX7_sign_X7 hown hK hS hW h0 rfl 2 rfl rfl (by decide) (hts _ flX7_sign_19) dX7_sign_5 ?_
  have := fbd hW h0 (k := 2) (lo := -2147483648) (hi := 2147483647) rfl rfl
  refine j_icmp_ge (tgt := 25) hx hb (by omega) (by omega) dX7_sign_8 (by decide) (fun c_1 => ?_) (fun c_1 => ?_)
  · refine j_const hx hb dX7_sign_25 ?_
    exact hRet 26 _ (-1) dX7_sign_26 (by decide) trivial
  · refine lv_aload_n hx hb dX7_sign_11 rfl (lv_at hl 0 rfl) ?_
    refine j_getR hx hb (C := RX7) (T := TX7) (N := 4) hts inX7_sign_X7 hown hK hS hW h0 rfl 0 rfl rfl (by decide) (hts _ flX7_sign_9) dX7_sign_12 ?_
    have h_2 : τ (G a0 0) = 10 := gty hS h0 (k := 0) rfl rfl
    refine lv_aload_n hx hb dX7_sign_15 rfl (lv_at hl 0 rfl) ?_
    refine j_getI hx hb (C := RX7) (T := TX7) (N := 4) hts inX7_sign_X7 hown hK hS hW h0 rfl 1 rfl rfl (by decide) (hts _ flX7_sign_15) dX7_sign_16 ?_
    refine j_cR (j_runV (As := [.int (jI (σ a0 1))]) (rest := []) hx hb hml hown hts hK hS hW (kX9_byteAt l hS σ (a0 := G a0 0) (h0 := h_2) (x1 := σ a0 1) (r1 := (by omega))) 1 gX7_sign_X9_byteAt rfl hvX9_byteAt ⟨Nat.le_of_ble_eq_true rfl, Nat.le_of_ble_eq_true rfl⟩ rfl rfl h_2 rfl rfl rfl rfl hl.1 rfl (Nat.le_of_ble_eq_true rfl) dX7_sign_19 ⟨Nat.le_of_ble_eq_true rfl, Nat.le_of_ble_eq_true rfl⟩) (fun v_3 rv_3 pv_3 => ?_)
    try dsimp only at pv_3
    refine lv_goto (tgt := 26) hx hb dX7_sign_22 (by decide) ?_
    exact hRet 26 _ v_3 dX7_sign_26 (by omega) trivial
abbrev wr_X7_blame : List Nat := [8003]
theorem flX7_blame_22 : Cond.fieldLink RX7 22 "PageTrie$Reader" "fault" "I" ∈ wsX7_blame := List.mem_of_getElem? (i := 1) rfl
theorem inX7_blame_X7 : ∀ w ∈ u_ws RX7 TX7 4, w ∈ wsX7_blame := mem_r _ [2, 3, 4, 5] rfl
theorem hvX7_blame : yX7_blame.cls = RX7 ∧ yX7_blame.cls ≠ "java/lang/invoke/MethodHandle" ∧ yX7_blame.cls ≠ "java/lang/invoke/VarHandle" ∧ (parseMethodDescriptor yX7_blame.desc).map (fun d => d.parameters.length) = some 2 := by decide +kernel
set_option maxHeartbeats 4000000 in
set_option maxRecDepth 100000 in
theorem kX7_blame (l : Launch) {D : va_G} {cA : Nat → ClassId} {τ : Nat → Nat} {G : Nat → Nat → Nat} {L : List Nat} (hS : SW τ G L) (σ : Nat → Nat → Int) {a0 : Nat} (h0 : τ a0 = 8) {x1 : Int} (r1 : rg x1) {x2 : Int} (r2 : rg x2) : Met l yX7_blame wsX7_blame ({ frames := 0, cells := 0, slots := 0, locals := 0 }) (jP D cA τ G L σ [.ref a0, .int (jI x1), .int (jI x2)]) (jQV D cA τ G L (fun σ' => (True) ∧ fr wr_X7_blame τ σ σ')) 0 0 (fun q => q ∈ L) := by
  refine j_metV (by decide +kernel) rfl (Nat.le_of_ble_eq_true rfl) ?_
  intro p e s m args below meth c Q hx hb hml hown hts hK hW hRet ls hl
  have hl : lv_has ls 3 [(0, .ref a0), (1, .int (jI x1)), (2, .int (jI x2))] := hl
  have hA : ∀ q ∈ L, (fun q => q ∈ L) q := fun _ h => h
  have hF : va_S (fun q => q ∈ L) s.heap s.heap [] := va_S.rf
  have hR : fr wr_X7_blame τ σ σ := fr_rf
  refine lv_aload_n hx hb dX7_blame_0 rfl (lv_at hl 0 rfl) ?_
  refine j_getI hx hb (C := RX7) (T := TX7) (N := 4) hts inX7_blame_X7 hown hK hS hW h0 rfl 3 rfl rfl (by decide) (hts _ flX7_blame_22) dX7_blame_1 ?_
  have := fbd hW h0 (k := 3) (lo := -2147483648) (hi := 2147483647) rfl rfl
  refine j_if_ne (tgt := 18) hx hb (by omega) dX7_blame_4 (by decide) (fun c_1 => ?_) (fun c_1 => ?_)
  · exact hRet 18 _ _ _ _ dX7_blame_18 hW hF ⟨trivial, hR⟩
  · refine lv_aload_n hx hb dX7_blame_7 rfl (lv_at hl 0 rfl) ?_
    refine j_si hx hb dX7_blame_8 (by decide) ?_
    refine lv_iload_n hx hb dX7_blame_11 rfl (lv_at hl 1 rfl) ?_
    refine j_mul hx hb dX7_blame_12 ?_
    refine j_wrap (fun z_2 rz_2 ez_2 => ?_)
    refine lv_iload_n hx hb dX7_blame_13 rfl (lv_at hl 2 rfl) ?_
    refine j_sub hx hb dX7_blame_14 ?_
    refine j_wrap (fun z_3 rz_3 ez_3 => ?_)
    refine j_putI hx hb (C := RX7) (T := TX7) (N := 4) hts inX7_blame_X7 tyX7 tyX7_ok nmX7 hown hK hS hA hW hF h0 rfl 3 (lo := -2147483648) (hi := 2147483647) rfl rfl (by decide) (hts _ flX7_blame_22) rfl .int rfl (by omega) rfl rfl dX7_blame_15 (fun σ_4 H locs e_5 hW hF => ?_)
    have hR := fr_up hR e_5 h0 8003 rfl (by decide)
    have : σ_4 a0 3 = z_3 := by rw [e_5]; exact up2_at _ _ _ _
    exact hRet 18 _ _ _ _ dX7_blame_18 hW hF ⟨trivial, hR⟩
abbrev wr_X7_blameHere : List Nat := [8003]
theorem flX7_blameHere_15 : Cond.fieldLink RX7 15 "PageTrie$Reader" "at" "I" ∈ wsX7_blameHere := List.mem_of_getElem? (i := 1) rfl
theorem inX7_blameHere_X7 : ∀ w ∈ u_ws RX7 TX7 4, w ∈ wsX7_blameHere := mem_r _ [8, 9, 10, 11] rfl
theorem hvX7_blameHere : yX7_blameHere.cls = RX7 ∧ yX7_blameHere.cls ≠ "java/lang/invoke/MethodHandle" ∧ yX7_blameHere.cls ≠ "java/lang/invoke/VarHandle" ∧ (parseMethodDescriptor yX7_blameHere.desc).map (fun d => d.parameters.length) = some 1 := by decide +kernel
set_option maxHeartbeats 4000000 in
set_option maxRecDepth 100000 in
theorem kX7_blameHere (l : Launch) {D : va_G} {cA : Nat → ClassId} {τ : Nat → Nat} {G : Nat → Nat → Nat} {L : List Nat} (hS : SW τ G L) (σ : Nat → Nat → Int) {a0 : Nat} (h0 : τ a0 = 8) {x1 : Int} (r1 : rg x1) : Met l yX7_blameHere wsX7_blameHere ({ frames := 1, cells := 0, slots := 0, locals := 22 }) (jP D cA τ G L σ [.ref a0, .int (jI x1)]) (jQV D cA τ G L (fun σ' => (True) ∧ fr wr_X7_blameHere τ σ σ')) 0 0 (fun q => q ∈ L) := by
  refine j_metV (by decide +kernel) rfl (Nat.le_of_ble_eq_true rfl) ?_
  intro p e s m args below meth c Q hx hb hml hown hts hK hW hRet ls hl
  have hl : lv_has ls 2 [(0, .ref a0), (1, .int (jI x1))] := hl
  have hA : ∀ q ∈ L, (fun q => q ∈ L) q := fun _ h => h
  have hF : va_S (fun q => q ∈ L) s.heap s.heap [] := va_S.rf
  have hR : fr wr_X7_blameHere τ σ σ := fr_rf
  refine lv_aload_n hx hb dX7_blameHere_0 rfl (lv_at hl 0 rfl) ?_
  refine lv_iload_n hx hb dX7_blameHere_1 rfl (lv_at hl 1 rfl) ?_
  refine lv_aload_n hx hb dX7_blameHere_2 rfl (lv_at hl 0 rfl) ?_
  refine j_getI hx hb (C := RX7) (T := TX7) (N := 4) hts inX7_blameHere_X7 hown hK hS hW h0 rfl 1 rfl rfl (by decide) (hts _ flX7_blameHere_15) dX7_blameHere_3 ?_
  have := fbd hW h0 (k := 1) (lo := -2147483648) (hi := 2147483647) rfl rfl
  refine j_cV (j_runV (As := [.int (jI x1), .int (jI (σ a0 1))]) (rest := []) hx hb hml hown hts hK hS hW (kX7_blame l hS σ (a0 := a0) (h0 := h0) (x1 := x1) (r1 := (by omega)) (x2 := σ a0 1) (r2 := (by omega))) 2 gX7_blameHere_X7_blame rfl hvX7_blame ⟨Nat.le_of_ble_eq_true rfl, Nat.le_of_ble_eq_true rfl⟩ rfl rfl h0 rfl rfl rfl rfl hl.1 rfl (Nat.le_of_ble_eq_true rfl) dX7_blameHere_6 ⟨Nat.le_of_ble_eq_true rfl, Nat.le_of_ble_eq_true rfl⟩) hA hF (fun σ_1 H locs hW hF pσ_1 => ?_)
  try dsimp only at pσ_1
  obtain ⟨pσ_1, fpσ_1⟩ := pσ_1
  have hR := fr_call hR fpσ_1 (by decide)
  exact hRet 9 _ _ _ _ dX7_blameHere_9 hW hF ⟨trivial, hR⟩
abbrev wr_X7_goOn : List Nat := [8001]
theorem flX7_goOn_15 : Cond.fieldLink RX7 15 "PageTrie$Reader" "at" "I" ∈ wsX7_goOn := List.mem_of_getElem? (i := 1) rfl
theorem inX7_goOn_X7 : ∀ w ∈ u_ws RX7 TX7 4, w ∈ wsX7_goOn := mem_r _ [2, 3, 4, 5] rfl
theorem hvX7_goOn : yX7_goOn.cls = RX7 ∧ yX7_goOn.cls ≠ "java/lang/invoke/MethodHandle" ∧ yX7_goOn.cls ≠ "java/lang/invoke/VarHandle" ∧ (parseMethodDescriptor yX7_goOn.desc).map (fun d => d.parameters.length) = some 0 := by decide +kernel
set_option maxHeartbeats 4000000 in
set_option maxRecDepth 100000 in
theorem kX7_goOn (l : Launch) {D : va_G} {cA : Nat → ClassId} {τ : Nat → Nat} {G : Nat → Nat → Nat} {L : List Nat} (hS : SW τ G L) (σ : Nat → Nat → Int) {a0 : Nat} (h0 : τ a0 = 8) : Met l yX7_goOn wsX7_goOn ({ frames := 0, cells := 0, slots := 0, locals := 0 }) (jP D cA τ G L σ [.ref a0]) (jQV D cA τ G L (fun σ' => (True) ∧ fr wr_X7_goOn τ σ σ')) 0 0 (fun q => q ∈ L) := by
  refine j_metV (by decide +kernel) rfl (Nat.le_of_ble_eq_true rfl) ?_
  intro p e s m args below meth c Q hx hb hml hown hts hK hW hRet ls hl
  have hl : lv_has ls 1 [(0, .ref a0)] := hl
  have hA : ∀ q ∈ L, (fun q => q ∈ L) q := fun _ h => h
  have hF : va_S (fun q => q ∈ L) s.heap s.heap [] := va_S.rf
  have hR : fr wr_X7_goOn τ σ σ := fr_rf
  refine lv_aload_n hx hb dX7_goOn_0 rfl (lv_at hl 0 rfl) ?_
  refine lv_dup hx hb dX7_goOn_1 rfl ?_
  refine j_getI hx hb (C := RX7) (T := TX7) (N := 4) hts inX7_goOn_X7 hown hK hS hW h0 rfl 1 rfl rfl (by decide) (hts _ flX7_goOn_15) dX7_goOn_2 ?_
  have := fbd hW h0 (k := 1) (lo := -2147483648) (hi := 2147483647) rfl rfl
  refine j_const hx hb dX7_goOn_5 ?_
  refine j_add hx hb dX7_goOn_6 ?_
  refine j_wrap (fun z_1 rz_1 ez_1 => ?_)
  refine j_putI hx hb (C := RX7) (T := TX7) (N := 4) hts inX7_goOn_X7 tyX7 tyX7_ok nmX7 hown hK hS hA hW hF h0 rfl 1 (lo := -2147483648) (hi := 2147483647) rfl rfl (by decide) (hts _ flX7_goOn_15) rfl .int rfl (by omega) rfl rfl dX7_goOn_7 (fun σ_2 H locs e_3 hW hF => ?_)
  have hR := fr_up hR e_3 h0 8001 rfl (by decide)
  have : σ_2 a0 1 = z_1 := by rw [e_3]; exact up2_at _ _ _ _
  exact hRet 10 _ _ _ _ dX7_goOn_10 hW hF ⟨trivial, hR⟩
abbrev wr_X7_readSign : List Nat := [8001, 8003]
theorem flX7_readSign_15 : Cond.fieldLink RX7 15 "PageTrie$Reader" "at" "I" ∈ wsX7_readSign := List.mem_of_getElem? (i := 2) rfl
theorem flX7_readSign_22 : Cond.fieldLink RX7 22 "PageTrie$Reader" "fault" "I" ∈ wsX7_readSign := List.mem_of_getElem? (i := 1) rfl
theorem inX7_readSign_X7 : ∀ w ∈ u_ws RX7 TX7 4, w ∈ wsX7_readSign := mem_r _ [25, 26, 27, 28] rfl
theorem hvX7_readSign : yX7_readSign.cls = RX7 ∧ yX7_readSign.cls ≠ "java/lang/invoke/MethodHandle" ∧ yX7_readSign.cls ≠ "java/lang/invoke/VarHandle" ∧ (parseMethodDescriptor yX7_readSign.desc).map (fun d => d.parameters.length) = some 1 := by decide +kernel
set_option maxHeartbeats 4000000 in
set_option maxRecDepth 100000 in
theorem kX7_readSign (l : Launch) {D : va_G} {cA : Nat → ClassId} {τ : Nat → Nat} {G : Nat → Nat → Nat} {L : List Nat} (hS : SW τ G L) (σ : Nat → Nat → Int) {a0 : Nat} (h0 : τ a0 = 8) {x1 : Int} (r1 : rg x1) : Met l yX7_readSign wsX7_readSign ({ frames := 2, cells := 0, slots := 0, locals := 43 }) (jP D cA τ G L σ [.ref a0, .int (jI x1)]) (jQV D cA τ G L (fun σ' => (True) ∧ fr wr_X7_readSign τ σ σ')) 0 0 (fun q => q ∈ L) := by
  refine j_metV (by decide +kernel) rfl (Nat.le_of_ble_eq_true rfl) ?_
  intro p e s m args below meth c Q hx hb hml hown hts hK hW hRet ls hl
  have hl : lv_has ls 2 [(0, .ref a0), (1, .int (jI x1))] := hl
  have hA : ∀ q ∈ L, (fun q => q ∈ L) q := fun _ h => h
  have hF : va_S (fun q => q ∈ L) s.heap s.heap [] := va_S.rf
  have hR : fr wr_X7_readSign τ σ σ := fr_rf
  refine lv_aload_n hx hb dX7_readSign_0 rfl (lv_at hl 0 rfl) ?_
  refine j_getI hx hb (C := RX7) (T := TX7) (N := 4) hts inX7_readSign_X7 hown hK hS hW h0 rfl 3 rfl rfl (by decide) (hts _ flX7_readSign_22) dX7_readSign_1 ?_
  have := fbd hW h0 (k := 3) (lo := -2147483648) (hi := 2147483647) rfl rfl
  refine j_if_eq (tgt := 8) hx hb (by omega) dX7_readSign_4 (by decide) (fun c_1 => ?_) (fun c_1 => ?_)
  · refine lv_aload_n hx hb dX7_readSign_8 rfl (lv_at hl 0 rfl) ?_
    refine j_cR (j_runV (As := []) (rest := []) hx hb hml hown hts hK hS hW (kX7_sign l hS σ (a0 := a0) (h0 := h0)) 0 gX7_readSign_X7_sign rfl hvX7_sign ⟨Nat.le_of_ble_eq_true rfl, Nat.le_of_ble_eq_true rfl⟩ rfl rfl h0 rfl rfl rfl rfl hl.1 rfl (Nat.le_of_ble_eq_true rfl) dX7_readSign_9 ⟨Nat.le_of_ble_eq_true rfl, Nat.le_of_ble_eq_true rfl⟩) (fun v_2 rv_2 pv_2 => ?_)
    try dsimp only at pv_2
    refine lv_iload_n hx hb dX7_readSign_12 rfl (lv_at hl 1 rfl) ?_
    refine j_icmp_ne (tgt := 29) hx hb (by omega) (by omega) dX7_readSign_13 (by decide) (fun c_3 => ?_) (fun c_3 => ?_)
    · refine lv_aload_n hx hb dX7_readSign_29 rfl (lv_at hl 0 rfl) ?_
      refine j_const hx hb dX7_readSign_30 ?_
      refine j_cV (j_runV (As := [.int (jI 1)]) (rest := []) hx hb hml hown hts hK hS hW (kX7_blameHere l hS σ (a0 := a0) (h0 := h0) (x1 := 1) (r1 := (by decide))) 1 gX7_readSign_X7_blameHere rfl hvX7_blameHere ⟨Nat.le_of_ble_eq_true rfl, Nat.le_of_ble_eq_true rfl⟩ rfl rfl h0 rfl rfl rfl rfl hl.1 rfl (Nat.le_of_ble_eq_true rfl) dX7_readSign_31 ⟨Nat.le_of_ble_eq_true rfl, Nat.le_of_ble_eq_true rfl⟩) hA hF (fun σ_4 H locs hW hF pσ_4 => ?_)
      try dsimp only at pσ_4
      obtain ⟨pσ_4, fpσ_4⟩ := pσ_4
      have hR := fr_call hR fpσ_4 (by decide)
      exact hRet 34 _ _ _ _ dX7_readSign_34 hW hF ⟨trivial, hR⟩
    · refine lv_aload_n hx hb dX7_readSign_16 rfl (lv_at hl 0 rfl) ?_
      refine lv_dup hx hb dX7_readSign_17 rfl ?_
      refine j_getI hx hb (C := RX7) (T := TX7) (N := 4) hts inX7_readSign_X7 hown hK hS hW h0 rfl 1 rfl rfl (by decide) (hts _ flX7_readSign_15) dX7_readSign_18 ?_
      have := fbd hW h0 (k := 1) (lo := -2147483648) (hi := 2147483647) rfl rfl
      refine j_const hx hb dX7_readSign_21 ?_
      refine j_add hx hb dX7_readSign_22 ?_
      refine j_wrap (fun z_5 rz_5 ez_5 => ?_)
      refine j_putI hx hb (C := RX7) (T := TX7) (N := 4) hts inX7_readSign_X7 tyX7 tyX7_ok nmX7 hown hK hS hA hW hF h0 rfl 1 (lo := -2147483648) (hi := 2147483647) rfl rfl (by decide) (hts _ flX7_readSign_15) rfl .int rfl (by omega) rfl rfl dX7_readSign_23 (fun σ_6 H locs e_7 hW hF => ?_)
      have hR := fr_up hR e_7 h0 8001 rfl (by decide)
      have : σ_6 a0 1 = z_5 := by rw [e_7]; exact up2_at _ _ _ _
      refine lv_goto (tgt := 34) hx hb dX7_readSign_26 (by decide) ?_
      exact hRet 34 _ _ _ _ dX7_readSign_34 hW hF ⟨trivial, hR⟩
  · exact hRet 7 _ _ _ _ dX7_readSign_7 hW hF ⟨trivial, hR⟩
abbrev wr_X7_readKey : List Nat := [3001, 8001, 8003, 20000]
theorem flX7_readKey_15 : Cond.fieldLink RX7 15 "PageTrie$Reader" "at" "I" ∈ wsX7_readKey := List.mem_of_getElem? (i := 2) rfl
theorem flX7_readKey_22 : Cond.fieldLink RX7 22 "PageTrie$Reader" "fault" "I" ∈ wsX7_readKey := List.mem_of_getElem? (i := 1) rfl
theorem flX7_readKey_55 : Cond.fieldLink RX7 55 "PageTrie$Key" "length" "I" ∈ wsX7_readKey := List.mem_of_getElem? (i := 3) rfl
theorem inX7_readKey_X2 : ∀ w ∈ u_ws RX2 TX2 2, w ∈ wsX7_readKey := mem_r _ [44, 45] rfl
theorem inX7_readKey_X7 : ∀ w ∈ u_ws RX7 TX7 4, w ∈ wsX7_readKey := mem_r _ [40, 41, 42, 43] rfl
theorem hvX7_readKey : yX7_readKey.cls = RX7 ∧ yX7_readKey.cls ≠ "java/lang/invoke/MethodHandle" ∧ yX7_readKey.cls ≠ "java/lang/invoke/VarHandle" ∧ (parseMethodDescriptor yX7_readKey.desc).map (fun d => d.parameters.length) = some 1 := by decide +kernel
set_option maxHeartbeats 4000000 in
set_option maxRecDepth 100000 in
theorem kX7_readKey (l : Launch) {D : va_G} {cA : Nat → ClassId} {τ : Nat → Nat} {G : Nat → Nat → Nat} {L : List Nat} (hS : SW τ G L) (σ : Nat → Nat → Int) {a0 : Nat} (h0 : τ a0 = 8) {a1 : Nat} (h1 : τ a1 = 3) : Met l yX7_readKey wsX7_readKey ({ frames := 2, cells := 0, slots := 0, locals := 43 }) (jP D cA τ G L σ [.ref a0, .ref a1]) (jQV D cA τ G L (fun σ' => (True) ∧ fr wr_X7_readKey τ σ σ')) 0 0 (fun q => q ∈ L) := by
  refine j_metV (by decide +kernel) rfl (Nat.le_of_ble_eq_true rfl) ?_
  intro p e s m args below meth c Q hx hb hml hown hts hK hW hRet ls hl
  have hl : lv_has ls 3 [(0, .ref a0), (1, .ref a1)] := hl
  have hA : ∀ q ∈ L, (fun q => q ∈ L) q := fun _ h => h
  have hF : va_S (fun q => q ∈ L) s.heap s.heap [] := va_S.rf
  have hR : fr wr_X7_readKey τ σ σ := fr_rf
  refine lv_aload_n hx hb dX7_readKey_0 rfl (lv_at hl 1 rfl) ?_
  refine j_cV (j_runV (As := []) (rest := []) hx hb hml hown hts hK hS hW (kX2_clear l hS σ (a0 := a1) (h0 := h1)) 0 gX7_readKey_X2_clear rfl hvX2_clear ⟨Nat.le_of_ble_eq_true rfl, Nat.le_of_ble_eq_true rfl⟩ rfl rfl h1 rfl rfl rfl rfl hl.1 rfl (Nat.le_of_ble_eq_true rfl) dX7_readKey_1 ⟨Nat.le_of_ble_eq_true rfl, Nat.le_of_ble_eq_true rfl⟩) hA hF (fun σ_1 H locs hW hF pσ_1 => ?_)
  try dsimp only at pσ_1
  obtain ⟨pσ_1, fpσ_1⟩ := pσ_1
  have hR := fr_call hR fpσ_1 (by decide)
  refine j_const hx hb dX7_readKey_4 ?_
  refine lv_istore_n (lv' := [(2, .int (jI 0)), (0, .ref a0), (1, .ref a1)]) hx hb dX7_readKey_5 rfl hl (by decide) rfl (fun ls hl => ?_)
  have L_6 : ∀ (N : Nat) (v2_6 : Int) (σ_6 : Nat → Nat → Int) (H : Heap) (locs : List Loc) (ls : Array Slot), N = (2147483647 - v2_6 : Int).toNat → (0 ≤ v2_6) → rg v2_6 → PW D cA τ G L σ_6 H → va_S (fun q => q ∈ L) s.heap H locs → fr wr_X7_readKey τ σ σ_6 → lv_has ls 3 [(0, .ref a0), (1, .ref a1), (2, .int (jI v2_6))] → W p l e ({ frames := 2, cells := 0, slots := 0, locals := 43 }) s m args below meth c H locs 0 0 Q (F0 m 6 ls []) := by
    intro N
    induction N using Nat.strongRecOn with
    | ind N ih_6 =>
      intro v2_6 σ_6 H locs ls hN i0_6 rv2_6 hW hF hR hl
      refine lv_iload_n hx hb dX7_readKey_6 rfl (lv_at hl 2 rfl) ?_
      refine j_bi hx hb dX7_readKey_7 (by decide) ?_
      refine j_icmp_gt (tgt := 64) hx hb (by omega) (by decide) dX7_readKey_9 (by decide) (fun c_2 => ?_) (fun c_2 => ?_)
      · refine lv_aload_n hx hb dX7_readKey_64 rfl (lv_at hl 1 rfl) ?_
        refine j_getI hx hb (C := RX2) (T := TX2) (N := 2) hts inX7_readKey_X2 hown hK hS hW h1 rfl 1 rfl rfl (by decide) (hts _ flX7_readKey_55) dX7_readKey_65 ?_
        have := fbd hW h1 (k := 1) (lo := 0) (hi := 24) rfl rfl
        refine j_if_ne (tgt := 76) hx hb (by omega) dX7_readKey_68 (by decide) (fun c_3 => ?_) (fun c_3 => ?_)
        · exact hRet 76 _ _ _ _ dX7_readKey_76 hW hF ⟨trivial, hR⟩
        · refine lv_aload_n hx hb dX7_readKey_71 rfl (lv_at hl 0 rfl) ?_
          refine j_const hx hb dX7_readKey_72 ?_
          refine j_cV (j_runV (As := [.int (jI 1)]) (rest := []) hx hb hml hown hts hK hS hW (kX7_blameHere l hS σ_6 (a0 := a0) (h0 := h0) (x1 := 1) (r1 := (by decide))) 1 gX7_readKey_X7_blameHere rfl hvX7_blameHere ⟨Nat.le_of_ble_eq_true rfl, Nat.le_of_ble_eq_true rfl⟩ rfl rfl h0 rfl rfl rfl rfl hl.1 rfl (Nat.le_of_ble_eq_true rfl) dX7_readKey_73 ⟨Nat.le_of_ble_eq_true rfl, Nat.le_of_ble_eq_true rfl⟩) hA hF (fun σ_4 H locs hW hF pσ_4 => ?_)
          try dsimp only at pσ_4
          obtain ⟨pσ_4, fpσ_4⟩ := pσ_4
          have hR := fr_call hR fpσ_4 (by decide)
          exact hRet 76 _ _ _ _ dX7_readKey_76 hW hF ⟨trivial, hR⟩
      · refine lv_aload_n hx hb dX7_readKey_12 rfl (lv_at hl 0 rfl) ?_
        refine j_getI hx hb (C := RX7) (T := TX7) (N := 4) hts inX7_readKey_X7 hown hK hS hW h0 rfl 3 rfl rfl (by decide) (hts _ flX7_readKey_22) dX7_readKey_13 ?_
        have := fbd hW h0 (k := 3) (lo := -2147483648) (hi := 2147483647) rfl rfl
        refine j_if_ne (tgt := 64) hx hb (by omega) dX7_readKey_16 (by decide) (fun c_5 => ?_) (fun c_5 => ?_)
        · refine lv_aload_n hx hb dX7_readKey_64 rfl (lv_at hl 1 rfl) ?_
          refine j_getI hx hb (C := RX2) (T := TX2) (N := 2) hts inX7_readKey_X2 hown hK hS hW h1 rfl 1 rfl rfl (by decide) (hts _ flX7_readKey_55) dX7_readKey_65 ?_
          have := fbd hW h1 (k := 1) (lo := 0) (hi := 24) rfl rfl
          refine j_if_ne (tgt := 76) hx hb (by omega) dX7_readKey_68 (by decide) (fun c_6 => ?_) (fun c_6 => ?_)
          · exact hRet 76 _ _ _ _ dX7_readKey_76 hW hF ⟨trivial, hR⟩
          · refine lv_aload_n hx hb dX7_readKey_71 rfl (lv_at hl 0 rfl) ?_
            refine j_const hx hb dX7_readKey_72 ?_
            refine j_cV (j_runV (As := [.int (jI 1)]) (rest := []) hx hb hml hown hts hK hS hW (kX7_blameHere l hS σ_6 (a0 := a0) (h0 := h0) (x1 := 1) (r1 := (by decide))) 1 gX7_readKey_X7_blameHere rfl hvX7_blameHere ⟨Nat.le_of_ble_eq_true rfl, Nat.le_of_ble_eq_true rfl⟩ rfl rfl h0 rfl rfl rfl rfl hl.1 rfl (Nat.le_of_ble_eq_true rfl) dX7_readKey_73 ⟨Nat.le_of_ble_eq_true rfl, Nat.le_of_ble_eq_true rfl⟩) hA hF (fun σ_7 H locs hW hF pσ_7 => ?_)
            try dsimp only at pσ_7
            obtain ⟨pσ_7, fpσ_7⟩ := pσ_7
            have hR := fr_call hR fpσ_7 (by decide)
            exact hRet 76 _ _ _ _ dX7_readKey_76 hW hF ⟨trivial, hR⟩
        · refine lv_aload_n hx hb dX7_readKey_19 rfl (lv_at hl 0 rfl) ?_
          refine j_cR (j_runV (As := []) (rest := []) hx hb hml hown hts hK hS hW (kX7_sign l hS σ_6 (a0 := a0) (h0 := h0)) 0 gX7_readKey_X7_sign rfl hvX7_sign ⟨Nat.le_of_ble_eq_true rfl, Nat.le_of_ble_eq_true rfl⟩ rfl rfl h0 rfl rfl rfl rfl hl.1 rfl (Nat.le_of_ble_eq_true rfl) dX7_readKey_20 ⟨Nat.le_of_ble_eq_true rfl, Nat.le_of_ble_eq_true rfl⟩) (fun v_8 rv_8 pv_8 => ?_)
          try dsimp only at pv_8
          refine j_cR (j_runSN (As := [.int (jI v_8)]) (rest := []) hx hb hml hown hts hK hW (kX11_isKeyByte l hS σ_6 (x0 := v_8) (r0 := (by omega))) 1 gX7_readKey_X11_isKeyByte_n48 rfl hvX11_isKeyByte ⟨Nat.le_of_ble_eq_true rfl, Nat.le_of_ble_eq_true rfl⟩ rfl rfl hK.2.1 (hts (.initialized RX11) (by decide +kernel)) (hts (.static yX11_isKeyByte) (by decide +kernel)) rfl hl.1 rfl (Nat.le_of_ble_eq_true rfl) dX7_readKey_23 ⟨Nat.le_of_ble_eq_true rfl, Nat.le_of_ble_eq_true rfl⟩) (fun v_9 rv_9 pv_9 => ?_)
          try dsimp only at pv_9
          refine j_if_eq (tgt := 64) hx hb (by omega) dX7_readKey_26 (by decide) (fun c_10 => ?_) (fun c_10 => ?_)
          · refine lv_aload_n hx hb dX7_readKey_64 rfl (lv_at hl 1 rfl) ?_
            refine j_getI hx hb (C := RX2) (T := TX2) (N := 2) hts inX7_readKey_X2 hown hK hS hW h1 rfl 1 rfl rfl (by decide) (hts _ flX7_readKey_55) dX7_readKey_65 ?_
            have := fbd hW h1 (k := 1) (lo := 0) (hi := 24) rfl rfl
            refine j_if_ne (tgt := 76) hx hb (by omega) dX7_readKey_68 (by decide) (fun c_11 => ?_) (fun c_11 => ?_)
            · exact hRet 76 _ _ _ _ dX7_readKey_76 hW hF ⟨trivial, hR⟩
            · refine lv_aload_n hx hb dX7_readKey_71 rfl (lv_at hl 0 rfl) ?_
              refine j_const hx hb dX7_readKey_72 ?_
              refine j_cV (j_runV (As := [.int (jI 1)]) (rest := []) hx hb hml hown hts hK hS hW (kX7_blameHere l hS σ_6 (a0 := a0) (h0 := h0) (x1 := 1) (r1 := (by decide))) 1 gX7_readKey_X7_blameHere rfl hvX7_blameHere ⟨Nat.le_of_ble_eq_true rfl, Nat.le_of_ble_eq_true rfl⟩ rfl rfl h0 rfl rfl rfl rfl hl.1 rfl (Nat.le_of_ble_eq_true rfl) dX7_readKey_73 ⟨Nat.le_of_ble_eq_true rfl, Nat.le_of_ble_eq_true rfl⟩) hA hF (fun σ_12 H locs hW hF pσ_12 => ?_)
              try dsimp only at pσ_12
              obtain ⟨pσ_12, fpσ_12⟩ := pσ_12
              have hR := fr_call hR fpσ_12 (by decide)
              exact hRet 76 _ _ _ _ dX7_readKey_76 hW hF ⟨trivial, hR⟩
          · refine lv_aload_n hx hb dX7_readKey_29 rfl (lv_at hl 1 rfl) ?_
            refine lv_aload_n hx hb dX7_readKey_30 rfl (lv_at hl 0 rfl) ?_
            refine j_cR (j_runV (As := []) (rest := [.ref a1]) hx hb hml hown hts hK hS hW (kX7_sign l hS σ_6 (a0 := a0) (h0 := h0)) 0 gX7_readKey_X7_sign rfl hvX7_sign ⟨Nat.le_of_ble_eq_true rfl, Nat.le_of_ble_eq_true rfl⟩ rfl rfl h0 rfl rfl rfl rfl hl.1 rfl (Nat.le_of_ble_eq_true rfl) dX7_readKey_31 ⟨Nat.le_of_ble_eq_true rfl, Nat.le_of_ble_eq_true rfl⟩) (fun v_13 rv_13 pv_13 => ?_)
            try dsimp only at pv_13
            refine j_cI (j_runV (As := [.int (jI v_13)]) (rest := []) hx hb hml hown hts hK hS hW (kX2_add l hS σ_6 (a0 := a1) (h0 := h1) (x1 := v_13) (r1 := (by omega))) 1 gX7_readKey_X2_add rfl hvX2_add ⟨Nat.le_of_ble_eq_true rfl, Nat.le_of_ble_eq_true rfl⟩ rfl rfl h1 rfl rfl rfl rfl hl.1 rfl (Nat.le_of_ble_eq_true rfl) dX7_readKey_34 ⟨Nat.le_of_ble_eq_true rfl, Nat.le_of_ble_eq_true rfl⟩) hA hF (fun v_14 σ_15 H locs hW hF rv_14 pv_14 => ?_)
            try dsimp only at pv_14
            obtain ⟨bpv_14, pv_14, fpv_14⟩ := pv_14
            have hR := fr_call hR fpv_14 (by decide)
            refine j_if_eq (tgt := 53) hx hb (by omega) dX7_readKey_37 (by decide) (fun c_16 => ?_) (fun c_16 => ?_)
            · refine lv_aload_n hx hb dX7_readKey_53 rfl (lv_at hl 0 rfl) ?_
              refine j_const hx hb dX7_readKey_54 ?_
              refine j_cV (j_runV (As := [.int (jI 5)]) (rest := []) hx hb hml hown hts hK hS hW (kX7_blameHere l hS σ_15 (a0 := a0) (h0 := h0) (x1 := 5) (r1 := (by decide))) 1 gX7_readKey_X7_blameHere rfl hvX7_blameHere ⟨Nat.le_of_ble_eq_true rfl, Nat.le_of_ble_eq_true rfl⟩ rfl rfl h0 rfl rfl rfl rfl hl.1 rfl (Nat.le_of_ble_eq_true rfl) dX7_readKey_55 ⟨Nat.le_of_ble_eq_true rfl, Nat.le_of_ble_eq_true rfl⟩) hA hF (fun σ_17 H locs hW hF pσ_17 => ?_)
              try dsimp only at pσ_17
              obtain ⟨pσ_17, fpσ_17⟩ := pσ_17
              have hR := fr_call hR fpσ_17 (by decide)
              refine j_iinc (lv' := [(2, .int (jI (v2_6 + 1))), (0, .ref a0), (1, .ref a1)]) hx hb dX7_readKey_58 hl (k := 2) rfl (by decide) rfl (fun ls hl => ?_)
              refine lv_goto (tgt := 6) hx hb dX7_readKey_61 (by decide) ?_
              exact ih_6 ((2147483647 - (v2_6 + 1) : Int).toNat) (by omega) (v2_6 + 1) σ_17 _ _ _ rfl (by omega) (by omega) hW hF hR (lv_sub hl [1, 2, 0] rfl)
            · refine lv_aload_n hx hb dX7_readKey_40 rfl (lv_at hl 0 rfl) ?_
              refine lv_dup hx hb dX7_readKey_41 rfl ?_
              refine j_getI hx hb (C := RX7) (T := TX7) (N := 4) hts inX7_readKey_X7 hown hK hS hW h0 rfl 1 rfl rfl (by decide) (hts _ flX7_readKey_15) dX7_readKey_42 ?_
              have := fbd hW h0 (k := 1) (lo := -2147483648) (hi := 2147483647) rfl rfl
              refine j_const hx hb dX7_readKey_45 ?_
              refine j_add hx hb dX7_readKey_46 ?_
              refine j_wrap (fun z_18 rz_18 ez_18 => ?_)
              refine j_putI hx hb (C := RX7) (T := TX7) (N := 4) hts inX7_readKey_X7 tyX7 tyX7_ok nmX7 hown hK hS hA hW hF h0 rfl 1 (lo := -2147483648) (hi := 2147483647) rfl rfl (by decide) (hts _ flX7_readKey_15) rfl .int rfl (by omega) rfl rfl dX7_readKey_47 (fun σ_19 H locs e_20 hW hF => ?_)
              have hR := fr_up hR e_20 h0 8001 rfl (by decide)
              have : σ_19 a0 1 = z_18 := by rw [e_20]; exact up2_at _ _ _ _
              refine lv_goto (tgt := 58) hx hb dX7_readKey_50 (by decide) ?_
              refine j_iinc (lv' := [(2, .int (jI (v2_6 + 1))), (0, .ref a0), (1, .ref a1)]) hx hb dX7_readKey_58 hl (k := 2) rfl (by decide) rfl (fun ls hl => ?_)
              refine lv_goto (tgt := 6) hx hb dX7_readKey_61 (by decide) ?_
              exact ih_6 ((2147483647 - (v2_6 + 1) : Int).toNat) (by omega) (v2_6 + 1) σ_19 _ _ _ rfl (by omega) (by omega) hW hF hR (lv_sub hl [1, 2, 0] rfl)
  exact L_6 ((2147483647 - 0 : Int).toNat) 0 σ_1 _ _ _ rfl (by omega) (by decide) hW hF hR (lv_sub hl [1, 2, 0] rfl)
abbrev wr_X7_readNumber : List Nat := [8001, 8003]
theorem flX7_readNumber_15 : Cond.fieldLink RX7 15 "PageTrie$Reader" "at" "I" ∈ wsX7_readNumber := List.mem_of_getElem? (i := 1) rfl
theorem flX7_readNumber_22 : Cond.fieldLink RX7 22 "PageTrie$Reader" "fault" "I" ∈ wsX7_readNumber := List.mem_of_getElem? (i := 2) rfl
theorem inX7_readNumber_X7 : ∀ w ∈ u_ws RX7 TX7 4, w ∈ wsX7_readNumber := mem_r _ [28, 29, 30, 31] rfl
theorem hvX7_readNumber : yX7_readNumber.cls = RX7 ∧ yX7_readNumber.cls ≠ "java/lang/invoke/MethodHandle" ∧ yX7_readNumber.cls ≠ "java/lang/invoke/VarHandle" ∧ (parseMethodDescriptor yX7_readNumber.desc).map (fun d => d.parameters.length) = some 0 := by decide +kernel
set_option maxHeartbeats 4000000 in
set_option maxRecDepth 100000 in
theorem kX7_readNumber (l : Launch) {D : va_G} {cA : Nat → ClassId} {τ : Nat → Nat} {G : Nat → Nat → Nat} {L : List Nat} (hS : SW τ G L) (σ : Nat → Nat → Int) {a0 : Nat} (h0 : τ a0 = 8) : Met l yX7_readNumber wsX7_readNumber ({ frames := 2, cells := 0, slots := 0, locals := 43 }) (jP D cA τ G L σ [.ref a0]) (jQI D cA τ G L (fun r σ' => (True) ∧ fr wr_X7_readNumber τ σ σ')) 0 0 (fun q => q ∈ L) := by
  refine j_metI (by decide +kernel) rfl (Nat.le_of_ble_eq_true rfl) ?_
  intro p e s m args below meth c Q hx hb hml hown hts hK hW hRet ls hl
  have hl : lv_has ls 4 [(0, .ref a0)] := hl
  have hA : ∀ q ∈ L, (fun q => q ∈ L) q := fun _ h => h
  have hF : va_S (fun q => q ∈ L) s.heap s.heap [] := va_S.rf
  have hR : fr wr_X7_readNumber τ σ σ := fr_rf
  refine j_const hx hb dX7_readNumber_0 ?_
  refine lv_istore_n (lv' := [(1, .int (jI 0)), (0, .ref a0)]) hx hb dX7_readNumber_1 rfl hl (by decide) rfl (fun ls hl => ?_)
  refine lv_aload_n hx hb dX7_readNumber_2 rfl (lv_at hl 1 rfl) ?_
  refine j_getI hx hb (C := RX7) (T := TX7) (N := 4) hts inX7_readNumber_X7 hown hK hS hW h0 rfl 1 rfl rfl (by decide) (hts _ flX7_readNumber_15) dX7_readNumber_3 ?_
  have := fbd hW h0 (k := 1) (lo := -2147483648) (hi := 2147483647) rfl rfl
  refine lv_istore_n (lv' := [(2, .int (jI (σ a0 1))), (1, .int (jI 0)), (0, .ref a0)]) hx hb dX7_readNumber_6 rfl hl (by decide) rfl (fun ls hl => ?_)
  refine j_const hx hb dX7_readNumber_7 ?_
  refine lv_istore_n (lv' := [(3, .int (jI 0)), (2, .int (jI (σ a0 1))), (1, .int (jI 0)), (0, .ref a0)]) hx hb dX7_readNumber_8 rfl hl (by decide) rfl (fun ls hl => ?_)
  have L_9 : ∀ (N : Nat) (v1_9 v3_9 : Int) (σ_9 : Nat → Nat → Int) (H : Heap) (locs : List Loc) (ls : Array Slot), N = (2147483647 - v3_9 : Int).toNat → (0 ≤ v3_9) → rg v1_9 → rg v3_9 → PW D cA τ G L σ_9 H → va_S (fun q => q ∈ L) s.heap H locs → fr wr_X7_readNumber τ σ σ_9 → lv_has ls 4 [(0, .ref a0), (1, .int (jI v1_9)), (2, .int (jI (σ a0 1))), (3, .int (jI v3_9))] → W p l e ({ frames := 2, cells := 0, slots := 0, locals := 43 }) s m args below meth c H locs 0 0 Q (F0 m 9 ls []) := by
    intro N
    induction N using Nat.strongRecOn with
    | ind N ih_9 =>
      intro v1_9 v3_9 σ_9 H locs ls hN i0_9 rv1_9 rv3_9 hW hF hR hl
      refine lv_iload_n hx hb dX7_readNumber_9 rfl (lv_at hl 3 rfl) ?_
      refine j_const hx hb dX7_readNumber_10 ?_
      refine j_icmp_gt (tgt := 73) hx hb (by omega) (by decide) dX7_readNumber_11 (by decide) (fun c_1 => ?_) (fun c_1 => ?_)
      · refine lv_aload_n hx hb dX7_readNumber_73 rfl (lv_at hl 0 rfl) ?_
        refine j_getI hx hb (C := RX7) (T := TX7) (N := 4) hts inX7_readNumber_X7 hown hK hS hW h0 rfl 1 rfl rfl (by decide) (hts _ flX7_readNumber_15) dX7_readNumber_74 ?_
        have := fbd hW h0 (k := 1) (lo := -2147483648) (hi := 2147483647) rfl rfl
        refine lv_iload_n hx hb dX7_readNumber_77 rfl (lv_at hl 2 rfl) ?_
        refine j_icmp_ne (tgt := 86) hx hb (by omega) (by omega) dX7_readNumber_78 (by decide) (fun c_2 => ?_) (fun c_2 => ?_)
        · refine lv_iload_n hx hb dX7_readNumber_86 rfl (lv_at hl 1 rfl) ?_
          exact hRet 87 _ _ _ v1_9 _ dX7_readNumber_87 hW hF (by omega) ⟨trivial, hR⟩
        · refine lv_aload_n hx hb dX7_readNumber_81 rfl (lv_at hl 0 rfl) ?_
          refine j_const hx hb dX7_readNumber_82 ?_
          refine j_cV (j_runV (As := [.int (jI 1)]) (rest := []) hx hb hml hown hts hK hS hW (kX7_blameHere l hS σ_9 (a0 := a0) (h0 := h0) (x1 := 1) (r1 := (by decide))) 1 gX7_readNumber_X7_blameHere rfl hvX7_blameHere ⟨Nat.le_of_ble_eq_true rfl, Nat.le_of_ble_eq_true rfl⟩ rfl rfl h0 rfl rfl rfl rfl hl.1 rfl (Nat.le_of_ble_eq_true rfl) dX7_readNumber_83 ⟨Nat.le_of_ble_eq_true rfl, Nat.le_of_ble_eq_true rfl⟩) hA hF (fun σ_3 H locs hW hF pσ_3 => ?_)
          try dsimp only at pσ_3
          obtain ⟨pσ_3, fpσ_3⟩ := pσ_3
          have hR := fr_call hR fpσ_3 (by decide)
          refine lv_iload_n hx hb dX7_readNumber_86 rfl (lv_at hl 1 rfl) ?_
          exact hRet 87 _ _ _ v1_9 _ dX7_readNumber_87 hW hF (by omega) ⟨trivial, hR⟩
      · refine lv_aload_n hx hb dX7_readNumber_14 rfl (lv_at hl 0 rfl) ?_
        refine j_getI hx hb (C := RX7) (T := TX7) (N := 4) hts inX7_readNumber_X7 hown hK hS hW h0 rfl 3 rfl rfl (by decide) (hts _ flX7_readNumber_22) dX7_readNumber_15 ?_
        have := fbd hW h0 (k := 3) (lo := -2147483648) (hi := 2147483647) rfl rfl
        refine j_if_ne (tgt := 73) hx hb (by omega) dX7_readNumber_18 (by decide) (fun c_4 => ?_) (fun c_4 => ?_)
        · refine lv_aload_n hx hb dX7_readNumber_73 rfl (lv_at hl 0 rfl) ?_
          refine j_getI hx hb (C := RX7) (T := TX7) (N := 4) hts inX7_readNumber_X7 hown hK hS hW h0 rfl 1 rfl rfl (by decide) (hts _ flX7_readNumber_15) dX7_readNumber_74 ?_
          have := fbd hW h0 (k := 1) (lo := -2147483648) (hi := 2147483647) rfl rfl
          refine lv_iload_n hx hb dX7_readNumber_77 rfl (lv_at hl 2 rfl) ?_
          refine j_icmp_ne (tgt := 86) hx hb (by omega) (by omega) dX7_readNumber_78 (by decide) (fun c_5 => ?_) (fun c_5 => ?_)
          · refine lv_iload_n hx hb dX7_readNumber_86 rfl (lv_at hl 1 rfl) ?_
            exact hRet 87 _ _ _ v1_9 _ dX7_readNumber_87 hW hF (by omega) ⟨trivial, hR⟩
          · refine lv_aload_n hx hb dX7_readNumber_81 rfl (lv_at hl 0 rfl) ?_
            refine j_const hx hb dX7_readNumber_82 ?_
            refine j_cV (j_runV (As := [.int (jI 1)]) (rest := []) hx hb hml hown hts hK hS hW (kX7_blameHere l hS σ_9 (a0 := a0) (h0 := h0) (x1 := 1) (r1 := (by decide))) 1 gX7_readNumber_X7_blameHere rfl hvX7_blameHere ⟨Nat.le_of_ble_eq_true rfl, Nat.le_of_ble_eq_true rfl⟩ rfl rfl h0 rfl rfl rfl rfl hl.1 rfl (Nat.le_of_ble_eq_true rfl) dX7_readNumber_83 ⟨Nat.le_of_ble_eq_true rfl, Nat.le_of_ble_eq_true rfl⟩) hA hF (fun σ_6 H locs hW hF pσ_6 => ?_)
            try dsimp only at pσ_6
            obtain ⟨pσ_6, fpσ_6⟩ := pσ_6
            have hR := fr_call hR fpσ_6 (by decide)
            refine lv_iload_n hx hb dX7_readNumber_86 rfl (lv_at hl 1 rfl) ?_
            exact hRet 87 _ _ _ v1_9 _ dX7_readNumber_87 hW hF (by omega) ⟨trivial, hR⟩
        · refine lv_aload_n hx hb dX7_readNumber_21 rfl (lv_at hl 0 rfl) ?_
          refine j_cR (j_runV (As := []) (rest := []) hx hb hml hown hts hK hS hW (kX7_sign l hS σ_9 (a0 := a0) (h0 := h0)) 0 gX7_readNumber_X7_sign rfl hvX7_sign ⟨Nat.le_of_ble_eq_true rfl, Nat.le_of_ble_eq_true rfl⟩ rfl rfl h0 rfl rfl rfl rfl hl.1 rfl (Nat.le_of_ble_eq_true rfl) dX7_readNumber_22 ⟨Nat.le_of_ble_eq_true rfl, Nat.le_of_ble_eq_true rfl⟩) (fun v_7 rv_7 pv_7 => ?_)
          try dsimp only at pv_7
          refine j_cR (j_runSN (As := [.int (jI v_7)]) (rest := []) hx hb hml hown hts hK hW (kX11_isDigit l hS σ_9 (x0 := v_7) (r0 := (by omega))) 1 gX7_readNumber_X11_isDigit_n58 rfl hvX11_isDigit ⟨Nat.le_of_ble_eq_true rfl, Nat.le_of_ble_eq_true rfl⟩ rfl rfl hK.2.2 (hts (.initialized RX11) (by decide +kernel)) (hts (.static yX11_isDigit) (by decide +kernel)) rfl hl.1 rfl (Nat.le_of_ble_eq_true rfl) dX7_readNumber_25 ⟨Nat.le_of_ble_eq_true rfl, Nat.le_of_ble_eq_true rfl⟩) (fun v_8 rv_8 pv_8 => ?_)
          try dsimp only at pv_8
          refine j_if_eq (tgt := 73) hx hb (by omega) dX7_readNumber_28 (by decide) (fun c_9 => ?_) (fun c_9 => ?_)
          · refine lv_aload_n hx hb dX7_readNumber_73 rfl (lv_at hl 0 rfl) ?_
            refine j_getI hx hb (C := RX7) (T := TX7) (N := 4) hts inX7_readNumber_X7 hown hK hS hW h0 rfl 1 rfl rfl (by decide) (hts _ flX7_readNumber_15) dX7_readNumber_74 ?_
            have := fbd hW h0 (k := 1) (lo := -2147483648) (hi := 2147483647) rfl rfl
            refine lv_iload_n hx hb dX7_readNumber_77 rfl (lv_at hl 2 rfl) ?_
            refine j_icmp_ne (tgt := 86) hx hb (by omega) (by omega) dX7_readNumber_78 (by decide) (fun c_10 => ?_) (fun c_10 => ?_)
            · refine lv_iload_n hx hb dX7_readNumber_86 rfl (lv_at hl 1 rfl) ?_
              exact hRet 87 _ _ _ v1_9 _ dX7_readNumber_87 hW hF (by omega) ⟨trivial, hR⟩
            · refine lv_aload_n hx hb dX7_readNumber_81 rfl (lv_at hl 0 rfl) ?_
              refine j_const hx hb dX7_readNumber_82 ?_
              refine j_cV (j_runV (As := [.int (jI 1)]) (rest := []) hx hb hml hown hts hK hS hW (kX7_blameHere l hS σ_9 (a0 := a0) (h0 := h0) (x1 := 1) (r1 := (by decide))) 1 gX7_readNumber_X7_blameHere rfl hvX7_blameHere ⟨Nat.le_of_ble_eq_true rfl, Nat.le_of_ble_eq_true rfl⟩ rfl rfl h0 rfl rfl rfl rfl hl.1 rfl (Nat.le_of_ble_eq_true rfl) dX7_readNumber_83 ⟨Nat.le_of_ble_eq_true rfl, Nat.le_of_ble_eq_true rfl⟩) hA hF (fun σ_11 H locs hW hF pσ_11 => ?_)
              try dsimp only at pσ_11
              obtain ⟨pσ_11, fpσ_11⟩ := pσ_11
              have hR := fr_call hR fpσ_11 (by decide)
              refine lv_iload_n hx hb dX7_readNumber_86 rfl (lv_at hl 1 rfl) ?_
              exact hRet 87 _ _ _ v1_9 _ dX7_readNumber_87 hW hF (by omega) ⟨trivial, hR⟩
          · refine lv_iload_n hx hb dX7_readNumber_31 rfl (lv_at hl 3 rfl) ?_
            refine j_const hx hb dX7_readNumber_32 ?_
            refine j_icmp_ge (tgt := 62) hx hb (by omega) (by decide) dX7_readNumber_33 (by decide) (fun c_12 => ?_) (fun c_12 => ?_)
            · refine lv_aload_n hx hb dX7_readNumber_62 rfl (lv_at hl 0 rfl) ?_
              refine j_const hx hb dX7_readNumber_63 ?_
              refine j_cV (j_runV (As := [.int (jI 2)]) (rest := []) hx hb hml hown hts hK hS hW (kX7_blameHere l hS σ_9 (a0 := a0) (h0 := h0) (x1 := 2) (r1 := (by decide))) 1 gX7_readNumber_X7_blameHere rfl hvX7_blameHere ⟨Nat.le_of_ble_eq_true rfl, Nat.le_of_ble_eq_true rfl⟩ rfl rfl h0 rfl rfl rfl rfl hl.1 rfl (Nat.le_of_ble_eq_true rfl) dX7_readNumber_64 ⟨Nat.le_of_ble_eq_true rfl, Nat.le_of_ble_eq_true rfl⟩) hA hF (fun σ_13 H locs hW hF pσ_13 => ?_)
              try dsimp only at pσ_13
              obtain ⟨pσ_13, fpσ_13⟩ := pσ_13
              have hR := fr_call hR fpσ_13 (by decide)
              refine j_iinc (lv' := [(3, .int (jI (v3_9 + 1))), (0, .ref a0), (1, .int (jI v1_9)), (2, .int (jI (σ a0 1)))]) hx hb dX7_readNumber_67 hl (k := 3) rfl (by decide) rfl (fun ls hl => ?_)
              refine lv_goto (tgt := 9) hx hb dX7_readNumber_70 (by decide) ?_
              exact ih_9 ((2147483647 - (v3_9 + 1) : Int).toNat) (by omega) v1_9 (v3_9 + 1) σ_13 _ _ _ rfl (by omega) (by omega) (by omega) hW hF hR (lv_sub hl [1, 2, 3, 0] rfl)
            · refine lv_iload_n hx hb dX7_readNumber_36 rfl (lv_at hl 1 rfl) ?_
              refine j_bi hx hb dX7_readNumber_37 (by decide) ?_
              refine j_mul hx hb dX7_readNumber_39 ?_
              refine j_wrap (fun z_14 rz_14 ez_14 => ?_)
              refine lv_aload_n hx hb dX7_readNumber_40 rfl (lv_at hl 0 rfl) ?_
              refine j_cR (j_runV (As := []) (rest := [.int (jI z_14)]) hx hb hml hown hts hK hS hW (kX7_sign l hS σ_9 (a0 := a0) (h0 := h0)) 0 gX7_readNumber_X7_sign rfl hvX7_sign ⟨Nat.le_of_ble_eq_true rfl, Nat.le_of_ble_eq_true rfl⟩ rfl rfl h0 rfl rfl rfl rfl hl.1 rfl (Nat.le_of_ble_eq_true rfl) dX7_readNumber_41 ⟨Nat.le_of_ble_eq_true rfl, Nat.le_of_ble_eq_true rfl⟩) (fun v_15 rv_15 pv_15 => ?_)
              try dsimp only at pv_15
              refine j_add hx hb dX7_readNumber_44 ?_
              refine j_wrap (fun z_16 rz_16 ez_16 => ?_)
              refine j_bi hx hb dX7_readNumber_45 (by decide) ?_
              refine j_sub hx hb dX7_readNumber_47 ?_
              refine j_wrap (fun z_17 rz_17 ez_17 => ?_)
              refine lv_istore_n (lv' := [(1, .int (jI z_17)), (0, .ref a0), (2, .int (jI (σ a0 1))), (3, .int (jI v3_9))]) hx hb dX7_readNumber_48 rfl hl (by decide) rfl (fun ls hl => ?_)
              refine lv_aload_n hx hb dX7_readNumber_49 rfl (lv_at hl 1 rfl) ?_
              refine lv_dup hx hb dX7_readNumber_50 rfl ?_
              refine j_getI hx hb (C := RX7) (T := TX7) (N := 4) hts inX7_readNumber_X7 hown hK hS hW h0 rfl 1 rfl rfl (by decide) (hts _ flX7_readNumber_15) dX7_readNumber_51 ?_
              have := fbd hW h0 (k := 1) (lo := -2147483648) (hi := 2147483647) rfl rfl
              refine j_const hx hb dX7_readNumber_54 ?_
              refine j_add hx hb dX7_readNumber_55 ?_
              refine j_wrap (fun z_18 rz_18 ez_18 => ?_)
              refine j_putI hx hb (C := RX7) (T := TX7) (N := 4) hts inX7_readNumber_X7 tyX7 tyX7_ok nmX7 hown hK hS hA hW hF h0 rfl 1 (lo := -2147483648) (hi := 2147483647) rfl rfl (by decide) (hts _ flX7_readNumber_15) rfl .int rfl (by omega) rfl rfl dX7_readNumber_56 (fun σ_19 H locs e_20 hW hF => ?_)
              have hR := fr_up hR e_20 h0 8001 rfl (by decide)
              have : σ_19 a0 1 = z_18 := by rw [e_20]; exact up2_at _ _ _ _
              refine lv_goto (tgt := 67) hx hb dX7_readNumber_59 (by decide) ?_
              refine j_iinc (lv' := [(3, .int (jI (v3_9 + 1))), (1, .int (jI z_17)), (0, .ref a0), (2, .int (jI (σ a0 1)))]) hx hb dX7_readNumber_67 hl (k := 3) rfl (by decide) rfl (fun ls hl => ?_)
              refine lv_goto (tgt := 9) hx hb dX7_readNumber_70 (by decide) ?_
              exact ih_9 ((2147483647 - (v3_9 + 1) : Int).toNat) (by omega) z_17 (v3_9 + 1) σ_19 _ _ _ rfl (by omega) (by omega) (by omega) hW hF hR (lv_sub hl [2, 1, 3, 0] rfl)
  exact L_9 ((2147483647 - 0 : Int).toNat) 0 0 σ _ _ _ rfl (by omega) (by decide) (by decide) hW hF hR (lv_sub hl [3, 2, 1, 0] rfl)
abbrev wr_X7_readNumberAboveZero : List Nat := [8001, 8003]
theorem flX7_readNumberAboveZero_15 : Cond.fieldLink RX7 15 "PageTrie$Reader" "at" "I" ∈ wsX7_readNumberAboveZero := List.mem_of_getElem? (i := 1) rfl
theorem inX7_readNumberAboveZero_X7 : ∀ w ∈ u_ws RX7 TX7 4, w ∈ wsX7_readNumberAboveZero := mem_r _ [32, 33, 34, 35] rfl
theorem hvX7_readNumberAboveZero : yX7_readNumberAboveZero.cls = RX7 ∧ yX7_readNumberAboveZero.cls ≠ "java/lang/invoke/MethodHandle" ∧ yX7_readNumberAboveZero.cls ≠ "java/lang/invoke/VarHandle" ∧ (parseMethodDescriptor yX7_readNumberAboveZero.desc).map (fun d => d.parameters.length) = some 0 := by decide +kernel
set_option maxHeartbeats 4000000 in
set_option maxRecDepth 100000 in
theorem kX7_readNumberAboveZero (l : Launch) {D : va_G} {cA : Nat → ClassId} {τ : Nat → Nat} {G : Nat → Nat → Nat} {L : List Nat} (hS : SW τ G L) (σ : Nat → Nat → Int) {a0 : Nat} (h0 : τ a0 = 8) : Met l yX7_readNumberAboveZero wsX7_readNumberAboveZero ({ frames := 3, cells := 0, slots := 0, locals := 66 }) (jP D cA τ G L σ [.ref a0]) (jQI D cA τ G L (fun r σ' => (True) ∧ fr wr_X7_readNumberAboveZero τ σ σ')) 0 0 (fun q => q ∈ L) := by
  refine j_metI (by decide +kernel) rfl (Nat.le_of_ble_eq_true rfl) ?_
  intro p e s m args below meth c Q hx hb hml hown hts hK hW hRet ls hl
  have hl : lv_has ls 3 [(0, .ref a0)] := hl
  have hA : ∀ q ∈ L, (fun q => q ∈ L) q := fun _ h => h
  have hF : va_S (fun q => q ∈ L) s.heap s.heap [] := va_S.rf
  have hR : fr wr_X7_readNumberAboveZero τ σ σ := fr_rf
  refine lv_aload_n hx hb dX7_readNumberAboveZero_0 rfl (lv_at hl 0 rfl) ?_
  refine j_getI hx hb (C := RX7) (T := TX7) (N := 4) hts inX7_readNumberAboveZero_X7 hown hK hS hW h0 rfl 1 rfl rfl (by decide) (hts _ flX7_readNumberAboveZero_15) dX7_readNumberAboveZero_1 ?_
  have := fbd hW h0 (k := 1) (lo := -2147483648) (hi := 2147483647) rfl rfl
  refine lv_istore_n (lv' := [(1, .int (jI (σ a0 1))), (0, .ref a0)]) hx hb dX7_readNumberAboveZero_4 rfl hl (by decide) rfl (fun ls hl => ?_)
  refine lv_aload_n hx hb dX7_readNumberAboveZero_5 rfl (lv_at hl 1 rfl) ?_
  refine j_cI (j_runV (As := []) (rest := []) hx hb hml hown hts hK hS hW (kX7_readNumber l hS σ (a0 := a0) (h0 := h0)) 0 gX7_readNumberAboveZero_X7_readNumber rfl hvX7_readNumber ⟨Nat.le_of_ble_eq_true rfl, Nat.le_of_ble_eq_true rfl⟩ rfl rfl h0 rfl rfl rfl rfl hl.1 rfl (Nat.le_of_ble_eq_true rfl) dX7_readNumberAboveZero_6 ⟨Nat.le_of_ble_eq_true rfl, Nat.le_of_ble_eq_true rfl⟩) hA hF (fun v_1 σ_2 H locs hW hF rv_1 pv_1 => ?_)
  try dsimp only at pv_1
  obtain ⟨pv_1, fpv_1⟩ := pv_1
  have hR := fr_call hR fpv_1 (by decide)
  refine lv_istore_n (lv' := [(2, .int (jI v_1)), (1, .int (jI (σ a0 1))), (0, .ref a0)]) hx hb dX7_readNumberAboveZero_9 rfl hl (by decide) rfl (fun ls hl => ?_)
  refine lv_iload_n hx hb dX7_readNumberAboveZero_10 rfl (lv_at hl 0 rfl) ?_
  refine j_if_ne (tgt := 20) hx hb (by omega) dX7_readNumberAboveZero_11 (by decide) (fun c_3 => ?_) (fun c_3 => ?_)
  · refine lv_iload_n hx hb dX7_readNumberAboveZero_20 rfl (lv_at hl 0 rfl) ?_
    exact hRet 21 _ _ _ v_1 _ dX7_readNumberAboveZero_21 hW hF (by omega) ⟨trivial, hR⟩
  · refine lv_aload_n hx hb dX7_readNumberAboveZero_14 rfl (lv_at hl 2 rfl) ?_
    refine j_const hx hb dX7_readNumberAboveZero_15 ?_
    refine lv_iload_n hx hb dX7_readNumberAboveZero_16 rfl (lv_at hl 1 rfl) ?_
    refine j_cV (j_runV (As := [.int (jI 3), .int (jI (σ a0 1))]) (rest := []) hx hb hml hown hts hK hS hW (kX7_blame l hS σ_2 (a0 := a0) (h0 := h0) (x1 := 3) (r1 := (by decide)) (x2 := σ a0 1) (r2 := (by omega))) 2 gX7_readNumberAboveZero_X7_blame rfl hvX7_blame ⟨Nat.le_of_ble_eq_true rfl, Nat.le_of_ble_eq_true rfl⟩ rfl rfl h0 rfl rfl rfl rfl hl.1 rfl (Nat.le_of_ble_eq_true rfl) dX7_readNumberAboveZero_17 ⟨Nat.le_of_ble_eq_true rfl, Nat.le_of_ble_eq_true rfl⟩) hA hF (fun σ_4 H locs hW hF pσ_4 => ?_)
    try dsimp only at pσ_4
    obtain ⟨pσ_4, fpσ_4⟩ := pσ_4
    have hR := fr_call hR fpσ_4 (by decide)
    refine lv_iload_n hx hb dX7_readNumberAboveZero_20 rfl (lv_at hl 0 rfl) ?_
    exact hRet 21 _ _ _ v_1 _ dX7_readNumberAboveZero_21 hW hF (by omega) ⟨trivial, hR⟩
abbrev wr_X7_readBreak : List Nat := [8001, 8003]
theorem flX7_readBreak_22 : Cond.fieldLink RX7 22 "PageTrie$Reader" "fault" "I" ∈ wsX7_readBreak := List.mem_of_getElem? (i := 1) rfl
theorem inX7_readBreak_X7 : ∀ w ∈ u_ws RX7 TX7 4, w ∈ wsX7_readBreak := mem_r _ [33, 34, 35, 36] rfl
theorem hvX7_readBreak : yX7_readBreak.cls = RX7 ∧ yX7_readBreak.cls ≠ "java/lang/invoke/MethodHandle" ∧ yX7_readBreak.cls ≠ "java/lang/invoke/VarHandle" ∧ (parseMethodDescriptor yX7_readBreak.desc).map (fun d => d.parameters.length) = some 0 := by decide +kernel
set_option maxHeartbeats 4000000 in
set_option maxRecDepth 100000 in
theorem kX7_readBreak (l : Launch) {D : va_G} {cA : Nat → ClassId} {τ : Nat → Nat} {G : Nat → Nat → Nat} {L : List Nat} (hS : SW τ G L) (σ : Nat → Nat → Int) {a0 : Nat} (h0 : τ a0 = 8) : Met l yX7_readBreak wsX7_readBreak ({ frames := 3, cells := 0, slots := 0, locals := 64 }) (jP D cA τ G L σ [.ref a0]) (jQI D cA τ G L (fun r σ' => (0 ≤ r ∧ r ≤ 1) ∧ ((True) ∧ fr wr_X7_readBreak τ σ σ'))) 0 0 (fun q => q ∈ L) := by
  refine j_metZ (by decide +kernel) rfl (Nat.le_of_ble_eq_true rfl) ?_
  intro p e s m args below meth c Q hx hb hml hown hts hK hW hRet ls hl
  have hl : lv_has ls 1 [(0, .ref a0)] := hl
  have hA : ∀ q ∈ L, (fun q => q ∈ L) q := fun _ h => h
  have hF : va_S (fun q => q ∈ L) s.heap s.heap [] := va_S.rf
  have hR : fr wr_X7_readBreak τ σ σ := fr_rf
  refine lv_aload_n hx hb dX7_readBreak_0 rfl (lv_at hl 0 rfl) ?_
  refine j_getI hx hb (C := RX7) (T := TX7) (N := 4) hts inX7_readBreak_X7 hown hK hS hW h0 rfl 3 rfl rfl (by decide) (hts _ flX7_readBreak_22) dX7_readBreak_1 ?_
  have := fbd hW h0 (k := 3) (lo := -2147483648) (hi := 2147483647) rfl rfl
  refine j_if_ne (tgt := 14) hx hb (by omega) dX7_readBreak_4 (by decide) (fun c_1 => ?_) (fun c_1 => ?_)
  · refine j_const hx hb dX7_readBreak_14 ?_
    exact hRet 15 _ _ _ 0 _ dX7_readBreak_15 hW hF (by omega) ⟨trivial, hR⟩
  · refine lv_aload_n hx hb dX7_readBreak_7 rfl (lv_at hl 0 rfl) ?_
    refine j_cR (j_runV (As := []) (rest := []) hx hb hml hown hts hK hS hW (kX7_isAtEnd l hS σ (a0 := a0) (h0 := h0)) 0 gX7_readBreak_X7_isAtEnd rfl hvX7_isAtEnd ⟨Nat.le_of_ble_eq_true rfl, Nat.le_of_ble_eq_true rfl⟩ rfl rfl h0 rfl rfl rfl rfl hl.1 rfl (Nat.le_of_ble_eq_true rfl) dX7_readBreak_8 ⟨Nat.le_of_ble_eq_true rfl, Nat.le_of_ble_eq_true rfl⟩) (fun v_2 rv_2 pv_2 => ?_)
    try dsimp only at pv_2
    refine j_if_eq (tgt := 16) hx hb (by omega) dX7_readBreak_11 (by decide) (fun c_3 => ?_) (fun c_3 => ?_)
    · refine lv_aload_n hx hb dX7_readBreak_16 rfl (lv_at hl 0 rfl) ?_
      refine j_bi hx hb dX7_readBreak_17 (by decide) ?_
      refine j_cV (j_runV (As := [.int (jI 59)]) (rest := []) hx hb hml hown hts hK hS hW (kX7_readSign l hS σ (a0 := a0) (h0 := h0) (x1 := 59) (r1 := (by decide))) 1 gX7_readBreak_X7_readSign rfl hvX7_readSign ⟨Nat.le_of_ble_eq_true rfl, Nat.le_of_ble_eq_true rfl⟩ rfl rfl h0 rfl rfl rfl rfl hl.1 rfl (Nat.le_of_ble_eq_true rfl) dX7_readBreak_19 ⟨Nat.le_of_ble_eq_true rfl, Nat.le_of_ble_eq_true rfl⟩) hA hF (fun σ_4 H locs hW hF pσ_4 => ?_)
      try dsimp only at pσ_4
      obtain ⟨pσ_4, fpσ_4⟩ := pσ_4
      have hR := fr_call hR fpσ_4 (by decide)
      refine lv_aload_n hx hb dX7_readBreak_22 rfl (lv_at hl 0 rfl) ?_
      refine j_getI hx hb (C := RX7) (T := TX7) (N := 4) hts inX7_readBreak_X7 hown hK hS hW h0 rfl 3 rfl rfl (by decide) (hts _ flX7_readBreak_22) dX7_readBreak_23 ?_
      have := fbd hW h0 (k := 3) (lo := -2147483648) (hi := 2147483647) rfl rfl
      refine j_if_ne (tgt := 33) hx hb (by omega) dX7_readBreak_26 (by decide) (fun c_5 => ?_) (fun c_5 => ?_)
      · refine j_const hx hb dX7_readBreak_33 ?_
        exact hRet 34 _ _ _ 0 _ dX7_readBreak_34 hW hF (by omega) ⟨trivial, hR⟩
      · refine j_const hx hb dX7_readBreak_29 ?_
        refine lv_goto (tgt := 34) hx hb dX7_readBreak_30 (by decide) ?_
        exact hRet 34 _ _ _ 1 _ dX7_readBreak_34 hW hF (by omega) ⟨trivial, hR⟩
    · refine j_const hx hb dX7_readBreak_14 ?_
      exact hRet 15 _ _ _ 0 _ dX7_readBreak_15 hW hF (by omega) ⟨trivial, hR⟩
abbrev wr_X5_readItem : List Nat := [3001, 8001, 8003, 20000, 27000]
theorem flX5_readItem_9 : Cond.fieldLink RX5 9 "PageTrie$Orders" "kinds" "[I" ∈ wsX5_readItem := List.mem_of_getElem? (i := 1) rfl
theorem flX5_readItem_15 : Cond.fieldLink RX5 15 "PageTrie$Orders" "numbers" "[I" ∈ wsX5_readItem := List.mem_of_getElem? (i := 3) rfl
theorem flX5_readItem_20 : Cond.fieldLink RX5 20 "PageTrie$Orders" "firsts" "[LPageTrie$Key;" ∈ wsX5_readItem := List.mem_of_getElem? (i := 2) rfl
theorem flX5_readItem_24 : Cond.fieldLink RX5 24 "PageTrie$Orders" "lasts" "[LPageTrie$Key;" ∈ wsX5_readItem := List.mem_of_getElem? (i := 4) rfl
theorem inX5_readItem_X5 : ∀ w ∈ u_ws RX5 TX5 5, w ∈ wsX5_readItem := mem_r _ [64, 65, 66, 67, 68] rfl
theorem hvX5_readItem : yX5_readItem.cls = RX5 ∧ yX5_readItem.cls ≠ "java/lang/invoke/MethodHandle" ∧ yX5_readItem.cls ≠ "java/lang/invoke/VarHandle" ∧ (parseMethodDescriptor yX5_readItem.desc).map (fun d => d.parameters.length) = some 2 := by decide +kernel
set_option maxHeartbeats 4000000 in
set_option maxRecDepth 100000 in
theorem kX5_readItem (l : Launch) {D : va_G} {cA : Nat → ClassId} {τ : Nat → Nat} {G : Nat → Nat → Nat} {L : List Nat} (hS : SW τ G L) (σ : Nat → Nat → Int) {a0 : Nat} (h0 : τ a0 = 6) {a1 : Nat} (h1 : τ a1 = 8) {x2 : Int} (r2 : rg x2) (q0 : 0 ≤ x2) (q1 : x2 < 20) : Met l yX5_readItem wsX5_readItem ({ frames := 3, cells := 0, slots := 0, locals := 66 }) (jP D cA τ G L σ [.ref a0, .ref a1, .int (jI x2)]) (jQV D cA τ G L (fun σ' => (True) ∧ fr wr_X5_readItem τ σ σ')) 0 0 (fun q => q ∈ L) := by
  refine j_metV (by decide +kernel) rfl (Nat.le_of_ble_eq_true rfl) ?_
  intro p e s m args below meth c Q hx hb hml hown hts hK hW hRet ls hl
  have hl : lv_has ls 4 [(0, .ref a0), (1, .ref a1), (2, .int (jI x2))] := hl
  have hA : ∀ q ∈ L, (fun q => q ∈ L) q := fun _ h => h
  have hF : va_S (fun q => q ∈ L) s.heap s.heap [] := va_S.rf
  have hR : fr wr_X5_readItem τ σ σ := fr_rf
  refine lv_aload_n hx hb dX5_readItem_0 rfl (lv_at hl 1 rfl) ?_
  refine j_cR (j_runV (As := []) (rest := []) hx hb hml hown hts hK hS hW (kX7_sign l hS σ (a0 := a1) (h0 := h1)) 0 gX5_readItem_X7_sign rfl hvX7_sign ⟨Nat.le_of_ble_eq_true rfl, Nat.le_of_ble_eq_true rfl⟩ rfl rfl h1 rfl rfl rfl rfl hl.1 rfl (Nat.le_of_ble_eq_true rfl) dX5_readItem_1 ⟨Nat.le_of_ble_eq_true rfl, Nat.le_of_ble_eq_true rfl⟩) (fun v_1 rv_1 pv_1 => ?_)
  try dsimp only at pv_1
  refine lv_istore_n (lv' := [(3, .int (jI v_1)), (0, .ref a0), (1, .ref a1), (2, .int (jI x2))]) hx hb dX5_readItem_4 rfl hl (by decide) rfl (fun ls hl => ?_)
  refine lv_iload_n hx hb dX5_readItem_5 rfl (lv_at hl 0 rfl) ?_
  refine j_bi hx hb dX5_readItem_6 (by decide) ?_
  refine j_icmp_eq (tgt := 29) hx hb (by omega) (by decide) dX5_readItem_8 (by decide) (fun c_2 => ?_) (fun c_2 => ?_)
  · refine lv_aload_n hx hb dX5_readItem_29 rfl (lv_at hl 2 rfl) ?_
    refine j_cV (j_runV (As := []) (rest := []) hx hb hml hown hts hK hS hW (kX7_goOn l hS σ (a0 := a1) (h0 := h1)) 0 gX5_readItem_X7_goOn rfl hvX7_goOn ⟨Nat.le_of_ble_eq_true rfl, Nat.le_of_ble_eq_true rfl⟩ rfl rfl h1 rfl rfl rfl rfl hl.1 rfl (Nat.le_of_ble_eq_true rfl) dX5_readItem_30 ⟨Nat.le_of_ble_eq_true rfl, Nat.le_of_ble_eq_true rfl⟩) hA hF (fun σ_3 H locs hW hF pσ_3 => ?_)
    try dsimp only at pσ_3
    obtain ⟨pσ_3, fpσ_3⟩ := pσ_3
    have hR := fr_call hR fpσ_3 (by decide)
    refine lv_aload_n hx hb dX5_readItem_33 rfl (lv_at hl 1 rfl) ?_
    refine j_getR hx hb (C := RX5) (T := TX5) (N := 5) hts inX5_readItem_X5 hown hK hS hW h0 rfl 0 rfl rfl (by decide) (hts _ flX5_readItem_9) dX5_readItem_34 ?_
    have h_4 : τ (G a0 0) = 27 := gty hS h0 (k := 0) rfl rfl
    refine lv_iload_n hx hb dX5_readItem_37 rfl (lv_at hl 3 rfl) ?_
    refine lv_iload_n hx hb dX5_readItem_38 rfl (lv_at hl 0 rfl) ?_
    refine j_ast hx hb hK hS hA hW hF h_4 (n := 20) (lo := -2147483648) (hi := 2147483647) rfl (by omega) (by omega) (by decide) (by omega) dX5_readItem_39 (fun σ_5 H locs e_6 hW hF => ?_)
    have hR := fr_up hR e_6 h_4 27000 (cdA 27 (by decide) _) (by decide)
    refine lv_aload_n hx hb dX5_readItem_40 rfl (lv_at hl 2 rfl) ?_
    refine lv_aload_n hx hb dX5_readItem_41 rfl (lv_at hl 1 rfl) ?_
    refine j_getR hx hb (C := RX5) (T := TX5) (N := 5) hts inX5_readItem_X5 hown hK hS hW h0 rfl 2 rfl rfl (by decide) (hts _ flX5_readItem_20) dX5_readItem_42 ?_
    have h_7 : τ (G a0 2) = 30 := gty hS h0 (k := 2) rfl rfl
    refine lv_iload_n hx hb dX5_readItem_45 rfl (lv_at hl 3 rfl) ?_
    refine j_aald hx hb hK hS hW h_7 (n := 20) rfl rfl (by omega) (by omega) (by decide) dX5_readItem_46 ?_
    have h_8 : τ (G (G a0 2) (x2).toNat) = 3 := gtyR hS h_7 (n := 20) rfl (by omega) (by omega)
    refine j_cV (j_runV (As := [.ref (G (G a0 2) (x2).toNat)]) (rest := []) hx hb hml hown hts hK hS hW (kX7_readKey l hS σ_5 (a0 := a1) (h0 := h1) (a1 := G (G a0 2) (x2).toNat) (h1 := h_8)) 1 gX5_readItem_X7_readKey rfl hvX7_readKey ⟨Nat.le_of_ble_eq_true rfl, Nat.le_of_ble_eq_true rfl⟩ rfl rfl h1 rfl rfl rfl rfl hl.1 rfl (Nat.le_of_ble_eq_true rfl) dX5_readItem_47 ⟨Nat.le_of_ble_eq_true rfl, Nat.le_of_ble_eq_true rfl⟩) hA hF (fun σ_9 H locs hW hF pσ_9 => ?_)
    try dsimp only at pσ_9
    obtain ⟨pσ_9, fpσ_9⟩ := pσ_9
    have hR := fr_call hR fpσ_9 (by decide)
    refine lv_iload_n hx hb dX5_readItem_50 rfl (lv_at hl 0 rfl) ?_
    refine j_bi hx hb dX5_readItem_51 (by decide) ?_
    refine j_icmp_ne (tgt := 75) hx hb (by omega) (by decide) dX5_readItem_53 (by decide) (fun c_10 => ?_) (fun c_10 => ?_)
    · refine lv_iload_n hx hb dX5_readItem_75 rfl (lv_at hl 0 rfl) ?_
      refine j_bi hx hb dX5_readItem_76 (by decide) ?_
      refine j_icmp_ne (tgt := 97) hx hb (by omega) (by decide) dX5_readItem_78 (by decide) (fun c_11 => ?_) (fun c_11 => ?_)
      · exact hRet 97 _ _ _ _ dX5_readItem_97 hW hF ⟨trivial, hR⟩
      · refine lv_aload_n hx hb dX5_readItem_81 rfl (lv_at hl 2 rfl) ?_
        refine j_bi hx hb dX5_readItem_82 (by decide) ?_
        refine j_cV (j_runV (As := [.int (jI 44)]) (rest := []) hx hb hml hown hts hK hS hW (kX7_readSign l hS σ_9 (a0 := a1) (h0 := h1) (x1 := 44) (r1 := (by decide))) 1 gX5_readItem_X7_readSign rfl hvX7_readSign ⟨Nat.le_of_ble_eq_true rfl, Nat.le_of_ble_eq_true rfl⟩ rfl rfl h1 rfl rfl rfl rfl hl.1 rfl (Nat.le_of_ble_eq_true rfl) dX5_readItem_84 ⟨Nat.le_of_ble_eq_true rfl, Nat.le_of_ble_eq_true rfl⟩) hA hF (fun σ_12 H locs hW hF pσ_12 => ?_)
        try dsimp only at pσ_12
        obtain ⟨pσ_12, fpσ_12⟩ := pσ_12
        have hR := fr_call hR fpσ_12 (by decide)
        refine lv_aload_n hx hb dX5_readItem_87 rfl (lv_at hl 2 rfl) ?_
        refine lv_aload_n hx hb dX5_readItem_88 rfl (lv_at hl 1 rfl) ?_
        refine j_getR hx hb (C := RX5) (T := TX5) (N := 5) hts inX5_readItem_X5 hown hK hS hW h0 rfl 3 rfl rfl (by decide) (hts _ flX5_readItem_24) dX5_readItem_89 ?_
        have h_13 : τ (G a0 3) = 30 := gty hS h0 (k := 3) rfl rfl
        refine lv_iload_n hx hb dX5_readItem_92 rfl (lv_at hl 3 rfl) ?_
        refine j_aald hx hb hK hS hW h_13 (n := 20) rfl rfl (by omega) (by omega) (by decide) dX5_readItem_93 ?_
        have h_14 : τ (G (G a0 3) (x2).toNat) = 3 := gtyR hS h_13 (n := 20) rfl (by omega) (by omega)
        refine j_cV (j_runV (As := [.ref (G (G a0 3) (x2).toNat)]) (rest := []) hx hb hml hown hts hK hS hW (kX7_readKey l hS σ_12 (a0 := a1) (h0 := h1) (a1 := G (G a0 3) (x2).toNat) (h1 := h_14)) 1 gX5_readItem_X7_readKey rfl hvX7_readKey ⟨Nat.le_of_ble_eq_true rfl, Nat.le_of_ble_eq_true rfl⟩ rfl rfl h1 rfl rfl rfl rfl hl.1 rfl (Nat.le_of_ble_eq_true rfl) dX5_readItem_94 ⟨Nat.le_of_ble_eq_true rfl, Nat.le_of_ble_eq_true rfl⟩) hA hF (fun σ_15 H locs hW hF pσ_15 => ?_)
        try dsimp only at pσ_15
        obtain ⟨pσ_15, fpσ_15⟩ := pσ_15
        have hR := fr_call hR fpσ_15 (by decide)
        exact hRet 97 _ _ _ _ dX5_readItem_97 hW hF ⟨trivial, hR⟩
    · refine lv_aload_n hx hb dX5_readItem_56 rfl (lv_at hl 2 rfl) ?_
      refine j_bi hx hb dX5_readItem_57 (by decide) ?_
      refine j_cV (j_runV (As := [.int (jI 61)]) (rest := []) hx hb hml hown hts hK hS hW (kX7_readSign l hS σ_9 (a0 := a1) (h0 := h1) (x1 := 61) (r1 := (by decide))) 1 gX5_readItem_X7_readSign rfl hvX7_readSign ⟨Nat.le_of_ble_eq_true rfl, Nat.le_of_ble_eq_true rfl⟩ rfl rfl h1 rfl rfl rfl rfl hl.1 rfl (Nat.le_of_ble_eq_true rfl) dX5_readItem_59 ⟨Nat.le_of_ble_eq_true rfl, Nat.le_of_ble_eq_true rfl⟩) hA hF (fun σ_16 H locs hW hF pσ_16 => ?_)
      try dsimp only at pσ_16
      obtain ⟨pσ_16, fpσ_16⟩ := pσ_16
      have hR := fr_call hR fpσ_16 (by decide)
      refine lv_aload_n hx hb dX5_readItem_62 rfl (lv_at hl 1 rfl) ?_
      refine j_getR hx hb (C := RX5) (T := TX5) (N := 5) hts inX5_readItem_X5 hown hK hS hW h0 rfl 1 rfl rfl (by decide) (hts _ flX5_readItem_15) dX5_readItem_63 ?_
      have h_17 : τ (G a0 1) = 27 := gty hS h0 (k := 1) rfl rfl
      refine lv_iload_n hx hb dX5_readItem_66 rfl (lv_at hl 3 rfl) ?_
      refine lv_aload_n hx hb dX5_readItem_67 rfl (lv_at hl 2 rfl) ?_
      refine j_cI (j_runV (As := []) (rest := [.int (jI x2), .ref (G a0 1)]) hx hb hml hown hts hK hS hW (kX7_readNumber l hS σ_16 (a0 := a1) (h0 := h1)) 0 gX5_readItem_X7_readNumber rfl hvX7_readNumber ⟨Nat.le_of_ble_eq_true rfl, Nat.le_of_ble_eq_true rfl⟩ rfl rfl h1 rfl rfl rfl rfl hl.1 rfl (Nat.le_of_ble_eq_true rfl) dX5_readItem_68 ⟨Nat.le_of_ble_eq_true rfl, Nat.le_of_ble_eq_true rfl⟩) hA hF (fun v_18 σ_19 H locs hW hF rv_18 pv_18 => ?_)
      try dsimp only at pv_18
      obtain ⟨pv_18, fpv_18⟩ := pv_18
      have hR := fr_call hR fpv_18 (by decide)
      refine j_ast hx hb hK hS hA hW hF h_17 (n := 20) (lo := -2147483648) (hi := 2147483647) rfl (by omega) (by omega) (by decide) (by omega) dX5_readItem_71 (fun σ_20 H locs e_21 hW hF => ?_)
      have hR := fr_up hR e_21 h_17 27000 (cdA 27 (by decide) _) (by decide)
      refine lv_goto (tgt := 97) hx hb dX5_readItem_72 (by decide) ?_
      exact hRet 97 _ _ _ _ dX5_readItem_97 hW hF ⟨trivial, hR⟩
  · refine lv_iload_n hx hb dX5_readItem_11 rfl (lv_at hl 0 rfl) ?_
    refine j_bi hx hb dX5_readItem_12 (by decide) ?_
    refine j_icmp_eq (tgt := 29) hx hb (by omega) (by decide) dX5_readItem_14 (by decide) (fun c_22 => ?_) (fun c_22 => ?_)
    · refine lv_aload_n hx hb dX5_readItem_29 rfl (lv_at hl 2 rfl) ?_
      refine j_cV (j_runV (As := []) (rest := []) hx hb hml hown hts hK hS hW (kX7_goOn l hS σ (a0 := a1) (h0 := h1)) 0 gX5_readItem_X7_goOn rfl hvX7_goOn ⟨Nat.le_of_ble_eq_true rfl, Nat.le_of_ble_eq_true rfl⟩ rfl rfl h1 rfl rfl rfl rfl hl.1 rfl (Nat.le_of_ble_eq_true rfl) dX5_readItem_30 ⟨Nat.le_of_ble_eq_true rfl, Nat.le_of_ble_eq_true rfl⟩) hA hF (fun σ_23 H locs hW hF pσ_23 => ?_)
      try dsimp only at pσ_23
      obtain ⟨pσ_23, fpσ_23⟩ := pσ_23
      have hR := fr_call hR fpσ_23 (by decide)
      refine lv_aload_n hx hb dX5_readItem_33 rfl (lv_at hl 1 rfl) ?_
      refine j_getR hx hb (C := RX5) (T := TX5) (N := 5) hts inX5_readItem_X5 hown hK hS hW h0 rfl 0 rfl rfl (by decide) (hts _ flX5_readItem_9) dX5_readItem_34 ?_
      have h_24 : τ (G a0 0) = 27 := gty hS h0 (k := 0) rfl rfl
      refine lv_iload_n hx hb dX5_readItem_37 rfl (lv_at hl 3 rfl) ?_
      refine lv_iload_n hx hb dX5_readItem_38 rfl (lv_at hl 0 rfl) ?_
      refine j_ast hx hb hK hS hA hW hF h_24 (n := 20) (lo := -2147483648) (hi := 2147483647) rfl (by omega) (by omega) (by decide) (by omega) dX5_readItem_39 (fun σ_25 H locs e_26 hW hF => ?_)
      have hR := fr_up hR e_26 h_24 27000 (cdA 27 (by decide) _) (by decide)
      refine lv_aload_n hx hb dX5_readItem_40 rfl (lv_at hl 2 rfl) ?_
      refine lv_aload_n hx hb dX5_readItem_41 rfl (lv_at hl 1 rfl) ?_
      refine j_getR hx hb (C := RX5) (T := TX5) (N := 5) hts inX5_readItem_X5 hown hK hS hW h0 rfl 2 rfl rfl (by decide) (hts _ flX5_readItem_20) dX5_readItem_42 ?_
      have h_27 : τ (G a0 2) = 30 := gty hS h0 (k := 2) rfl rfl
      refine lv_iload_n hx hb dX5_readItem_45 rfl (lv_at hl 3 rfl) ?_
      refine j_aald hx hb hK hS hW h_27 (n := 20) rfl rfl (by omega) (by omega) (by decide) dX5_readItem_46 ?_
      have h_28 : τ (G (G a0 2) (x2).toNat) = 3 := gtyR hS h_27 (n := 20) rfl (by omega) (by omega)
      refine j_cV (j_runV (As := [.ref (G (G a0 2) (x2).toNat)]) (rest := []) hx hb hml hown hts hK hS hW (kX7_readKey l hS σ_25 (a0 := a1) (h0 := h1) (a1 := G (G a0 2) (x2).toNat) (h1 := h_28)) 1 gX5_readItem_X7_readKey rfl hvX7_readKey ⟨Nat.le_of_ble_eq_true rfl, Nat.le_of_ble_eq_true rfl⟩ rfl rfl h1 rfl rfl rfl rfl hl.1 rfl (Nat.le_of_ble_eq_true rfl) dX5_readItem_47 ⟨Nat.le_of_ble_eq_true rfl, Nat.le_of_ble_eq_true rfl⟩) hA hF (fun σ_29 H locs hW hF pσ_29 => ?_)
      try dsimp only at pσ_29
      obtain ⟨pσ_29, fpσ_29⟩ := pσ_29
      have hR := fr_call hR fpσ_29 (by decide)
      refine lv_iload_n hx hb dX5_readItem_50 rfl (lv_at hl 0 rfl) ?_
      refine j_bi hx hb dX5_readItem_51 (by decide) ?_
      refine j_icmp_ne (tgt := 75) hx hb (by omega) (by decide) dX5_readItem_53 (by decide) (fun c_30 => ?_) (fun c_30 => ?_)
      · refine lv_iload_n hx hb dX5_readItem_75 rfl (lv_at hl 0 rfl) ?_
        refine j_bi hx hb dX5_readItem_76 (by decide) ?_
        refine j_icmp_ne (tgt := 97) hx hb (by omega) (by decide) dX5_readItem_78 (by decide) (fun c_31 => ?_) (fun c_31 => ?_)
        · exact hRet 97 _ _ _ _ dX5_readItem_97 hW hF ⟨trivial, hR⟩
        · refine lv_aload_n hx hb dX5_readItem_81 rfl (lv_at hl 2 rfl) ?_
          refine j_bi hx hb dX5_readItem_82 (by decide) ?_
          refine j_cV (j_runV (As := [.int (jI 44)]) (rest := []) hx hb hml hown hts hK hS hW (kX7_readSign l hS σ_29 (a0 := a1) (h0 := h1) (x1 := 44) (r1 := (by decide))) 1 gX5_readItem_X7_readSign rfl hvX7_readSign ⟨Nat.le_of_ble_eq_true rfl, Nat.le_of_ble_eq_true rfl⟩ rfl rfl h1 rfl rfl rfl rfl hl.1 rfl (Nat.le_of_ble_eq_true rfl) dX5_readItem_84 ⟨Nat.le_of_ble_eq_true rfl, Nat.le_of_ble_eq_true rfl⟩) hA hF (fun σ_32 H locs hW hF pσ_32 => ?_)
          try dsimp only at pσ_32
          obtain ⟨pσ_32, fpσ_32⟩ := pσ_32
          have hR := fr_call hR fpσ_32 (by decide)
          refine lv_aload_n hx hb dX5_readItem_87 rfl (lv_at hl 2 rfl) ?_
          refine lv_aload_n hx hb dX5_readItem_88 rfl (lv_at hl 1 rfl) ?_
          refine j_getR hx hb (C := RX5) (T := TX5) (N := 5) hts inX5_readItem_X5 hown hK hS hW h0 rfl 3 rfl rfl (by decide) (hts _ flX5_readItem_24) dX5_readItem_89 ?_
          have h_33 : τ (G a0 3) = 30 := gty hS h0 (k := 3) rfl rfl
          refine lv_iload_n hx hb dX5_readItem_92 rfl (lv_at hl 3 rfl) ?_
          refine j_aald hx hb hK hS hW h_33 (n := 20) rfl rfl (by omega) (by omega) (by decide) dX5_readItem_93 ?_
          have h_34 : τ (G (G a0 3) (x2).toNat) = 3 := gtyR hS h_33 (n := 20) rfl (by omega) (by omega)
          refine j_cV (j_runV (As := [.ref (G (G a0 3) (x2).toNat)]) (rest := []) hx hb hml hown hts hK hS hW (kX7_readKey l hS σ_32 (a0 := a1) (h0 := h1) (a1 := G (G a0 3) (x2).toNat) (h1 := h_34)) 1 gX5_readItem_X7_readKey rfl hvX7_readKey ⟨Nat.le_of_ble_eq_true rfl, Nat.le_of_ble_eq_true rfl⟩ rfl rfl h1 rfl rfl rfl rfl hl.1 rfl (Nat.le_of_ble_eq_true rfl) dX5_readItem_94 ⟨Nat.le_of_ble_eq_true rfl, Nat.le_of_ble_eq_true rfl⟩) hA hF (fun σ_35 H locs hW hF pσ_35 => ?_)
          try dsimp only at pσ_35
          obtain ⟨pσ_35, fpσ_35⟩ := pσ_35
          have hR := fr_call hR fpσ_35 (by decide)
          exact hRet 97 _ _ _ _ dX5_readItem_97 hW hF ⟨trivial, hR⟩
      · refine lv_aload_n hx hb dX5_readItem_56 rfl (lv_at hl 2 rfl) ?_
        refine j_bi hx hb dX5_readItem_57 (by decide) ?_
        refine j_cV (j_runV (As := [.int (jI 61)]) (rest := []) hx hb hml hown hts hK hS hW (kX7_readSign l hS σ_29 (a0 := a1) (h0 := h1) (x1 := 61) (r1 := (by decide))) 1 gX5_readItem_X7_readSign rfl hvX7_readSign ⟨Nat.le_of_ble_eq_true rfl, Nat.le_of_ble_eq_true rfl⟩ rfl rfl h1 rfl rfl rfl rfl hl.1 rfl (Nat.le_of_ble_eq_true rfl) dX5_readItem_59 ⟨Nat.le_of_ble_eq_true rfl, Nat.le_of_ble_eq_true rfl⟩) hA hF (fun σ_36 H locs hW hF pσ_36 => ?_)
        try dsimp only at pσ_36
        obtain ⟨pσ_36, fpσ_36⟩ := pσ_36
        have hR := fr_call hR fpσ_36 (by decide)
        refine lv_aload_n hx hb dX5_readItem_62 rfl (lv_at hl 1 rfl) ?_
        refine j_getR hx hb (C := RX5) (T := TX5) (N := 5) hts inX5_readItem_X5 hown hK hS hW h0 rfl 1 rfl rfl (by decide) (hts _ flX5_readItem_15) dX5_readItem_63 ?_
        have h_37 : τ (G a0 1) = 27 := gty hS h0 (k := 1) rfl rfl
        refine lv_iload_n hx hb dX5_readItem_66 rfl (lv_at hl 3 rfl) ?_
        refine lv_aload_n hx hb dX5_readItem_67 rfl (lv_at hl 2 rfl) ?_
        refine j_cI (j_runV (As := []) (rest := [.int (jI x2), .ref (G a0 1)]) hx hb hml hown hts hK hS hW (kX7_readNumber l hS σ_36 (a0 := a1) (h0 := h1)) 0 gX5_readItem_X7_readNumber rfl hvX7_readNumber ⟨Nat.le_of_ble_eq_true rfl, Nat.le_of_ble_eq_true rfl⟩ rfl rfl h1 rfl rfl rfl rfl hl.1 rfl (Nat.le_of_ble_eq_true rfl) dX5_readItem_68 ⟨Nat.le_of_ble_eq_true rfl, Nat.le_of_ble_eq_true rfl⟩) hA hF (fun v_38 σ_39 H locs hW hF rv_38 pv_38 => ?_)
        try dsimp only at pv_38
        obtain ⟨pv_38, fpv_38⟩ := pv_38
        have hR := fr_call hR fpv_38 (by decide)
        refine j_ast hx hb hK hS hA hW hF h_37 (n := 20) (lo := -2147483648) (hi := 2147483647) rfl (by omega) (by omega) (by decide) (by omega) dX5_readItem_71 (fun σ_40 H locs e_41 hW hF => ?_)
        have hR := fr_up hR e_41 h_37 27000 (cdA 27 (by decide) _) (by decide)
        refine lv_goto (tgt := 97) hx hb dX5_readItem_72 (by decide) ?_
        exact hRet 97 _ _ _ _ dX5_readItem_97 hW hF ⟨trivial, hR⟩
    · refine lv_iload_n hx hb dX5_readItem_17 rfl (lv_at hl 0 rfl) ?_
      refine j_bi hx hb dX5_readItem_18 (by decide) ?_
      refine j_icmp_eq (tgt := 29) hx hb (by omega) (by decide) dX5_readItem_20 (by decide) (fun c_42 => ?_) (fun c_42 => ?_)
      · refine lv_aload_n hx hb dX5_readItem_29 rfl (lv_at hl 2 rfl) ?_
        refine j_cV (j_runV (As := []) (rest := []) hx hb hml hown hts hK hS hW (kX7_goOn l hS σ (a0 := a1) (h0 := h1)) 0 gX5_readItem_X7_goOn rfl hvX7_goOn ⟨Nat.le_of_ble_eq_true rfl, Nat.le_of_ble_eq_true rfl⟩ rfl rfl h1 rfl rfl rfl rfl hl.1 rfl (Nat.le_of_ble_eq_true rfl) dX5_readItem_30 ⟨Nat.le_of_ble_eq_true rfl, Nat.le_of_ble_eq_true rfl⟩) hA hF (fun σ_43 H locs hW hF pσ_43 => ?_)
        try dsimp only at pσ_43
        obtain ⟨pσ_43, fpσ_43⟩ := pσ_43
        have hR := fr_call hR fpσ_43 (by decide)
        refine lv_aload_n hx hb dX5_readItem_33 rfl (lv_at hl 1 rfl) ?_
        refine j_getR hx hb (C := RX5) (T := TX5) (N := 5) hts inX5_readItem_X5 hown hK hS hW h0 rfl 0 rfl rfl (by decide) (hts _ flX5_readItem_9) dX5_readItem_34 ?_
        have h_44 : τ (G a0 0) = 27 := gty hS h0 (k := 0) rfl rfl
        refine lv_iload_n hx hb dX5_readItem_37 rfl (lv_at hl 3 rfl) ?_
        refine lv_iload_n hx hb dX5_readItem_38 rfl (lv_at hl 0 rfl) ?_
        refine j_ast hx hb hK hS hA hW hF h_44 (n := 20) (lo := -2147483648) (hi := 2147483647) rfl (by omega) (by omega) (by decide) (by omega) dX5_readItem_39 (fun σ_45 H locs e_46 hW hF => ?_)
        have hR := fr_up hR e_46 h_44 27000 (cdA 27 (by decide) _) (by decide)
        refine lv_aload_n hx hb dX5_readItem_40 rfl (lv_at hl 2 rfl) ?_
        refine lv_aload_n hx hb dX5_readItem_41 rfl (lv_at hl 1 rfl) ?_
        refine j_getR hx hb (C := RX5) (T := TX5) (N := 5) hts inX5_readItem_X5 hown hK hS hW h0 rfl 2 rfl rfl (by decide) (hts _ flX5_readItem_20) dX5_readItem_42 ?_
        have h_47 : τ (G a0 2) = 30 := gty hS h0 (k := 2) rfl rfl
        refine lv_iload_n hx hb dX5_readItem_45 rfl (lv_at hl 3 rfl) ?_
        refine j_aald hx hb hK hS hW h_47 (n := 20) rfl rfl (by omega) (by omega) (by decide) dX5_readItem_46 ?_
        have h_48 : τ (G (G a0 2) (x2).toNat) = 3 := gtyR hS h_47 (n := 20) rfl (by omega) (by omega)
        refine j_cV (j_runV (As := [.ref (G (G a0 2) (x2).toNat)]) (rest := []) hx hb hml hown hts hK hS hW (kX7_readKey l hS σ_45 (a0 := a1) (h0 := h1) (a1 := G (G a0 2) (x2).toNat) (h1 := h_48)) 1 gX5_readItem_X7_readKey rfl hvX7_readKey ⟨Nat.le_of_ble_eq_true rfl, Nat.le_of_ble_eq_true rfl⟩ rfl rfl h1 rfl rfl rfl rfl hl.1 rfl (Nat.le_of_ble_eq_true rfl) dX5_readItem_47 ⟨Nat.le_of_ble_eq_true rfl, Nat.le_of_ble_eq_true rfl⟩) hA hF (fun σ_49 H locs hW hF pσ_49 => ?_)
        try dsimp only at pσ_49
        obtain ⟨pσ_49, fpσ_49⟩ := pσ_49
        have hR := fr_call hR fpσ_49 (by decide)
        refine lv_iload_n hx hb dX5_readItem_50 rfl (lv_at hl 0 rfl) ?_
        refine j_bi hx hb dX5_readItem_51 (by decide) ?_
        refine j_icmp_ne (tgt := 75) hx hb (by omega) (by decide) dX5_readItem_53 (by decide) (fun c_50 => ?_) (fun c_50 => ?_)
        · refine lv_iload_n hx hb dX5_readItem_75 rfl (lv_at hl 0 rfl) ?_
          refine j_bi hx hb dX5_readItem_76 (by decide) ?_
          refine j_icmp_ne (tgt := 97) hx hb (by omega) (by decide) dX5_readItem_78 (by decide) (fun c_51 => ?_) (fun c_51 => ?_)
          · exact hRet 97 _ _ _ _ dX5_readItem_97 hW hF ⟨trivial, hR⟩
          · refine lv_aload_n hx hb dX5_readItem_81 rfl (lv_at hl 2 rfl) ?_
            refine j_bi hx hb dX5_readItem_82 (by decide) ?_
            refine j_cV (j_runV (As := [.int (jI 44)]) (rest := []) hx hb hml hown hts hK hS hW (kX7_readSign l hS σ_49 (a0 := a1) (h0 := h1) (x1 := 44) (r1 := (by decide))) 1 gX5_readItem_X7_readSign rfl hvX7_readSign ⟨Nat.le_of_ble_eq_true rfl, Nat.le_of_ble_eq_true rfl⟩ rfl rfl h1 rfl rfl rfl rfl hl.1 rfl (Nat.le_of_ble_eq_true rfl) dX5_readItem_84 ⟨Nat.le_of_ble_eq_true rfl, Nat.le_of_ble_eq_true rfl⟩) hA hF (fun σ_52 H locs hW hF pσ_52 => ?_)
            try dsimp only at pσ_52
            obtain ⟨pσ_52, fpσ_52⟩ := pσ_52
            have hR := fr_call hR fpσ_52 (by decide)
            refine lv_aload_n hx hb dX5_readItem_87 rfl (lv_at hl 2 rfl) ?_
            refine lv_aload_n hx hb dX5_readItem_88 rfl (lv_at hl 1 rfl) ?_
            refine j_getR hx hb (C := RX5) (T := TX5) (N := 5) hts inX5_readItem_X5 hown hK hS hW h0 rfl 3 rfl rfl (by decide) (hts _ flX5_readItem_24) dX5_readItem_89 ?_
            have h_53 : τ (G a0 3) = 30 := gty hS h0 (k := 3) rfl rfl
            refine lv_iload_n hx hb dX5_readItem_92 rfl (lv_at hl 3 rfl) ?_
            refine j_aald hx hb hK hS hW h_53 (n := 20) rfl rfl (by omega) (by omega) (by decide) dX5_readItem_93 ?_
            have h_54 : τ (G (G a0 3) (x2).toNat) = 3 := gtyR hS h_53 (n := 20) rfl (by omega) (by omega)
            refine j_cV (j_runV (As := [.ref (G (G a0 3) (x2).toNat)]) (rest := []) hx hb hml hown hts hK hS hW (kX7_readKey l hS σ_52 (a0 := a1) (h0 := h1) (a1 := G (G a0 3) (x2).toNat) (h1 := h_54)) 1 gX5_readItem_X7_readKey rfl hvX7_readKey ⟨Nat.le_of_ble_eq_true rfl, Nat.le_of_ble_eq_true rfl⟩ rfl rfl h1 rfl rfl rfl rfl hl.1 rfl (Nat.le_of_ble_eq_true rfl) dX5_readItem_94 ⟨Nat.le_of_ble_eq_true rfl, Nat.le_of_ble_eq_true rfl⟩) hA hF (fun σ_55 H locs hW hF pσ_55 => ?_)
            try dsimp only at pσ_55
            obtain ⟨pσ_55, fpσ_55⟩ := pσ_55
            have hR := fr_call hR fpσ_55 (by decide)
            exact hRet 97 _ _ _ _ dX5_readItem_97 hW hF ⟨trivial, hR⟩
        · refine lv_aload_n hx hb dX5_readItem_56 rfl (lv_at hl 2 rfl) ?_
          refine j_bi hx hb dX5_readItem_57 (by decide) ?_
          refine j_cV (j_runV (As := [.int (jI 61)]) (rest := []) hx hb hml hown hts hK hS hW (kX7_readSign l hS σ_49 (a0 := a1) (h0 := h1) (x1 := 61) (r1 := (by decide))) 1 gX5_readItem_X7_readSign rfl hvX7_readSign ⟨Nat.le_of_ble_eq_true rfl, Nat.le_of_ble_eq_true rfl⟩ rfl rfl h1 rfl rfl rfl rfl hl.1 rfl (Nat.le_of_ble_eq_true rfl) dX5_readItem_59 ⟨Nat.le_of_ble_eq_true rfl, Nat.le_of_ble_eq_true rfl⟩) hA hF (fun σ_56 H locs hW hF pσ_56 => ?_)
          try dsimp only at pσ_56
          obtain ⟨pσ_56, fpσ_56⟩ := pσ_56
          have hR := fr_call hR fpσ_56 (by decide)
          refine lv_aload_n hx hb dX5_readItem_62 rfl (lv_at hl 1 rfl) ?_
          refine j_getR hx hb (C := RX5) (T := TX5) (N := 5) hts inX5_readItem_X5 hown hK hS hW h0 rfl 1 rfl rfl (by decide) (hts _ flX5_readItem_15) dX5_readItem_63 ?_
          have h_57 : τ (G a0 1) = 27 := gty hS h0 (k := 1) rfl rfl
          refine lv_iload_n hx hb dX5_readItem_66 rfl (lv_at hl 3 rfl) ?_
          refine lv_aload_n hx hb dX5_readItem_67 rfl (lv_at hl 2 rfl) ?_
          refine j_cI (j_runV (As := []) (rest := [.int (jI x2), .ref (G a0 1)]) hx hb hml hown hts hK hS hW (kX7_readNumber l hS σ_56 (a0 := a1) (h0 := h1)) 0 gX5_readItem_X7_readNumber rfl hvX7_readNumber ⟨Nat.le_of_ble_eq_true rfl, Nat.le_of_ble_eq_true rfl⟩ rfl rfl h1 rfl rfl rfl rfl hl.1 rfl (Nat.le_of_ble_eq_true rfl) dX5_readItem_68 ⟨Nat.le_of_ble_eq_true rfl, Nat.le_of_ble_eq_true rfl⟩) hA hF (fun v_58 σ_59 H locs hW hF rv_58 pv_58 => ?_)
          try dsimp only at pv_58
          obtain ⟨pv_58, fpv_58⟩ := pv_58
          have hR := fr_call hR fpv_58 (by decide)
          refine j_ast hx hb hK hS hA hW hF h_57 (n := 20) (lo := -2147483648) (hi := 2147483647) rfl (by omega) (by omega) (by decide) (by omega) dX5_readItem_71 (fun σ_60 H locs e_61 hW hF => ?_)
          have hR := fr_up hR e_61 h_57 27000 (cdA 27 (by decide) _) (by decide)
          refine lv_goto (tgt := 97) hx hb dX5_readItem_72 (by decide) ?_
          exact hRet 97 _ _ _ _ dX5_readItem_97 hW hF ⟨trivial, hR⟩
      · refine lv_aload_n hx hb dX5_readItem_23 rfl (lv_at hl 2 rfl) ?_
        refine j_const hx hb dX5_readItem_24 ?_
        refine j_cV (j_runV (As := [.int (jI 1)]) (rest := []) hx hb hml hown hts hK hS hW (kX7_blameHere l hS σ (a0 := a1) (h0 := h1) (x1 := 1) (r1 := (by decide))) 1 gX5_readItem_X7_blameHere rfl hvX7_blameHere ⟨Nat.le_of_ble_eq_true rfl, Nat.le_of_ble_eq_true rfl⟩ rfl rfl h1 rfl rfl rfl rfl hl.1 rfl (Nat.le_of_ble_eq_true rfl) dX5_readItem_25 ⟨Nat.le_of_ble_eq_true rfl, Nat.le_of_ble_eq_true rfl⟩) hA hF (fun σ_62 H locs hW hF pσ_62 => ?_)
        try dsimp only at pσ_62
        obtain ⟨pσ_62, fpσ_62⟩ := pσ_62
        have hR := fr_call hR fpσ_62 (by decide)
        exact hRet 28 _ _ _ _ dX5_readItem_28 hW hF ⟨trivial, hR⟩
abbrev wr_X5_readFrom : List Nat := [3001, 6004, 8001, 8003, 20000, 27000]
theorem flX5_readFrom_28 : Cond.fieldLink RX5 28 "PageTrie$Orders" "size" "I" ∈ wsX5_readFrom := List.mem_of_getElem? (i := 1) rfl
theorem inX5_readFrom_X5 : ∀ w ∈ u_ws RX5 TX5 5, w ∈ wsX5_readFrom := mem_r _ [79, 80, 81, 82, 83] rfl
theorem hvX5_readFrom : yX5_readFrom.cls = RX5 ∧ yX5_readFrom.cls ≠ "java/lang/invoke/MethodHandle" ∧ yX5_readFrom.cls ≠ "java/lang/invoke/VarHandle" ∧ (parseMethodDescriptor yX5_readFrom.desc).map (fun d => d.parameters.length) = some 1 := by decide +kernel
set_option maxHeartbeats 4000000 in
set_option maxRecDepth 100000 in
theorem kX5_readFrom (l : Launch) {D : va_G} {cA : Nat → ClassId} {τ : Nat → Nat} {G : Nat → Nat → Nat} {L : List Nat} (hS : SW τ G L) (σ : Nat → Nat → Int) {a0 : Nat} (h0 : τ a0 = 6) {a1 : Nat} (h1 : τ a1 = 8) : Met l yX5_readFrom wsX5_readFrom ({ frames := 4, cells := 0, slots := 0, locals := 89 }) (jP D cA τ G L σ [.ref a0, .ref a1]) (jQV D cA τ G L (fun σ' => (True) ∧ fr wr_X5_readFrom τ σ σ')) 0 0 (fun q => q ∈ L) := by
  refine j_metV (by decide +kernel) rfl (Nat.le_of_ble_eq_true rfl) ?_
  intro p e s m args below meth c Q hx hb hml hown hts hK hW hRet ls hl
  have hl : lv_has ls 4 [(0, .ref a0), (1, .ref a1)] := hl
  have hA : ∀ q ∈ L, (fun q => q ∈ L) q := fun _ h => h
  have hF : va_S (fun q => q ∈ L) s.heap s.heap [] := va_S.rf
  have hR : fr wr_X5_readFrom τ σ σ := fr_rf
  refine lv_aload_n hx hb dX5_readFrom_0 rfl (lv_at hl 0 rfl) ?_
  refine j_const hx hb dX5_readFrom_1 ?_
  refine j_putI hx hb (C := RX5) (T := TX5) (N := 5) hts inX5_readFrom_X5 tyX5 tyX5_ok nmX5 hown hK hS hA hW hF h0 rfl 4 (lo := -2147483648) (hi := 2147483647) rfl rfl (by decide) (hts _ flX5_readFrom_28) rfl .int rfl (by omega) rfl rfl dX5_readFrom_2 (fun σ_1 H locs e_2 hW hF => ?_)
  have hR := fr_up hR e_2 h0 6004 rfl (by decide)
  have : σ_1 a0 4 = 0 := by rw [e_2]; exact up2_at _ _ _ _
  refine j_const hx hb dX5_readFrom_5 ?_
  refine lv_istore_n (lv' := [(2, .int (jI 1)), (0, .ref a0), (1, .ref a1)]) hx hb dX5_readFrom_6 rfl hl (by decide) rfl (fun ls hl => ?_)
  refine j_const hx hb dX5_readFrom_7 ?_
  refine lv_istore_n (lv' := [(3, .int (jI 0)), (2, .int (jI 1)), (0, .ref a0), (1, .ref a1)]) hx hb dX5_readFrom_8 rfl hl (by decide) rfl (fun ls hl => ?_)
  have L_9 : ∀ (N : Nat) (v2_9 v3_9 : Int) (σ_9 : Nat → Nat → Int) (H : Heap) (locs : List Loc) (ls : Array Slot), N = (2147483647 - v3_9 : Int).toNat → (0 ≤ v3_9) → (v3_9 ≤ 20) → rg v2_9 → rg v3_9 → PW D cA τ G L σ_9 H → va_S (fun q => q ∈ L) s.heap H locs → fr wr_X5_readFrom τ σ σ_9 → lv_has ls 4 [(0, .ref a0), (1, .ref a1), (2, .int (jI v2_9)), (3, .int (jI v3_9))] → W p l e ({ frames := 4, cells := 0, slots := 0, locals := 89 }) s m args below meth c H locs 0 0 Q (F0 m 9 ls []) := by
    intro N
    induction N using Nat.strongRecOn with
    | ind N ih_9 =>
      intro v2_9 v3_9 σ_9 H locs ls hN i0_9 i1_9 rv2_9 rv3_9 hW hF hR hl
      refine lv_iload_n hx hb dX5_readFrom_9 rfl (lv_at hl 3 rfl) ?_
      refine j_bi hx hb dX5_readFrom_10 (by decide) ?_
      refine j_icmp_ge (tgt := 43) hx hb (by omega) (by decide) dX5_readFrom_12 (by decide) (fun c_3 => ?_) (fun c_3 => ?_)
      · refine lv_iload_n hx hb dX5_readFrom_43 rfl (lv_at hl 2 rfl) ?_
        refine j_if_eq (tgt := 52) hx hb (by omega) dX5_readFrom_44 (by decide) (fun c_4 => ?_) (fun c_4 => ?_)
        · exact hRet 52 _ _ _ _ dX5_readFrom_52 hW hF ⟨trivial, hR⟩
        · refine lv_aload_n hx hb dX5_readFrom_47 rfl (lv_at hl 1 rfl) ?_
          refine j_const hx hb dX5_readFrom_48 ?_
          refine j_cV (j_runV (As := [.int (jI 4)]) (rest := []) hx hb hml hown hts hK hS hW (kX7_blameHere l hS σ_9 (a0 := a1) (h0 := h1) (x1 := 4) (r1 := (by decide))) 1 gX5_readFrom_X7_blameHere rfl hvX7_blameHere ⟨Nat.le_of_ble_eq_true rfl, Nat.le_of_ble_eq_true rfl⟩ rfl rfl h1 rfl rfl rfl rfl hl.1 rfl (Nat.le_of_ble_eq_true rfl) dX5_readFrom_49 ⟨Nat.le_of_ble_eq_true rfl, Nat.le_of_ble_eq_true rfl⟩) hA hF (fun σ_5 H locs hW hF pσ_5 => ?_)
          try dsimp only at pσ_5
          obtain ⟨pσ_5, fpσ_5⟩ := pσ_5
          have hR := fr_call hR fpσ_5 (by decide)
          exact hRet 52 _ _ _ _ dX5_readFrom_52 hW hF ⟨trivial, hR⟩
      · refine lv_iload_n hx hb dX5_readFrom_15 rfl (lv_at hl 2 rfl) ?_
        refine j_if_eq (tgt := 43) hx hb (by omega) dX5_readFrom_16 (by decide) (fun c_6 => ?_) (fun c_6 => ?_)
        · refine lv_iload_n hx hb dX5_readFrom_43 rfl (lv_at hl 2 rfl) ?_
          refine j_if_eq (tgt := 52) hx hb (by omega) dX5_readFrom_44 (by decide) (fun c_7 => ?_) (fun c_7 => ?_)
          · exact hRet 52 _ _ _ _ dX5_readFrom_52 hW hF ⟨trivial, hR⟩
          · refine lv_aload_n hx hb dX5_readFrom_47 rfl (lv_at hl 1 rfl) ?_
            refine j_const hx hb dX5_readFrom_48 ?_
            refine j_cV (j_runV (As := [.int (jI 4)]) (rest := []) hx hb hml hown hts hK hS hW (kX7_blameHere l hS σ_9 (a0 := a1) (h0 := h1) (x1 := 4) (r1 := (by decide))) 1 gX5_readFrom_X7_blameHere rfl hvX7_blameHere ⟨Nat.le_of_ble_eq_true rfl, Nat.le_of_ble_eq_true rfl⟩ rfl rfl h1 rfl rfl rfl rfl hl.1 rfl (Nat.le_of_ble_eq_true rfl) dX5_readFrom_49 ⟨Nat.le_of_ble_eq_true rfl, Nat.le_of_ble_eq_true rfl⟩) hA hF (fun σ_8 H locs hW hF pσ_8 => ?_)
            try dsimp only at pσ_8
            obtain ⟨pσ_8, fpσ_8⟩ := pσ_8
            have hR := fr_call hR fpσ_8 (by decide)
            exact hRet 52 _ _ _ _ dX5_readFrom_52 hW hF ⟨trivial, hR⟩
        · refine lv_aload_n hx hb dX5_readFrom_19 rfl (lv_at hl 0 rfl) ?_
          refine lv_aload_n hx hb dX5_readFrom_20 rfl (lv_at hl 1 rfl) ?_
          refine lv_iload_n hx hb dX5_readFrom_21 rfl (lv_at hl 3 rfl) ?_
          refine j_cV (j_runV (As := [.ref a1, .int (jI v3_9)]) (rest := []) hx hb hml hown hts hK hS hW (kX5_readItem l hS σ_9 (a0 := a0) (h0 := h0) (a1 := a1) (h1 := h1) (x2 := v3_9) (r2 := (by omega)) (q0 := (by omega)) (q1 := (by omega))) 2 gX5_readFrom_X5_readItem rfl hvX5_readItem ⟨Nat.le_of_ble_eq_true rfl, Nat.le_of_ble_eq_true rfl⟩ rfl rfl h0 rfl rfl rfl rfl hl.1 rfl (Nat.le_of_ble_eq_true rfl) dX5_readFrom_22 ⟨Nat.le_of_ble_eq_true rfl, Nat.le_of_ble_eq_true rfl⟩) hA hF (fun σ_9 H locs hW hF pσ_9 => ?_)
          try dsimp only at pσ_9
          obtain ⟨pσ_9, fpσ_9⟩ := pσ_9
          have hR := fr_call hR fpσ_9 (by decide)
          refine lv_aload_n hx hb dX5_readFrom_25 rfl (lv_at hl 0 rfl) ?_
          refine lv_iload_n hx hb dX5_readFrom_26 rfl (lv_at hl 3 rfl) ?_
          refine j_const hx hb dX5_readFrom_27 ?_
          refine j_add hx hb dX5_readFrom_28 ?_
          refine j_putI hx hb (C := RX5) (T := TX5) (N := 5) hts inX5_readFrom_X5 tyX5 tyX5_ok nmX5 hown hK hS hA hW hF h0 rfl 4 (lo := -2147483648) (hi := 2147483647) rfl rfl (by decide) (hts _ flX5_readFrom_28) rfl .int rfl (by omega) rfl rfl dX5_readFrom_29 (fun σ_10 H locs e_11 hW hF => ?_)
          have hR := fr_up hR e_11 h0 6004 rfl (by decide)
          have : σ_10 a0 4 = v3_9 + 1 := by rw [e_11]; exact up2_at _ _ _ _
          refine lv_aload_n hx hb dX5_readFrom_32 rfl (lv_at hl 1 rfl) ?_
          refine j_cI (j_runV (As := []) (rest := []) hx hb hml hown hts hK hS hW (kX7_readBreak l hS σ_10 (a0 := a1) (h0 := h1)) 0 gX5_readFrom_X7_readBreak rfl hvX7_readBreak ⟨Nat.le_of_ble_eq_true rfl, Nat.le_of_ble_eq_true rfl⟩ rfl rfl h1 rfl rfl rfl rfl hl.1 rfl (Nat.le_of_ble_eq_true rfl) dX5_readFrom_33 ⟨Nat.le_of_ble_eq_true rfl, Nat.le_of_ble_eq_true rfl⟩) hA hF (fun v_12 σ_13 H locs hW hF rv_12 pv_12 => ?_)
          try dsimp only at pv_12
          obtain ⟨bpv_12, pv_12, fpv_12⟩ := pv_12
          have hR := fr_call hR fpv_12 (by decide)
          refine lv_istore_n (lv' := [(2, .int (jI v_12)), (0, .ref a0), (1, .ref a1), (3, .int (jI v3_9))]) hx hb dX5_readFrom_36 rfl hl (by decide) rfl (fun ls hl => ?_)
          refine j_iinc (lv' := [(3, .int (jI (v3_9 + 1))), (2, .int (jI v_12)), (0, .ref a0), (1, .ref a1)]) hx hb dX5_readFrom_37 hl (k := 3) rfl (by decide) rfl (fun ls hl => ?_)
          refine lv_goto (tgt := 9) hx hb dX5_readFrom_40 (by decide) ?_
          exact ih_9 ((2147483647 - (v3_9 + 1) : Int).toNat) (by omega) v_12 (v3_9 + 1) σ_13 _ _ _ rfl (by omega) (by omega) (by omega) (by omega) hW hF hR (lv_sub hl [2, 3, 1, 0] rfl)
  exact L_9 ((2147483647 - 0 : Int).toNat) 1 0 σ_1 _ _ _ rfl (by omega) (by omega) (by decide) (by decide) hW hF hR (lv_sub hl [2, 3, 1, 0] rfl)
abbrev wr_X5_doOn : List Nat := [4003, 11005, 11006, 11007, 11008, 22000, 23000, 24000, 25000, 26000]
theorem flX5_doOn_9 : Cond.fieldLink RX5 9 "PageTrie$Orders" "kinds" "[I" ∈ wsX5_doOn := List.mem_of_getElem? (i := 2) rfl
theorem flX5_doOn_15 : Cond.fieldLink RX5 15 "PageTrie$Orders" "numbers" "[I" ∈ wsX5_doOn := List.mem_of_getElem? (i := 4) rfl
theorem flX5_doOn_20 : Cond.fieldLink RX5 20 "PageTrie$Orders" "firsts" "[LPageTrie$Key;" ∈ wsX5_doOn := List.mem_of_getElem? (i := 3) rfl
theorem flX5_doOn_24 : Cond.fieldLink RX5 24 "PageTrie$Orders" "lasts" "[LPageTrie$Key;" ∈ wsX5_doOn := List.mem_of_getElem? (i := 5) rfl
theorem flX5_doOn_28 : Cond.fieldLink RX5 28 "PageTrie$Orders" "size" "I" ∈ wsX5_doOn := List.mem_of_getElem? (i := 1) rfl
theorem inX5_doOn_X5 : ∀ w ∈ u_ws RX5 TX5 5, w ∈ wsX5_doOn := mem_r _ [176, 177, 178, 179, 180] rfl
theorem hvX5_doOn : yX5_doOn.cls = RX5 ∧ yX5_doOn.cls ≠ "java/lang/invoke/MethodHandle" ∧ yX5_doOn.cls ≠ "java/lang/invoke/VarHandle" ∧ (parseMethodDescriptor yX5_doOn.desc).map (fun d => d.parameters.length) = some 1 := by decide +kernel
set_option maxHeartbeats 4000000 in
set_option maxRecDepth 100000 in
theorem kX5_doOn (l : Launch) {D : va_G} {cA : Nat → ClassId} {τ : Nat → Nat} {G : Nat → Nat → Nat} {L : List Nat} (hS : SW τ G L) (σ : Nat → Nat → Int) {a0 : Nat} (h0 : τ a0 = 6) {a1 : Nat} (h1 : τ a1 = 11) : Met l yX5_doOn wsX5_doOn ({ frames := 5, cells := 0, slots := 0, locals := 124 }) (jP D cA τ G L σ [.ref a0, .ref a1]) (jQI D cA τ G L (fun r σ' => (True) ∧ fr wr_X5_doOn τ σ σ')) 0 0 (fun q => q ∈ L) := by
  refine j_metI (by decide +kernel) rfl (Nat.le_of_ble_eq_true rfl) ?_
  intro p e s m args below meth c Q hx hb hml hown hts hK hW hRet ls hl
  have hl : lv_has ls 4 [(0, .ref a0), (1, .ref a1)] := hl
  have hA : ∀ q ∈ L, (fun q => q ∈ L) q := fun _ h => h
  have hF : va_S (fun q => q ∈ L) s.heap s.heap [] := va_S.rf
  have hR : fr wr_X5_doOn τ σ σ := fr_rf
  refine j_const hx hb dX5_doOn_0 ?_
  refine lv_istore_n (lv' := [(2, .int (jI 0)), (0, .ref a0), (1, .ref a1)]) hx hb dX5_doOn_1 rfl hl (by decide) rfl (fun ls hl => ?_)
  have L_2 : ∀ (N : Nat) (v2_2 : Int) (σ_2 : Nat → Nat → Int) (H : Heap) (locs : List Loc) (ls : Array Slot), N = (2147483647 - v2_2 : Int).toNat → (0 ≤ v2_2) → rg v2_2 → PW D cA τ G L σ_2 H → va_S (fun q => q ∈ L) s.heap H locs → fr wr_X5_doOn τ σ σ_2 → lv_has ls 4 [(0, .ref a0), (1, .ref a1), (2, .int (jI v2_2))] → W p l e ({ frames := 5, cells := 0, slots := 0, locals := 124 }) s m args below meth c H locs 0 0 Q (F0 m 2 ls []) := by
    intro N
    induction N using Nat.strongRecOn with
    | ind N ih_2 =>
      intro v2_2 σ_2 H locs ls hN i0_2 rv2_2 hW hF hR hl
      refine lv_iload_n hx hb dX5_doOn_2 rfl (lv_at hl 2 rfl) ?_
      refine lv_aload_n hx hb dX5_doOn_3 rfl (lv_at hl 0 rfl) ?_
      refine j_getI hx hb (C := RX5) (T := TX5) (N := 5) hts inX5_doOn_X5 hown hK hS hW h0 rfl 4 rfl rfl (by decide) (hts _ flX5_doOn_28) dX5_doOn_4 ?_
      have := fbd hW h0 (k := 4) (lo := -2147483648) (hi := 2147483647) rfl rfl
      refine j_icmp_ge (tgt := 129) hx hb (by omega) (by omega) dX5_doOn_7 (by decide) (fun c_1 => ?_) (fun c_1 => ?_)
      · refine lv_aload_n hx hb dX5_doOn_129 rfl (lv_at hl 0 rfl) ?_
        refine j_getI hx hb (C := RX5) (T := TX5) (N := 5) hts inX5_doOn_X5 hown hK hS hW h0 rfl 4 rfl rfl (by decide) (hts _ flX5_doOn_28) dX5_doOn_130 ?_
        exact hRet 133 _ _ _ (σ_2 a0 4) _ dX5_doOn_133 hW hF (by omega) ⟨trivial, hR⟩
      · refine lv_iload_n hx hb dX5_doOn_10 rfl (lv_at hl 2 rfl) ?_
        refine j_bi hx hb dX5_doOn_11 (by decide) ?_
        refine j_icmp_ge (tgt := 129) hx hb (by omega) (by decide) dX5_doOn_13 (by decide) (fun c_2 => ?_) (fun c_2 => ?_)
        · refine lv_aload_n hx hb dX5_doOn_129 rfl (lv_at hl 0 rfl) ?_
          refine j_getI hx hb (C := RX5) (T := TX5) (N := 5) hts inX5_doOn_X5 hown hK hS hW h0 rfl 4 rfl rfl (by decide) (hts _ flX5_doOn_28) dX5_doOn_130 ?_
          exact hRet 133 _ _ _ (σ_2 a0 4) _ dX5_doOn_133 hW hF (by omega) ⟨trivial, hR⟩
        · refine lv_aload_n hx hb dX5_doOn_16 rfl (lv_at hl 0 rfl) ?_
          refine j_getR hx hb (C := RX5) (T := TX5) (N := 5) hts inX5_doOn_X5 hown hK hS hW h0 rfl 0 rfl rfl (by decide) (hts _ flX5_doOn_9) dX5_doOn_17 ?_
          have h_3 : τ (G a0 0) = 27 := gty hS h0 (k := 0) rfl rfl
          refine lv_iload_n hx hb dX5_doOn_20 rfl (lv_at hl 2 rfl) ?_
          refine j_ald hx hb hK hS hW h_3 (n := 20) rfl (by omega) (by omega) (by decide) dX5_doOn_21 ?_
          have := abd hW h_3 (n := 20) (lo := -2147483648) (hi := 2147483647) (i := v2_2) rfl (by omega) (by omega)
          refine j_bi hx hb dX5_doOn_22 (by decide) ?_
          refine j_icmp_ne (tgt := 57) hx hb (by omega) (by decide) dX5_doOn_24 (by decide) (fun c_4 => ?_) (fun c_4 => ?_)
          · refine lv_aload_n hx hb dX5_doOn_57 rfl (lv_at hl 0 rfl) ?_
            refine j_getR hx hb (C := RX5) (T := TX5) (N := 5) hts inX5_doOn_X5 hown hK hS hW h0 rfl 0 rfl rfl (by decide) (hts _ flX5_doOn_9) dX5_doOn_58 ?_
            refine lv_iload_n hx hb dX5_doOn_61 rfl (lv_at hl 2 rfl) ?_
            refine j_ald hx hb hK hS hW h_3 (n := 20) rfl (by omega) (by omega) (by decide) dX5_doOn_62 ?_
            refine j_bi hx hb dX5_doOn_63 (by decide) ?_
            refine j_icmp_ne (tgt := 92) hx hb (by omega) (by decide) dX5_doOn_65 (by decide) (fun c_5 => ?_) (fun c_5 => ?_)
            · refine lv_aload_n hx hb dX5_doOn_92 rfl (lv_at hl 1 rfl) ?_
              refine lv_aload_n hx hb dX5_doOn_93 rfl (lv_at hl 0 rfl) ?_
              refine j_getR hx hb (C := RX5) (T := TX5) (N := 5) hts inX5_doOn_X5 hown hK hS hW h0 rfl 2 rfl rfl (by decide) (hts _ flX5_doOn_20) dX5_doOn_94 ?_
              have h_6 : τ (G a0 2) = 30 := gty hS h0 (k := 2) rfl rfl
              refine lv_iload_n hx hb dX5_doOn_97 rfl (lv_at hl 2 rfl) ?_
              refine j_aald hx hb hK hS hW h_6 (n := 20) rfl rfl (by omega) (by omega) (by decide) dX5_doOn_98 ?_
              have h_7 : τ (G (G a0 2) (v2_2).toNat) = 3 := gtyR hS h_6 (n := 20) rfl (by omega) (by omega)
              refine lv_aload_n hx hb dX5_doOn_99 rfl (lv_at hl 0 rfl) ?_
              refine j_getR hx hb (C := RX5) (T := TX5) (N := 5) hts inX5_doOn_X5 hown hK hS hW h0 rfl 3 rfl rfl (by decide) (hts _ flX5_doOn_24) dX5_doOn_100 ?_
              have h_8 : τ (G a0 3) = 30 := gty hS h0 (k := 3) rfl rfl
              refine lv_iload_n hx hb dX5_doOn_103 rfl (lv_at hl 2 rfl) ?_
              refine j_aald hx hb hK hS hW h_8 (n := 20) rfl rfl (by omega) (by omega) (by decide) dX5_doOn_104 ?_
              have h_9 : τ (G (G a0 3) (v2_2).toNat) = 3 := gtyR hS h_8 (n := 20) rfl (by omega) (by omega)
              refine j_cI (j_runV (As := [.ref (G (G a0 2) (v2_2).toNat), .ref (G (G a0 3) (v2_2).toNat)]) (rest := []) hx hb hml hown hts hK hS hW (kX10_removeFromTo l hS σ_2 (a0 := a1) (h0 := h1) (a1 := G (G a0 2) (v2_2).toNat) (h1 := h_7) (a2 := G (G a0 3) (v2_2).toNat) (h2 := h_9)) 2 gX5_doOn_X10_removeFromTo rfl hvX10_removeFromTo ⟨Nat.le_of_ble_eq_true rfl, Nat.le_of_ble_eq_true rfl⟩ rfl rfl h1 rfl rfl rfl rfl hl.1 rfl (Nat.le_of_ble_eq_true rfl) dX5_doOn_105 ⟨Nat.le_of_ble_eq_true rfl, Nat.le_of_ble_eq_true rfl⟩) hA hF (fun v_10 σ_11 H locs hW hF rv_10 pv_10 => ?_)
              try dsimp only at pv_10
              obtain ⟨pv_10, fpv_10⟩ := pv_10
              have hR := fr_call hR fpv_10 (by decide)
              refine j_if_le (tgt := 115) hx hb (by omega) dX5_doOn_108 (by decide) (fun c_12 => ?_) (fun c_12 => ?_)
              · refine j_const hx hb dX5_doOn_115 ?_
                refine lv_istore_n (lv' := [(3, .int (jI 0)), (0, .ref a0), (1, .ref a1), (2, .int (jI v2_2))]) hx hb dX5_doOn_116 rfl hl (by decide) rfl (fun ls hl => ?_)
                refine lv_iload_n hx hb dX5_doOn_117 rfl (lv_at hl 0 rfl) ?_
                refine j_if_ne (tgt := 123) hx hb (by decide) dX5_doOn_118 (by decide) (fun h => absurd h (by decide)) (fun _ => ?_)
                refine lv_iload_n hx hb dX5_doOn_121 rfl (lv_at hl 3 rfl) ?_
                exact hRet 122 _ _ _ v2_2 _ dX5_doOn_122 hW hF (by omega) ⟨trivial, hR⟩
              · refine j_const hx hb dX5_doOn_111 ?_
                refine lv_goto (tgt := 116) hx hb dX5_doOn_112 (by decide) ?_
                refine lv_istore_n (lv' := [(3, .int (jI 1)), (0, .ref a0), (1, .ref a1), (2, .int (jI v2_2))]) hx hb dX5_doOn_116 rfl hl (by decide) rfl (fun ls hl => ?_)
                refine lv_iload_n hx hb dX5_doOn_117 rfl (lv_at hl 0 rfl) ?_
                refine j_if_ne (tgt := 123) hx hb (by decide) dX5_doOn_118 (by decide) (fun _ => ?_) (fun h => absurd h (by decide))
                refine j_iinc (lv' := [(2, .int (jI (v2_2 + 1))), (3, .int (jI 1)), (0, .ref a0), (1, .ref a1)]) hx hb dX5_doOn_123 hl (k := 3) rfl (by decide) rfl (fun ls hl => ?_)
                refine lv_goto (tgt := 2) hx hb dX5_doOn_126 (by decide) ?_
                exact ih_2 ((2147483647 - (v2_2 + 1) : Int).toNat) (by omega) (v2_2 + 1) σ_11 _ _ _ rfl (by omega) (by omega) hW hF hR (lv_sub hl [2, 3, 0] rfl)
            · refine lv_aload_n hx hb dX5_doOn_68 rfl (lv_at hl 1 rfl) ?_
              refine lv_aload_n hx hb dX5_doOn_69 rfl (lv_at hl 0 rfl) ?_
              refine j_getR hx hb (C := RX5) (T := TX5) (N := 5) hts inX5_doOn_X5 hown hK hS hW h0 rfl 2 rfl rfl (by decide) (hts _ flX5_doOn_20) dX5_doOn_70 ?_
              have h_15 : τ (G a0 2) = 30 := gty hS h0 (k := 2) rfl rfl
              refine lv_iload_n hx hb dX5_doOn_73 rfl (lv_at hl 2 rfl) ?_
              refine j_aald hx hb hK hS hW h_15 (n := 20) rfl rfl (by omega) (by omega) (by decide) dX5_doOn_74 ?_
              have h_16 : τ (G (G a0 2) (v2_2).toNat) = 3 := gtyR hS h_15 (n := 20) rfl (by omega) (by omega)
              refine j_cI (j_runV (As := [.ref (G (G a0 2) (v2_2).toNat)]) (rest := []) hx hb hml hown hts hK hS hW (kX10_removeKey l hS σ_2 (a0 := a1) (h0 := h1) (a1 := G (G a0 2) (v2_2).toNat) (h1 := h_16)) 1 gX5_doOn_X10_removeKey rfl hvX10_removeKey ⟨Nat.le_of_ble_eq_true rfl, Nat.le_of_ble_eq_true rfl⟩ rfl rfl h1 rfl rfl rfl rfl hl.1 rfl (Nat.le_of_ble_eq_true rfl) dX5_doOn_75 ⟨Nat.le_of_ble_eq_true rfl, Nat.le_of_ble_eq_true rfl⟩) hA hF (fun v_17 σ_18 H locs hW hF rv_17 pv_17 => ?_)
              try dsimp only at pv_17
              obtain ⟨pv_17, fpv_17⟩ := pv_17
              have hR := fr_call hR fpv_17 (by decide)
              refine j_bi hx hb dX5_doOn_78 (by decide) ?_
              refine j_icmp_eq (tgt := 87) hx hb (by omega) (by decide) dX5_doOn_80 (by decide) (fun c_19 => ?_) (fun c_19 => ?_)
              · refine j_const hx hb dX5_doOn_87 ?_
                refine lv_istore_n (lv' := [(3, .int (jI 0)), (0, .ref a0), (1, .ref a1), (2, .int (jI v2_2))]) hx hb dX5_doOn_88 rfl hl (by decide) rfl (fun ls hl => ?_)
                refine lv_goto (tgt := 117) hx hb dX5_doOn_89 (by decide) ?_
                refine lv_iload_n hx hb dX5_doOn_117 rfl (lv_at hl 0 rfl) ?_
                refine j_if_ne (tgt := 123) hx hb (by decide) dX5_doOn_118 (by decide) (fun h => absurd h (by decide)) (fun _ => ?_)
                refine lv_iload_n hx hb dX5_doOn_121 rfl (lv_at hl 3 rfl) ?_
                exact hRet 122 _ _ _ v2_2 _ dX5_doOn_122 hW hF (by omega) ⟨trivial, hR⟩
              · refine j_const hx hb dX5_doOn_83 ?_
                refine lv_goto (tgt := 88) hx hb dX5_doOn_84 (by decide) ?_
                refine lv_istore_n (lv' := [(3, .int (jI 1)), (0, .ref a0), (1, .ref a1), (2, .int (jI v2_2))]) hx hb dX5_doOn_88 rfl hl (by decide) rfl (fun ls hl => ?_)
                refine lv_goto (tgt := 117) hx hb dX5_doOn_89 (by decide) ?_
                refine lv_iload_n hx hb dX5_doOn_117 rfl (lv_at hl 0 rfl) ?_
                refine j_if_ne (tgt := 123) hx hb (by decide) dX5_doOn_118 (by decide) (fun _ => ?_) (fun h => absurd h (by decide))
                refine j_iinc (lv' := [(2, .int (jI (v2_2 + 1))), (3, .int (jI 1)), (0, .ref a0), (1, .ref a1)]) hx hb dX5_doOn_123 hl (k := 3) rfl (by decide) rfl (fun ls hl => ?_)
                refine lv_goto (tgt := 2) hx hb dX5_doOn_126 (by decide) ?_
                exact ih_2 ((2147483647 - (v2_2 + 1) : Int).toNat) (by omega) (v2_2 + 1) σ_18 _ _ _ rfl (by omega) (by omega) hW hF hR (lv_sub hl [2, 3, 0] rfl)
          · refine lv_aload_n hx hb dX5_doOn_27 rfl (lv_at hl 1 rfl) ?_
            refine lv_aload_n hx hb dX5_doOn_28 rfl (lv_at hl 0 rfl) ?_
            refine j_getR hx hb (C := RX5) (T := TX5) (N := 5) hts inX5_doOn_X5 hown hK hS hW h0 rfl 2 rfl rfl (by decide) (hts _ flX5_doOn_20) dX5_doOn_29 ?_
            have h_22 : τ (G a0 2) = 30 := gty hS h0 (k := 2) rfl rfl
            refine lv_iload_n hx hb dX5_doOn_32 rfl (lv_at hl 2 rfl) ?_
            refine j_aald hx hb hK hS hW h_22 (n := 20) rfl rfl (by omega) (by omega) (by decide) dX5_doOn_33 ?_
            have h_23 : τ (G (G a0 2) (v2_2).toNat) = 3 := gtyR hS h_22 (n := 20) rfl (by omega) (by omega)
            refine lv_aload_n hx hb dX5_doOn_34 rfl (lv_at hl 0 rfl) ?_
            refine j_getR hx hb (C := RX5) (T := TX5) (N := 5) hts inX5_doOn_X5 hown hK hS hW h0 rfl 1 rfl rfl (by decide) (hts _ flX5_doOn_15) dX5_doOn_35 ?_
            have h_24 : τ (G a0 1) = 27 := gty hS h0 (k := 1) rfl rfl
            refine lv_iload_n hx hb dX5_doOn_38 rfl (lv_at hl 2 rfl) ?_
            refine j_ald hx hb hK hS hW h_24 (n := 20) rfl (by omega) (by omega) (by decide) dX5_doOn_39 ?_
            have := abd hW h_24 (n := 20) (lo := -2147483648) (hi := 2147483647) (i := v2_2) rfl (by omega) (by omega)
            refine j_cI (j_runV (As := [.ref (G (G a0 2) (v2_2).toNat), .int (jI (σ_2 (G a0 1) (v2_2).toNat))]) (rest := []) hx hb hml hown hts hK hS hW (kX10_insertKey l hS σ_2 (a0 := a1) (h0 := h1) (a1 := G (G a0 2) (v2_2).toNat) (h1 := h_23) (x2 := σ_2 (G a0 1) (v2_2).toNat) (r2 := (by omega))) 2 gX5_doOn_X10_insertKey rfl hvX10_insertKey ⟨Nat.le_of_ble_eq_true rfl, Nat.le_of_ble_eq_true rfl⟩ rfl rfl h1 rfl rfl rfl rfl hl.1 rfl (Nat.le_of_ble_eq_true rfl) dX5_doOn_40 ⟨Nat.le_of_ble_eq_true rfl, Nat.le_of_ble_eq_true rfl⟩) hA hF (fun v_25 σ_26 H locs hW hF rv_25 pv_25 => ?_)
            try dsimp only at pv_25
            obtain ⟨pv_25, fpv_25⟩ := pv_25
            have hR := fr_call hR fpv_25 (by decide)
            refine j_bi hx hb dX5_doOn_43 (by decide) ?_
            refine j_icmp_eq (tgt := 52) hx hb (by omega) (by decide) dX5_doOn_45 (by decide) (fun c_27 => ?_) (fun c_27 => ?_)
            · refine j_const hx hb dX5_doOn_52 ?_
              refine lv_istore_n (lv' := [(3, .int (jI 0)), (0, .ref a0), (1, .ref a1), (2, .int (jI v2_2))]) hx hb dX5_doOn_53 rfl hl (by decide) rfl (fun ls hl => ?_)
              refine lv_goto (tgt := 117) hx hb dX5_doOn_54 (by decide) ?_
              refine lv_iload_n hx hb dX5_doOn_117 rfl (lv_at hl 0 rfl) ?_
              refine j_if_ne (tgt := 123) hx hb (by decide) dX5_doOn_118 (by decide) (fun h => absurd h (by decide)) (fun _ => ?_)
              refine lv_iload_n hx hb dX5_doOn_121 rfl (lv_at hl 3 rfl) ?_
              exact hRet 122 _ _ _ v2_2 _ dX5_doOn_122 hW hF (by omega) ⟨trivial, hR⟩
            · refine j_const hx hb dX5_doOn_48 ?_
              refine lv_goto (tgt := 53) hx hb dX5_doOn_49 (by decide) ?_
              refine lv_istore_n (lv' := [(3, .int (jI 1)), (0, .ref a0), (1, .ref a1), (2, .int (jI v2_2))]) hx hb dX5_doOn_53 rfl hl (by decide) rfl (fun ls hl => ?_)
              refine lv_goto (tgt := 117) hx hb dX5_doOn_54 (by decide) ?_
              refine lv_iload_n hx hb dX5_doOn_117 rfl (lv_at hl 0 rfl) ?_
              refine j_if_ne (tgt := 123) hx hb (by decide) dX5_doOn_118 (by decide) (fun _ => ?_) (fun h => absurd h (by decide))
              refine j_iinc (lv' := [(2, .int (jI (v2_2 + 1))), (3, .int (jI 1)), (0, .ref a0), (1, .ref a1)]) hx hb dX5_doOn_123 hl (k := 3) rfl (by decide) rfl (fun ls hl => ?_)
              refine lv_goto (tgt := 2) hx hb dX5_doOn_126 (by decide) ?_
              exact ih_2 ((2147483647 - (v2_2 + 1) : Int).toNat) (by omega) (v2_2 + 1) σ_26 _ _ _ rfl (by omega) (by omega) hW hF hR (lv_sub hl [2, 3, 0] rfl)
  exact L_2 ((2147483647 - 0 : Int).toNat) 0 σ _ _ _ rfl (by omega) (by decide) hW hF hR (lv_sub hl [1, 2, 0] rfl)
abbrev wr_X6_copyFrom : List Nat := [3001, 7003, 20000, 28000]
theorem flX6_copyFrom_9 : Cond.fieldLink RX6 9 "PageTrie$Query" "kinds" "[I" ∈ wsX6_copyFrom := List.mem_of_getElem? (i := 1) rfl
theorem flX6_copyFrom_15 : Cond.fieldLink RX6 15 "PageTrie$Query" "numbers" "[I" ∈ wsX6_copyFrom := List.mem_of_getElem? (i := 6) rfl
theorem flX6_copyFrom_20 : Cond.fieldLink RX6 20 "PageTrie$Query" "beginnings" "[LPageTrie$Key;" ∈ wsX6_copyFrom := List.mem_of_getElem? (i := 7) rfl
theorem flX6_copyFrom_25 : Cond.fieldLink RX6 25 "PageTrie$Query" "size" "I" ∈ wsX6_copyFrom := List.mem_of_getElem? (i := 8) rfl
theorem inX6_copyFrom_X6 : ∀ w ∈ u_ws RX6 TX6 4, w ∈ wsX6_copyFrom := mem_r _ [17, 18, 19, 20] rfl
theorem hvX6_copyFrom : yX6_copyFrom.cls = RX6 ∧ yX6_copyFrom.cls ≠ "java/lang/invoke/MethodHandle" ∧ yX6_copyFrom.cls ≠ "java/lang/invoke/VarHandle" ∧ (parseMethodDescriptor yX6_copyFrom.desc).map (fun d => d.parameters.length) = some 1 := by decide +kernel
set_option maxHeartbeats 4000000 in
set_option maxRecDepth 100000 in
theorem kX6_copyFrom (l : Launch) {D : va_G} {cA : Nat → ClassId} {τ : Nat → Nat} {G : Nat → Nat → Nat} {L : List Nat} (hS : SW τ G L) (σ : Nat → Nat → Int) {a0 : Nat} (h0 : τ a0 = 7) {a1 : Nat} (h1 : τ a1 = 7) : Met l yX6_copyFrom wsX6_copyFrom ({ frames := 2, cells := 0, slots := 0, locals := 61 }) (jP D cA τ G L σ [.ref a0, .ref a1]) (jQV D cA τ G L (fun σ' => (True) ∧ fr wr_X6_copyFrom τ σ σ')) 0 0 (fun q => q ∈ L) := by
  refine j_metV (by decide +kernel) rfl (Nat.le_of_ble_eq_true rfl) ?_
  intro p e s m args below meth c Q hx hb hml hown hts hK hW hRet ls hl
  have hl : lv_has ls 3 [(0, .ref a0), (1, .ref a1)] := hl
  have hA : ∀ q ∈ L, (fun q => q ∈ L) q := fun _ h => h
  have hF : va_S (fun q => q ∈ L) s.heap s.heap [] := va_S.rf
  have hR : fr wr_X6_copyFrom τ σ σ := fr_rf
  refine lv_aload_n hx hb dX6_copyFrom_0 rfl (lv_at hl 1 rfl) ?_
  refine j_getR hx hb (C := RX6) (T := TX6) (N := 4) hts inX6_copyFrom_X6 hown hK hS hW h1 rfl 0 rfl rfl (by decide) (hts _ flX6_copyFrom_9) dX6_copyFrom_1 ?_
  have h_1 : τ (G a1 0) = 28 := gty hS h1 (k := 0) rfl rfl
  refine j_const hx hb dX6_copyFrom_4 ?_
  refine lv_aload_n hx hb dX6_copyFrom_5 rfl (lv_at hl 0 rfl) ?_
  refine j_getR hx hb (C := RX6) (T := TX6) (N := 4) hts inX6_copyFrom_X6 hown hK hS hW h0 rfl 0 rfl rfl (by decide) (hts _ flX6_copyFrom_9) dX6_copyFrom_6 ?_
  have h_2 : τ (G a0 0) = 28 := gty hS h0 (k := 0) rfl rfl
  refine j_const hx hb dX6_copyFrom_9 ?_
  refine j_bi hx hb dX6_copyFrom_10 (by decide) ?_
  refine j_copy hx hb (hml.trans hl.1.symm) hown (hts (.methodLink RX6 29 arraycopyName) (by decide +kernel)) (hts (.native arraycopyName) (by decide +kernel)) (hts (.static arraycopyName) (by decide +kernel)) (hts (.initialized "java/lang/System") (by decide +kernel)) hK hS hA hW hF (ty := .int) h_1 h_2 (n0 := 8) (n1 := 8) rfl rfl rfl (Or.inr (Or.inl rfl)) (by decide) (by decide) (sp := 0) (dp := 0) (n := 8) (by omega) (by omega) (by omega) (by omega) (by omega) (Nat.le_of_ble_eq_true rfl) (Nat.le_of_ble_eq_true rfl) dX6_copyFrom_12 (fun σ_3 H locs e_4 hW hF => ?_)
  have hR := fr_cp hR e_4 h_2 28000 (cdA 28 (by decide)) (by decide)
  refine lv_aload_n hx hb dX6_copyFrom_15 rfl (lv_at hl 1 rfl) ?_
  refine j_getR hx hb (C := RX6) (T := TX6) (N := 4) hts inX6_copyFrom_X6 hown hK hS hW h1 rfl 1 rfl rfl (by decide) (hts _ flX6_copyFrom_15) dX6_copyFrom_16 ?_
  have h_5 : τ (G a1 1) = 28 := gty hS h1 (k := 1) rfl rfl
  refine j_const hx hb dX6_copyFrom_19 ?_
  refine lv_aload_n hx hb dX6_copyFrom_20 rfl (lv_at hl 0 rfl) ?_
  refine j_getR hx hb (C := RX6) (T := TX6) (N := 4) hts inX6_copyFrom_X6 hown hK hS hW h0 rfl 1 rfl rfl (by decide) (hts _ flX6_copyFrom_15) dX6_copyFrom_21 ?_
  have h_6 : τ (G a0 1) = 28 := gty hS h0 (k := 1) rfl rfl
  refine j_const hx hb dX6_copyFrom_24 ?_
  refine j_bi hx hb dX6_copyFrom_25 (by decide) ?_
  refine j_copy hx hb (hml.trans hl.1.symm) hown (hts (.methodLink RX6 29 arraycopyName) (by decide +kernel)) (hts (.native arraycopyName) (by decide +kernel)) (hts (.static arraycopyName) (by decide +kernel)) (hts (.initialized "java/lang/System") (by decide +kernel)) hK hS hA hW hF (ty := .int) h_5 h_6 (n0 := 8) (n1 := 8) rfl rfl rfl (Or.inr (Or.inl rfl)) (by decide) (by decide) (sp := 0) (dp := 0) (n := 8) (by omega) (by omega) (by omega) (by omega) (by omega) (Nat.le_of_ble_eq_true rfl) (Nat.le_of_ble_eq_true rfl) dX6_copyFrom_27 (fun σ_7 H locs e_8 hW hF => ?_)
  have hR := fr_cp hR e_8 h_6 28000 (cdA 28 (by decide)) (by decide)
  refine j_const hx hb dX6_copyFrom_30 ?_
  refine lv_istore_n (lv' := [(2, .int (jI 0)), (0, .ref a0), (1, .ref a1)]) hx hb dX6_copyFrom_31 rfl hl (by decide) rfl (fun ls hl => ?_)
  have L_32 : ∀ (N : Nat) (v2_32 : Int) (σ_32 : Nat → Nat → Int) (H : Heap) (locs : List Loc) (ls : Array Slot), N = (2147483647 - v2_32 : Int).toNat → (0 ≤ v2_32) → (v2_32 ≤ 8) → rg v2_32 → PW D cA τ G L σ_32 H → va_S (fun q => q ∈ L) s.heap H locs → fr wr_X6_copyFrom τ σ σ_32 → lv_has ls 3 [(0, .ref a0), (1, .ref a1), (2, .int (jI v2_32))] → W p l e ({ frames := 2, cells := 0, slots := 0, locals := 61 }) s m args below meth c H locs 0 0 Q (F0 m 32 ls []) := by
    intro N
    induction N using Nat.strongRecOn with
    | ind N ih_32 =>
      intro v2_32 σ_32 H locs ls hN i0_32 i1_32 rv2_32 hW hF hR hl
      refine lv_iload_n hx hb dX6_copyFrom_32 rfl (lv_at hl 2 rfl) ?_
      refine j_bi hx hb dX6_copyFrom_33 (by decide) ?_
      refine j_icmp_ge (tgt := 59) hx hb (by omega) (by decide) dX6_copyFrom_35 (by decide) (fun c_9 => ?_) (fun c_9 => ?_)
      · refine lv_aload_n hx hb dX6_copyFrom_59 rfl (lv_at hl 0 rfl) ?_
        refine lv_aload_n hx hb dX6_copyFrom_60 rfl (lv_at hl 1 rfl) ?_
        refine j_getI hx hb (C := RX6) (T := TX6) (N := 4) hts inX6_copyFrom_X6 hown hK hS hW h1 rfl 3 rfl rfl (by decide) (hts _ flX6_copyFrom_25) dX6_copyFrom_61 ?_
        have := fbd hW h1 (k := 3) (lo := -2147483648) (hi := 2147483647) rfl rfl
        refine j_putI hx hb (C := RX6) (T := TX6) (N := 4) hts inX6_copyFrom_X6 tyX6 tyX6_ok nmX6 hown hK hS hA hW hF h0 rfl 3 (lo := -2147483648) (hi := 2147483647) rfl rfl (by decide) (hts _ flX6_copyFrom_25) rfl .int rfl (by omega) rfl rfl dX6_copyFrom_64 (fun σ_10 H locs e_11 hW hF => ?_)
        have hR := fr_up hR e_11 h0 7003 rfl (by decide)
        have : σ_10 a0 3 = σ_32 a1 3 := by rw [e_11]; exact up2_at _ _ _ _
        exact hRet 67 _ _ _ _ dX6_copyFrom_67 hW hF ⟨trivial, hR⟩
      · refine lv_aload_n hx hb dX6_copyFrom_38 rfl (lv_at hl 0 rfl) ?_
        refine j_getR hx hb (C := RX6) (T := TX6) (N := 4) hts inX6_copyFrom_X6 hown hK hS hW h0 rfl 2 rfl rfl (by decide) (hts _ flX6_copyFrom_20) dX6_copyFrom_39 ?_
        have h_12 : τ (G a0 2) = 31 := gty hS h0 (k := 2) rfl rfl
        refine lv_iload_n hx hb dX6_copyFrom_42 rfl (lv_at hl 2 rfl) ?_
        refine j_aald hx hb hK hS hW h_12 (n := 8) rfl rfl (by omega) (by omega) (by decide) dX6_copyFrom_43 ?_
        have h_13 : τ (G (G a0 2) (v2_32).toNat) = 3 := gtyR hS h_12 (n := 8) rfl (by omega) (by omega)
        refine lv_aload_n hx hb dX6_copyFrom_44 rfl (lv_at hl 1 rfl) ?_
        refine j_getR hx hb (C := RX6) (T := TX6) (N := 4) hts inX6_copyFrom_X6 hown hK hS hW h1 rfl 2 rfl rfl (by decide) (hts _ flX6_copyFrom_20) dX6_copyFrom_45 ?_
        have h_14 : τ (G a1 2) = 31 := gty hS h1 (k := 2) rfl rfl
        refine lv_iload_n hx hb dX6_copyFrom_48 rfl (lv_at hl 2 rfl) ?_
        refine j_aald hx hb hK hS hW h_14 (n := 8) rfl rfl (by omega) (by omega) (by decide) dX6_copyFrom_49 ?_
        have h_15 : τ (G (G a1 2) (v2_32).toNat) = 3 := gtyR hS h_14 (n := 8) rfl (by omega) (by omega)
        refine j_cV (j_runV (As := [.ref (G (G a1 2) (v2_32).toNat)]) (rest := []) hx hb hml hown hts hK hS hW (kX2_copyFrom l hS σ_32 (a0 := G (G a0 2) (v2_32).toNat) (h0 := h_13) (a1 := G (G a1 2) (v2_32).toNat) (h1 := h_15)) 1 gX6_copyFrom_X2_copyFrom rfl hvX2_copyFrom ⟨Nat.le_of_ble_eq_true rfl, Nat.le_of_ble_eq_true rfl⟩ rfl rfl h_13 rfl rfl rfl rfl hl.1 rfl (Nat.le_of_ble_eq_true rfl) dX6_copyFrom_50 ⟨Nat.le_of_ble_eq_true rfl, Nat.le_of_ble_eq_true rfl⟩) hA hF (fun σ_16 H locs hW hF pσ_16 => ?_)
        try dsimp only at pσ_16
        obtain ⟨pσ_16, fpσ_16⟩ := pσ_16
        have hR := fr_call hR fpσ_16 (by decide)
        refine j_iinc (lv' := [(2, .int (jI (v2_32 + 1))), (0, .ref a0), (1, .ref a1)]) hx hb dX6_copyFrom_53 hl (k := 2) rfl (by decide) rfl (fun ls hl => ?_)
        refine lv_goto (tgt := 32) hx hb dX6_copyFrom_56 (by decide) ?_
        exact ih_32 ((2147483647 - (v2_32 + 1) : Int).toNat) (by omega) (v2_32 + 1) σ_16 _ _ _ rfl (by omega) (by omega) (by omega) hW hF hR (lv_sub hl [1, 2, 0] rfl)
  exact L_32 ((2147483647 - 0 : Int).toNat) 0 σ_7 _ _ _ rfl (by omega) (by omega) (by decide) hW hF hR (lv_sub hl [1, 2, 0] rfl)
abbrev wr_X6_readStep : List Nat := [3001, 8001, 8003, 20000, 28000]
theorem flX6_readStep_9 : Cond.fieldLink RX6 9 "PageTrie$Query" "kinds" "[I" ∈ wsX6_readStep := List.mem_of_getElem? (i := 1) rfl
theorem flX6_readStep_15 : Cond.fieldLink RX6 15 "PageTrie$Query" "numbers" "[I" ∈ wsX6_readStep := List.mem_of_getElem? (i := 3) rfl
theorem flX6_readStep_20 : Cond.fieldLink RX6 20 "PageTrie$Query" "beginnings" "[LPageTrie$Key;" ∈ wsX6_readStep := List.mem_of_getElem? (i := 2) rfl
theorem inX6_readStep_X6 : ∀ w ∈ u_ws RX6 TX6 4, w ∈ wsX6_readStep := mem_r _ [64, 65, 66, 67] rfl
theorem hvX6_readStep : yX6_readStep.cls = RX6 ∧ yX6_readStep.cls ≠ "java/lang/invoke/MethodHandle" ∧ yX6_readStep.cls ≠ "java/lang/invoke/VarHandle" ∧ (parseMethodDescriptor yX6_readStep.desc).map (fun d => d.parameters.length) = some 2 := by decide +kernel
set_option maxHeartbeats 4000000 in
set_option maxRecDepth 100000 in
theorem kX6_readStep (l : Launch) {D : va_G} {cA : Nat → ClassId} {τ : Nat → Nat} {G : Nat → Nat → Nat} {L : List Nat} (hS : SW τ G L) (σ : Nat → Nat → Int) {a0 : Nat} (h0 : τ a0 = 7) {a1 : Nat} (h1 : τ a1 = 8) {x2 : Int} (r2 : rg x2) (q0 : 0 ≤ x2) (q1 : x2 < 8) : Met l yX6_readStep wsX6_readStep ({ frames := 4, cells := 0, slots := 0, locals := 88 }) (jP D cA τ G L σ [.ref a0, .ref a1, .int (jI x2)]) (jQV D cA τ G L (fun σ' => (True) ∧ fr wr_X6_readStep τ σ σ')) 0 0 (fun q => q ∈ L) := by
  refine j_metV (by decide +kernel) rfl (Nat.le_of_ble_eq_true rfl) ?_
  intro p e s m args below meth c Q hx hb hml hown hts hK hW hRet ls hl
  have hl : lv_has ls 4 [(0, .ref a0), (1, .ref a1), (2, .int (jI x2))] := hl
  have hA : ∀ q ∈ L, (fun q => q ∈ L) q := fun _ h => h
  have hF : va_S (fun q => q ∈ L) s.heap s.heap [] := va_S.rf
  have hR : fr wr_X6_readStep τ σ σ := fr_rf
  refine lv_aload_n hx hb dX6_readStep_0 rfl (lv_at hl 1 rfl) ?_
  refine j_cR (j_runV (As := []) (rest := []) hx hb hml hown hts hK hS hW (kX7_sign l hS σ (a0 := a1) (h0 := h1)) 0 gX6_readStep_X7_sign rfl hvX7_sign ⟨Nat.le_of_ble_eq_true rfl, Nat.le_of_ble_eq_true rfl⟩ rfl rfl h1 rfl rfl rfl rfl hl.1 rfl (Nat.le_of_ble_eq_true rfl) dX6_readStep_1 ⟨Nat.le_of_ble_eq_true rfl, Nat.le_of_ble_eq_true rfl⟩) (fun v_1 rv_1 pv_1 => ?_)
  try dsimp only at pv_1
  refine lv_istore_n (lv' := [(3, .int (jI v_1)), (0, .ref a0), (1, .ref a1), (2, .int (jI x2))]) hx hb dX6_readStep_4 rfl hl (by decide) rfl (fun ls hl => ?_)
  refine lv_aload_n hx hb dX6_readStep_5 rfl (lv_at hl 1 rfl) ?_
  refine j_getR hx hb (C := RX6) (T := TX6) (N := 4) hts inX6_readStep_X6 hown hK hS hW h0 rfl 0 rfl rfl (by decide) (hts _ flX6_readStep_9) dX6_readStep_6 ?_
  have h_2 : τ (G a0 0) = 28 := gty hS h0 (k := 0) rfl rfl
  refine lv_iload_n hx hb dX6_readStep_9 rfl (lv_at hl 3 rfl) ?_
  refine lv_iload_n hx hb dX6_readStep_10 rfl (lv_at hl 0 rfl) ?_
  refine j_ast hx hb hK hS hA hW hF h_2 (n := 8) (lo := -2147483648) (hi := 2147483647) rfl (by omega) (by omega) (by decide) (by omega) dX6_readStep_11 (fun σ_3 H locs e_4 hW hF => ?_)
  have hR := fr_up hR e_4 h_2 28000 (cdA 28 (by decide) _) (by decide)
  refine lv_iload_n hx hb dX6_readStep_12 rfl (lv_at hl 0 rfl) ?_
  have hrc_5 : rg v_1 := by omega
  by_cases c_5_60 : v_1 = 60
  · refine lv_lookup (tgt := 145) (off := 132) hx hb dX6_readStep_13 (by decide) (by rw [jI_toInt hrc_5, c_5_60]; decide) (by decide) ?_
    refine lv_aload_n hx hb dX6_readStep_145 rfl (lv_at hl 2 rfl) ?_
    refine j_cV (j_runV (As := []) (rest := []) hx hb hml hown hts hK hS hW (kX7_goOn l hS σ_3 (a0 := a1) (h0 := h1)) 0 gX6_readStep_X7_goOn rfl hvX7_goOn ⟨Nat.le_of_ble_eq_true rfl, Nat.le_of_ble_eq_true rfl⟩ rfl rfl h1 rfl rfl rfl rfl hl.1 rfl (Nat.le_of_ble_eq_true rfl) dX6_readStep_146 ⟨Nat.le_of_ble_eq_true rfl, Nat.le_of_ble_eq_true rfl⟩) hA hF (fun σ_6 H locs hW hF pσ_6 => ?_)
    try dsimp only at pσ_6
    obtain ⟨pσ_6, fpσ_6⟩ := pσ_6
    have hR := fr_call hR fpσ_6 (by decide)
    refine lv_aload_n hx hb dX6_readStep_149 rfl (lv_at hl 1 rfl) ?_
    refine j_getR hx hb (C := RX6) (T := TX6) (N := 4) hts inX6_readStep_X6 hown hK hS hW h0 rfl 1 rfl rfl (by decide) (hts _ flX6_readStep_15) dX6_readStep_150 ?_
    have h_7 : τ (G a0 1) = 28 := gty hS h0 (k := 1) rfl rfl
    refine lv_iload_n hx hb dX6_readStep_153 rfl (lv_at hl 3 rfl) ?_
    refine lv_aload_n hx hb dX6_readStep_154 rfl (lv_at hl 2 rfl) ?_
    refine j_cI (j_runV (As := []) (rest := [.int (jI x2), .ref (G a0 1)]) hx hb hml hown hts hK hS hW (kX7_readNumber l hS σ_6 (a0 := a1) (h0 := h1)) 0 gX6_readStep_X7_readNumber rfl hvX7_readNumber ⟨Nat.le_of_ble_eq_true rfl, Nat.le_of_ble_eq_true rfl⟩ rfl rfl h1 rfl rfl rfl rfl hl.1 rfl (Nat.le_of_ble_eq_true rfl) dX6_readStep_155 ⟨Nat.le_of_ble_eq_true rfl, Nat.le_of_ble_eq_true rfl⟩) hA hF (fun v_8 σ_9 H locs hW hF rv_8 pv_8 => ?_)
    try dsimp only at pv_8
    obtain ⟨pv_8, fpv_8⟩ := pv_8
    have hR := fr_call hR fpv_8 (by decide)
    refine j_ast hx hb hK hS hA hW hF h_7 (n := 8) (lo := -2147483648) (hi := 2147483647) rfl (by omega) (by omega) (by decide) (by omega) dX6_readStep_158 (fun σ_10 H locs e_11 hW hF => ?_)
    have hR := fr_up hR e_11 h_7 28000 (cdA 28 (by decide) _) (by decide)
    refine lv_goto (tgt := 167) hx hb dX6_readStep_159 (by decide) ?_
    exact hRet 167 _ _ _ _ dX6_readStep_167 hW hF ⟨trivial, hR⟩
  by_cases c_5_62 : v_1 = 62
  · refine lv_lookup (tgt := 145) (off := 132) hx hb dX6_readStep_13 (by decide) (by rw [jI_toInt hrc_5, c_5_62]; decide) (by decide) ?_
    refine lv_aload_n hx hb dX6_readStep_145 rfl (lv_at hl 2 rfl) ?_
    refine j_cV (j_runV (As := []) (rest := []) hx hb hml hown hts hK hS hW (kX7_goOn l hS σ_3 (a0 := a1) (h0 := h1)) 0 gX6_readStep_X7_goOn rfl hvX7_goOn ⟨Nat.le_of_ble_eq_true rfl, Nat.le_of_ble_eq_true rfl⟩ rfl rfl h1 rfl rfl rfl rfl hl.1 rfl (Nat.le_of_ble_eq_true rfl) dX6_readStep_146 ⟨Nat.le_of_ble_eq_true rfl, Nat.le_of_ble_eq_true rfl⟩) hA hF (fun σ_12 H locs hW hF pσ_12 => ?_)
    try dsimp only at pσ_12
    obtain ⟨pσ_12, fpσ_12⟩ := pσ_12
    have hR := fr_call hR fpσ_12 (by decide)
    refine lv_aload_n hx hb dX6_readStep_149 rfl (lv_at hl 1 rfl) ?_
    refine j_getR hx hb (C := RX6) (T := TX6) (N := 4) hts inX6_readStep_X6 hown hK hS hW h0 rfl 1 rfl rfl (by decide) (hts _ flX6_readStep_15) dX6_readStep_150 ?_
    have h_13 : τ (G a0 1) = 28 := gty hS h0 (k := 1) rfl rfl
    refine lv_iload_n hx hb dX6_readStep_153 rfl (lv_at hl 3 rfl) ?_
    refine lv_aload_n hx hb dX6_readStep_154 rfl (lv_at hl 2 rfl) ?_
    refine j_cI (j_runV (As := []) (rest := [.int (jI x2), .ref (G a0 1)]) hx hb hml hown hts hK hS hW (kX7_readNumber l hS σ_12 (a0 := a1) (h0 := h1)) 0 gX6_readStep_X7_readNumber rfl hvX7_readNumber ⟨Nat.le_of_ble_eq_true rfl, Nat.le_of_ble_eq_true rfl⟩ rfl rfl h1 rfl rfl rfl rfl hl.1 rfl (Nat.le_of_ble_eq_true rfl) dX6_readStep_155 ⟨Nat.le_of_ble_eq_true rfl, Nat.le_of_ble_eq_true rfl⟩) hA hF (fun v_14 σ_15 H locs hW hF rv_14 pv_14 => ?_)
    try dsimp only at pv_14
    obtain ⟨pv_14, fpv_14⟩ := pv_14
    have hR := fr_call hR fpv_14 (by decide)
    refine j_ast hx hb hK hS hA hW hF h_13 (n := 8) (lo := -2147483648) (hi := 2147483647) rfl (by omega) (by omega) (by decide) (by omega) dX6_readStep_158 (fun σ_16 H locs e_17 hW hF => ?_)
    have hR := fr_up hR e_17 h_13 28000 (cdA 28 (by decide) _) (by decide)
    refine lv_goto (tgt := 167) hx hb dX6_readStep_159 (by decide) ?_
    exact hRet 167 _ _ _ _ dX6_readStep_167 hW hF ⟨trivial, hR⟩
  by_cases c_5_100 : v_1 = 100
  · refine lv_lookup (tgt := 145) (off := 132) hx hb dX6_readStep_13 (by decide) (by rw [jI_toInt hrc_5, c_5_100]; decide) (by decide) ?_
    refine lv_aload_n hx hb dX6_readStep_145 rfl (lv_at hl 2 rfl) ?_
    refine j_cV (j_runV (As := []) (rest := []) hx hb hml hown hts hK hS hW (kX7_goOn l hS σ_3 (a0 := a1) (h0 := h1)) 0 gX6_readStep_X7_goOn rfl hvX7_goOn ⟨Nat.le_of_ble_eq_true rfl, Nat.le_of_ble_eq_true rfl⟩ rfl rfl h1 rfl rfl rfl rfl hl.1 rfl (Nat.le_of_ble_eq_true rfl) dX6_readStep_146 ⟨Nat.le_of_ble_eq_true rfl, Nat.le_of_ble_eq_true rfl⟩) hA hF (fun σ_18 H locs hW hF pσ_18 => ?_)
    try dsimp only at pσ_18
    obtain ⟨pσ_18, fpσ_18⟩ := pσ_18
    have hR := fr_call hR fpσ_18 (by decide)
    refine lv_aload_n hx hb dX6_readStep_149 rfl (lv_at hl 1 rfl) ?_
    refine j_getR hx hb (C := RX6) (T := TX6) (N := 4) hts inX6_readStep_X6 hown hK hS hW h0 rfl 1 rfl rfl (by decide) (hts _ flX6_readStep_15) dX6_readStep_150 ?_
    have h_19 : τ (G a0 1) = 28 := gty hS h0 (k := 1) rfl rfl
    refine lv_iload_n hx hb dX6_readStep_153 rfl (lv_at hl 3 rfl) ?_
    refine lv_aload_n hx hb dX6_readStep_154 rfl (lv_at hl 2 rfl) ?_
    refine j_cI (j_runV (As := []) (rest := [.int (jI x2), .ref (G a0 1)]) hx hb hml hown hts hK hS hW (kX7_readNumber l hS σ_18 (a0 := a1) (h0 := h1)) 0 gX6_readStep_X7_readNumber rfl hvX7_readNumber ⟨Nat.le_of_ble_eq_true rfl, Nat.le_of_ble_eq_true rfl⟩ rfl rfl h1 rfl rfl rfl rfl hl.1 rfl (Nat.le_of_ble_eq_true rfl) dX6_readStep_155 ⟨Nat.le_of_ble_eq_true rfl, Nat.le_of_ble_eq_true rfl⟩) hA hF (fun v_20 σ_21 H locs hW hF rv_20 pv_20 => ?_)
    try dsimp only at pv_20
    obtain ⟨pv_20, fpv_20⟩ := pv_20
    have hR := fr_call hR fpv_20 (by decide)
    refine j_ast hx hb hK hS hA hW hF h_19 (n := 8) (lo := -2147483648) (hi := 2147483647) rfl (by omega) (by omega) (by decide) (by omega) dX6_readStep_158 (fun σ_22 H locs e_23 hW hF => ?_)
    have hR := fr_up hR e_23 h_19 28000 (cdA 28 (by decide) _) (by decide)
    refine lv_goto (tgt := 167) hx hb dX6_readStep_159 (by decide) ?_
    exact hRet 167 _ _ _ _ dX6_readStep_167 hW hF ⟨trivial, hR⟩
  by_cases c_5_101 : v_1 = 101
  · refine lv_lookup (tgt := 104) (off := 91) hx hb dX6_readStep_13 (by decide) (by rw [jI_toInt hrc_5, c_5_101]; decide) (by decide) ?_
    refine lv_aload_n hx hb dX6_readStep_104 rfl (lv_at hl 2 rfl) ?_
    refine j_cV (j_runV (As := []) (rest := []) hx hb hml hown hts hK hS hW (kX7_goOn l hS σ_3 (a0 := a1) (h0 := h1)) 0 gX6_readStep_X7_goOn rfl hvX7_goOn ⟨Nat.le_of_ble_eq_true rfl, Nat.le_of_ble_eq_true rfl⟩ rfl rfl h1 rfl rfl rfl rfl hl.1 rfl (Nat.le_of_ble_eq_true rfl) dX6_readStep_105 ⟨Nat.le_of_ble_eq_true rfl, Nat.le_of_ble_eq_true rfl⟩) hA hF (fun σ_24 H locs hW hF pσ_24 => ?_)
    try dsimp only at pσ_24
    obtain ⟨pσ_24, fpσ_24⟩ := pσ_24
    have hR := fr_call hR fpσ_24 (by decide)
    refine lv_goto (tgt := 167) hx hb dX6_readStep_108 (by decide) ?_
    exact hRet 167 _ _ _ _ dX6_readStep_167 hW hF ⟨trivial, hR⟩
  by_cases c_5_107 : v_1 = 107
  · refine lv_lookup (tgt := 128) (off := 115) hx hb dX6_readStep_13 (by decide) (by rw [jI_toInt hrc_5, c_5_107]; decide) (by decide) ?_
    refine lv_aload_n hx hb dX6_readStep_128 rfl (lv_at hl 2 rfl) ?_
    refine j_cV (j_runV (As := []) (rest := []) hx hb hml hown hts hK hS hW (kX7_goOn l hS σ_3 (a0 := a1) (h0 := h1)) 0 gX6_readStep_X7_goOn rfl hvX7_goOn ⟨Nat.le_of_ble_eq_true rfl, Nat.le_of_ble_eq_true rfl⟩ rfl rfl h1 rfl rfl rfl rfl hl.1 rfl (Nat.le_of_ble_eq_true rfl) dX6_readStep_129 ⟨Nat.le_of_ble_eq_true rfl, Nat.le_of_ble_eq_true rfl⟩) hA hF (fun σ_25 H locs hW hF pσ_25 => ?_)
    try dsimp only at pσ_25
    obtain ⟨pσ_25, fpσ_25⟩ := pσ_25
    have hR := fr_call hR fpσ_25 (by decide)
    refine lv_aload_n hx hb dX6_readStep_132 rfl (lv_at hl 1 rfl) ?_
    refine j_getR hx hb (C := RX6) (T := TX6) (N := 4) hts inX6_readStep_X6 hown hK hS hW h0 rfl 1 rfl rfl (by decide) (hts _ flX6_readStep_15) dX6_readStep_133 ?_
    have h_26 : τ (G a0 1) = 28 := gty hS h0 (k := 1) rfl rfl
    refine lv_iload_n hx hb dX6_readStep_136 rfl (lv_at hl 3 rfl) ?_
    refine lv_aload_n hx hb dX6_readStep_137 rfl (lv_at hl 2 rfl) ?_
    refine j_cI (j_runV (As := []) (rest := [.int (jI x2), .ref (G a0 1)]) hx hb hml hown hts hK hS hW (kX7_readNumberAboveZero l hS σ_25 (a0 := a1) (h0 := h1)) 0 gX6_readStep_X7_readNumberAboveZero rfl hvX7_readNumberAboveZero ⟨Nat.le_of_ble_eq_true rfl, Nat.le_of_ble_eq_true rfl⟩ rfl rfl h1 rfl rfl rfl rfl hl.1 rfl (Nat.le_of_ble_eq_true rfl) dX6_readStep_138 ⟨Nat.le_of_ble_eq_true rfl, Nat.le_of_ble_eq_true rfl⟩) hA hF (fun v_27 σ_28 H locs hW hF rv_27 pv_27 => ?_)
    try dsimp only at pv_27
    obtain ⟨pv_27, fpv_27⟩ := pv_27
    have hR := fr_call hR fpv_27 (by decide)
    refine j_ast hx hb hK hS hA hW hF h_26 (n := 8) (lo := -2147483648) (hi := 2147483647) rfl (by omega) (by omega) (by decide) (by omega) dX6_readStep_141 (fun σ_29 H locs e_30 hW hF => ?_)
    have hR := fr_up hR e_30 h_26 28000 (cdA 28 (by decide) _) (by decide)
    refine lv_goto (tgt := 167) hx hb dX6_readStep_142 (by decide) ?_
    exact hRet 167 _ _ _ _ dX6_readStep_167 hW hF ⟨trivial, hR⟩
  by_cases c_5_108 : v_1 = 108
  · refine lv_lookup (tgt := 145) (off := 132) hx hb dX6_readStep_13 (by decide) (by rw [jI_toInt hrc_5, c_5_108]; decide) (by decide) ?_
    refine lv_aload_n hx hb dX6_readStep_145 rfl (lv_at hl 2 rfl) ?_
    refine j_cV (j_runV (As := []) (rest := []) hx hb hml hown hts hK hS hW (kX7_goOn l hS σ_3 (a0 := a1) (h0 := h1)) 0 gX6_readStep_X7_goOn rfl hvX7_goOn ⟨Nat.le_of_ble_eq_true rfl, Nat.le_of_ble_eq_true rfl⟩ rfl rfl h1 rfl rfl rfl rfl hl.1 rfl (Nat.le_of_ble_eq_true rfl) dX6_readStep_146 ⟨Nat.le_of_ble_eq_true rfl, Nat.le_of_ble_eq_true rfl⟩) hA hF (fun σ_31 H locs hW hF pσ_31 => ?_)
    try dsimp only at pσ_31
    obtain ⟨pσ_31, fpσ_31⟩ := pσ_31
    have hR := fr_call hR fpσ_31 (by decide)
    refine lv_aload_n hx hb dX6_readStep_149 rfl (lv_at hl 1 rfl) ?_
    refine j_getR hx hb (C := RX6) (T := TX6) (N := 4) hts inX6_readStep_X6 hown hK hS hW h0 rfl 1 rfl rfl (by decide) (hts _ flX6_readStep_15) dX6_readStep_150 ?_
    have h_32 : τ (G a0 1) = 28 := gty hS h0 (k := 1) rfl rfl
    refine lv_iload_n hx hb dX6_readStep_153 rfl (lv_at hl 3 rfl) ?_
    refine lv_aload_n hx hb dX6_readStep_154 rfl (lv_at hl 2 rfl) ?_
    refine j_cI (j_runV (As := []) (rest := [.int (jI x2), .ref (G a0 1)]) hx hb hml hown hts hK hS hW (kX7_readNumber l hS σ_31 (a0 := a1) (h0 := h1)) 0 gX6_readStep_X7_readNumber rfl hvX7_readNumber ⟨Nat.le_of_ble_eq_true rfl, Nat.le_of_ble_eq_true rfl⟩ rfl rfl h1 rfl rfl rfl rfl hl.1 rfl (Nat.le_of_ble_eq_true rfl) dX6_readStep_155 ⟨Nat.le_of_ble_eq_true rfl, Nat.le_of_ble_eq_true rfl⟩) hA hF (fun v_33 σ_34 H locs hW hF rv_33 pv_33 => ?_)
    try dsimp only at pv_33
    obtain ⟨pv_33, fpv_33⟩ := pv_33
    have hR := fr_call hR fpv_33 (by decide)
    refine j_ast hx hb hK hS hA hW hF h_32 (n := 8) (lo := -2147483648) (hi := 2147483647) rfl (by omega) (by omega) (by decide) (by omega) dX6_readStep_158 (fun σ_35 H locs e_36 hW hF => ?_)
    have hR := fr_up hR e_36 h_32 28000 (cdA 28 (by decide) _) (by decide)
    refine lv_goto (tgt := 167) hx hb dX6_readStep_159 (by decide) ?_
    exact hRet 167 _ _ _ _ dX6_readStep_167 hW hF ⟨trivial, hR⟩
  by_cases c_5_111 : v_1 = 111
  · refine lv_lookup (tgt := 104) (off := 91) hx hb dX6_readStep_13 (by decide) (by rw [jI_toInt hrc_5, c_5_111]; decide) (by decide) ?_
    refine lv_aload_n hx hb dX6_readStep_104 rfl (lv_at hl 2 rfl) ?_
    refine j_cV (j_runV (As := []) (rest := []) hx hb hml hown hts hK hS hW (kX7_goOn l hS σ_3 (a0 := a1) (h0 := h1)) 0 gX6_readStep_X7_goOn rfl hvX7_goOn ⟨Nat.le_of_ble_eq_true rfl, Nat.le_of_ble_eq_true rfl⟩ rfl rfl h1 rfl rfl rfl rfl hl.1 rfl (Nat.le_of_ble_eq_true rfl) dX6_readStep_105 ⟨Nat.le_of_ble_eq_true rfl, Nat.le_of_ble_eq_true rfl⟩) hA hF (fun σ_37 H locs hW hF pσ_37 => ?_)
    try dsimp only at pσ_37
    obtain ⟨pσ_37, fpσ_37⟩ := pσ_37
    have hR := fr_call hR fpσ_37 (by decide)
    refine lv_goto (tgt := 167) hx hb dX6_readStep_108 (by decide) ?_
    exact hRet 167 _ _ _ _ dX6_readStep_167 hW hF ⟨trivial, hR⟩
  by_cases c_5_112 : v_1 = 112
  · refine lv_lookup (tgt := 111) (off := 98) hx hb dX6_readStep_13 (by decide) (by rw [jI_toInt hrc_5, c_5_112]; decide) (by decide) ?_
    refine lv_aload_n hx hb dX6_readStep_111 rfl (lv_at hl 2 rfl) ?_
    refine j_cV (j_runV (As := []) (rest := []) hx hb hml hown hts hK hS hW (kX7_goOn l hS σ_3 (a0 := a1) (h0 := h1)) 0 gX6_readStep_X7_goOn rfl hvX7_goOn ⟨Nat.le_of_ble_eq_true rfl, Nat.le_of_ble_eq_true rfl⟩ rfl rfl h1 rfl rfl rfl rfl hl.1 rfl (Nat.le_of_ble_eq_true rfl) dX6_readStep_112 ⟨Nat.le_of_ble_eq_true rfl, Nat.le_of_ble_eq_true rfl⟩) hA hF (fun σ_38 H locs hW hF pσ_38 => ?_)
    try dsimp only at pσ_38
    obtain ⟨pσ_38, fpσ_38⟩ := pσ_38
    have hR := fr_call hR fpσ_38 (by decide)
    refine lv_aload_n hx hb dX6_readStep_115 rfl (lv_at hl 2 rfl) ?_
    refine lv_aload_n hx hb dX6_readStep_116 rfl (lv_at hl 1 rfl) ?_
    refine j_getR hx hb (C := RX6) (T := TX6) (N := 4) hts inX6_readStep_X6 hown hK hS hW h0 rfl 2 rfl rfl (by decide) (hts _ flX6_readStep_20) dX6_readStep_117 ?_
    have h_39 : τ (G a0 2) = 31 := gty hS h0 (k := 2) rfl rfl
    refine lv_iload_n hx hb dX6_readStep_120 rfl (lv_at hl 3 rfl) ?_
    refine j_aald hx hb hK hS hW h_39 (n := 8) rfl rfl (by omega) (by omega) (by decide) dX6_readStep_121 ?_
    have h_40 : τ (G (G a0 2) (x2).toNat) = 3 := gtyR hS h_39 (n := 8) rfl (by omega) (by omega)
    refine j_cV (j_runV (As := [.ref (G (G a0 2) (x2).toNat)]) (rest := []) hx hb hml hown hts hK hS hW (kX7_readKey l hS σ_38 (a0 := a1) (h0 := h1) (a1 := G (G a0 2) (x2).toNat) (h1 := h_40)) 1 gX6_readStep_X7_readKey rfl hvX7_readKey ⟨Nat.le_of_ble_eq_true rfl, Nat.le_of_ble_eq_true rfl⟩ rfl rfl h1 rfl rfl rfl rfl hl.1 rfl (Nat.le_of_ble_eq_true rfl) dX6_readStep_122 ⟨Nat.le_of_ble_eq_true rfl, Nat.le_of_ble_eq_true rfl⟩) hA hF (fun σ_41 H locs hW hF pσ_41 => ?_)
    try dsimp only at pσ_41
    obtain ⟨pσ_41, fpσ_41⟩ := pσ_41
    have hR := fr_call hR fpσ_41 (by decide)
    refine lv_goto (tgt := 167) hx hb dX6_readStep_125 (by decide) ?_
    exact hRet 167 _ _ _ _ dX6_readStep_167 hW hF ⟨trivial, hR⟩
  by_cases c_5_114 : v_1 = 114
  · refine lv_lookup (tgt := 104) (off := 91) hx hb dX6_readStep_13 (by decide) (by rw [jI_toInt hrc_5, c_5_114]; decide) (by decide) ?_
    refine lv_aload_n hx hb dX6_readStep_104 rfl (lv_at hl 2 rfl) ?_
    refine j_cV (j_runV (As := []) (rest := []) hx hb hml hown hts hK hS hW (kX7_goOn l hS σ_3 (a0 := a1) (h0 := h1)) 0 gX6_readStep_X7_goOn rfl hvX7_goOn ⟨Nat.le_of_ble_eq_true rfl, Nat.le_of_ble_eq_true rfl⟩ rfl rfl h1 rfl rfl rfl rfl hl.1 rfl (Nat.le_of_ble_eq_true rfl) dX6_readStep_105 ⟨Nat.le_of_ble_eq_true rfl, Nat.le_of_ble_eq_true rfl⟩) hA hF (fun σ_42 H locs hW hF pσ_42 => ?_)
    try dsimp only at pσ_42
    obtain ⟨pσ_42, fpσ_42⟩ := pσ_42
    have hR := fr_call hR fpσ_42 (by decide)
    refine lv_goto (tgt := 167) hx hb dX6_readStep_108 (by decide) ?_
    exact hRet 167 _ _ _ _ dX6_readStep_167 hW hF ⟨trivial, hR⟩
  by_cases c_5_116 : v_1 = 116
  · refine lv_lookup (tgt := 145) (off := 132) hx hb dX6_readStep_13 (by decide) (by rw [jI_toInt hrc_5, c_5_116]; decide) (by decide) ?_
    refine lv_aload_n hx hb dX6_readStep_145 rfl (lv_at hl 2 rfl) ?_
    refine j_cV (j_runV (As := []) (rest := []) hx hb hml hown hts hK hS hW (kX7_goOn l hS σ_3 (a0 := a1) (h0 := h1)) 0 gX6_readStep_X7_goOn rfl hvX7_goOn ⟨Nat.le_of_ble_eq_true rfl, Nat.le_of_ble_eq_true rfl⟩ rfl rfl h1 rfl rfl rfl rfl hl.1 rfl (Nat.le_of_ble_eq_true rfl) dX6_readStep_146 ⟨Nat.le_of_ble_eq_true rfl, Nat.le_of_ble_eq_true rfl⟩) hA hF (fun σ_43 H locs hW hF pσ_43 => ?_)
    try dsimp only at pσ_43
    obtain ⟨pσ_43, fpσ_43⟩ := pσ_43
    have hR := fr_call hR fpσ_43 (by decide)
    refine lv_aload_n hx hb dX6_readStep_149 rfl (lv_at hl 1 rfl) ?_
    refine j_getR hx hb (C := RX6) (T := TX6) (N := 4) hts inX6_readStep_X6 hown hK hS hW h0 rfl 1 rfl rfl (by decide) (hts _ flX6_readStep_15) dX6_readStep_150 ?_
    have h_44 : τ (G a0 1) = 28 := gty hS h0 (k := 1) rfl rfl
    refine lv_iload_n hx hb dX6_readStep_153 rfl (lv_at hl 3 rfl) ?_
    refine lv_aload_n hx hb dX6_readStep_154 rfl (lv_at hl 2 rfl) ?_
    refine j_cI (j_runV (As := []) (rest := [.int (jI x2), .ref (G a0 1)]) hx hb hml hown hts hK hS hW (kX7_readNumber l hS σ_43 (a0 := a1) (h0 := h1)) 0 gX6_readStep_X7_readNumber rfl hvX7_readNumber ⟨Nat.le_of_ble_eq_true rfl, Nat.le_of_ble_eq_true rfl⟩ rfl rfl h1 rfl rfl rfl rfl hl.1 rfl (Nat.le_of_ble_eq_true rfl) dX6_readStep_155 ⟨Nat.le_of_ble_eq_true rfl, Nat.le_of_ble_eq_true rfl⟩) hA hF (fun v_45 σ_46 H locs hW hF rv_45 pv_45 => ?_)
    try dsimp only at pv_45
    obtain ⟨pv_45, fpv_45⟩ := pv_45
    have hR := fr_call hR fpv_45 (by decide)
    refine j_ast hx hb hK hS hA hW hF h_44 (n := 8) (lo := -2147483648) (hi := 2147483647) rfl (by omega) (by omega) (by decide) (by omega) dX6_readStep_158 (fun σ_47 H locs e_48 hW hF => ?_)
    have hR := fr_up hR e_48 h_44 28000 (cdA 28 (by decide) _) (by decide)
    refine lv_goto (tgt := 167) hx hb dX6_readStep_159 (by decide) ?_
    exact hRet 167 _ _ _ _ dX6_readStep_167 hW hF ⟨trivial, hR⟩
  refine lv_lookup (tgt := 162) (off := 149) hx hb dX6_readStep_13 (by decide) (by rw [jI_toInt hrc_5]; simp [Op.lookupswitch.offset, Ne.symm c_5_60, Ne.symm c_5_62, Ne.symm c_5_100, Ne.symm c_5_101, Ne.symm c_5_107, Ne.symm c_5_108, Ne.symm c_5_111, Ne.symm c_5_112, Ne.symm c_5_114, Ne.symm c_5_116]) (by decide) ?_
  refine lv_aload_n hx hb dX6_readStep_162 rfl (lv_at hl 2 rfl) ?_
  refine j_const hx hb dX6_readStep_163 ?_
  refine j_cV (j_runV (As := [.int (jI 1)]) (rest := []) hx hb hml hown hts hK hS hW (kX7_blameHere l hS σ_3 (a0 := a1) (h0 := h1) (x1 := 1) (r1 := (by decide))) 1 gX6_readStep_X7_blameHere rfl hvX7_blameHere ⟨Nat.le_of_ble_eq_true rfl, Nat.le_of_ble_eq_true rfl⟩ rfl rfl h1 rfl rfl rfl rfl hl.1 rfl (Nat.le_of_ble_eq_true rfl) dX6_readStep_164 ⟨Nat.le_of_ble_eq_true rfl, Nat.le_of_ble_eq_true rfl⟩) hA hF (fun σ_49 H locs hW hF pσ_49 => ?_)
  try dsimp only at pσ_49
  obtain ⟨pσ_49, fpσ_49⟩ := pσ_49
  have hR := fr_call hR fpσ_49 (by decide)
  exact hRet 167 _ _ _ _ dX6_readStep_167 hW hF ⟨trivial, hR⟩
abbrev wr_X6_readFrom : List Nat := [3001, 7003, 8001, 8003, 20000, 28000]
theorem flX6_readFrom_25 : Cond.fieldLink RX6 25 "PageTrie$Query" "size" "I" ∈ wsX6_readFrom := List.mem_of_getElem? (i := 1) rfl
theorem inX6_readFrom_X6 : ∀ w ∈ u_ws RX6 TX6 4, w ∈ wsX6_readFrom := mem_r _ [83, 84, 85, 86] rfl
theorem hvX6_readFrom : yX6_readFrom.cls = RX6 ∧ yX6_readFrom.cls ≠ "java/lang/invoke/MethodHandle" ∧ yX6_readFrom.cls ≠ "java/lang/invoke/VarHandle" ∧ (parseMethodDescriptor yX6_readFrom.desc).map (fun d => d.parameters.length) = some 1 := by decide +kernel
set_option maxHeartbeats 4000000 in
set_option maxRecDepth 100000 in
theorem kX6_readFrom (l : Launch) {D : va_G} {cA : Nat → ClassId} {τ : Nat → Nat} {G : Nat → Nat → Nat} {L : List Nat} (hS : SW τ G L) (σ : Nat → Nat → Int) {a0 : Nat} (h0 : τ a0 = 7) {a1 : Nat} (h1 : τ a1 = 8) : Met l yX6_readFrom wsX6_readFrom ({ frames := 5, cells := 0, slots := 0, locals := 111 }) (jP D cA τ G L σ [.ref a0, .ref a1]) (jQV D cA τ G L (fun σ' => (True) ∧ fr wr_X6_readFrom τ σ σ')) 0 0 (fun q => q ∈ L) := by
  refine j_metV (by decide +kernel) rfl (Nat.le_of_ble_eq_true rfl) ?_
  intro p e s m args below meth c Q hx hb hml hown hts hK hW hRet ls hl
  have hl : lv_has ls 4 [(0, .ref a0), (1, .ref a1)] := hl
  have hA : ∀ q ∈ L, (fun q => q ∈ L) q := fun _ h => h
  have hF : va_S (fun q => q ∈ L) s.heap s.heap [] := va_S.rf
  have hR : fr wr_X6_readFrom τ σ σ := fr_rf
  refine lv_aload_n hx hb dX6_readFrom_0 rfl (lv_at hl 0 rfl) ?_
  refine j_const hx hb dX6_readFrom_1 ?_
  refine j_putI hx hb (C := RX6) (T := TX6) (N := 4) hts inX6_readFrom_X6 tyX6 tyX6_ok nmX6 hown hK hS hA hW hF h0 rfl 3 (lo := -2147483648) (hi := 2147483647) rfl rfl (by decide) (hts _ flX6_readFrom_25) rfl .int rfl (by omega) rfl rfl dX6_readFrom_2 (fun σ_1 H locs e_2 hW hF => ?_)
  have hR := fr_up hR e_2 h0 7003 rfl (by decide)
  have : σ_1 a0 3 = 0 := by rw [e_2]; exact up2_at _ _ _ _
  refine lv_aload_n hx hb dX6_readFrom_5 rfl (lv_at hl 1 rfl) ?_
  refine j_cR (j_runV (As := []) (rest := []) hx hb hml hown hts hK hS hW (kX7_isAtEnd l hS σ_1 (a0 := a1) (h0 := h1)) 0 gX6_readFrom_X7_isAtEnd rfl hvX7_isAtEnd ⟨Nat.le_of_ble_eq_true rfl, Nat.le_of_ble_eq_true rfl⟩ rfl rfl h1 rfl rfl rfl rfl hl.1 rfl (Nat.le_of_ble_eq_true rfl) dX6_readFrom_6 ⟨Nat.le_of_ble_eq_true rfl, Nat.le_of_ble_eq_true rfl⟩) (fun v_3 rv_3 pv_3 => ?_)
  try dsimp only at pv_3
  have L_17 : ∀ (t0_17 : Int) (ls : Array Slot), (0 ≤ t0_17) → (t0_17 ≤ 1) → rg t0_17 → lv_has ls 4 [(0, .ref a0), (1, .ref a1)] → W p l e ({ frames := 5, cells := 0, slots := 0, locals := 111 }) s m args below meth c H locs 0 0 Q (F0 m 17 ls [.int (jI t0_17)]) := by
    intro t0_17 ls i0_17 i1_17 rt0_17 hl
    refine lv_istore_n (lv' := [(2, .int (jI t0_17)), (0, .ref a0), (1, .ref a1)]) hx hb dX6_readFrom_17 rfl hl (by decide) rfl (fun ls hl => ?_)
    refine j_const hx hb dX6_readFrom_18 ?_
    refine lv_istore_n (lv' := [(3, .int (jI 0)), (2, .int (jI t0_17)), (0, .ref a0), (1, .ref a1)]) hx hb dX6_readFrom_19 rfl hl (by decide) rfl (fun ls hl => ?_)
    have L_20 : ∀ (N : Nat) (v2_20 v3_20 : Int) (σ_20 : Nat → Nat → Int) (H : Heap) (locs : List Loc) (ls : Array Slot), N = (2147483647 - v3_20 : Int).toNat → (0 ≤ v3_20) → (v3_20 ≤ 8) → rg v2_20 → rg v3_20 → PW D cA τ G L σ_20 H → va_S (fun q => q ∈ L) s.heap H locs → fr wr_X6_readFrom τ σ σ_20 → lv_has ls 4 [(0, .ref a0), (1, .ref a1), (2, .int (jI v2_20)), (3, .int (jI v3_20))] → W p l e ({ frames := 5, cells := 0, slots := 0, locals := 111 }) s m args below meth c H locs 0 0 Q (F0 m 20 ls []) := by
      intro N
      induction N using Nat.strongRecOn with
      | ind N ih_20 =>
        intro v2_20 v3_20 σ_20 H locs ls hN i0_20 i1_20 rv2_20 rv3_20 hW hF hR hl
        refine lv_iload_n hx hb dX6_readFrom_20 rfl (lv_at hl 3 rfl) ?_
        refine j_bi hx hb dX6_readFrom_21 (by decide) ?_
        refine j_icmp_ge (tgt := 54) hx hb (by omega) (by decide) dX6_readFrom_23 (by decide) (fun c_4 => ?_) (fun c_4 => ?_)
        · refine lv_iload_n hx hb dX6_readFrom_54 rfl (lv_at hl 2 rfl) ?_
          refine j_if_eq (tgt := 63) hx hb (by omega) dX6_readFrom_55 (by decide) (fun c_5 => ?_) (fun c_5 => ?_)
          · exact hRet 63 _ _ _ _ dX6_readFrom_63 hW hF ⟨trivial, hR⟩
          · refine lv_aload_n hx hb dX6_readFrom_58 rfl (lv_at hl 1 rfl) ?_
            refine j_const hx hb dX6_readFrom_59 ?_
            refine j_cV (j_runV (As := [.int (jI 4)]) (rest := []) hx hb hml hown hts hK hS hW (kX7_blameHere l hS σ_20 (a0 := a1) (h0 := h1) (x1 := 4) (r1 := (by decide))) 1 gX6_readFrom_X7_blameHere rfl hvX7_blameHere ⟨Nat.le_of_ble_eq_true rfl, Nat.le_of_ble_eq_true rfl⟩ rfl rfl h1 rfl rfl rfl rfl hl.1 rfl (Nat.le_of_ble_eq_true rfl) dX6_readFrom_60 ⟨Nat.le_of_ble_eq_true rfl, Nat.le_of_ble_eq_true rfl⟩) hA hF (fun σ_6 H locs hW hF pσ_6 => ?_)
            try dsimp only at pσ_6
            obtain ⟨pσ_6, fpσ_6⟩ := pσ_6
            have hR := fr_call hR fpσ_6 (by decide)
            exact hRet 63 _ _ _ _ dX6_readFrom_63 hW hF ⟨trivial, hR⟩
        · refine lv_iload_n hx hb dX6_readFrom_26 rfl (lv_at hl 2 rfl) ?_
          refine j_if_eq (tgt := 54) hx hb (by omega) dX6_readFrom_27 (by decide) (fun c_7 => ?_) (fun c_7 => ?_)
          · refine lv_iload_n hx hb dX6_readFrom_54 rfl (lv_at hl 2 rfl) ?_
            refine j_if_eq (tgt := 63) hx hb (by omega) dX6_readFrom_55 (by decide) (fun c_8 => ?_) (fun c_8 => ?_)
            · exact hRet 63 _ _ _ _ dX6_readFrom_63 hW hF ⟨trivial, hR⟩
            · refine lv_aload_n hx hb dX6_readFrom_58 rfl (lv_at hl 1 rfl) ?_
              refine j_const hx hb dX6_readFrom_59 ?_
              refine j_cV (j_runV (As := [.int (jI 4)]) (rest := []) hx hb hml hown hts hK hS hW (kX7_blameHere l hS σ_20 (a0 := a1) (h0 := h1) (x1 := 4) (r1 := (by decide))) 1 gX6_readFrom_X7_blameHere rfl hvX7_blameHere ⟨Nat.le_of_ble_eq_true rfl, Nat.le_of_ble_eq_true rfl⟩ rfl rfl h1 rfl rfl rfl rfl hl.1 rfl (Nat.le_of_ble_eq_true rfl) dX6_readFrom_60 ⟨Nat.le_of_ble_eq_true rfl, Nat.le_of_ble_eq_true rfl⟩) hA hF (fun σ_9 H locs hW hF pσ_9 => ?_)
              try dsimp only at pσ_9
              obtain ⟨pσ_9, fpσ_9⟩ := pσ_9
              have hR := fr_call hR fpσ_9 (by decide)
              exact hRet 63 _ _ _ _ dX6_readFrom_63 hW hF ⟨trivial, hR⟩
          · refine lv_aload_n hx hb dX6_readFrom_30 rfl (lv_at hl 0 rfl) ?_
            refine lv_aload_n hx hb dX6_readFrom_31 rfl (lv_at hl 1 rfl) ?_
            refine lv_iload_n hx hb dX6_readFrom_32 rfl (lv_at hl 3 rfl) ?_
            refine j_cV (j_runV (As := [.ref a1, .int (jI v3_20)]) (rest := []) hx hb hml hown hts hK hS hW (kX6_readStep l hS σ_20 (a0 := a0) (h0 := h0) (a1 := a1) (h1 := h1) (x2 := v3_20) (r2 := (by omega)) (q0 := (by omega)) (q1 := (by omega))) 2 gX6_readFrom_X6_readStep rfl hvX6_readStep ⟨Nat.le_of_ble_eq_true rfl, Nat.le_of_ble_eq_true rfl⟩ rfl rfl h0 rfl rfl rfl rfl hl.1 rfl (Nat.le_of_ble_eq_true rfl) dX6_readFrom_33 ⟨Nat.le_of_ble_eq_true rfl, Nat.le_of_ble_eq_true rfl⟩) hA hF (fun σ_10 H locs hW hF pσ_10 => ?_)
            try dsimp only at pσ_10
            obtain ⟨pσ_10, fpσ_10⟩ := pσ_10
            have hR := fr_call hR fpσ_10 (by decide)
            refine lv_aload_n hx hb dX6_readFrom_36 rfl (lv_at hl 0 rfl) ?_
            refine lv_iload_n hx hb dX6_readFrom_37 rfl (lv_at hl 3 rfl) ?_
            refine j_const hx hb dX6_readFrom_38 ?_
            refine j_add hx hb dX6_readFrom_39 ?_
            refine j_putI hx hb (C := RX6) (T := TX6) (N := 4) hts inX6_readFrom_X6 tyX6 tyX6_ok nmX6 hown hK hS hA hW hF h0 rfl 3 (lo := -2147483648) (hi := 2147483647) rfl rfl (by decide) (hts _ flX6_readFrom_25) rfl .int rfl (by omega) rfl rfl dX6_readFrom_40 (fun σ_11 H locs e_12 hW hF => ?_)
            have hR := fr_up hR e_12 h0 7003 rfl (by decide)
            have : σ_11 a0 3 = v3_20 + 1 := by rw [e_12]; exact up2_at _ _ _ _
            refine lv_aload_n hx hb dX6_readFrom_43 rfl (lv_at hl 1 rfl) ?_
            refine j_cI (j_runV (As := []) (rest := []) hx hb hml hown hts hK hS hW (kX7_readBreak l hS σ_11 (a0 := a1) (h0 := h1)) 0 gX6_readFrom_X7_readBreak rfl hvX7_readBreak ⟨Nat.le_of_ble_eq_true rfl, Nat.le_of_ble_eq_true rfl⟩ rfl rfl h1 rfl rfl rfl rfl hl.1 rfl (Nat.le_of_ble_eq_true rfl) dX6_readFrom_44 ⟨Nat.le_of_ble_eq_true rfl, Nat.le_of_ble_eq_true rfl⟩) hA hF (fun v_13 σ_14 H locs hW hF rv_13 pv_13 => ?_)
            try dsimp only at pv_13
            obtain ⟨bpv_13, pv_13, fpv_13⟩ := pv_13
            have hR := fr_call hR fpv_13 (by decide)
            refine lv_istore_n (lv' := [(2, .int (jI v_13)), (0, .ref a0), (1, .ref a1), (3, .int (jI v3_20))]) hx hb dX6_readFrom_47 rfl hl (by decide) rfl (fun ls hl => ?_)
            refine j_iinc (lv' := [(3, .int (jI (v3_20 + 1))), (2, .int (jI v_13)), (0, .ref a0), (1, .ref a1)]) hx hb dX6_readFrom_48 hl (k := 3) rfl (by decide) rfl (fun ls hl => ?_)
            refine lv_goto (tgt := 20) hx hb dX6_readFrom_51 (by decide) ?_
            exact ih_20 ((2147483647 - (v3_20 + 1) : Int).toNat) (by omega) v_13 (v3_20 + 1) σ_14 _ _ _ rfl (by omega) (by omega) (by omega) (by omega) hW hF hR (lv_sub hl [2, 3, 1, 0] rfl)
    exact L_20 ((2147483647 - 0 : Int).toNat) t0_17 0 σ_1 _ _ _ rfl (by omega) (by omega) (by omega) (by decide) hW hF hR (lv_sub hl [2, 3, 1, 0] rfl)
  refine j_if_ne (tgt := 16) hx hb (by omega) dX6_readFrom_9 (by decide) (fun c_15 => ?_) (fun c_15 => ?_)
  · refine j_const hx hb dX6_readFrom_16 ?_
    exact L_17 0 _ (by omega) (by omega) (by decide) (lv_sub hl [0, 1] rfl)
  · refine j_const hx hb dX6_readFrom_12 ?_
    refine lv_goto (tgt := 17) hx hb dX6_readFrom_13 (by decide) ?_
    exact L_17 1 _ (by omega) (by omega) (by decide) (lv_sub hl [0, 1] rfl)
theorem flX6_turnsRound_9 : Cond.fieldLink RX6 9 "PageTrie$Query" "kinds" "[I" ∈ wsX6_turnsRound := List.mem_of_getElem? (i := 2) rfl
theorem flX6_turnsRound_25 : Cond.fieldLink RX6 25 "PageTrie$Query" "size" "I" ∈ wsX6_turnsRound := List.mem_of_getElem? (i := 1) rfl
theorem inX6_turnsRound_X6 : ∀ w ∈ u_ws RX6 TX6 4, w ∈ wsX6_turnsRound := mem_r _ [3, 4, 5, 6] rfl
theorem hvX6_turnsRound : yX6_turnsRound.cls = RX6 ∧ yX6_turnsRound.cls ≠ "java/lang/invoke/MethodHandle" ∧ yX6_turnsRound.cls ≠ "java/lang/invoke/VarHandle" ∧ (parseMethodDescriptor yX6_turnsRound.desc).map (fun d => d.parameters.length) = some 1 := by decide +kernel
set_option maxHeartbeats 4000000 in
set_option maxRecDepth 100000 in
theorem kX6_turnsRound (l : Launch) {D : va_G} {cA : Nat → ClassId} {τ : Nat → Nat} {G : Nat → Nat → Nat} {L : List Nat} (hS : SW τ G L) (σ : Nat → Nat → Int) {a0 : Nat} (h0 : τ a0 = 7) {x1 : Int} (r1 : rg x1) : Met l yX6_turnsRound wsX6_turnsRound ({ frames := 0, cells := 0, slots := 0, locals := 0 }) (jP D cA τ G L σ [.ref a0, .int (jI x1)]) (jQR (fun r => (0 ≤ r ∧ r ≤ 1) ∧ (True))) 0 0 (fun _ => False) := by
  refine j_metRZ (by decide +kernel) rfl (Nat.le_of_ble_eq_true rfl) ?_
  intro p e s m args below meth c Q hx hb hml hown hts hK hW hRet ls hl
  have hl : lv_has ls 2 [(0, .ref a0), (1, .int (jI x1))] := hl
  refine lv_iload_n hx hb dX6_turnsRound_0 rfl (lv_at hl 1 rfl) ?_
  refine j_if_lt (tgt := 33) hx hb (by omega) dX6_turnsRound_1 (by decide) (fun c_1 => ?_) (fun c_1 => ?_)
  · refine j_const hx hb dX6_turnsRound_33 ?_
    exact hRet 34 _ 0 dX6_turnsRound_34 (by omega) trivial
  · refine lv_iload_n hx hb dX6_turnsRound_4 rfl (lv_at hl 1 rfl) ?_
    refine lv_aload_n hx hb dX6_turnsRound_5 rfl (lv_at hl 0 rfl) ?_
    refine j_getI hx hb (C := RX6) (T := TX6) (N := 4) hts inX6_turnsRound_X6 hown hK hS hW h0 rfl 3 rfl rfl (by decide) (hts _ flX6_turnsRound_25) dX6_turnsRound_6 ?_
    have := fbd hW h0 (k := 3) (lo := -2147483648) (hi := 2147483647) rfl rfl
    refine j_icmp_ge (tgt := 33) hx hb (by omega) (by omega) dX6_turnsRound_9 (by decide) (fun c_2 => ?_) (fun c_2 => ?_)
    · refine j_const hx hb dX6_turnsRound_33 ?_
      exact hRet 34 _ 0 dX6_turnsRound_34 (by omega) trivial
    · refine lv_iload_n hx hb dX6_turnsRound_12 rfl (lv_at hl 1 rfl) ?_
      refine j_bi hx hb dX6_turnsRound_13 (by decide) ?_
      refine j_icmp_ge (tgt := 33) hx hb (by omega) (by decide) dX6_turnsRound_15 (by decide) (fun c_3 => ?_) (fun c_3 => ?_)
      · refine j_const hx hb dX6_turnsRound_33 ?_
        exact hRet 34 _ 0 dX6_turnsRound_34 (by omega) trivial
      · refine lv_aload_n hx hb dX6_turnsRound_18 rfl (lv_at hl 0 rfl) ?_
        refine j_getR hx hb (C := RX6) (T := TX6) (N := 4) hts inX6_turnsRound_X6 hown hK hS hW h0 rfl 0 rfl rfl (by decide) (hts _ flX6_turnsRound_9) dX6_turnsRound_19 ?_
        have h_4 : τ (G a0 0) = 28 := gty hS h0 (k := 0) rfl rfl
        refine lv_iload_n hx hb dX6_turnsRound_22 rfl (lv_at hl 1 rfl) ?_
        refine j_ald hx hb hK hS hW h_4 (n := 8) rfl (by omega) (by omega) (by decide) dX6_turnsRound_23 ?_
        have := abd hW h_4 (n := 8) (lo := -2147483648) (hi := 2147483647) (i := x1) rfl (by omega) (by omega)
        refine j_bi hx hb dX6_turnsRound_24 (by decide) ?_
        refine j_icmp_ne (tgt := 33) hx hb (by omega) (by decide) dX6_turnsRound_26 (by decide) (fun c_5 => ?_) (fun c_5 => ?_)
        · refine j_const hx hb dX6_turnsRound_33 ?_
          exact hRet 34 _ 0 dX6_turnsRound_34 (by omega) trivial
        · refine j_const hx hb dX6_turnsRound_29 ?_
          refine lv_goto (tgt := 34) hx hb dX6_turnsRound_30 (by decide) ?_
          exact hRet 34 _ 1 dX6_turnsRound_34 (by omega) trivial
theorem flX6_leaves_9 : Cond.fieldLink RX6 9 "PageTrie$Query" "kinds" "[I" ∈ wsX6_leaves := List.mem_of_getElem? (i := 3) rfl
theorem flX6_leaves_15 : Cond.fieldLink RX6 15 "PageTrie$Query" "numbers" "[I" ∈ wsX6_leaves := List.mem_of_getElem? (i := 2) rfl
theorem flX6_leaves_20 : Cond.fieldLink RX6 20 "PageTrie$Query" "beginnings" "[LPageTrie$Key;" ∈ wsX6_leaves := List.mem_of_getElem? (i := 4) rfl
theorem flX6_leaves_25 : Cond.fieldLink RX6 25 "PageTrie$Query" "size" "I" ∈ wsX6_leaves := List.mem_of_getElem? (i := 1) rfl
theorem inX6_leaves_X6 : ∀ w ∈ u_ws RX6 TX6 4, w ∈ wsX6_leaves := mem_r _ [35, 36, 37, 38] rfl
theorem hvX6_leaves : yX6_leaves.cls = RX6 ∧ yX6_leaves.cls ≠ "java/lang/invoke/MethodHandle" ∧ yX6_leaves.cls ≠ "java/lang/invoke/VarHandle" ∧ (parseMethodDescriptor yX6_leaves.desc).map (fun d => d.parameters.length) = some 4 := by decide +kernel
set_option maxHeartbeats 4000000 in
set_option maxRecDepth 100000 in
theorem kX6_leaves (l : Launch) {D : va_G} {cA : Nat → ClassId} {τ : Nat → Nat} {G : Nat → Nat → Nat} {L : List Nat} (hS : SW τ G L) (σ : Nat → Nat → Int) {a0 : Nat} (h0 : τ a0 = 7) {x1 : Int} (r1 : rg x1) {a2 : Nat} (h2 : τ a2 = 4) {x3 : Int} (r3 : rg x3) {x4 : Int} (r4 : rg x4) : Met l yX6_leaves wsX6_leaves ({ frames := 2, cells := 0, slots := 0, locals := 46 }) (jP D cA τ G L σ [.ref a0, .int (jI x1), .ref a2, .int (jI x3), .int (jI x4)]) (jQR (fun r => (0 ≤ r ∧ r ≤ 1) ∧ (True))) 0 0 (fun _ => False) := by
  refine j_metRZ (by decide +kernel) rfl (Nat.le_of_ble_eq_true rfl) ?_
  intro p e s m args below meth c Q hx hb hml hown hts hK hW hRet ls hl
  have hl : lv_has ls 6 [(0, .ref a0), (1, .int (jI x1)), (2, .ref a2), (3, .int (jI x3)), (4, .int (jI x4))] := hl
  refine lv_iload_n hx hb dX6_leaves_0 rfl (lv_at hl 1 rfl) ?_
  refine j_if_lt (tgt := 18) hx hb (by omega) dX6_leaves_1 (by decide) (fun c_1 => ?_) (fun c_1 => ?_)
  · refine j_const hx hb dX6_leaves_18 ?_
    exact hRet 19 _ 1 dX6_leaves_19 (by omega) trivial
  · refine lv_iload_n hx hb dX6_leaves_4 rfl (lv_at hl 1 rfl) ?_
    refine lv_aload_n hx hb dX6_leaves_5 rfl (lv_at hl 0 rfl) ?_
    refine j_getI hx hb (C := RX6) (T := TX6) (N := 4) hts inX6_leaves_X6 hown hK hS hW h0 rfl 3 rfl rfl (by decide) (hts _ flX6_leaves_25) dX6_leaves_6 ?_
    have := fbd hW h0 (k := 3) (lo := -2147483648) (hi := 2147483647) rfl rfl
    refine j_icmp_ge (tgt := 18) hx hb (by omega) (by omega) dX6_leaves_9 (by decide) (fun c_2 => ?_) (fun c_2 => ?_)
    · refine j_const hx hb dX6_leaves_18 ?_
      exact hRet 19 _ 1 dX6_leaves_19 (by omega) trivial
    · refine lv_iload_n hx hb dX6_leaves_12 rfl (lv_at hl 1 rfl) ?_
      refine j_bi hx hb dX6_leaves_13 (by decide) ?_
      refine j_icmp_lt (tgt := 20) hx hb (by omega) (by decide) dX6_leaves_15 (by decide) (fun c_3 => ?_) (fun c_3 => ?_)
      · refine lv_aload_n hx hb dX6_leaves_20 rfl (lv_at hl 0 rfl) ?_
        refine j_getR hx hb (C := RX6) (T := TX6) (N := 4) hts inX6_leaves_X6 hown hK hS hW h0 rfl 1 rfl rfl (by decide) (hts _ flX6_leaves_15) dX6_leaves_21 ?_
        have h_4 : τ (G a0 1) = 28 := gty hS h0 (k := 1) rfl rfl
        refine lv_iload_n hx hb dX6_leaves_24 rfl (lv_at hl 1 rfl) ?_
        refine j_ald hx hb hK hS hW h_4 (n := 8) rfl (by omega) (by omega) (by decide) dX6_leaves_25 ?_
        have := abd hW h_4 (n := 8) (lo := -2147483648) (hi := 2147483647) (i := x1) rfl (by omega) (by omega)
        refine lv_istore (lv' := [(5, .int (jI (σ (G a0 1) (x1).toNat))), (0, .ref a0), (1, .int (jI x1)), (2, .ref a2), (3, .int (jI x3)), (4, .int (jI x4))]) hx hb dX6_leaves_26 hl (by decide) rfl (fun ls hl => ?_)
        refine lv_aload_n hx hb dX6_leaves_28 rfl (lv_at hl 1 rfl) ?_
        refine j_getR hx hb (C := RX6) (T := TX6) (N := 4) hts inX6_leaves_X6 hown hK hS hW h0 rfl 0 rfl rfl (by decide) (hts _ flX6_leaves_9) dX6_leaves_29 ?_
        have h_5 : τ (G a0 0) = 28 := gty hS h0 (k := 0) rfl rfl
        refine lv_iload_n hx hb dX6_leaves_32 rfl (lv_at hl 2 rfl) ?_
        refine j_ald hx hb hK hS hW h_5 (n := 8) rfl (by omega) (by omega) (by decide) dX6_leaves_33 ?_
        have := abd hW h_5 (n := 8) (lo := -2147483648) (hi := 2147483647) (i := x1) rfl (by omega) (by omega)
        have hrc_6 : rg (σ (G a0 0) (x1).toNat) := by omega
        by_cases c_6_60 : σ (G a0 0) (x1).toNat = 60
        · refine lv_lookup (tgt := 144) (off := 110) hx hb dX6_leaves_34 (by decide) (by rw [jI_toInt hrc_6, c_6_60]; decide) (by decide) ?_
          refine lv_aload_n hx hb dX6_leaves_144 rfl (lv_at hl 3 rfl) ?_
          refine lv_iload_n hx hb dX6_leaves_145 rfl (lv_at hl 4 rfl) ?_
          refine j_cR (j_runV (As := [.int (jI x3)]) (rest := []) hx hb hml hown hts hK hS hW (kX3_valueOf l hS σ (a0 := a2) (h0 := h2) (x1 := x3) (r1 := (by omega))) 1 gX6_leaves_X3_valueOf rfl hvX3_valueOf ⟨Nat.le_of_ble_eq_true rfl, Nat.le_of_ble_eq_true rfl⟩ rfl rfl h2 rfl rfl rfl rfl hl.1 rfl (Nat.le_of_ble_eq_true rfl) dX6_leaves_146 ⟨Nat.le_of_ble_eq_true rfl, Nat.le_of_ble_eq_true rfl⟩) (fun v_7 rv_7 pv_7 => ?_)
          try dsimp only at pv_7
          refine lv_iload hx hb dX6_leaves_149 (lv_at hl 0 rfl) ?_
          refine j_icmp_ge (tgt := 158) hx hb (by omega) (by omega) dX6_leaves_151 (by decide) (fun c_8 => ?_) (fun c_8 => ?_)
          · refine j_const hx hb dX6_leaves_158 ?_
            exact hRet 159 _ 0 dX6_leaves_159 (by omega) trivial
          · refine j_const hx hb dX6_leaves_154 ?_
            refine lv_goto (tgt := 159) hx hb dX6_leaves_155 (by decide) ?_
            exact hRet 159 _ 1 dX6_leaves_159 (by omega) trivial
        by_cases c_6_62 : σ (G a0 0) (x1).toNat = 62
        · refine lv_lookup (tgt := 128) (off := 94) hx hb dX6_leaves_34 (by decide) (by rw [jI_toInt hrc_6, c_6_62]; decide) (by decide) ?_
          refine lv_aload_n hx hb dX6_leaves_128 rfl (lv_at hl 3 rfl) ?_
          refine lv_iload_n hx hb dX6_leaves_129 rfl (lv_at hl 4 rfl) ?_
          refine j_cR (j_runV (As := [.int (jI x3)]) (rest := []) hx hb hml hown hts hK hS hW (kX3_valueOf l hS σ (a0 := a2) (h0 := h2) (x1 := x3) (r1 := (by omega))) 1 gX6_leaves_X3_valueOf rfl hvX3_valueOf ⟨Nat.le_of_ble_eq_true rfl, Nat.le_of_ble_eq_true rfl⟩ rfl rfl h2 rfl rfl rfl rfl hl.1 rfl (Nat.le_of_ble_eq_true rfl) dX6_leaves_130 ⟨Nat.le_of_ble_eq_true rfl, Nat.le_of_ble_eq_true rfl⟩) (fun v_9 rv_9 pv_9 => ?_)
          try dsimp only at pv_9
          refine lv_iload hx hb dX6_leaves_133 (lv_at hl 0 rfl) ?_
          refine j_icmp_le (tgt := 142) hx hb (by omega) (by omega) dX6_leaves_135 (by decide) (fun c_10 => ?_) (fun c_10 => ?_)
          · refine j_const hx hb dX6_leaves_142 ?_
            exact hRet 143 _ 0 dX6_leaves_143 (by omega) trivial
          · refine j_const hx hb dX6_leaves_138 ?_
            refine lv_goto (tgt := 143) hx hb dX6_leaves_139 (by decide) ?_
            exact hRet 143 _ 1 dX6_leaves_143 (by omega) trivial
        by_cases c_6_100 : σ (G a0 0) (x1).toNat = 100
        · refine lv_lookup (tgt := 228) (off := 194) hx hb dX6_leaves_34 (by decide) (by rw [jI_toInt hrc_6, c_6_100]; decide) (by decide) ?_
          refine lv_iload hx hb dX6_leaves_228 (lv_at hl 5 rfl) ?_
          refine lv_iload hx hb dX6_leaves_230 (lv_at hl 0 rfl) ?_
          refine j_icmp_lt (tgt := 239) hx hb (by omega) (by omega) dX6_leaves_232 (by decide) (fun c_11 => ?_) (fun c_11 => ?_)
          · refine j_const hx hb dX6_leaves_239 ?_
            exact hRet 240 _ 0 dX6_leaves_240 (by omega) trivial
          · refine j_const hx hb dX6_leaves_235 ?_
            refine lv_goto (tgt := 240) hx hb dX6_leaves_236 (by decide) ?_
            exact hRet 240 _ 1 dX6_leaves_240 (by omega) trivial
        by_cases c_6_101 : σ (G a0 0) (x1).toNat = 101
        · refine lv_lookup (tgt := 176) (off := 142) hx hb dX6_leaves_34 (by decide) (by rw [jI_toInt hrc_6, c_6_101]; decide) (by decide) ?_
          refine lv_aload_n hx hb dX6_leaves_176 rfl (lv_at hl 3 rfl) ?_
          refine lv_iload_n hx hb dX6_leaves_177 rfl (lv_at hl 4 rfl) ?_
          refine j_cR (j_runV (As := [.int (jI x3)]) (rest := []) hx hb hml hown hts hK hS hW (kX3_valueOf l hS σ (a0 := a2) (h0 := h2) (x1 := x3) (r1 := (by omega))) 1 gX6_leaves_X3_valueOf rfl hvX3_valueOf ⟨Nat.le_of_ble_eq_true rfl, Nat.le_of_ble_eq_true rfl⟩ rfl rfl h2 rfl rfl rfl rfl hl.1 rfl (Nat.le_of_ble_eq_true rfl) dX6_leaves_178 ⟨Nat.le_of_ble_eq_true rfl, Nat.le_of_ble_eq_true rfl⟩) (fun v_12 rv_12 pv_12 => ?_)
          try dsimp only at pv_12
          refine j_const hx hb dX6_leaves_181 ?_
          refine j_and1 hx hb dX6_leaves_182 ?_
          refine j_if_ne (tgt := 190) hx hb (by omega) dX6_leaves_183 (by decide) (fun c_13 => ?_) (fun c_13 => ?_)
          · refine j_const hx hb dX6_leaves_190 ?_
            exact hRet 191 _ 0 dX6_leaves_191 (by omega) trivial
          · refine j_const hx hb dX6_leaves_186 ?_
            refine lv_goto (tgt := 191) hx hb dX6_leaves_187 (by decide) ?_
            exact hRet 191 _ 1 dX6_leaves_191 (by omega) trivial
        by_cases c_6_107 : σ (G a0 0) (x1).toNat = 107
        · refine lv_lookup (tgt := 209) (off := 175) hx hb dX6_leaves_34 (by decide) (by rw [jI_toInt hrc_6, c_6_107]; decide) (by decide) ?_
          refine lv_iload hx hb dX6_leaves_209 (lv_at hl 0 rfl) ?_
          refine j_if_le (tgt := 226) hx hb (by omega) dX6_leaves_211 (by decide) (fun c_14 => ?_) (fun c_14 => ?_)
          · refine j_const hx hb dX6_leaves_226 ?_
            exact hRet 227 _ 0 dX6_leaves_227 (by omega) trivial
          · refine lv_iload hx hb dX6_leaves_214 (lv_at hl 5 rfl) ?_
            refine lv_iload hx hb dX6_leaves_216 (lv_at hl 0 rfl) ?_
            refine j_rem hx hb (by omega) (by omega) dX6_leaves_218 (fun z_15 rz_15 => ?_)
            refine j_if_ne (tgt := 226) hx hb (by omega) dX6_leaves_219 (by decide) (fun c_16 => ?_) (fun c_16 => ?_)
            · refine j_const hx hb dX6_leaves_226 ?_
              exact hRet 227 _ 0 dX6_leaves_227 (by omega) trivial
            · refine j_const hx hb dX6_leaves_222 ?_
              refine lv_goto (tgt := 227) hx hb dX6_leaves_223 (by decide) ?_
              exact hRet 227 _ 1 dX6_leaves_227 (by omega) trivial
        by_cases c_6_108 : σ (G a0 0) (x1).toNat = 108
        · refine lv_lookup (tgt := 160) (off := 126) hx hb dX6_leaves_34 (by decide) (by rw [jI_toInt hrc_6, c_6_108]; decide) (by decide) ?_
          refine lv_aload_n hx hb dX6_leaves_160 rfl (lv_at hl 3 rfl) ?_
          refine lv_iload_n hx hb dX6_leaves_161 rfl (lv_at hl 4 rfl) ?_
          refine j_cR (j_runV (As := [.int (jI x3)]) (rest := []) hx hb hml hown hts hK hS hW (kX3_lengthOf l hS σ (a0 := a2) (h0 := h2) (x1 := x3) (r1 := (by omega))) 1 gX6_leaves_X3_lengthOf rfl hvX3_lengthOf ⟨Nat.le_of_ble_eq_true rfl, Nat.le_of_ble_eq_true rfl⟩ rfl rfl h2 rfl rfl rfl rfl hl.1 rfl (Nat.le_of_ble_eq_true rfl) dX6_leaves_162 ⟨Nat.le_of_ble_eq_true rfl, Nat.le_of_ble_eq_true rfl⟩) (fun v_17 rv_17 pv_17 => ?_)
          try dsimp only at pv_17
          refine lv_iload hx hb dX6_leaves_165 (lv_at hl 0 rfl) ?_
          refine j_icmp_lt (tgt := 174) hx hb (by omega) (by omega) dX6_leaves_167 (by decide) (fun c_18 => ?_) (fun c_18 => ?_)
          · refine j_const hx hb dX6_leaves_174 ?_
            exact hRet 175 _ 0 dX6_leaves_175 (by omega) trivial
          · refine j_const hx hb dX6_leaves_170 ?_
            refine lv_goto (tgt := 175) hx hb dX6_leaves_171 (by decide) ?_
            exact hRet 175 _ 1 dX6_leaves_175 (by omega) trivial
        by_cases c_6_111 : σ (G a0 0) (x1).toNat = 111
        · refine lv_lookup (tgt := 192) (off := 158) hx hb dX6_leaves_34 (by decide) (by rw [jI_toInt hrc_6, c_6_111]; decide) (by decide) ?_
          refine lv_aload_n hx hb dX6_leaves_192 rfl (lv_at hl 3 rfl) ?_
          refine lv_iload_n hx hb dX6_leaves_193 rfl (lv_at hl 4 rfl) ?_
          refine j_cR (j_runV (As := [.int (jI x3)]) (rest := []) hx hb hml hown hts hK hS hW (kX3_valueOf l hS σ (a0 := a2) (h0 := h2) (x1 := x3) (r1 := (by omega))) 1 gX6_leaves_X3_valueOf rfl hvX3_valueOf ⟨Nat.le_of_ble_eq_true rfl, Nat.le_of_ble_eq_true rfl⟩ rfl rfl h2 rfl rfl rfl rfl hl.1 rfl (Nat.le_of_ble_eq_true rfl) dX6_leaves_194 ⟨Nat.le_of_ble_eq_true rfl, Nat.le_of_ble_eq_true rfl⟩) (fun v_19 rv_19 pv_19 => ?_)
          try dsimp only at pv_19
          refine j_const hx hb dX6_leaves_197 ?_
          refine j_and1 hx hb dX6_leaves_198 ?_
          refine j_const hx hb dX6_leaves_199 ?_
          refine j_icmp_ne (tgt := 207) hx hb (by omega) (by decide) dX6_leaves_200 (by decide) (fun c_20 => ?_) (fun c_20 => ?_)
          · refine j_const hx hb dX6_leaves_207 ?_
            exact hRet 208 _ 0 dX6_leaves_208 (by omega) trivial
          · refine j_const hx hb dX6_leaves_203 ?_
            refine lv_goto (tgt := 208) hx hb dX6_leaves_204 (by decide) ?_
            exact hRet 208 _ 1 dX6_leaves_208 (by omega) trivial
        by_cases c_6_112 : σ (G a0 0) (x1).toNat = 112
        · refine lv_lookup (tgt := 116) (off := 82) hx hb dX6_leaves_34 (by decide) (by rw [jI_toInt hrc_6, c_6_112]; decide) (by decide) ?_
          refine lv_aload_n hx hb dX6_leaves_116 rfl (lv_at hl 3 rfl) ?_
          refine lv_iload_n hx hb dX6_leaves_117 rfl (lv_at hl 4 rfl) ?_
          refine lv_aload_n hx hb dX6_leaves_118 rfl (lv_at hl 1 rfl) ?_
          refine j_getR hx hb (C := RX6) (T := TX6) (N := 4) hts inX6_leaves_X6 hown hK hS hW h0 rfl 2 rfl rfl (by decide) (hts _ flX6_leaves_20) dX6_leaves_119 ?_
          have h_21 : τ (G a0 2) = 31 := gty hS h0 (k := 2) rfl rfl
          refine lv_iload_n hx hb dX6_leaves_122 rfl (lv_at hl 2 rfl) ?_
          refine j_aald hx hb hK hS hW h_21 (n := 8) rfl rfl (by omega) (by omega) (by decide) dX6_leaves_123 ?_
          have h_22 : τ (G (G a0 2) (x1).toNat) = 3 := gtyR hS h_21 (n := 8) rfl (by omega) (by omega)
          refine j_cR (j_runV (As := [.int (jI x3), .ref (G (G a0 2) (x1).toNat)]) (rest := []) hx hb hml hown hts hK hS hW (kX3_beginsWith l hS σ (a0 := a2) (h0 := h2) (x1 := x3) (r1 := (by omega)) (a2 := G (G a0 2) (x1).toNat) (h2 := h_22)) 2 gX6_leaves_X3_beginsWith rfl hvX3_beginsWith ⟨Nat.le_of_ble_eq_true rfl, Nat.le_of_ble_eq_true rfl⟩ rfl rfl h2 rfl rfl rfl rfl hl.1 rfl (Nat.le_of_ble_eq_true rfl) dX6_leaves_124 ⟨Nat.le_of_ble_eq_true rfl, Nat.le_of_ble_eq_true rfl⟩) (fun v_23 rv_23 pv_23 => ?_)
          try dsimp only at pv_23
          exact hRet 127 _ v_23 dX6_leaves_127 (by omega) trivial
        by_cases c_6_116 : σ (G a0 0) (x1).toNat = 116
        · refine lv_lookup (tgt := 241) (off := 207) hx hb dX6_leaves_34 (by decide) (by rw [jI_toInt hrc_6, c_6_116]; decide) (by decide) ?_
          refine lv_iload hx hb dX6_leaves_241 (lv_at hl 5 rfl) ?_
          refine lv_iload hx hb dX6_leaves_243 (lv_at hl 0 rfl) ?_
          refine j_icmp_ge (tgt := 252) hx hb (by omega) (by omega) dX6_leaves_245 (by decide) (fun c_24 => ?_) (fun c_24 => ?_)
          · refine j_const hx hb dX6_leaves_252 ?_
            exact hRet 253 _ 0 dX6_leaves_253 (by omega) trivial
          · refine j_const hx hb dX6_leaves_248 ?_
            refine lv_goto (tgt := 253) hx hb dX6_leaves_249 (by decide) ?_
            exact hRet 253 _ 1 dX6_leaves_253 (by omega) trivial
        refine lv_lookup (tgt := 254) (off := 220) hx hb dX6_leaves_34 (by decide) (by rw [jI_toInt hrc_6]; simp [Op.lookupswitch.offset, Ne.symm c_6_60, Ne.symm c_6_62, Ne.symm c_6_100, Ne.symm c_6_101, Ne.symm c_6_107, Ne.symm c_6_108, Ne.symm c_6_111, Ne.symm c_6_112, Ne.symm c_6_116]) (by decide) ?_
        refine j_const hx hb dX6_leaves_254 ?_
        exact hRet 255 _ 1 dX6_leaves_255 (by omega) trivial
      · refine j_const hx hb dX6_leaves_18 ?_
        exact hRet 19 _ 1 dX6_leaves_19 (by omega) trivial
abbrev wr_X1_turnRound : List Nat := [29000]
theorem flX1_turnRound_15 : Cond.fieldLink RX1 15 "PageTrie$Found" "row" "[I" ∈ wsX1_turnRound := List.mem_of_getElem? (i := 2) rfl
theorem flX1_turnRound_19 : Cond.fieldLink RX1 19 "PageTrie$Found" "size" "I" ∈ wsX1_turnRound := List.mem_of_getElem? (i := 1) rfl
theorem inX1_turnRound_X1 : ∀ w ∈ u_ws RX1 TX1 3, w ∈ wsX1_turnRound := mem_r _ [3, 4, 5] rfl
theorem hvX1_turnRound : yX1_turnRound.cls = RX1 ∧ yX1_turnRound.cls ≠ "java/lang/invoke/MethodHandle" ∧ yX1_turnRound.cls ≠ "java/lang/invoke/VarHandle" ∧ (parseMethodDescriptor yX1_turnRound.desc).map (fun d => d.parameters.length) = some 0 := by decide +kernel
set_option maxHeartbeats 4000000 in
set_option maxRecDepth 100000 in
theorem kX1_turnRound (l : Launch) {D : va_G} {cA : Nat → ClassId} {τ : Nat → Nat} {G : Nat → Nat → Nat} {L : List Nat} (hS : SW τ G L) (σ : Nat → Nat → Int) {a0 : Nat} (h0 : τ a0 = 2) : Met l yX1_turnRound wsX1_turnRound ({ frames := 0, cells := 0, slots := 0, locals := 0 }) (jP D cA τ G L σ [.ref a0]) (jQV D cA τ G L (fun σ' => (True) ∧ fr wr_X1_turnRound τ σ σ')) 0 0 (fun q => q ∈ L) := by
  refine j_metV (by decide +kernel) rfl (Nat.le_of_ble_eq_true rfl) ?_
  intro p e s m args below meth c Q hx hb hml hown hts hK hW hRet ls hl
  have hl : lv_has ls 3 [(0, .ref a0)] := hl
  have hA : ∀ q ∈ L, (fun q => q ∈ L) q := fun _ h => h
  have hF : va_S (fun q => q ∈ L) s.heap s.heap [] := va_S.rf
  have hR : fr wr_X1_turnRound τ σ σ := fr_rf
  refine j_const hx hb dX1_turnRound_0 ?_
  refine lv_istore_n (lv' := [(1, .int (jI 0)), (0, .ref a0)]) hx hb dX1_turnRound_1 rfl hl (by decide) rfl (fun ls hl => ?_)
  have L_2 : ∀ (N : Nat) (v1_2 : Int) (σ_2 : Nat → Nat → Int) (H : Heap) (locs : List Loc) (ls : Array Slot), N = (2147483647 - v1_2 : Int).toNat → (0 ≤ v1_2) → rg v1_2 → PW D cA τ G L σ_2 H → va_S (fun q => q ∈ L) s.heap H locs → fr wr_X1_turnRound τ σ σ_2 → lv_has ls 3 [(0, .ref a0), (1, .int (jI v1_2))] → W p l e ({ frames := 0, cells := 0, slots := 0, locals := 0 }) s m args below meth c H locs 0 0 Q (F0 m 2 ls []) := by
    intro N
    induction N using Nat.strongRecOn with
    | ind N ih_2 =>
      intro v1_2 σ_2 H locs ls hN i0_2 rv1_2 hW hF hR hl
      refine lv_iload_n hx hb dX1_turnRound_2 rfl (lv_at hl 1 rfl) ?_
      refine lv_aload_n hx hb dX1_turnRound_3 rfl (lv_at hl 0 rfl) ?_
      refine j_getI hx hb (C := RX1) (T := TX1) (N := 3) hts inX1_turnRound_X1 hown hK hS hW h0 rfl 2 rfl rfl (by decide) (hts _ flX1_turnRound_19) dX1_turnRound_4 ?_
      have := fbd hW h0 (k := 2) (lo := 0) (hi := 150) rfl rfl
      refine j_const hx hb dX1_turnRound_7 ?_
      refine j_div hx hb (by omega) (by omega) dX1_turnRound_8 ?_
      refine j_icmp_ge (tgt := 58) hx hb (by omega) (by omega) dX1_turnRound_9 (by decide) (fun c_1 => ?_) (fun c_1 => ?_)
      · exact hRet 58 _ _ _ _ dX1_turnRound_58 hW hF ⟨trivial, hR⟩
      · refine lv_aload_n hx hb dX1_turnRound_12 rfl (lv_at hl 0 rfl) ?_
        refine j_getR hx hb (C := RX1) (T := TX1) (N := 3) hts inX1_turnRound_X1 hown hK hS hW h0 rfl 1 rfl rfl (by decide) (hts _ flX1_turnRound_15) dX1_turnRound_13 ?_
        have h_2 : τ (G a0 1) = 29 := gty hS h0 (k := 1) rfl rfl
        refine lv_aload_n hx hb dX1_turnRound_16 rfl (lv_at hl 0 rfl) ?_
        refine j_getI hx hb (C := RX1) (T := TX1) (N := 3) hts inX1_turnRound_X1 hown hK hS hW h0 rfl 2 rfl rfl (by decide) (hts _ flX1_turnRound_19) dX1_turnRound_17 ?_
        refine j_const hx hb dX1_turnRound_20 ?_
        refine j_sub hx hb dX1_turnRound_21 ?_
        refine lv_iload_n hx hb dX1_turnRound_22 rfl (lv_at hl 1 rfl) ?_
        refine j_sub hx hb dX1_turnRound_23 ?_
        refine j_ald hx hb hK hS hW h_2 (n := 150) rfl (by omega) (by omega) (by decide) dX1_turnRound_24 ?_
        have := abd hW h_2 (n := 150) (lo := -2147483648) (hi := 2147483647) (i := ((σ_2 a0 2) - 1) - v1_2) rfl (by omega) (by omega)
        refine lv_istore_n (lv' := [(2, .int (jI (σ_2 (G a0 1) (((σ_2 a0 2) - 1) - v1_2).toNat))), (0, .ref a0), (1, .int (jI v1_2))]) hx hb dX1_turnRound_25 rfl hl (by decide) rfl (fun ls hl => ?_)
        refine lv_aload_n hx hb dX1_turnRound_26 rfl (lv_at hl 1 rfl) ?_
        refine j_getR hx hb (C := RX1) (T := TX1) (N := 3) hts inX1_turnRound_X1 hown hK hS hW h0 rfl 1 rfl rfl (by decide) (hts _ flX1_turnRound_15) dX1_turnRound_27 ?_
        refine lv_aload_n hx hb dX1_turnRound_30 rfl (lv_at hl 1 rfl) ?_
        refine j_getI hx hb (C := RX1) (T := TX1) (N := 3) hts inX1_turnRound_X1 hown hK hS hW h0 rfl 2 rfl rfl (by decide) (hts _ flX1_turnRound_19) dX1_turnRound_31 ?_
        refine j_const hx hb dX1_turnRound_34 ?_
        refine j_sub hx hb dX1_turnRound_35 ?_
        refine lv_iload_n hx hb dX1_turnRound_36 rfl (lv_at hl 2 rfl) ?_
        refine j_sub hx hb dX1_turnRound_37 ?_
        refine lv_aload_n hx hb dX1_turnRound_38 rfl (lv_at hl 1 rfl) ?_
        refine j_getR hx hb (C := RX1) (T := TX1) (N := 3) hts inX1_turnRound_X1 hown hK hS hW h0 rfl 1 rfl rfl (by decide) (hts _ flX1_turnRound_15) dX1_turnRound_39 ?_
        refine lv_iload_n hx hb dX1_turnRound_42 rfl (lv_at hl 2 rfl) ?_
        refine j_ald hx hb hK hS hW h_2 (n := 150) rfl (by omega) (by omega) (by decide) dX1_turnRound_43 ?_
        have := abd hW h_2 (n := 150) (lo := -2147483648) (hi := 2147483647) (i := v1_2) rfl (by omega) (by omega)
        refine j_ast hx hb hK hS hA hW hF h_2 (n := 150) (lo := -2147483648) (hi := 2147483647) rfl (by omega) (by omega) (by decide) (by omega) dX1_turnRound_44 (fun σ_3 H locs e_4 hW hF => ?_)
        have hR := fr_up hR e_4 h_2 29000 (cdA 29 (by decide) _) (by decide)
        refine lv_aload_n hx hb dX1_turnRound_45 rfl (lv_at hl 1 rfl) ?_
        refine j_getR hx hb (C := RX1) (T := TX1) (N := 3) hts inX1_turnRound_X1 hown hK hS hW h0 rfl 1 rfl rfl (by decide) (hts _ flX1_turnRound_15) dX1_turnRound_46 ?_
        refine lv_iload_n hx hb dX1_turnRound_49 rfl (lv_at hl 2 rfl) ?_
        refine lv_iload_n hx hb dX1_turnRound_50 rfl (lv_at hl 0 rfl) ?_
        refine j_ast hx hb hK hS hA hW hF h_2 (n := 150) (lo := -2147483648) (hi := 2147483647) rfl (by omega) (by omega) (by decide) (by omega) dX1_turnRound_51 (fun σ_5 H locs e_6 hW hF => ?_)
        have hR := fr_up hR e_6 h_2 29000 (cdA 29 (by decide) _) (by decide)
        refine j_iinc (lv' := [(1, .int (jI (v1_2 + 1))), (2, .int (jI (σ_2 (G a0 1) (((σ_2 a0 2) - 1) - v1_2).toNat))), (0, .ref a0)]) hx hb dX1_turnRound_52 hl (k := 2) rfl (by decide) rfl (fun ls hl => ?_)
        refine lv_goto (tgt := 2) hx hb dX1_turnRound_55 (by decide) ?_
        exact ih_2 ((2147483647 - (v1_2 + 1) : Int).toNat) (by omega) (v1_2 + 1) σ_5 _ _ _ rfl (by omega) (by omega) hW hF hR (lv_sub hl [2, 0] rfl)
  exact L_2 ((2147483647 - 0 : Int).toNat) 0 σ _ _ _ rfl (by omega) (by decide) hW hF hR (lv_sub hl [1, 0] rfl)
abbrev wr_X1_sift : List Nat := [2002, 29000]
theorem flX1_sift_9 : Cond.fieldLink RX1 9 "PageTrie$Found" "keys" "LPageTrie$Keys;" ∈ wsX1_sift := List.mem_of_getElem? (i := 2) rfl
theorem flX1_sift_15 : Cond.fieldLink RX1 15 "PageTrie$Found" "row" "[I" ∈ wsX1_sift := List.mem_of_getElem? (i := 3) rfl
theorem flX1_sift_19 : Cond.fieldLink RX1 19 "PageTrie$Found" "size" "I" ∈ wsX1_sift := List.mem_of_getElem? (i := 1) rfl
theorem inX1_sift_X1 : ∀ w ∈ u_ws RX1 TX1 3, w ∈ wsX1_sift := mem_r _ [43, 44, 45] rfl
theorem hvX1_sift : yX1_sift.cls = RX1 ∧ yX1_sift.cls ≠ "java/lang/invoke/MethodHandle" ∧ yX1_sift.cls ≠ "java/lang/invoke/VarHandle" ∧ (parseMethodDescriptor yX1_sift.desc).map (fun d => d.parameters.length) = some 2 := by decide +kernel
set_option maxHeartbeats 4000000 in
set_option maxRecDepth 100000 in
theorem kX1_sift (l : Launch) {D : va_G} {cA : Nat → ClassId} {τ : Nat → Nat} {G : Nat → Nat → Nat} {L : List Nat} (hS : SW τ G L) (σ : Nat → Nat → Int) {a0 : Nat} (h0 : τ a0 = 2) {a1 : Nat} (h1 : τ a1 = 7) {x2 : Int} (r2 : rg x2) : Met l yX1_sift wsX1_sift ({ frames := 3, cells := 0, slots := 0, locals := 71 }) (jP D cA τ G L σ [.ref a0, .ref a1, .int (jI x2)]) (jQV D cA τ G L (fun σ' => (True) ∧ fr wr_X1_sift τ σ σ')) 0 0 (fun q => q ∈ L) := by
  refine j_metV (by decide +kernel) rfl (Nat.le_of_ble_eq_true rfl) ?_
  intro p e s m args below meth c Q hx hb hml hown hts hK hW hRet ls hl
  have hl : lv_has ls 5 [(0, .ref a0), (1, .ref a1), (2, .int (jI x2))] := hl
  have hA : ∀ q ∈ L, (fun q => q ∈ L) q := fun _ h => h
  have hF : va_S (fun q => q ∈ L) s.heap s.heap [] := va_S.rf
  have hR : fr wr_X1_sift τ σ σ := fr_rf
  refine j_const hx hb dX1_sift_0 ?_
  refine lv_istore_n (lv' := [(3, .int (jI 0)), (0, .ref a0), (1, .ref a1), (2, .int (jI x2))]) hx hb dX1_sift_1 rfl hl (by decide) rfl (fun ls hl => ?_)
  refine j_const hx hb dX1_sift_2 ?_
  refine lv_istore (lv' := [(4, .int (jI 0)), (3, .int (jI 0)), (0, .ref a0), (1, .ref a1), (2, .int (jI x2))]) hx hb dX1_sift_3 hl (by decide) rfl (fun ls hl => ?_)
  have L_5 : ∀ (N : Nat) (v3_5 v4_5 : Int) (σ_5 : Nat → Nat → Int) (H : Heap) (locs : List Loc) (ls : Array Slot), N = (2147483647 - v4_5 : Int).toNat → (0 ≤ v3_5) → (v3_5 ≤ v4_5) → (v4_5 ≤ 150) → rg v3_5 → rg v4_5 → PW D cA τ G L σ_5 H → va_S (fun q => q ∈ L) s.heap H locs → fr wr_X1_sift τ σ σ_5 → lv_has ls 5 [(0, .ref a0), (1, .ref a1), (2, .int (jI x2)), (3, .int (jI v3_5)), (4, .int (jI v4_5))] → W p l e ({ frames := 3, cells := 0, slots := 0, locals := 71 }) s m args below meth c H locs 0 0 Q (F0 m 5 ls []) := by
    intro N
    induction N using Nat.strongRecOn with
    | ind N ih_5 =>
      intro v3_5 v4_5 σ_5 H locs ls hN i0_5 i1_5 i2_5 rv3_5 rv4_5 hW hF hR hl
      refine lv_iload hx hb dX1_sift_5 (lv_at hl 4 rfl) ?_
      refine lv_aload_n hx hb dX1_sift_7 rfl (lv_at hl 0 rfl) ?_
      refine j_getI hx hb (C := RX1) (T := TX1) (N := 3) hts inX1_sift_X1 hown hK hS hW h0 rfl 2 rfl rfl (by decide) (hts _ flX1_sift_19) dX1_sift_8 ?_
      have := fbd hW h0 (k := 2) (lo := 0) (hi := 150) rfl rfl
      refine j_icmp_ge (tgt := 57) hx hb (by omega) (by omega) dX1_sift_11 (by decide) (fun c_1 => ?_) (fun c_1 => ?_)
      · refine lv_aload_n hx hb dX1_sift_57 rfl (lv_at hl 0 rfl) ?_
        refine lv_iload_n hx hb dX1_sift_58 rfl (lv_at hl 3 rfl) ?_
        refine j_putI hx hb (C := RX1) (T := TX1) (N := 3) hts inX1_sift_X1 tyX1 tyX1_ok nmX1 hown hK hS hA hW hF h0 rfl 2 (lo := 0) (hi := 150) rfl rfl (by decide) (hts _ flX1_sift_19) rfl .int rfl (by omega) rfl rfl dX1_sift_59 (fun σ_2 H locs e_3 hW hF => ?_)
        have hR := fr_up hR e_3 h0 2002 rfl (by decide)
        have : σ_2 a0 2 = v3_5 := by rw [e_3]; exact up2_at _ _ _ _
        exact hRet 62 _ _ _ _ dX1_sift_62 hW hF ⟨trivial, hR⟩
      · refine lv_aload_n hx hb dX1_sift_14 rfl (lv_at hl 1 rfl) ?_
        refine lv_iload_n hx hb dX1_sift_15 rfl (lv_at hl 2 rfl) ?_
        refine lv_aload_n hx hb dX1_sift_16 rfl (lv_at hl 0 rfl) ?_
        refine j_getR hx hb (C := RX1) (T := TX1) (N := 3) hts inX1_sift_X1 hown hK hS hW h0 rfl 0 rfl rfl (by decide) (hts _ flX1_sift_9) dX1_sift_17 ?_
        have h_4 : τ (G a0 0) = 4 := gty hS h0 (k := 0) rfl rfl
        refine lv_aload_n hx hb dX1_sift_20 rfl (lv_at hl 0 rfl) ?_
        refine j_getR hx hb (C := RX1) (T := TX1) (N := 3) hts inX1_sift_X1 hown hK hS hW h0 rfl 1 rfl rfl (by decide) (hts _ flX1_sift_15) dX1_sift_21 ?_
        have h_5 : τ (G a0 1) = 29 := gty hS h0 (k := 1) rfl rfl
        refine lv_iload hx hb dX1_sift_24 (lv_at hl 4 rfl) ?_
        refine j_ald hx hb hK hS hW h_5 (n := 150) rfl (by omega) (by omega) (by decide) dX1_sift_26 ?_
        have := abd hW h_5 (n := 150) (lo := -2147483648) (hi := 2147483647) (i := v4_5) rfl (by omega) (by omega)
        refine lv_iload hx hb dX1_sift_27 (lv_at hl 4 rfl) ?_
        refine j_cR (j_runV (As := [.int (jI x2), .ref (G a0 0), .int (jI (σ_5 (G a0 1) (v4_5).toNat)), .int (jI v4_5)]) (rest := []) hx hb hml hown hts hK hS hW (kX6_leaves l hS σ_5 (a0 := a1) (h0 := h1) (x1 := x2) (r1 := (by omega)) (a2 := G a0 0) (h2 := h_4) (x3 := σ_5 (G a0 1) (v4_5).toNat) (r3 := (by omega)) (x4 := v4_5) (r4 := (by omega))) 4 gX1_sift_X6_leaves rfl hvX6_leaves ⟨Nat.le_of_ble_eq_true rfl, Nat.le_of_ble_eq_true rfl⟩ rfl rfl h1 rfl rfl rfl rfl hl.1 rfl (Nat.le_of_ble_eq_true rfl) dX1_sift_29 ⟨Nat.le_of_ble_eq_true rfl, Nat.le_of_ble_eq_true rfl⟩) (fun v_6 rv_6 pv_6 => ?_)
        try dsimp only at pv_6
        refine j_if_eq (tgt := 51) hx hb (by omega) dX1_sift_32 (by decide) (fun c_7 => ?_) (fun c_7 => ?_)
        · refine j_iinc (lv' := [(4, .int (jI (v4_5 + 1))), (0, .ref a0), (1, .ref a1), (2, .int (jI x2)), (3, .int (jI v3_5))]) hx hb dX1_sift_51 hl (k := 4) rfl (by decide) rfl (fun ls hl => ?_)
          refine lv_goto (tgt := 5) hx hb dX1_sift_54 (by decide) ?_
          exact ih_5 ((2147483647 - (v4_5 + 1) : Int).toNat) (by omega) v3_5 (v4_5 + 1) σ_5 _ _ _ rfl (by omega) (by omega) (by omega) (by omega) (by omega) hW hF hR (lv_sub hl [1, 2, 3, 4, 0] rfl)
        · refine lv_aload_n hx hb dX1_sift_35 rfl (lv_at hl 0 rfl) ?_
          refine j_getR hx hb (C := RX1) (T := TX1) (N := 3) hts inX1_sift_X1 hown hK hS hW h0 rfl 1 rfl rfl (by decide) (hts _ flX1_sift_15) dX1_sift_36 ?_
          refine lv_iload_n hx hb dX1_sift_39 rfl (lv_at hl 3 rfl) ?_
          refine lv_aload_n hx hb dX1_sift_40 rfl (lv_at hl 0 rfl) ?_
          refine j_getR hx hb (C := RX1) (T := TX1) (N := 3) hts inX1_sift_X1 hown hK hS hW h0 rfl 1 rfl rfl (by decide) (hts _ flX1_sift_15) dX1_sift_41 ?_
          refine lv_iload hx hb dX1_sift_44 (lv_at hl 4 rfl) ?_
          refine j_ald hx hb hK hS hW h_5 (n := 150) rfl (by omega) (by omega) (by decide) dX1_sift_46 ?_
          refine j_ast hx hb hK hS hA hW hF h_5 (n := 150) (lo := -2147483648) (hi := 2147483647) rfl (by omega) (by omega) (by decide) (by omega) dX1_sift_47 (fun σ_8 H locs e_9 hW hF => ?_)
          have hR := fr_up hR e_9 h_5 29000 (cdA 29 (by decide) _) (by decide)
          refine j_iinc (lv' := [(3, .int (jI (v3_5 + 1))), (0, .ref a0), (1, .ref a1), (2, .int (jI x2)), (4, .int (jI v4_5))]) hx hb dX1_sift_48 hl (k := 3) rfl (by decide) rfl (fun ls hl => ?_)
          refine j_iinc (lv' := [(4, .int (jI (v4_5 + 1))), (3, .int (jI (v3_5 + 1))), (0, .ref a0), (1, .ref a1), (2, .int (jI x2))]) hx hb dX1_sift_51 hl (k := 4) rfl (by decide) rfl (fun ls hl => ?_)
          refine lv_goto (tgt := 5) hx hb dX1_sift_54 (by decide) ?_
          exact ih_5 ((2147483647 - (v4_5 + 1) : Int).toNat) (by omega) (v3_5 + 1) (v4_5 + 1) σ_8 _ _ _ rfl (by omega) (by omega) (by omega) (by omega) (by omega) hW hF hR (lv_sub hl [2, 3, 4, 1, 0] rfl)
  exact L_5 ((2147483647 - 0 : Int).toNat) 0 0 σ _ _ _ rfl (by omega) (by omega) (by omega) (by decide) (by decide) hW hF hR (lv_sub hl [2, 3, 4, 1, 0] rfl)
abbrev wr_X1_goThrough : List Nat := [2002, 29000]
theorem flX1_goThrough_9 : Cond.fieldLink RX1 9 "PageTrie$Found" "keys" "LPageTrie$Keys;" ∈ wsX1_goThrough := List.mem_of_getElem? (i := 1) rfl
theorem flX1_goThrough_15 : Cond.fieldLink RX1 15 "PageTrie$Found" "row" "[I" ∈ wsX1_goThrough := List.mem_of_getElem? (i := 4) rfl
theorem flX1_goThrough_19 : Cond.fieldLink RX1 19 "PageTrie$Found" "size" "I" ∈ wsX1_goThrough := List.mem_of_getElem? (i := 3) rfl
theorem flX1_goThrough_23 : Cond.fieldLink RX1 23 "PageTrie$Keys" "size" "I" ∈ wsX1_goThrough := List.mem_of_getElem? (i := 2) rfl
theorem flX1_goThrough_26 : Cond.fieldLink RX1 26 "PageTrie$Query" "size" "I" ∈ wsX1_goThrough := List.mem_of_getElem? (i := 5) rfl
theorem inX1_goThrough_X1 : ∀ w ∈ u_ws RX1 TX1 3, w ∈ wsX1_goThrough := mem_r _ [58, 59, 60] rfl
theorem inX1_goThrough_X3 : ∀ w ∈ u_ws RX3 TX3 4, w ∈ wsX1_goThrough := mem_r _ [61, 62, 63, 64] rfl
theorem inX1_goThrough_X6 : ∀ w ∈ u_ws RX6 TX6 4, w ∈ wsX1_goThrough := mem_r _ [65, 66, 67, 68] rfl
theorem hvX1_goThrough : yX1_goThrough.cls = RX1 ∧ yX1_goThrough.cls ≠ "java/lang/invoke/MethodHandle" ∧ yX1_goThrough.cls ≠ "java/lang/invoke/VarHandle" ∧ (parseMethodDescriptor yX1_goThrough.desc).map (fun d => d.parameters.length) = some 1 := by decide +kernel
set_option maxHeartbeats 4000000 in
set_option maxRecDepth 100000 in
theorem kX1_goThrough (l : Launch) {D : va_G} {cA : Nat → ClassId} {τ : Nat → Nat} {G : Nat → Nat → Nat} {L : List Nat} (hS : SW τ G L) (σ : Nat → Nat → Int) {a0 : Nat} (h0 : τ a0 = 2) {a1 : Nat} (h1 : τ a1 = 7) : Met l yX1_goThrough wsX1_goThrough ({ frames := 4, cells := 0, slots := 0, locals := 95 }) (jP D cA τ G L σ [.ref a0, .ref a1]) (jQV D cA τ G L (fun σ' => (True) ∧ fr wr_X1_goThrough τ σ σ')) 0 0 (fun q => q ∈ L) := by
  refine j_metV (by decide +kernel) rfl (Nat.le_of_ble_eq_true rfl) ?_
  intro p e s m args below meth c Q hx hb hml hown hts hK hW hRet ls hl
  have hl : lv_has ls 3 [(0, .ref a0), (1, .ref a1)] := hl
  have hA : ∀ q ∈ L, (fun q => q ∈ L) q := fun _ h => h
  have hF : va_S (fun q => q ∈ L) s.heap s.heap [] := va_S.rf
  have hR : fr wr_X1_goThrough τ σ σ := fr_rf
  refine lv_aload_n hx hb dX1_goThrough_0 rfl (lv_at hl 0 rfl) ?_
  refine lv_aload_n hx hb dX1_goThrough_1 rfl (lv_at hl 0 rfl) ?_
  refine j_getR hx hb (C := RX1) (T := TX1) (N := 3) hts inX1_goThrough_X1 hown hK hS hW h0 rfl 0 rfl rfl (by decide) (hts _ flX1_goThrough_9) dX1_goThrough_2 ?_
  have h_1 : τ (G a0 0) = 4 := gty hS h0 (k := 0) rfl rfl
  refine j_getI hx hb (C := RX3) (T := TX3) (N := 4) hts inX1_goThrough_X3 hown hK hS hW h_1 rfl 3 rfl rfl (by decide) (hts _ flX1_goThrough_23) dX1_goThrough_5 ?_
  have := fbd hW h_1 (k := 3) (lo := 0) (hi := 150) rfl rfl
  refine j_putI hx hb (C := RX1) (T := TX1) (N := 3) hts inX1_goThrough_X1 tyX1 tyX1_ok nmX1 hown hK hS hA hW hF h0 rfl 2 (lo := 0) (hi := 150) rfl rfl (by decide) (hts _ flX1_goThrough_19) rfl .int rfl (by omega) rfl rfl dX1_goThrough_8 (fun σ_2 H locs e_3 hW hF => ?_)
  have hR := fr_up hR e_3 h0 2002 rfl (by decide)
  have : σ_2 a0 2 = σ (G a0 0) 3 := by rw [e_3]; exact up2_at _ _ _ _
  refine j_const hx hb dX1_goThrough_11 ?_
  refine lv_istore_n (lv' := [(2, .int (jI 0)), (0, .ref a0), (1, .ref a1)]) hx hb dX1_goThrough_12 rfl hl (by decide) rfl (fun ls hl => ?_)
  have L_13 : ∀ (N : Nat) (v2_13 : Int) (σ_13 : Nat → Nat → Int) (H : Heap) (locs : List Loc) (ls : Array Slot), N = (2147483647 - v2_13 : Int).toNat → (0 ≤ v2_13) → (v2_13 ≤ 150) → rg v2_13 → PW D cA τ G L σ_13 H → va_S (fun q => q ∈ L) s.heap H locs → fr wr_X1_goThrough τ σ σ_13 → lv_has ls 3 [(0, .ref a0), (1, .ref a1), (2, .int (jI v2_13))] → W p l e ({ frames := 4, cells := 0, slots := 0, locals := 95 }) s m args below meth c H locs 0 0 Q (F0 m 13 ls []) := by
    intro N
    induction N using Nat.strongRecOn with
    | ind N ih_13 =>
      intro v2_13 σ_13 H locs ls hN i0_13 i1_13 rv2_13 hW hF hR hl
      refine lv_iload_n hx hb dX1_goThrough_13 rfl (lv_at hl 2 rfl) ?_
      refine lv_aload_n hx hb dX1_goThrough_14 rfl (lv_at hl 0 rfl) ?_
      refine j_getI hx hb (C := RX1) (T := TX1) (N := 3) hts inX1_goThrough_X1 hown hK hS hW h0 rfl 2 rfl rfl (by decide) (hts _ flX1_goThrough_19) dX1_goThrough_15 ?_
      have := fbd hW h0 (k := 2) (lo := 0) (hi := 150) rfl rfl
      refine j_icmp_ge (tgt := 41) hx hb (by omega) (by omega) dX1_goThrough_18 (by decide) (fun c_4 => ?_) (fun c_4 => ?_)
      · refine j_const hx hb dX1_goThrough_41 ?_
        refine lv_istore_n (lv' := [(2, .int (jI 0)), (0, .ref a0), (1, .ref a1)]) hx hb dX1_goThrough_42 rfl hl (by decide) rfl (fun ls hl => ?_)
        have L_43 : ∀ (N : Nat) (v2_43 : Int) (σ_43 : Nat → Nat → Int) (H : Heap) (locs : List Loc) (ls : Array Slot), N = (2147483647 - v2_43 : Int).toNat → (0 ≤ v2_43) → rg v2_43 → PW D cA τ G L σ_43 H → va_S (fun q => q ∈ L) s.heap H locs → fr wr_X1_goThrough τ σ σ_43 → lv_has ls 3 [(0, .ref a0), (1, .ref a1), (2, .int (jI v2_43))] → W p l e ({ frames := 4, cells := 0, slots := 0, locals := 95 }) s m args below meth c H locs 0 0 Q (F0 m 43 ls []) := by
          intro N
          induction N using Nat.strongRecOn with
          | ind N ih_43 =>
            intro v2_43 σ_43 H locs ls hN i0_43 rv2_43 hW hF hR hl
            refine lv_iload_n hx hb dX1_goThrough_43 rfl (lv_at hl 2 rfl) ?_
            refine lv_aload_n hx hb dX1_goThrough_44 rfl (lv_at hl 1 rfl) ?_
            refine j_getI hx hb (C := RX6) (T := TX6) (N := 4) hts inX1_goThrough_X6 hown hK hS hW h1 rfl 3 rfl rfl (by decide) (hts _ flX1_goThrough_26) dX1_goThrough_45 ?_
            have := fbd hW h1 (k := 3) (lo := -2147483648) (hi := 2147483647) rfl rfl
            refine j_icmp_ge (tgt := 78) hx hb (by omega) (by omega) dX1_goThrough_48 (by decide) (fun c_5 => ?_) (fun c_5 => ?_)
            · exact hRet 78 _ _ _ _ dX1_goThrough_78 hW hF ⟨trivial, hR⟩
            · refine lv_aload_n hx hb dX1_goThrough_51 rfl (lv_at hl 1 rfl) ?_
              refine lv_iload_n hx hb dX1_goThrough_52 rfl (lv_at hl 2 rfl) ?_
              refine j_cR (j_runV (As := [.int (jI v2_43)]) (rest := []) hx hb hml hown hts hK hS hW (kX6_turnsRound l hS σ_43 (a0 := a1) (h0 := h1) (x1 := v2_43) (r1 := (by omega))) 1 gX1_goThrough_X6_turnsRound rfl hvX6_turnsRound ⟨Nat.le_of_ble_eq_true rfl, Nat.le_of_ble_eq_true rfl⟩ rfl rfl h1 rfl rfl rfl rfl hl.1 rfl (Nat.le_of_ble_eq_true rfl) dX1_goThrough_53 ⟨Nat.le_of_ble_eq_true rfl, Nat.le_of_ble_eq_true rfl⟩) (fun v_6 rv_6 pv_6 => ?_)
              try dsimp only at pv_6
              refine j_if_eq (tgt := 66) hx hb (by omega) dX1_goThrough_56 (by decide) (fun c_7 => ?_) (fun c_7 => ?_)
              · refine lv_aload_n hx hb dX1_goThrough_66 rfl (lv_at hl 0 rfl) ?_
                refine lv_aload_n hx hb dX1_goThrough_67 rfl (lv_at hl 1 rfl) ?_
                refine lv_iload_n hx hb dX1_goThrough_68 rfl (lv_at hl 2 rfl) ?_
                refine j_cV (j_runV (As := [.ref a1, .int (jI v2_43)]) (rest := []) hx hb hml hown hts hK hS hW (kX1_sift l hS σ_43 (a0 := a0) (h0 := h0) (a1 := a1) (h1 := h1) (x2 := v2_43) (r2 := (by omega))) 2 gX1_goThrough_X1_sift rfl hvX1_sift ⟨Nat.le_of_ble_eq_true rfl, Nat.le_of_ble_eq_true rfl⟩ rfl rfl h0 rfl rfl rfl rfl hl.1 rfl (Nat.le_of_ble_eq_true rfl) dX1_goThrough_69 ⟨Nat.le_of_ble_eq_true rfl, Nat.le_of_ble_eq_true rfl⟩) hA hF (fun σ_8 H locs hW hF pσ_8 => ?_)
                try dsimp only at pσ_8
                obtain ⟨pσ_8, fpσ_8⟩ := pσ_8
                have hR := fr_call hR fpσ_8 (by decide)
                refine j_iinc (lv' := [(2, .int (jI (v2_43 + 1))), (0, .ref a0), (1, .ref a1)]) hx hb dX1_goThrough_72 hl (k := 2) rfl (by decide) rfl (fun ls hl => ?_)
                refine lv_goto (tgt := 43) hx hb dX1_goThrough_75 (by decide) ?_
                exact ih_43 ((2147483647 - (v2_43 + 1) : Int).toNat) (by omega) (v2_43 + 1) σ_8 _ _ _ rfl (by omega) (by omega) hW hF hR (lv_sub hl [1, 2, 0] rfl)
              · refine lv_aload_n hx hb dX1_goThrough_59 rfl (lv_at hl 0 rfl) ?_
                refine j_cV (j_runV (As := []) (rest := []) hx hb hml hown hts hK hS hW (kX1_turnRound l hS σ_43 (a0 := a0) (h0 := h0)) 0 gX1_goThrough_X1_turnRound rfl hvX1_turnRound ⟨Nat.le_of_ble_eq_true rfl, Nat.le_of_ble_eq_true rfl⟩ rfl rfl h0 rfl rfl rfl rfl hl.1 rfl (Nat.le_of_ble_eq_true rfl) dX1_goThrough_60 ⟨Nat.le_of_ble_eq_true rfl, Nat.le_of_ble_eq_true rfl⟩) hA hF (fun σ_9 H locs hW hF pσ_9 => ?_)
                try dsimp only at pσ_9
                obtain ⟨pσ_9, fpσ_9⟩ := pσ_9
                have hR := fr_call hR fpσ_9 (by decide)
                refine lv_goto (tgt := 72) hx hb dX1_goThrough_63 (by decide) ?_
                refine j_iinc (lv' := [(2, .int (jI (v2_43 + 1))), (0, .ref a0), (1, .ref a1)]) hx hb dX1_goThrough_72 hl (k := 2) rfl (by decide) rfl (fun ls hl => ?_)
                refine lv_goto (tgt := 43) hx hb dX1_goThrough_75 (by decide) ?_
                exact ih_43 ((2147483647 - (v2_43 + 1) : Int).toNat) (by omega) (v2_43 + 1) σ_9 _ _ _ rfl (by omega) (by omega) hW hF hR (lv_sub hl [1, 2, 0] rfl)
        exact L_43 ((2147483647 - 0 : Int).toNat) 0 σ_13 _ _ _ rfl (by omega) (by decide) hW hF hR (lv_sub hl [1, 2, 0] rfl)
      · refine lv_iload_n hx hb dX1_goThrough_21 rfl (lv_at hl 2 rfl) ?_
        refine j_si hx hb dX1_goThrough_22 (by decide) ?_
        refine j_icmp_ge (tgt := 41) hx hb (by omega) (by decide) dX1_goThrough_25 (by decide) (fun c_10 => ?_) (fun c_10 => ?_)
        · refine j_const hx hb dX1_goThrough_41 ?_
          refine lv_istore_n (lv' := [(2, .int (jI 0)), (0, .ref a0), (1, .ref a1)]) hx hb dX1_goThrough_42 rfl hl (by decide) rfl (fun ls hl => ?_)
          have L_43 : ∀ (N : Nat) (v2_43 : Int) (σ_43 : Nat → Nat → Int) (H : Heap) (locs : List Loc) (ls : Array Slot), N = (2147483647 - v2_43 : Int).toNat → (0 ≤ v2_43) → rg v2_43 → PW D cA τ G L σ_43 H → va_S (fun q => q ∈ L) s.heap H locs → fr wr_X1_goThrough τ σ σ_43 → lv_has ls 3 [(0, .ref a0), (1, .ref a1), (2, .int (jI v2_43))] → W p l e ({ frames := 4, cells := 0, slots := 0, locals := 95 }) s m args below meth c H locs 0 0 Q (F0 m 43 ls []) := by
            intro N
            induction N using Nat.strongRecOn with
            | ind N ih_43 =>
              intro v2_43 σ_43 H locs ls hN i0_43 rv2_43 hW hF hR hl
              refine lv_iload_n hx hb dX1_goThrough_43 rfl (lv_at hl 2 rfl) ?_
              refine lv_aload_n hx hb dX1_goThrough_44 rfl (lv_at hl 1 rfl) ?_
              refine j_getI hx hb (C := RX6) (T := TX6) (N := 4) hts inX1_goThrough_X6 hown hK hS hW h1 rfl 3 rfl rfl (by decide) (hts _ flX1_goThrough_26) dX1_goThrough_45 ?_
              have := fbd hW h1 (k := 3) (lo := -2147483648) (hi := 2147483647) rfl rfl
              refine j_icmp_ge (tgt := 78) hx hb (by omega) (by omega) dX1_goThrough_48 (by decide) (fun c_11 => ?_) (fun c_11 => ?_)
              · exact hRet 78 _ _ _ _ dX1_goThrough_78 hW hF ⟨trivial, hR⟩
              · refine lv_aload_n hx hb dX1_goThrough_51 rfl (lv_at hl 1 rfl) ?_
                refine lv_iload_n hx hb dX1_goThrough_52 rfl (lv_at hl 2 rfl) ?_
                refine j_cR (j_runV (As := [.int (jI v2_43)]) (rest := []) hx hb hml hown hts hK hS hW (kX6_turnsRound l hS σ_43 (a0 := a1) (h0 := h1) (x1 := v2_43) (r1 := (by omega))) 1 gX1_goThrough_X6_turnsRound rfl hvX6_turnsRound ⟨Nat.le_of_ble_eq_true rfl, Nat.le_of_ble_eq_true rfl⟩ rfl rfl h1 rfl rfl rfl rfl hl.1 rfl (Nat.le_of_ble_eq_true rfl) dX1_goThrough_53 ⟨Nat.le_of_ble_eq_true rfl, Nat.le_of_ble_eq_true rfl⟩) (fun v_12 rv_12 pv_12 => ?_)
                try dsimp only at pv_12
                refine j_if_eq (tgt := 66) hx hb (by omega) dX1_goThrough_56 (by decide) (fun c_13 => ?_) (fun c_13 => ?_)
                · refine lv_aload_n hx hb dX1_goThrough_66 rfl (lv_at hl 0 rfl) ?_
                  refine lv_aload_n hx hb dX1_goThrough_67 rfl (lv_at hl 1 rfl) ?_
                  refine lv_iload_n hx hb dX1_goThrough_68 rfl (lv_at hl 2 rfl) ?_
                  refine j_cV (j_runV (As := [.ref a1, .int (jI v2_43)]) (rest := []) hx hb hml hown hts hK hS hW (kX1_sift l hS σ_43 (a0 := a0) (h0 := h0) (a1 := a1) (h1 := h1) (x2 := v2_43) (r2 := (by omega))) 2 gX1_goThrough_X1_sift rfl hvX1_sift ⟨Nat.le_of_ble_eq_true rfl, Nat.le_of_ble_eq_true rfl⟩ rfl rfl h0 rfl rfl rfl rfl hl.1 rfl (Nat.le_of_ble_eq_true rfl) dX1_goThrough_69 ⟨Nat.le_of_ble_eq_true rfl, Nat.le_of_ble_eq_true rfl⟩) hA hF (fun σ_14 H locs hW hF pσ_14 => ?_)
                  try dsimp only at pσ_14
                  obtain ⟨pσ_14, fpσ_14⟩ := pσ_14
                  have hR := fr_call hR fpσ_14 (by decide)
                  refine j_iinc (lv' := [(2, .int (jI (v2_43 + 1))), (0, .ref a0), (1, .ref a1)]) hx hb dX1_goThrough_72 hl (k := 2) rfl (by decide) rfl (fun ls hl => ?_)
                  refine lv_goto (tgt := 43) hx hb dX1_goThrough_75 (by decide) ?_
                  exact ih_43 ((2147483647 - (v2_43 + 1) : Int).toNat) (by omega) (v2_43 + 1) σ_14 _ _ _ rfl (by omega) (by omega) hW hF hR (lv_sub hl [1, 2, 0] rfl)
                · refine lv_aload_n hx hb dX1_goThrough_59 rfl (lv_at hl 0 rfl) ?_
                  refine j_cV (j_runV (As := []) (rest := []) hx hb hml hown hts hK hS hW (kX1_turnRound l hS σ_43 (a0 := a0) (h0 := h0)) 0 gX1_goThrough_X1_turnRound rfl hvX1_turnRound ⟨Nat.le_of_ble_eq_true rfl, Nat.le_of_ble_eq_true rfl⟩ rfl rfl h0 rfl rfl rfl rfl hl.1 rfl (Nat.le_of_ble_eq_true rfl) dX1_goThrough_60 ⟨Nat.le_of_ble_eq_true rfl, Nat.le_of_ble_eq_true rfl⟩) hA hF (fun σ_15 H locs hW hF pσ_15 => ?_)
                  try dsimp only at pσ_15
                  obtain ⟨pσ_15, fpσ_15⟩ := pσ_15
                  have hR := fr_call hR fpσ_15 (by decide)
                  refine lv_goto (tgt := 72) hx hb dX1_goThrough_63 (by decide) ?_
                  refine j_iinc (lv' := [(2, .int (jI (v2_43 + 1))), (0, .ref a0), (1, .ref a1)]) hx hb dX1_goThrough_72 hl (k := 2) rfl (by decide) rfl (fun ls hl => ?_)
                  refine lv_goto (tgt := 43) hx hb dX1_goThrough_75 (by decide) ?_
                  exact ih_43 ((2147483647 - (v2_43 + 1) : Int).toNat) (by omega) (v2_43 + 1) σ_15 _ _ _ rfl (by omega) (by omega) hW hF hR (lv_sub hl [1, 2, 0] rfl)
          exact L_43 ((2147483647 - 0 : Int).toNat) 0 σ_13 _ _ _ rfl (by omega) (by decide) hW hF hR (lv_sub hl [1, 2, 0] rfl)
        · refine lv_aload_n hx hb dX1_goThrough_28 rfl (lv_at hl 0 rfl) ?_
          refine j_getR hx hb (C := RX1) (T := TX1) (N := 3) hts inX1_goThrough_X1 hown hK hS hW h0 rfl 1 rfl rfl (by decide) (hts _ flX1_goThrough_15) dX1_goThrough_29 ?_
          have h_16 : τ (G a0 1) = 29 := gty hS h0 (k := 1) rfl rfl
          refine lv_iload_n hx hb dX1_goThrough_32 rfl (lv_at hl 2 rfl) ?_
          refine lv_iload_n hx hb dX1_goThrough_33 rfl (lv_at hl 2 rfl) ?_
          refine j_ast hx hb hK hS hA hW hF h_16 (n := 150) (lo := -2147483648) (hi := 2147483647) rfl (by omega) (by omega) (by decide) (by omega) dX1_goThrough_34 (fun σ_17 H locs e_18 hW hF => ?_)
          have hR := fr_up hR e_18 h_16 29000 (cdA 29 (by decide) _) (by decide)
          refine j_iinc (lv' := [(2, .int (jI (v2_13 + 1))), (0, .ref a0), (1, .ref a1)]) hx hb dX1_goThrough_35 hl (k := 2) rfl (by decide) rfl (fun ls hl => ?_)
          refine lv_goto (tgt := 13) hx hb dX1_goThrough_38 (by decide) ?_
          exact ih_13 ((2147483647 - (v2_13 + 1) : Int).toNat) (by omega) (v2_13 + 1) σ_17 _ _ _ rfl (by omega) (by omega) (by omega) hW hF hR (lv_sub hl [1, 2, 0] rfl)
  exact L_13 ((2147483647 - 0 : Int).toNat) 0 σ_2 _ _ _ rfl (by omega) (by omega) (by decide) hW hF hR (lv_sub hl [1, 2, 0] rfl)
theorem flX1_numberAt_15 : Cond.fieldLink RX1 15 "PageTrie$Found" "row" "[I" ∈ wsX1_numberAt := List.mem_of_getElem? (i := 2) rfl
theorem flX1_numberAt_19 : Cond.fieldLink RX1 19 "PageTrie$Found" "size" "I" ∈ wsX1_numberAt := List.mem_of_getElem? (i := 1) rfl
theorem inX1_numberAt_X1 : ∀ w ∈ u_ws RX1 TX1 3, w ∈ wsX1_numberAt := mem_r _ [3, 4, 5] rfl
theorem hvX1_numberAt : yX1_numberAt.cls = RX1 ∧ yX1_numberAt.cls ≠ "java/lang/invoke/MethodHandle" ∧ yX1_numberAt.cls ≠ "java/lang/invoke/VarHandle" ∧ (parseMethodDescriptor yX1_numberAt.desc).map (fun d => d.parameters.length) = some 1 := by decide +kernel
set_option maxHeartbeats 4000000 in
set_option maxRecDepth 100000 in
theorem kX1_numberAt (l : Launch) {D : va_G} {cA : Nat → ClassId} {τ : Nat → Nat} {G : Nat → Nat → Nat} {L : List Nat} (hS : SW τ G L) (σ : Nat → Nat → Int) {a0 : Nat} (h0 : τ a0 = 2) {x1 : Int} (r1 : rg x1) : Met l yX1_numberAt wsX1_numberAt ({ frames := 0, cells := 0, slots := 0, locals := 0 }) (jP D cA τ G L σ [.ref a0, .int (jI x1)]) (jQR (fun r => True)) 0 0 (fun _ => False) := by
  refine j_metR (by decide +kernel) rfl (Nat.le_of_ble_eq_true rfl) ?_
  intro p e s m args below meth c Q hx hb hml hown hts hK hW hRet ls hl
  have hl : lv_has ls 2 [(0, .ref a0), (1, .int (jI x1))] := hl
  refine lv_iload_n hx hb dX1_numberAt_0 rfl (lv_at hl 1 rfl) ?_
  refine j_if_lt (tgt := 28) hx hb (by omega) dX1_numberAt_1 (by decide) (fun c_1 => ?_) (fun c_1 => ?_)
  · refine j_const hx hb dX1_numberAt_28 ?_
    exact hRet 29 _ (-1) dX1_numberAt_29 (by decide) trivial
  · refine lv_iload_n hx hb dX1_numberAt_4 rfl (lv_at hl 1 rfl) ?_
    refine lv_aload_n hx hb dX1_numberAt_5 rfl (lv_at hl 0 rfl) ?_
    refine j_getI hx hb (C := RX1) (T := TX1) (N := 3) hts inX1_numberAt_X1 hown hK hS hW h0 rfl 2 rfl rfl (by decide) (hts _ flX1_numberAt_19) dX1_numberAt_6 ?_
    have := fbd hW h0 (k := 2) (lo := 0) (hi := 150) rfl rfl
    refine j_icmp_ge (tgt := 28) hx hb (by omega) (by omega) dX1_numberAt_9 (by decide) (fun c_2 => ?_) (fun c_2 => ?_)
    · refine j_const hx hb dX1_numberAt_28 ?_
      exact hRet 29 _ (-1) dX1_numberAt_29 (by decide) trivial
    · refine lv_iload_n hx hb dX1_numberAt_12 rfl (lv_at hl 1 rfl) ?_
      refine j_si hx hb dX1_numberAt_13 (by decide) ?_
      refine j_icmp_ge (tgt := 28) hx hb (by omega) (by decide) dX1_numberAt_16 (by decide) (fun c_3 => ?_) (fun c_3 => ?_)
      · refine j_const hx hb dX1_numberAt_28 ?_
        exact hRet 29 _ (-1) dX1_numberAt_29 (by decide) trivial
      · refine lv_aload_n hx hb dX1_numberAt_19 rfl (lv_at hl 0 rfl) ?_
        refine j_getR hx hb (C := RX1) (T := TX1) (N := 3) hts inX1_numberAt_X1 hown hK hS hW h0 rfl 1 rfl rfl (by decide) (hts _ flX1_numberAt_15) dX1_numberAt_20 ?_
        have h_4 : τ (G a0 1) = 29 := gty hS h0 (k := 1) rfl rfl
        refine lv_iload_n hx hb dX1_numberAt_23 rfl (lv_at hl 1 rfl) ?_
        refine j_ald hx hb hK hS hW h_4 (n := 150) rfl (by omega) (by omega) (by decide) dX1_numberAt_24 ?_
        have := abd hW h_4 (n := 150) (lo := -2147483648) (hi := 2147483647) (i := x1) rfl (by omega) (by omega)
        refine lv_goto (tgt := 29) hx hb dX1_numberAt_25 (by decide) ?_
        exact hRet 29 _ (σ (G a0 1) (x1).toNat) dX1_numberAt_29 (by omega) trivial
abbrev wr_X1_closeGap : List Nat := [29000]
theorem flX1_closeGap_15 : Cond.fieldLink RX1 15 "PageTrie$Found" "row" "[I" ∈ wsX1_closeGap := List.mem_of_getElem? (i := 2) rfl
theorem flX1_closeGap_19 : Cond.fieldLink RX1 19 "PageTrie$Found" "size" "I" ∈ wsX1_closeGap := List.mem_of_getElem? (i := 1) rfl
theorem inX1_closeGap_X1 : ∀ w ∈ u_ws RX1 TX1 3, w ∈ wsX1_closeGap := mem_r _ [3, 4, 5] rfl
theorem hvX1_closeGap : yX1_closeGap.cls = RX1 ∧ yX1_closeGap.cls ≠ "java/lang/invoke/MethodHandle" ∧ yX1_closeGap.cls ≠ "java/lang/invoke/VarHandle" ∧ (parseMethodDescriptor yX1_closeGap.desc).map (fun d => d.parameters.length) = some 2 := by decide +kernel
set_option maxHeartbeats 4000000 in
set_option maxRecDepth 100000 in
theorem kX1_closeGap (l : Launch) {D : va_G} {cA : Nat → ClassId} {τ : Nat → Nat} {G : Nat → Nat → Nat} {L : List Nat} (hS : SW τ G L) (σ : Nat → Nat → Int) {a0 : Nat} (h0 : τ a0 = 2) {x1 : Int} (r1 : rg x1) {x2 : Int} (r2 : rg x2) (q0 : 0 ≤ x1) : Met l yX1_closeGap wsX1_closeGap ({ frames := 0, cells := 0, slots := 0, locals := 0 }) (jP D cA τ G L σ [.ref a0, .int (jI x1), .int (jI x2)]) (jQV D cA τ G L (fun σ' => (True) ∧ fr wr_X1_closeGap τ σ σ')) 0 0 (fun q => q ∈ L) := by
  refine j_metV (by decide +kernel) rfl (Nat.le_of_ble_eq_true rfl) ?_
  intro p e s m args below meth c Q hx hb hml hown hts hK hW hRet ls hl
  have hl : lv_has ls 4 [(0, .ref a0), (1, .int (jI x1)), (2, .int (jI x2))] := hl
  have hA : ∀ q ∈ L, (fun q => q ∈ L) q := fun _ h => h
  have hF : va_S (fun q => q ∈ L) s.heap s.heap [] := va_S.rf
  have hR : fr wr_X1_closeGap τ σ σ := fr_rf
  refine lv_iload_n hx hb dX1_closeGap_0 rfl (lv_at hl 1 rfl) ?_
  refine lv_istore_n (lv' := [(3, .int (jI x1)), (0, .ref a0), (1, .int (jI x1)), (2, .int (jI x2))]) hx hb dX1_closeGap_1 rfl hl (by decide) rfl (fun ls hl => ?_)
  have L_2 : ∀ (N : Nat) (v3_2 : Int) (σ_2 : Nat → Nat → Int) (H : Heap) (locs : List Loc) (ls : Array Slot), N = (2147483647 - v3_2 : Int).toNat → (0 ≤ v3_2) → rg v3_2 → PW D cA τ G L σ_2 H → va_S (fun q => q ∈ L) s.heap H locs → fr wr_X1_closeGap τ σ σ_2 → lv_has ls 4 [(0, .ref a0), (2, .int (jI x2)), (3, .int (jI v3_2))] → W p l e ({ frames := 0, cells := 0, slots := 0, locals := 0 }) s m args below meth c H locs 0 0 Q (F0 m 2 ls []) := by
    intro N
    induction N using Nat.strongRecOn with
    | ind N ih_2 =>
      intro v3_2 σ_2 H locs ls hN i0_2 rv3_2 hW hF hR hl
      refine lv_iload_n hx hb dX1_closeGap_2 rfl (lv_at hl 2 rfl) ?_
      refine lv_aload_n hx hb dX1_closeGap_3 rfl (lv_at hl 0 rfl) ?_
      refine j_getI hx hb (C := RX1) (T := TX1) (N := 3) hts inX1_closeGap_X1 hown hK hS hW h0 rfl 2 rfl rfl (by decide) (hts _ flX1_closeGap_19) dX1_closeGap_4 ?_
      have := fbd hW h0 (k := 2) (lo := 0) (hi := 150) rfl rfl
      refine j_icmp_ge (tgt := 36) hx hb (by omega) (by omega) dX1_closeGap_7 (by decide) (fun c_1 => ?_) (fun c_1 => ?_)
      · exact hRet 36 _ _ _ _ dX1_closeGap_36 hW hF ⟨trivial, hR⟩
      · refine lv_aload_n hx hb dX1_closeGap_10 rfl (lv_at hl 0 rfl) ?_
        refine j_getR hx hb (C := RX1) (T := TX1) (N := 3) hts inX1_closeGap_X1 hown hK hS hW h0 rfl 1 rfl rfl (by decide) (hts _ flX1_closeGap_15) dX1_closeGap_11 ?_
        have h_2 : τ (G a0 1) = 29 := gty hS h0 (k := 1) rfl rfl
        refine lv_iload_n hx hb dX1_closeGap_14 rfl (lv_at hl 2 rfl) ?_
        refine j_ald hx hb hK hS hW h_2 (n := 150) rfl (by omega) (by omega) (by decide) dX1_closeGap_15 ?_
        have := abd hW h_2 (n := 150) (lo := -2147483648) (hi := 2147483647) (i := v3_2) rfl (by omega) (by omega)
        refine lv_iload_n hx hb dX1_closeGap_16 rfl (lv_at hl 1 rfl) ?_
        refine j_icmp_le (tgt := 30) hx hb (by omega) (by omega) dX1_closeGap_17 (by decide) (fun c_3 => ?_) (fun c_3 => ?_)
        · refine j_iinc (lv' := [(3, .int (jI (v3_2 + 1))), (0, .ref a0), (2, .int (jI x2))]) hx hb dX1_closeGap_30 hl (k := 2) rfl (by decide) rfl (fun ls hl => ?_)
          refine lv_goto (tgt := 2) hx hb dX1_closeGap_33 (by decide) ?_
          exact ih_2 ((2147483647 - (v3_2 + 1) : Int).toNat) (by omega) (v3_2 + 1) σ_2 _ _ _ rfl (by omega) (by omega) hW hF hR (lv_sub hl [1, 2, 0] rfl)
        · refine lv_aload_n hx hb dX1_closeGap_20 rfl (lv_at hl 0 rfl) ?_
          refine j_getR hx hb (C := RX1) (T := TX1) (N := 3) hts inX1_closeGap_X1 hown hK hS hW h0 rfl 1 rfl rfl (by decide) (hts _ flX1_closeGap_15) dX1_closeGap_21 ?_
          refine lv_iload_n hx hb dX1_closeGap_24 rfl (lv_at hl 2 rfl) ?_
          refine lv_dup2_11 hx hb dX1_closeGap_25 rfl rfl ?_
          refine j_ald hx hb hK hS hW h_2 (n := 150) rfl (by omega) (by omega) (by decide) dX1_closeGap_26 ?_
          refine j_const hx hb dX1_closeGap_27 ?_
          refine j_sub hx hb dX1_closeGap_28 ?_
          refine j_ast hx hb hK hS hA hW hF h_2 (n := 150) (lo := -2147483648) (hi := 2147483647) rfl (by omega) (by omega) (by decide) (by omega) dX1_closeGap_29 (fun σ_4 H locs e_5 hW hF => ?_)
          have hR := fr_up hR e_5 h_2 29000 (cdA 29 (by decide) _) (by decide)
          refine j_iinc (lv' := [(3, .int (jI (v3_2 + 1))), (0, .ref a0), (2, .int (jI x2))]) hx hb dX1_closeGap_30 hl (k := 2) rfl (by decide) rfl (fun ls hl => ?_)
          refine lv_goto (tgt := 2) hx hb dX1_closeGap_33 (by decide) ?_
          exact ih_2 ((2147483647 - (v3_2 + 1) : Int).toNat) (by omega) (v3_2 + 1) σ_4 _ _ _ rfl (by omega) (by omega) hW hF hR (lv_sub hl [1, 2, 0] rfl)
  exact L_2 ((2147483647 - x1 : Int).toNat) x1 σ _ _ _ rfl (by omega) (by omega) hW hF hR (lv_sub hl [1, 3, 0] rfl)
theorem flX1_valuesTogether_9 : Cond.fieldLink RX1 9 "PageTrie$Found" "keys" "LPageTrie$Keys;" ∈ wsX1_valuesTogether := List.mem_of_getElem? (i := 2) rfl
theorem flX1_valuesTogether_15 : Cond.fieldLink RX1 15 "PageTrie$Found" "row" "[I" ∈ wsX1_valuesTogether := List.mem_of_getElem? (i := 3) rfl
theorem flX1_valuesTogether_19 : Cond.fieldLink RX1 19 "PageTrie$Found" "size" "I" ∈ wsX1_valuesTogether := List.mem_of_getElem? (i := 1) rfl
theorem inX1_valuesTogether_X1 : ∀ w ∈ u_ws RX1 TX1 3, w ∈ wsX1_valuesTogether := mem_r _ [11, 12, 13] rfl
theorem hvX1_valuesTogether : yX1_valuesTogether.cls = RX1 ∧ yX1_valuesTogether.cls ≠ "java/lang/invoke/MethodHandle" ∧ yX1_valuesTogether.cls ≠ "java/lang/invoke/VarHandle" ∧ (parseMethodDescriptor yX1_valuesTogether.desc).map (fun d => d.parameters.length) = some 0 := by decide +kernel
set_option maxHeartbeats 4000000 in
set_option maxRecDepth 100000 in
theorem kX1_valuesTogether (l : Launch) {D : va_G} {cA : Nat → ClassId} {τ : Nat → Nat} {G : Nat → Nat → Nat} {L : List Nat} (hS : SW τ G L) (σ : Nat → Nat → Int) {a0 : Nat} (h0 : τ a0 = 2) : Met l yX1_valuesTogether wsX1_valuesTogether ({ frames := 1, cells := 0, slots := 0, locals := 21 }) (jP D cA τ G L σ [.ref a0]) (jQR (fun r => True)) 0 0 (fun _ => False) := by
  refine j_metR (by decide +kernel) rfl (Nat.le_of_ble_eq_true rfl) ?_
  intro p e s m args below meth c Q hx hb hml hown hts hK hW hRet ls hl
  have hl : lv_has ls 3 [(0, .ref a0)] := hl
  refine j_const hx hb dX1_valuesTogether_0 ?_
  refine lv_istore_n (lv' := [(1, .int (jI 0)), (0, .ref a0)]) hx hb dX1_valuesTogether_1 rfl hl (by decide) rfl (fun ls hl => ?_)
  refine j_const hx hb dX1_valuesTogether_2 ?_
  refine lv_istore_n (lv' := [(2, .int (jI 0)), (1, .int (jI 0)), (0, .ref a0)]) hx hb dX1_valuesTogether_3 rfl hl (by decide) rfl (fun ls hl => ?_)
  have L_4 : ∀ (N : Nat) (v1_4 v2_4 : Int) (ls : Array Slot), N = (2147483647 - v2_4 : Int).toNat → (0 ≤ v2_4) → rg v1_4 → rg v2_4 → lv_has ls 3 [(0, .ref a0), (1, .int (jI v1_4)), (2, .int (jI v2_4))] → W p l e ({ frames := 1, cells := 0, slots := 0, locals := 21 }) s m args below meth c s.heap [] 0 0 Q (F0 m 4 ls []) := by
    intro N
    induction N using Nat.strongRecOn with
    | ind N ih_4 =>
      intro v1_4 v2_4 ls hN i0_4 rv1_4 rv2_4 hl
      refine lv_iload_n hx hb dX1_valuesTogether_4 rfl (lv_at hl 2 rfl) ?_
      refine lv_aload_n hx hb dX1_valuesTogether_5 rfl (lv_at hl 0 rfl) ?_
      refine j_getI hx hb (C := RX1) (T := TX1) (N := 3) hts inX1_valuesTogether_X1 hown hK hS hW h0 rfl 2 rfl rfl (by decide) (hts _ flX1_valuesTogether_19) dX1_valuesTogether_6 ?_
      have := fbd hW h0 (k := 2) (lo := 0) (hi := 150) rfl rfl
      refine j_icmp_ge (tgt := 34) hx hb (by omega) (by omega) dX1_valuesTogether_9 (by decide) (fun c_1 => ?_) (fun c_1 => ?_)
      · refine lv_iload_n hx hb dX1_valuesTogether_34 rfl (lv_at hl 1 rfl) ?_
        exact hRet 35 _ v1_4 dX1_valuesTogether_35 (by omega) trivial
      · refine lv_iload_n hx hb dX1_valuesTogether_12 rfl (lv_at hl 1 rfl) ?_
        refine lv_aload_n hx hb dX1_valuesTogether_13 rfl (lv_at hl 0 rfl) ?_
        refine j_getR hx hb (C := RX1) (T := TX1) (N := 3) hts inX1_valuesTogether_X1 hown hK hS hW h0 rfl 0 rfl rfl (by decide) (hts _ flX1_valuesTogether_9) dX1_valuesTogether_14 ?_
        have h_2 : τ (G a0 0) = 4 := gty hS h0 (k := 0) rfl rfl
        refine lv_aload_n hx hb dX1_valuesTogether_17 rfl (lv_at hl 0 rfl) ?_
        refine j_getR hx hb (C := RX1) (T := TX1) (N := 3) hts inX1_valuesTogether_X1 hown hK hS hW h0 rfl 1 rfl rfl (by decide) (hts _ flX1_valuesTogether_15) dX1_valuesTogether_18 ?_
        have h_3 : τ (G a0 1) = 29 := gty hS h0 (k := 1) rfl rfl
        refine lv_iload_n hx hb dX1_valuesTogether_21 rfl (lv_at hl 2 rfl) ?_
        refine j_ald hx hb hK hS hW h_3 (n := 150) rfl (by omega) (by omega) (by decide) dX1_valuesTogether_22 ?_
        have := abd hW h_3 (n := 150) (lo := -2147483648) (hi := 2147483647) (i := v2_4) rfl (by omega) (by omega)
        refine j_cR (j_runV (As := [.int (jI (σ (G a0 1) (v2_4).toNat))]) (rest := [.int (jI v1_4)]) hx hb hml hown hts hK hS hW (kX3_valueOf l hS σ (a0 := G a0 0) (h0 := h_2) (x1 := σ (G a0 1) (v2_4).toNat) (r1 := (by omega))) 1 gX1_valuesTogether_X3_valueOf rfl hvX3_valueOf ⟨Nat.le_of_ble_eq_true rfl, Nat.le_of_ble_eq_true rfl⟩ rfl rfl h_2 rfl rfl rfl rfl hl.1 rfl (Nat.le_of_ble_eq_true rfl) dX1_valuesTogether_23 ⟨Nat.le_of_ble_eq_true rfl, Nat.le_of_ble_eq_true rfl⟩) (fun v_4 rv_4 pv_4 => ?_)
        try dsimp only at pv_4
        refine j_add hx hb dX1_valuesTogether_26 ?_
        refine j_wrap (fun z_5 rz_5 ez_5 => ?_)
        refine lv_istore_n (lv' := [(1, .int (jI z_5)), (0, .ref a0), (2, .int (jI v2_4))]) hx hb dX1_valuesTogether_27 rfl hl (by decide) rfl (fun ls hl => ?_)
        refine j_iinc (lv' := [(2, .int (jI (v2_4 + 1))), (1, .int (jI z_5)), (0, .ref a0)]) hx hb dX1_valuesTogether_28 hl (k := 2) rfl (by decide) rfl (fun ls hl => ?_)
        refine lv_goto (tgt := 4) hx hb dX1_valuesTogether_31 (by decide) ?_
        exact ih_4 ((2147483647 - (v2_4 + 1) : Int).toNat) (by omega) z_5 (v2_4 + 1) _ rfl (by omega) (by omega) (by omega) (lv_sub hl [2, 1, 0] rfl)
  exact L_4 ((2147483647 - 0 : Int).toNat) 0 0 _ rfl (by omega) (by decide) (by decide) (lv_sub hl [2, 1, 0] rfl)
theorem flX1_bytesTogether_9 : Cond.fieldLink RX1 9 "PageTrie$Found" "keys" "LPageTrie$Keys;" ∈ wsX1_bytesTogether := List.mem_of_getElem? (i := 2) rfl
theorem flX1_bytesTogether_15 : Cond.fieldLink RX1 15 "PageTrie$Found" "row" "[I" ∈ wsX1_bytesTogether := List.mem_of_getElem? (i := 3) rfl
theorem flX1_bytesTogether_19 : Cond.fieldLink RX1 19 "PageTrie$Found" "size" "I" ∈ wsX1_bytesTogether := List.mem_of_getElem? (i := 1) rfl
theorem inX1_bytesTogether_X1 : ∀ w ∈ u_ws RX1 TX1 3, w ∈ wsX1_bytesTogether := mem_r _ [11, 12, 13] rfl
theorem hvX1_bytesTogether : yX1_bytesTogether.cls = RX1 ∧ yX1_bytesTogether.cls ≠ "java/lang/invoke/MethodHandle" ∧ yX1_bytesTogether.cls ≠ "java/lang/invoke/VarHandle" ∧ (parseMethodDescriptor yX1_bytesTogether.desc).map (fun d => d.parameters.length) = some 0 := by decide +kernel
set_option maxHeartbeats 4000000 in
set_option maxRecDepth 100000 in
theorem kX1_bytesTogether (l : Launch) {D : va_G} {cA : Nat → ClassId} {τ : Nat → Nat} {G : Nat → Nat → Nat} {L : List Nat} (hS : SW τ G L) (σ : Nat → Nat → Int) {a0 : Nat} (h0 : τ a0 = 2) : Met l yX1_bytesTogether wsX1_bytesTogether ({ frames := 1, cells := 0, slots := 0, locals := 21 }) (jP D cA τ G L σ [.ref a0]) (jQR (fun r => True)) 0 0 (fun _ => False) := by
  refine j_metR (by decide +kernel) rfl (Nat.le_of_ble_eq_true rfl) ?_
  intro p e s m args below meth c Q hx hb hml hown hts hK hW hRet ls hl
  have hl : lv_has ls 3 [(0, .ref a0)] := hl
  refine j_const hx hb dX1_bytesTogether_0 ?_
  refine lv_istore_n (lv' := [(1, .int (jI 0)), (0, .ref a0)]) hx hb dX1_bytesTogether_1 rfl hl (by decide) rfl (fun ls hl => ?_)
  refine j_const hx hb dX1_bytesTogether_2 ?_
  refine lv_istore_n (lv' := [(2, .int (jI 0)), (1, .int (jI 0)), (0, .ref a0)]) hx hb dX1_bytesTogether_3 rfl hl (by decide) rfl (fun ls hl => ?_)
  have L_4 : ∀ (N : Nat) (v1_4 v2_4 : Int) (ls : Array Slot), N = (2147483647 - v2_4 : Int).toNat → (0 ≤ v2_4) → rg v1_4 → rg v2_4 → lv_has ls 3 [(0, .ref a0), (1, .int (jI v1_4)), (2, .int (jI v2_4))] → W p l e ({ frames := 1, cells := 0, slots := 0, locals := 21 }) s m args below meth c s.heap [] 0 0 Q (F0 m 4 ls []) := by
    intro N
    induction N using Nat.strongRecOn with
    | ind N ih_4 =>
      intro v1_4 v2_4 ls hN i0_4 rv1_4 rv2_4 hl
      refine lv_iload_n hx hb dX1_bytesTogether_4 rfl (lv_at hl 2 rfl) ?_
      refine lv_aload_n hx hb dX1_bytesTogether_5 rfl (lv_at hl 0 rfl) ?_
      refine j_getI hx hb (C := RX1) (T := TX1) (N := 3) hts inX1_bytesTogether_X1 hown hK hS hW h0 rfl 2 rfl rfl (by decide) (hts _ flX1_bytesTogether_19) dX1_bytesTogether_6 ?_
      have := fbd hW h0 (k := 2) (lo := 0) (hi := 150) rfl rfl
      refine j_icmp_ge (tgt := 34) hx hb (by omega) (by omega) dX1_bytesTogether_9 (by decide) (fun c_1 => ?_) (fun c_1 => ?_)
      · refine lv_iload_n hx hb dX1_bytesTogether_34 rfl (lv_at hl 1 rfl) ?_
        exact hRet 35 _ v1_4 dX1_bytesTogether_35 (by omega) trivial
      · refine lv_iload_n hx hb dX1_bytesTogether_12 rfl (lv_at hl 1 rfl) ?_
        refine lv_aload_n hx hb dX1_bytesTogether_13 rfl (lv_at hl 0 rfl) ?_
        refine j_getR hx hb (C := RX1) (T := TX1) (N := 3) hts inX1_bytesTogether_X1 hown hK hS hW h0 rfl 0 rfl rfl (by decide) (hts _ flX1_bytesTogether_9) dX1_bytesTogether_14 ?_
        have h_2 : τ (G a0 0) = 4 := gty hS h0 (k := 0) rfl rfl
        refine lv_aload_n hx hb dX1_bytesTogether_17 rfl (lv_at hl 0 rfl) ?_
        refine j_getR hx hb (C := RX1) (T := TX1) (N := 3) hts inX1_bytesTogether_X1 hown hK hS hW h0 rfl 1 rfl rfl (by decide) (hts _ flX1_bytesTogether_15) dX1_bytesTogether_18 ?_
        have h_3 : τ (G a0 1) = 29 := gty hS h0 (k := 1) rfl rfl
        refine lv_iload_n hx hb dX1_bytesTogether_21 rfl (lv_at hl 2 rfl) ?_
        refine j_ald hx hb hK hS hW h_3 (n := 150) rfl (by omega) (by omega) (by decide) dX1_bytesTogether_22 ?_
        have := abd hW h_3 (n := 150) (lo := -2147483648) (hi := 2147483647) (i := v2_4) rfl (by omega) (by omega)
        refine j_cR (j_runV (As := [.int (jI (σ (G a0 1) (v2_4).toNat))]) (rest := [.int (jI v1_4)]) hx hb hml hown hts hK hS hW (kX3_lengthOf l hS σ (a0 := G a0 0) (h0 := h_2) (x1 := σ (G a0 1) (v2_4).toNat) (r1 := (by omega))) 1 gX1_bytesTogether_X3_lengthOf rfl hvX3_lengthOf ⟨Nat.le_of_ble_eq_true rfl, Nat.le_of_ble_eq_true rfl⟩ rfl rfl h_2 rfl rfl rfl rfl hl.1 rfl (Nat.le_of_ble_eq_true rfl) dX1_bytesTogether_23 ⟨Nat.le_of_ble_eq_true rfl, Nat.le_of_ble_eq_true rfl⟩) (fun v_4 rv_4 pv_4 => ?_)
        try dsimp only at pv_4
        refine j_add hx hb dX1_bytesTogether_26 ?_
        refine j_wrap (fun z_5 rz_5 ez_5 => ?_)
        refine lv_istore_n (lv' := [(1, .int (jI z_5)), (0, .ref a0), (2, .int (jI v2_4))]) hx hb dX1_bytesTogether_27 rfl hl (by decide) rfl (fun ls hl => ?_)
        refine j_iinc (lv' := [(2, .int (jI (v2_4 + 1))), (1, .int (jI z_5)), (0, .ref a0)]) hx hb dX1_bytesTogether_28 hl (k := 2) rfl (by decide) rfl (fun ls hl => ?_)
        refine lv_goto (tgt := 4) hx hb dX1_bytesTogether_31 (by decide) ?_
        exact ih_4 ((2147483647 - (v2_4 + 1) : Int).toNat) (by omega) z_5 (v2_4 + 1) _ rfl (by omega) (by omega) (by omega) (lv_sub hl [2, 1, 0] rfl)
  exact L_4 ((2147483647 - 0 : Int).toNat) 0 0 _ rfl (by omega) (by decide) (by decide) (lv_sub hl [2, 1, 0] rfl)
theorem flX1_greatest_9 : Cond.fieldLink RX1 9 "PageTrie$Found" "keys" "LPageTrie$Keys;" ∈ wsX1_greatest := List.mem_of_getElem? (i := 2) rfl
theorem flX1_greatest_15 : Cond.fieldLink RX1 15 "PageTrie$Found" "row" "[I" ∈ wsX1_greatest := List.mem_of_getElem? (i := 3) rfl
theorem flX1_greatest_19 : Cond.fieldLink RX1 19 "PageTrie$Found" "size" "I" ∈ wsX1_greatest := List.mem_of_getElem? (i := 1) rfl
theorem inX1_greatest_X1 : ∀ w ∈ u_ws RX1 TX1 3, w ∈ wsX1_greatest := mem_r _ [15, 16, 17] rfl
theorem hvX1_greatest : yX1_greatest.cls = RX1 ∧ yX1_greatest.cls ≠ "java/lang/invoke/MethodHandle" ∧ yX1_greatest.cls ≠ "java/lang/invoke/VarHandle" ∧ (parseMethodDescriptor yX1_greatest.desc).map (fun d => d.parameters.length) = some 0 := by decide +kernel
set_option maxHeartbeats 4000000 in
set_option maxRecDepth 100000 in
theorem kX1_greatest (l : Launch) {D : va_G} {cA : Nat → ClassId} {τ : Nat → Nat} {G : Nat → Nat → Nat} {L : List Nat} (hS : SW τ G L) (σ : Nat → Nat → Int) {a0 : Nat} (h0 : τ a0 = 2) : Met l yX1_greatest wsX1_greatest ({ frames := 1, cells := 0, slots := 0, locals := 24 }) (jP D cA τ G L σ [.ref a0]) (jQR (fun r => True)) 0 0 (fun _ => False) := by
  refine j_metR (by decide +kernel) rfl (Nat.le_of_ble_eq_true rfl) ?_
  intro p e s m args below meth c Q hx hb hml hown hts hK hW hRet ls hl
  have hl : lv_has ls 3 [(0, .ref a0)] := hl
  refine j_bi hx hb dX1_greatest_0 (by decide) ?_
  refine lv_istore_n (lv' := [(1, .int (jI (-2))), (0, .ref a0)]) hx hb dX1_greatest_2 rfl hl (by decide) rfl (fun ls hl => ?_)
  refine j_const hx hb dX1_greatest_3 ?_
  refine lv_istore_n (lv' := [(2, .int (jI 0)), (1, .int (jI (-2))), (0, .ref a0)]) hx hb dX1_greatest_4 rfl hl (by decide) rfl (fun ls hl => ?_)
  have L_5 : ∀ (N : Nat) (v1_5 v2_5 : Int) (ls : Array Slot), N = (2147483647 - v2_5 : Int).toNat → (0 ≤ v2_5) → rg v1_5 → rg v2_5 → lv_has ls 3 [(0, .ref a0), (1, .int (jI v1_5)), (2, .int (jI v2_5))] → W p l e ({ frames := 1, cells := 0, slots := 0, locals := 24 }) s m args below meth c s.heap [] 0 0 Q (F0 m 5 ls []) := by
    intro N
    induction N using Nat.strongRecOn with
    | ind N ih_5 =>
      intro v1_5 v2_5 ls hN i0_5 rv1_5 rv2_5 hl
      refine lv_iload_n hx hb dX1_greatest_5 rfl (lv_at hl 2 rfl) ?_
      refine lv_aload_n hx hb dX1_greatest_6 rfl (lv_at hl 0 rfl) ?_
      refine j_getI hx hb (C := RX1) (T := TX1) (N := 3) hts inX1_greatest_X1 hown hK hS hW h0 rfl 2 rfl rfl (by decide) (hts _ flX1_greatest_19) dX1_greatest_7 ?_
      have := fbd hW h0 (k := 2) (lo := 0) (hi := 150) rfl rfl
      refine j_icmp_ge (tgt := 37) hx hb (by omega) (by omega) dX1_greatest_10 (by decide) (fun c_1 => ?_) (fun c_1 => ?_)
      · refine lv_iload_n hx hb dX1_greatest_37 rfl (lv_at hl 1 rfl) ?_
        exact hRet 38 _ v1_5 dX1_greatest_38 (by omega) trivial
      · refine lv_iload_n hx hb dX1_greatest_13 rfl (lv_at hl 1 rfl) ?_
        refine lv_aload_n hx hb dX1_greatest_14 rfl (lv_at hl 0 rfl) ?_
        refine j_getR hx hb (C := RX1) (T := TX1) (N := 3) hts inX1_greatest_X1 hown hK hS hW h0 rfl 0 rfl rfl (by decide) (hts _ flX1_greatest_9) dX1_greatest_15 ?_
        have h_2 : τ (G a0 0) = 4 := gty hS h0 (k := 0) rfl rfl
        refine lv_aload_n hx hb dX1_greatest_18 rfl (lv_at hl 0 rfl) ?_
        refine j_getR hx hb (C := RX1) (T := TX1) (N := 3) hts inX1_greatest_X1 hown hK hS hW h0 rfl 1 rfl rfl (by decide) (hts _ flX1_greatest_15) dX1_greatest_19 ?_
        have h_3 : τ (G a0 1) = 29 := gty hS h0 (k := 1) rfl rfl
        refine lv_iload_n hx hb dX1_greatest_22 rfl (lv_at hl 2 rfl) ?_
        refine j_ald hx hb hK hS hW h_3 (n := 150) rfl (by omega) (by omega) (by decide) dX1_greatest_23 ?_
        have := abd hW h_3 (n := 150) (lo := -2147483648) (hi := 2147483647) (i := v2_5) rfl (by omega) (by omega)
        refine j_cR (j_runV (As := [.int (jI (σ (G a0 1) (v2_5).toNat))]) (rest := [.int (jI v1_5)]) hx hb hml hown hts hK hS hW (kX3_valueOf l hS σ (a0 := G a0 0) (h0 := h_2) (x1 := σ (G a0 1) (v2_5).toNat) (r1 := (by omega))) 1 gX1_greatest_X3_valueOf rfl hvX3_valueOf ⟨Nat.le_of_ble_eq_true rfl, Nat.le_of_ble_eq_true rfl⟩ rfl rfl h_2 rfl rfl rfl rfl hl.1 rfl (Nat.le_of_ble_eq_true rfl) dX1_greatest_24 ⟨Nat.le_of_ble_eq_true rfl, Nat.le_of_ble_eq_true rfl⟩) (fun v_4 rv_4 pv_4 => ?_)
        try dsimp only at pv_4
        refine j_mmax hx hb (hml.trans hl.1.symm) hown (hts (.methodLink RX1 51 Lib.Math.max.name) (by decide +kernel)) (hts (.static Lib.Math.max.name) (by decide +kernel)) (hts (.initialized "java/lang/Math") (by decide +kernel)) (hts (.code Lib.Math.max.name Lib.Math.max.code 2 (some .int)) (by decide +kernel)) (Nat.le_of_ble_eq_true rfl) (Nat.le_of_ble_eq_true rfl) (Nat.le_of_ble_eq_true rfl) (Nat.le_of_ble_eq_true rfl) (by omega) (by omega) dX1_greatest_27 (fun z_5 rz_5 ez_5 => ?_)
        refine lv_istore_n (lv' := [(1, .int (jI z_5)), (0, .ref a0), (2, .int (jI v2_5))]) hx hb dX1_greatest_30 rfl hl (by decide) rfl (fun ls hl => ?_)
        refine j_iinc (lv' := [(2, .int (jI (v2_5 + 1))), (1, .int (jI z_5)), (0, .ref a0)]) hx hb dX1_greatest_31 hl (k := 2) rfl (by decide) rfl (fun ls hl => ?_)
        refine lv_goto (tgt := 5) hx hb dX1_greatest_34 (by decide) ?_
        exact ih_5 ((2147483647 - (v2_5 + 1) : Int).toNat) (by omega) z_5 (v2_5 + 1) _ rfl (by omega) (by omega) (by omega) (lv_sub hl [2, 1, 0] rfl)
  exact L_5 ((2147483647 - 0 : Int).toNat) (-2) 0 _ rfl (by omega) (by decide) (by decide) (lv_sub hl [2, 1, 0] rfl)
theorem flX1_least_9 : Cond.fieldLink RX1 9 "PageTrie$Found" "keys" "LPageTrie$Keys;" ∈ wsX1_least := List.mem_of_getElem? (i := 3) rfl
theorem flX1_least_15 : Cond.fieldLink RX1 15 "PageTrie$Found" "row" "[I" ∈ wsX1_least := List.mem_of_getElem? (i := 4) rfl
theorem flX1_least_19 : Cond.fieldLink RX1 19 "PageTrie$Found" "size" "I" ∈ wsX1_least := List.mem_of_getElem? (i := 2) rfl
theorem inX1_least_X1 : ∀ w ∈ u_ws RX1 TX1 3, w ∈ wsX1_least := mem_r _ [16, 17, 18] rfl
theorem hvX1_least : yX1_least.cls = RX1 ∧ yX1_least.cls ≠ "java/lang/invoke/MethodHandle" ∧ yX1_least.cls ≠ "java/lang/invoke/VarHandle" ∧ (parseMethodDescriptor yX1_least.desc).map (fun d => d.parameters.length) = some 0 := by decide +kernel
set_option maxHeartbeats 4000000 in
set_option maxRecDepth 100000 in
theorem kX1_least (l : Launch) {D : va_G} {cA : Nat → ClassId} {τ : Nat → Nat} {G : Nat → Nat → Nat} {L : List Nat} (hS : SW τ G L) (σ : Nat → Nat → Int) {a0 : Nat} (h0 : τ a0 = 2) : Met l yX1_least wsX1_least ({ frames := 1, cells := 0, slots := 0, locals := 24 }) (jP D cA τ G L σ [.ref a0]) (jQR (fun r => True)) 0 0 (fun _ => False) := by
  refine j_metR (by decide +kernel) rfl (Nat.le_of_ble_eq_true rfl) ?_
  intro p e s m args below meth c Q hx hb hml hown hts hK hW hRet ls hl
  have hl : lv_has ls 3 [(0, .ref a0)] := hl
  refine j_ldc hx hb hown (hts (.constant RX1 57 (99999)) (by decide +kernel)) (n := 99999) rfl dX1_least_0 ?_
  refine lv_istore_n (lv' := [(1, .int (jI 99999)), (0, .ref a0)]) hx hb dX1_least_2 rfl hl (by decide) rfl (fun ls hl => ?_)
  refine j_const hx hb dX1_least_3 ?_
  refine lv_istore_n (lv' := [(2, .int (jI 0)), (1, .int (jI 99999)), (0, .ref a0)]) hx hb dX1_least_4 rfl hl (by decide) rfl (fun ls hl => ?_)
  have L_5 : ∀ (N : Nat) (v1_5 v2_5 : Int) (ls : Array Slot), N = (2147483647 - v2_5 : Int).toNat → (0 ≤ v2_5) → rg v1_5 → rg v2_5 → lv_has ls 3 [(0, .ref a0), (1, .int (jI v1_5)), (2, .int (jI v2_5))] → W p l e ({ frames := 1, cells := 0, slots := 0, locals := 24 }) s m args below meth c s.heap [] 0 0 Q (F0 m 5 ls []) := by
    intro N
    induction N using Nat.strongRecOn with
    | ind N ih_5 =>
      intro v1_5 v2_5 ls hN i0_5 rv1_5 rv2_5 hl
      refine lv_iload_n hx hb dX1_least_5 rfl (lv_at hl 2 rfl) ?_
      refine lv_aload_n hx hb dX1_least_6 rfl (lv_at hl 0 rfl) ?_
      refine j_getI hx hb (C := RX1) (T := TX1) (N := 3) hts inX1_least_X1 hown hK hS hW h0 rfl 2 rfl rfl (by decide) (hts _ flX1_least_19) dX1_least_7 ?_
      have := fbd hW h0 (k := 2) (lo := 0) (hi := 150) rfl rfl
      refine j_icmp_ge (tgt := 37) hx hb (by omega) (by omega) dX1_least_10 (by decide) (fun c_1 => ?_) (fun c_1 => ?_)
      · refine lv_aload_n hx hb dX1_least_37 rfl (lv_at hl 0 rfl) ?_
        refine j_getI hx hb (C := RX1) (T := TX1) (N := 3) hts inX1_least_X1 hown hK hS hW h0 rfl 2 rfl rfl (by decide) (hts _ flX1_least_19) dX1_least_38 ?_
        refine j_if_ne (tgt := 49) hx hb (by omega) dX1_least_41 (by decide) (fun c_2 => ?_) (fun c_2 => ?_)
        · refine lv_iload_n hx hb dX1_least_49 rfl (lv_at hl 1 rfl) ?_
          exact hRet 50 _ v1_5 dX1_least_50 (by omega) trivial
        · refine j_bi hx hb dX1_least_44 (by decide) ?_
          refine lv_goto (tgt := 50) hx hb dX1_least_46 (by decide) ?_
          exact hRet 50 _ (-2) dX1_least_50 (by decide) trivial
      · refine lv_iload_n hx hb dX1_least_13 rfl (lv_at hl 1 rfl) ?_
        refine lv_aload_n hx hb dX1_least_14 rfl (lv_at hl 0 rfl) ?_
        refine j_getR hx hb (C := RX1) (T := TX1) (N := 3) hts inX1_least_X1 hown hK hS hW h0 rfl 0 rfl rfl (by decide) (hts _ flX1_least_9) dX1_least_15 ?_
        have h_3 : τ (G a0 0) = 4 := gty hS h0 (k := 0) rfl rfl
        refine lv_aload_n hx hb dX1_least_18 rfl (lv_at hl 0 rfl) ?_
        refine j_getR hx hb (C := RX1) (T := TX1) (N := 3) hts inX1_least_X1 hown hK hS hW h0 rfl 1 rfl rfl (by decide) (hts _ flX1_least_15) dX1_least_19 ?_
        have h_4 : τ (G a0 1) = 29 := gty hS h0 (k := 1) rfl rfl
        refine lv_iload_n hx hb dX1_least_22 rfl (lv_at hl 2 rfl) ?_
        refine j_ald hx hb hK hS hW h_4 (n := 150) rfl (by omega) (by omega) (by decide) dX1_least_23 ?_
        have := abd hW h_4 (n := 150) (lo := -2147483648) (hi := 2147483647) (i := v2_5) rfl (by omega) (by omega)
        refine j_cR (j_runV (As := [.int (jI (σ (G a0 1) (v2_5).toNat))]) (rest := [.int (jI v1_5)]) hx hb hml hown hts hK hS hW (kX3_valueOf l hS σ (a0 := G a0 0) (h0 := h_3) (x1 := σ (G a0 1) (v2_5).toNat) (r1 := (by omega))) 1 gX1_least_X3_valueOf rfl hvX3_valueOf ⟨Nat.le_of_ble_eq_true rfl, Nat.le_of_ble_eq_true rfl⟩ rfl rfl h_3 rfl rfl rfl rfl hl.1 rfl (Nat.le_of_ble_eq_true rfl) dX1_least_24 ⟨Nat.le_of_ble_eq_true rfl, Nat.le_of_ble_eq_true rfl⟩) (fun v_5 rv_5 pv_5 => ?_)
        try dsimp only at pv_5
        refine j_mmin hx hb (hml.trans hl.1.symm) hown (hts (.methodLink RX1 58 Lib.Math.min.name) (by decide +kernel)) (hts (.static Lib.Math.min.name) (by decide +kernel)) (hts (.initialized "java/lang/Math") (by decide +kernel)) (hts (.code Lib.Math.min.name Lib.Math.min.code 2 (some .int)) (by decide +kernel)) (Nat.le_of_ble_eq_true rfl) (Nat.le_of_ble_eq_true rfl) (Nat.le_of_ble_eq_true rfl) (Nat.le_of_ble_eq_true rfl) (by omega) (by omega) dX1_least_27 (fun z_6 rz_6 ez_6 => ?_)
        refine lv_istore_n (lv' := [(1, .int (jI z_6)), (0, .ref a0), (2, .int (jI v2_5))]) hx hb dX1_least_30 rfl hl (by decide) rfl (fun ls hl => ?_)
        refine j_iinc (lv' := [(2, .int (jI (v2_5 + 1))), (1, .int (jI z_6)), (0, .ref a0)]) hx hb dX1_least_31 hl (k := 2) rfl (by decide) rfl (fun ls hl => ?_)
        refine lv_goto (tgt := 5) hx hb dX1_least_34 (by decide) ?_
        exact ih_5 ((2147483647 - (v2_5 + 1) : Int).toNat) (by omega) z_6 (v2_5 + 1) _ rfl (by omega) (by omega) (by omega) (lv_sub hl [2, 1, 0] rfl)
  exact L_5 ((2147483647 - 0 : Int).toNat) 99999 0 _ rfl (by omega) (by decide) (by decide) (lv_sub hl [2, 1, 0] rfl)
theorem flX1_isValueAheadOf_9 : Cond.fieldLink RX1 9 "PageTrie$Found" "keys" "LPageTrie$Keys;" ∈ wsX1_isValueAheadOf := List.mem_of_getElem? (i := 1) rfl
theorem flX1_isValueAheadOf_15 : Cond.fieldLink RX1 15 "PageTrie$Found" "row" "[I" ∈ wsX1_isValueAheadOf := List.mem_of_getElem? (i := 2) rfl
theorem inX1_isValueAheadOf_X1 : ∀ w ∈ u_ws RX1 TX1 3, w ∈ wsX1_isValueAheadOf := mem_r _ [10, 11, 12] rfl
theorem hvX1_isValueAheadOf : yX1_isValueAheadOf.cls = RX1 ∧ yX1_isValueAheadOf.cls ≠ "java/lang/invoke/MethodHandle" ∧ yX1_isValueAheadOf.cls ≠ "java/lang/invoke/VarHandle" ∧ (parseMethodDescriptor yX1_isValueAheadOf.desc).map (fun d => d.parameters.length) = some 1 := by decide +kernel
set_option maxHeartbeats 4000000 in
set_option maxRecDepth 100000 in
theorem kX1_isValueAheadOf (l : Launch) {D : va_G} {cA : Nat → ClassId} {τ : Nat → Nat} {G : Nat → Nat → Nat} {L : List Nat} (hS : SW τ G L) (σ : Nat → Nat → Int) {a0 : Nat} (h0 : τ a0 = 2) {x1 : Int} (r1 : rg x1) (q0 : 0 ≤ x1) (q1 : x1 < 150) : Met l yX1_isValueAheadOf wsX1_isValueAheadOf ({ frames := 1, cells := 0, slots := 0, locals := 21 }) (jP D cA τ G L σ [.ref a0, .int (jI x1)]) (jQR (fun r => (0 ≤ r ∧ r ≤ 1) ∧ (True))) 0 0 (fun _ => False) := by
  refine j_metRZ (by decide +kernel) rfl (Nat.le_of_ble_eq_true rfl) ?_
  intro p e s m args below meth c Q hx hb hml hown hts hK hW hRet ls hl
  have hl : lv_has ls 4 [(0, .ref a0), (1, .int (jI x1))] := hl
  refine lv_aload_n hx hb dX1_isValueAheadOf_0 rfl (lv_at hl 0 rfl) ?_
  refine j_getR hx hb (C := RX1) (T := TX1) (N := 3) hts inX1_isValueAheadOf_X1 hown hK hS hW h0 rfl 0 rfl rfl (by decide) (hts _ flX1_isValueAheadOf_9) dX1_isValueAheadOf_1 ?_
  have h_1 : τ (G a0 0) = 4 := gty hS h0 (k := 0) rfl rfl
  refine lv_aload_n hx hb dX1_isValueAheadOf_4 rfl (lv_at hl 0 rfl) ?_
  refine j_getR hx hb (C := RX1) (T := TX1) (N := 3) hts inX1_isValueAheadOf_X1 hown hK hS hW h0 rfl 1 rfl rfl (by decide) (hts _ flX1_isValueAheadOf_15) dX1_isValueAheadOf_5 ?_
  have h_2 : τ (G a0 1) = 29 := gty hS h0 (k := 1) rfl rfl
  refine lv_iload_n hx hb dX1_isValueAheadOf_8 rfl (lv_at hl 1 rfl) ?_
  refine j_ald hx hb hK hS hW h_2 (n := 150) rfl (by omega) (by omega) (by decide) dX1_isValueAheadOf_9 ?_
  have := abd hW h_2 (n := 150) (lo := -2147483648) (hi := 2147483647) (i := x1) rfl (by omega) (by omega)
  refine j_cR (j_runV (As := [.int (jI (σ (G a0 1) (x1).toNat))]) (rest := []) hx hb hml hown hts hK hS hW (kX3_valueOf l hS σ (a0 := G a0 0) (h0 := h_1) (x1 := σ (G a0 1) (x1).toNat) (r1 := (by omega))) 1 gX1_isValueAheadOf_X3_valueOf rfl hvX3_valueOf ⟨Nat.le_of_ble_eq_true rfl, Nat.le_of_ble_eq_true rfl⟩ rfl rfl h_1 rfl rfl rfl rfl hl.1 rfl (Nat.le_of_ble_eq_true rfl) dX1_isValueAheadOf_10 ⟨Nat.le_of_ble_eq_true rfl, Nat.le_of_ble_eq_true rfl⟩) (fun v_3 rv_3 pv_3 => ?_)
  try dsimp only at pv_3
  refine lv_istore_n (lv' := [(2, .int (jI v_3)), (0, .ref a0), (1, .int (jI x1))]) hx hb dX1_isValueAheadOf_13 rfl hl (by decide) rfl (fun ls hl => ?_)
  refine j_const hx hb dX1_isValueAheadOf_14 ?_
  refine lv_istore_n (lv' := [(3, .int (jI 0)), (2, .int (jI v_3)), (0, .ref a0), (1, .int (jI x1))]) hx hb dX1_isValueAheadOf_15 rfl hl (by decide) rfl (fun ls hl => ?_)
  have L_16 : ∀ (N : Nat) (v3_16 : Int) (ls : Array Slot), N = (2147483647 - v3_16 : Int).toNat → (0 ≤ v3_16) → rg v3_16 → lv_has ls 4 [(0, .ref a0), (1, .int (jI x1)), (2, .int (jI v_3)), (3, .int (jI v3_16))] → W p l e ({ frames := 1, cells := 0, slots := 0, locals := 21 }) s m args below meth c s.heap [] 0 0 Q (F0 m 16 ls []) := by
    intro N
    induction N using Nat.strongRecOn with
    | ind N ih_16 =>
      intro v3_16 ls hN i0_16 rv3_16 hl
      refine lv_iload_n hx hb dX1_isValueAheadOf_16 rfl (lv_at hl 3 rfl) ?_
      refine lv_iload_n hx hb dX1_isValueAheadOf_17 rfl (lv_at hl 1 rfl) ?_
      refine j_icmp_ge (tgt := 46) hx hb (by omega) (by omega) dX1_isValueAheadOf_18 (by decide) (fun c_4 => ?_) (fun c_4 => ?_)
      · refine j_const hx hb dX1_isValueAheadOf_46 ?_
        exact hRet 47 _ 0 dX1_isValueAheadOf_47 (by omega) trivial
      · refine lv_aload_n hx hb dX1_isValueAheadOf_21 rfl (lv_at hl 0 rfl) ?_
        refine j_getR hx hb (C := RX1) (T := TX1) (N := 3) hts inX1_isValueAheadOf_X1 hown hK hS hW h0 rfl 0 rfl rfl (by decide) (hts _ flX1_isValueAheadOf_9) dX1_isValueAheadOf_22 ?_
        refine lv_aload_n hx hb dX1_isValueAheadOf_25 rfl (lv_at hl 0 rfl) ?_
        refine j_getR hx hb (C := RX1) (T := TX1) (N := 3) hts inX1_isValueAheadOf_X1 hown hK hS hW h0 rfl 1 rfl rfl (by decide) (hts _ flX1_isValueAheadOf_15) dX1_isValueAheadOf_26 ?_
        refine lv_iload_n hx hb dX1_isValueAheadOf_29 rfl (lv_at hl 3 rfl) ?_
        refine j_ald hx hb hK hS hW h_2 (n := 150) rfl (by omega) (by omega) (by decide) dX1_isValueAheadOf_30 ?_
        have := abd hW h_2 (n := 150) (lo := -2147483648) (hi := 2147483647) (i := v3_16) rfl (by omega) (by omega)
        refine j_cR (j_runV (As := [.int (jI (σ (G a0 1) (v3_16).toNat))]) (rest := []) hx hb hml hown hts hK hS hW (kX3_valueOf l hS σ (a0 := G a0 0) (h0 := h_1) (x1 := σ (G a0 1) (v3_16).toNat) (r1 := (by omega))) 1 gX1_isValueAheadOf_X3_valueOf rfl hvX3_valueOf ⟨Nat.le_of_ble_eq_true rfl, Nat.le_of_ble_eq_true rfl⟩ rfl rfl h_1 rfl rfl rfl rfl hl.1 rfl (Nat.le_of_ble_eq_true rfl) dX1_isValueAheadOf_31 ⟨Nat.le_of_ble_eq_true rfl, Nat.le_of_ble_eq_true rfl⟩) (fun v_5 rv_5 pv_5 => ?_)
        try dsimp only at pv_5
        refine lv_iload_n hx hb dX1_isValueAheadOf_34 rfl (lv_at hl 2 rfl) ?_
        refine j_icmp_ne (tgt := 40) hx hb (by omega) (by omega) dX1_isValueAheadOf_35 (by decide) (fun c_6 => ?_) (fun c_6 => ?_)
        · refine j_iinc (lv' := [(3, .int (jI (v3_16 + 1))), (0, .ref a0), (1, .int (jI x1)), (2, .int (jI v_3))]) hx hb dX1_isValueAheadOf_40 hl (k := 3) rfl (by decide) rfl (fun ls hl => ?_)
          refine lv_goto (tgt := 16) hx hb dX1_isValueAheadOf_43 (by decide) ?_
          exact ih_16 ((2147483647 - (v3_16 + 1) : Int).toNat) (by omega) (v3_16 + 1) _ rfl (by omega) (by omega) (lv_sub hl [1, 2, 3, 0] rfl)
        · refine j_const hx hb dX1_isValueAheadOf_38 ?_
          exact hRet 39 _ 1 dX1_isValueAheadOf_39 (by omega) trivial
  exact L_16 ((2147483647 - 0 : Int).toNat) 0 _ rfl (by omega) (by decide) (lv_sub hl [2, 3, 1, 0] rfl)
theorem flX1_unlikeValues_19 : Cond.fieldLink RX1 19 "PageTrie$Found" "size" "I" ∈ wsX1_unlikeValues := List.mem_of_getElem? (i := 1) rfl
theorem inX1_unlikeValues_X1 : ∀ w ∈ u_ws RX1 TX1 3, w ∈ wsX1_unlikeValues := mem_r _ [16, 17, 18] rfl
theorem hvX1_unlikeValues : yX1_unlikeValues.cls = RX1 ∧ yX1_unlikeValues.cls ≠ "java/lang/invoke/MethodHandle" ∧ yX1_unlikeValues.cls ≠ "java/lang/invoke/VarHandle" ∧ (parseMethodDescriptor yX1_unlikeValues.desc).map (fun d => d.parameters.length) = some 0 := by decide +kernel
set_option maxHeartbeats 4000000 in
set_option maxRecDepth 100000 in
theorem kX1_unlikeValues (l : Launch) {D : va_G} {cA : Nat → ClassId} {τ : Nat → Nat} {G : Nat → Nat → Nat} {L : List Nat} (hS : SW τ G L) (σ : Nat → Nat → Int) {a0 : Nat} (h0 : τ a0 = 2) : Met l yX1_unlikeValues wsX1_unlikeValues ({ frames := 2, cells := 0, slots := 0, locals := 44 }) (jP D cA τ G L σ [.ref a0]) (jQR (fun r => True)) 0 0 (fun _ => False) := by
  refine j_metR (by decide +kernel) rfl (Nat.le_of_ble_eq_true rfl) ?_
  intro p e s m args below meth c Q hx hb hml hown hts hK hW hRet ls hl
  have hl : lv_has ls 3 [(0, .ref a0)] := hl
  refine j_const hx hb dX1_unlikeValues_0 ?_
  refine lv_istore_n (lv' := [(1, .int (jI 0)), (0, .ref a0)]) hx hb dX1_unlikeValues_1 rfl hl (by decide) rfl (fun ls hl => ?_)
  refine j_const hx hb dX1_unlikeValues_2 ?_
  refine lv_istore_n (lv' := [(2, .int (jI 0)), (1, .int (jI 0)), (0, .ref a0)]) hx hb dX1_unlikeValues_3 rfl hl (by decide) rfl (fun ls hl => ?_)
  have L_4 : ∀ (N : Nat) (v1_4 v2_4 : Int) (ls : Array Slot), N = (2147483647 - v2_4 : Int).toNat → (0 ≤ v2_4) → rg v1_4 → rg v2_4 → lv_has ls 3 [(0, .ref a0), (1, .int (jI v1_4)), (2, .int (jI v2_4))] → W p l e ({ frames := 2, cells := 0, slots := 0, locals := 44 }) s m args below meth c s.heap [] 0 0 Q (F0 m 4 ls []) := by
    intro N
    induction N using Nat.strongRecOn with
    | ind N ih_4 =>
      intro v1_4 v2_4 ls hN i0_4 rv1_4 rv2_4 hl
      refine lv_iload_n hx hb dX1_unlikeValues_4 rfl (lv_at hl 2 rfl) ?_
      refine lv_aload_n hx hb dX1_unlikeValues_5 rfl (lv_at hl 0 rfl) ?_
      refine j_getI hx hb (C := RX1) (T := TX1) (N := 3) hts inX1_unlikeValues_X1 hown hK hS hW h0 rfl 2 rfl rfl (by decide) (hts _ flX1_unlikeValues_19) dX1_unlikeValues_6 ?_
      have := fbd hW h0 (k := 2) (lo := 0) (hi := 150) rfl rfl
      refine j_icmp_ge (tgt := 29) hx hb (by omega) (by omega) dX1_unlikeValues_9 (by decide) (fun c_1 => ?_) (fun c_1 => ?_)
      · refine lv_iload_n hx hb dX1_unlikeValues_29 rfl (lv_at hl 1 rfl) ?_
        exact hRet 30 _ v1_4 dX1_unlikeValues_30 (by omega) trivial
      · refine lv_aload_n hx hb dX1_unlikeValues_12 rfl (lv_at hl 0 rfl) ?_
        refine lv_iload_n hx hb dX1_unlikeValues_13 rfl (lv_at hl 2 rfl) ?_
        refine j_cR (j_runV (As := [.int (jI v2_4)]) (rest := []) hx hb hml hown hts hK hS hW (kX1_isValueAheadOf l hS σ (a0 := a0) (h0 := h0) (x1 := v2_4) (r1 := (by omega)) (q0 := (by omega)) (q1 := (by omega))) 1 gX1_unlikeValues_X1_isValueAheadOf rfl hvX1_isValueAheadOf ⟨Nat.le_of_ble_eq_true rfl, Nat.le_of_ble_eq_true rfl⟩ rfl rfl h0 rfl rfl rfl rfl hl.1 rfl (Nat.le_of_ble_eq_true rfl) dX1_unlikeValues_14 ⟨Nat.le_of_ble_eq_true rfl, Nat.le_of_ble_eq_true rfl⟩) (fun v_2 rv_2 pv_2 => ?_)
        try dsimp only at pv_2
        refine j_if_ne (tgt := 23) hx hb (by omega) dX1_unlikeValues_17 (by decide) (fun c_3 => ?_) (fun c_3 => ?_)
        · refine j_iinc (lv' := [(2, .int (jI (v2_4 + 1))), (0, .ref a0), (1, .int (jI v1_4))]) hx hb dX1_unlikeValues_23 hl (k := 2) rfl (by decide) rfl (fun ls hl => ?_)
          refine lv_goto (tgt := 4) hx hb dX1_unlikeValues_26 (by decide) ?_
          exact ih_4 ((2147483647 - (v2_4 + 1) : Int).toNat) (by omega) v1_4 (v2_4 + 1) _ rfl (by omega) (by omega) (by omega) (lv_sub hl [1, 2, 0] rfl)
        · refine j_iincW hx hb dX1_unlikeValues_20 hl (k := 1) rfl (by decide) (fun z_4 ls rz_4 ez_4 hl => ?_)
          have hl : lv_has ls 3 [(1, .int (jI z_4)), (0, .ref a0), (2, .int (jI v2_4))] := hl
          refine j_iinc (lv' := [(2, .int (jI (v2_4 + 1))), (1, .int (jI z_4)), (0, .ref a0)]) hx hb dX1_unlikeValues_23 hl (k := 2) rfl (by decide) rfl (fun ls hl => ?_)
          refine lv_goto (tgt := 4) hx hb dX1_unlikeValues_26 (by decide) ?_
          exact ih_4 ((2147483647 - (v2_4 + 1) : Int).toNat) (by omega) z_4 (v2_4 + 1) _ rfl (by omega) (by omega) (by omega) (lv_sub hl [2, 1, 0] rfl)
  exact L_4 ((2147483647 - 0 : Int).toNat) 0 0 _ rfl (by omega) (by decide) (by decide) (lv_sub hl [2, 1, 0] rfl)
abbrev wr_X8_copyFrom : List Nat := [1001, 1002, 1003, 1004, 3001, 4003, 7003, 11001, 11002, 11005, 11006, 11007, 11008, 20000, 22000, 23000, 24000, 25000, 26000, 28000]
theorem flX8_copyFrom_12 : Cond.fieldLink RX8 12 "PageTrie$State" "trie" "LPageTrie$Trie;" ∈ wsX8_copyFrom := List.mem_of_getElem? (i := 1) rfl
theorem flX8_copyFrom_20 : Cond.fieldLink RX8 20 "PageTrie$State" "cursors" "[LPageTrie$Cursor;" ∈ wsX8_copyFrom := List.mem_of_getElem? (i := 2) rfl
theorem flX8_copyFrom_28 : Cond.fieldLink RX8 28 "PageTrie$State" "query" "LPageTrie$Query;" ∈ wsX8_copyFrom := List.mem_of_getElem? (i := 3) rfl
theorem inX8_copyFrom_X8 : ∀ w ∈ u_ws RX8 TX8 3, w ∈ wsX8_copyFrom := mem_r _ [61, 62, 63] rfl
theorem hvX8_copyFrom : yX8_copyFrom.cls = RX8 ∧ yX8_copyFrom.cls ≠ "java/lang/invoke/MethodHandle" ∧ yX8_copyFrom.cls ≠ "java/lang/invoke/VarHandle" ∧ (parseMethodDescriptor yX8_copyFrom.desc).map (fun d => d.parameters.length) = some 1 := by decide +kernel
set_option maxHeartbeats 4000000 in
set_option maxRecDepth 100000 in
theorem kX8_copyFrom (l : Launch) {D : va_G} {cA : Nat → ClassId} {τ : Nat → Nat} {G : Nat → Nat → Nat} {L : List Nat} (hS : SW τ G L) (σ : Nat → Nat → Int) {a0 : Nat} (h0 : τ a0 = 9) {a1 : Nat} (h1 : τ a1 = 9) : Met l yX8_copyFrom wsX8_copyFrom ({ frames := 3, cells := 0, slots := 0, locals := 83 }) (jP D cA τ G L σ [.ref a0, .ref a1]) (jQV D cA τ G L (fun σ' => (True) ∧ fr wr_X8_copyFrom τ σ σ')) 0 0 (fun q => q ∈ L) := by
  refine j_metV (by decide +kernel) rfl (Nat.le_of_ble_eq_true rfl) ?_
  intro p e s m args below meth c Q hx hb hml hown hts hK hW hRet ls hl
  have hl : lv_has ls 3 [(0, .ref a0), (1, .ref a1)] := hl
  have hA : ∀ q ∈ L, (fun q => q ∈ L) q := fun _ h => h
  have hF : va_S (fun q => q ∈ L) s.heap s.heap [] := va_S.rf
  have hR : fr wr_X8_copyFrom τ σ σ := fr_rf
  refine lv_aload_n hx hb dX8_copyFrom_0 rfl (lv_at hl 0 rfl) ?_
  refine j_getR hx hb (C := RX8) (T := TX8) (N := 3) hts inX8_copyFrom_X8 hown hK hS hW h0 rfl 0 rfl rfl (by decide) (hts _ flX8_copyFrom_12) dX8_copyFrom_1 ?_
  have h_1 : τ (G a0 0) = 11 := gty hS h0 (k := 0) rfl rfl
  refine lv_aload_n hx hb dX8_copyFrom_4 rfl (lv_at hl 1 rfl) ?_
  refine j_getR hx hb (C := RX8) (T := TX8) (N := 3) hts inX8_copyFrom_X8 hown hK hS hW h1 rfl 0 rfl rfl (by decide) (hts _ flX8_copyFrom_12) dX8_copyFrom_5 ?_
  have h_2 : τ (G a1 0) = 11 := gty hS h1 (k := 0) rfl rfl
  refine j_cV (j_runV (As := [.ref (G a1 0)]) (rest := []) hx hb hml hown hts hK hS hW (kX10_copyFrom l hS σ (a0 := G a0 0) (h0 := h_1) (a1 := G a1 0) (h1 := h_2)) 1 gX8_copyFrom_X10_copyFrom rfl hvX10_copyFrom ⟨Nat.le_of_ble_eq_true rfl, Nat.le_of_ble_eq_true rfl⟩ rfl rfl h_1 rfl rfl rfl rfl hl.1 rfl (Nat.le_of_ble_eq_true rfl) dX8_copyFrom_8 ⟨Nat.le_of_ble_eq_true rfl, Nat.le_of_ble_eq_true rfl⟩) hA hF (fun σ_3 H locs hW hF pσ_3 => ?_)
  try dsimp only at pσ_3
  obtain ⟨pσ_3, fpσ_3⟩ := pσ_3
  have hR := fr_call hR fpσ_3 (by decide)
  refine j_const hx hb dX8_copyFrom_11 ?_
  refine lv_istore_n (lv' := [(2, .int (jI 0)), (0, .ref a0), (1, .ref a1)]) hx hb dX8_copyFrom_12 rfl hl (by decide) rfl (fun ls hl => ?_)
  have L_13 : ∀ (N : Nat) (v2_13 : Int) (σ_13 : Nat → Nat → Int) (H : Heap) (locs : List Loc) (ls : Array Slot), N = (2147483647 - v2_13 : Int).toNat → (0 ≤ v2_13) → (v2_13 ≤ 4) → rg v2_13 → PW D cA τ G L σ_13 H → va_S (fun q => q ∈ L) s.heap H locs → fr wr_X8_copyFrom τ σ σ_13 → lv_has ls 3 [(0, .ref a0), (1, .ref a1), (2, .int (jI v2_13))] → W p l e ({ frames := 3, cells := 0, slots := 0, locals := 83 }) s m args below meth c H locs 0 0 Q (F0 m 13 ls []) := by
    intro N
    induction N using Nat.strongRecOn with
    | ind N ih_13 =>
      intro v2_13 σ_13 H locs ls hN i0_13 i1_13 rv2_13 hW hF hR hl
      refine lv_iload_n hx hb dX8_copyFrom_13 rfl (lv_at hl 2 rfl) ?_
      refine j_const hx hb dX8_copyFrom_14 ?_
      refine j_icmp_ge (tgt := 39) hx hb (by omega) (by decide) dX8_copyFrom_15 (by decide) (fun c_4 => ?_) (fun c_4 => ?_)
      · refine lv_aload_n hx hb dX8_copyFrom_39 rfl (lv_at hl 0 rfl) ?_
        refine j_getR hx hb (C := RX8) (T := TX8) (N := 3) hts inX8_copyFrom_X8 hown hK hS hW h0 rfl 2 rfl rfl (by decide) (hts _ flX8_copyFrom_28) dX8_copyFrom_40 ?_
        have h_5 : τ (G a0 2) = 7 := gty hS h0 (k := 2) rfl rfl
        refine lv_aload_n hx hb dX8_copyFrom_43 rfl (lv_at hl 1 rfl) ?_
        refine j_getR hx hb (C := RX8) (T := TX8) (N := 3) hts inX8_copyFrom_X8 hown hK hS hW h1 rfl 2 rfl rfl (by decide) (hts _ flX8_copyFrom_28) dX8_copyFrom_44 ?_
        have h_6 : τ (G a1 2) = 7 := gty hS h1 (k := 2) rfl rfl
        refine j_cV (j_runV (As := [.ref (G a1 2)]) (rest := []) hx hb hml hown hts hK hS hW (kX6_copyFrom l hS σ_13 (a0 := G a0 2) (h0 := h_5) (a1 := G a1 2) (h1 := h_6)) 1 gX8_copyFrom_X6_copyFrom rfl hvX6_copyFrom ⟨Nat.le_of_ble_eq_true rfl, Nat.le_of_ble_eq_true rfl⟩ rfl rfl h_5 rfl rfl rfl rfl hl.1 rfl (Nat.le_of_ble_eq_true rfl) dX8_copyFrom_47 ⟨Nat.le_of_ble_eq_true rfl, Nat.le_of_ble_eq_true rfl⟩) hA hF (fun σ_7 H locs hW hF pσ_7 => ?_)
        try dsimp only at pσ_7
        obtain ⟨pσ_7, fpσ_7⟩ := pσ_7
        have hR := fr_call hR fpσ_7 (by decide)
        exact hRet 50 _ _ _ _ dX8_copyFrom_50 hW hF ⟨trivial, hR⟩
      · refine lv_aload_n hx hb dX8_copyFrom_18 rfl (lv_at hl 0 rfl) ?_
        refine j_getR hx hb (C := RX8) (T := TX8) (N := 3) hts inX8_copyFrom_X8 hown hK hS hW h0 rfl 1 rfl rfl (by decide) (hts _ flX8_copyFrom_20) dX8_copyFrom_19 ?_
        have h_8 : τ (G a0 1) = 32 := gty hS h0 (k := 1) rfl rfl
        refine lv_iload_n hx hb dX8_copyFrom_22 rfl (lv_at hl 2 rfl) ?_
        refine j_aald hx hb hK hS hW h_8 (n := 4) rfl rfl (by omega) (by omega) (by decide) dX8_copyFrom_23 ?_
        have h_9 : τ (G (G a0 1) (v2_13).toNat) = 1 := gtyR hS h_8 (n := 4) rfl (by omega) (by omega)
        refine lv_aload_n hx hb dX8_copyFrom_24 rfl (lv_at hl 1 rfl) ?_
        refine j_getR hx hb (C := RX8) (T := TX8) (N := 3) hts inX8_copyFrom_X8 hown hK hS hW h1 rfl 1 rfl rfl (by decide) (hts _ flX8_copyFrom_20) dX8_copyFrom_25 ?_
        have h_10 : τ (G a1 1) = 32 := gty hS h1 (k := 1) rfl rfl
        refine lv_iload_n hx hb dX8_copyFrom_28 rfl (lv_at hl 2 rfl) ?_
        refine j_aald hx hb hK hS hW h_10 (n := 4) rfl rfl (by omega) (by omega) (by decide) dX8_copyFrom_29 ?_
        have h_11 : τ (G (G a1 1) (v2_13).toNat) = 1 := gtyR hS h_10 (n := 4) rfl (by omega) (by omega)
        refine j_cV (j_runV (As := [.ref (G (G a1 1) (v2_13).toNat)]) (rest := []) hx hb hml hown hts hK hS hW (kX0_copyFrom l hS σ_13 (a0 := G (G a0 1) (v2_13).toNat) (h0 := h_9) (a1 := G (G a1 1) (v2_13).toNat) (h1 := h_11)) 1 gX8_copyFrom_X0_copyFrom rfl hvX0_copyFrom ⟨Nat.le_of_ble_eq_true rfl, Nat.le_of_ble_eq_true rfl⟩ rfl rfl h_9 rfl rfl rfl rfl hl.1 rfl (Nat.le_of_ble_eq_true rfl) dX8_copyFrom_30 ⟨Nat.le_of_ble_eq_true rfl, Nat.le_of_ble_eq_true rfl⟩) hA hF (fun σ_12 H locs hW hF pσ_12 => ?_)
        try dsimp only at pσ_12
        obtain ⟨pσ_12, fpσ_12⟩ := pσ_12
        have hR := fr_call hR fpσ_12 (by decide)
        refine j_iinc (lv' := [(2, .int (jI (v2_13 + 1))), (0, .ref a0), (1, .ref a1)]) hx hb dX8_copyFrom_33 hl (k := 2) rfl (by decide) rfl (fun ls hl => ?_)
        refine lv_goto (tgt := 13) hx hb dX8_copyFrom_36 (by decide) ?_
        exact ih_13 ((2147483647 - (v2_13 + 1) : Int).toNat) (by omega) (v2_13 + 1) σ_12 _ _ _ rfl (by omega) (by omega) (by omega) hW hF hR (lv_sub hl [1, 2, 0] rfl)
  exact L_13 ((2147483647 - 0 : Int).toNat) 0 σ_3 _ _ _ rfl (by omega) (by omega) (by decide) hW hF hR (lv_sub hl [1, 2, 0] rfl)
abbrev wr_X8_forgetCursors : List Nat := [1001]
theorem flX8_forgetCursors_20 : Cond.fieldLink RX8 20 "PageTrie$State" "cursors" "[LPageTrie$Cursor;" ∈ wsX8_forgetCursors := List.mem_of_getElem? (i := 1) rfl
theorem flX8_forgetCursors_42 : Cond.fieldLink RX8 42 "PageTrie$Cursor" "isTold" "Z" ∈ wsX8_forgetCursors := List.mem_of_getElem? (i := 2) rfl
theorem inX8_forgetCursors_X0 : ∀ w ∈ u_ws RX0 TX0 5, w ∈ wsX8_forgetCursors := mem_r _ [6, 7, 8, 9, 10] rfl
theorem inX8_forgetCursors_X8 : ∀ w ∈ u_ws RX8 TX8 3, w ∈ wsX8_forgetCursors := mem_r _ [3, 4, 5] rfl
theorem hvX8_forgetCursors : yX8_forgetCursors.cls = RX8 ∧ yX8_forgetCursors.cls ≠ "java/lang/invoke/MethodHandle" ∧ yX8_forgetCursors.cls ≠ "java/lang/invoke/VarHandle" ∧ (parseMethodDescriptor yX8_forgetCursors.desc).map (fun d => d.parameters.length) = some 0 := by decide +kernel
set_option maxHeartbeats 4000000 in
set_option maxRecDepth 100000 in
theorem kX8_forgetCursors (l : Launch) {D : va_G} {cA : Nat → ClassId} {τ : Nat → Nat} {G : Nat → Nat → Nat} {L : List Nat} (hS : SW τ G L) (σ : Nat → Nat → Int) {a0 : Nat} (h0 : τ a0 = 9) : Met l yX8_forgetCursors wsX8_forgetCursors ({ frames := 0, cells := 0, slots := 0, locals := 0 }) (jP D cA τ G L σ [.ref a0]) (jQV D cA τ G L (fun σ' => (True) ∧ fr wr_X8_forgetCursors τ σ σ')) 0 0 (fun q => q ∈ L) := by
  refine j_metV (by decide +kernel) rfl (Nat.le_of_ble_eq_true rfl) ?_
  intro p e s m args below meth c Q hx hb hml hown hts hK hW hRet ls hl
  have hl : lv_has ls 2 [(0, .ref a0)] := hl
  have hA : ∀ q ∈ L, (fun q => q ∈ L) q := fun _ h => h
  have hF : va_S (fun q => q ∈ L) s.heap s.heap [] := va_S.rf
  have hR : fr wr_X8_forgetCursors τ σ σ := fr_rf
  refine j_const hx hb dX8_forgetCursors_0 ?_
  refine lv_istore_n (lv' := [(1, .int (jI 0)), (0, .ref a0)]) hx hb dX8_forgetCursors_1 rfl hl (by decide) rfl (fun ls hl => ?_)
  have L_2 : ∀ (N : Nat) (v1_2 : Int) (σ_2 : Nat → Nat → Int) (H : Heap) (locs : List Loc) (ls : Array Slot), N = (2147483647 - v1_2 : Int).toNat → (0 ≤ v1_2) → (v1_2 ≤ 4) → rg v1_2 → PW D cA τ G L σ_2 H → va_S (fun q => q ∈ L) s.heap H locs → fr wr_X8_forgetCursors τ σ σ_2 → lv_has ls 2 [(0, .ref a0), (1, .int (jI v1_2))] → W p l e ({ frames := 0, cells := 0, slots := 0, locals := 0 }) s m args below meth c H locs 0 0 Q (F0 m 2 ls []) := by
    intro N
    induction N using Nat.strongRecOn with
    | ind N ih_2 =>
      intro v1_2 σ_2 H locs ls hN i0_2 i1_2 rv1_2 hW hF hR hl
      refine lv_iload_n hx hb dX8_forgetCursors_2 rfl (lv_at hl 1 rfl) ?_
      refine j_const hx hb dX8_forgetCursors_3 ?_
      refine j_icmp_ge (tgt := 23) hx hb (by omega) (by decide) dX8_forgetCursors_4 (by decide) (fun c_1 => ?_) (fun c_1 => ?_)
      · exact hRet 23 _ _ _ _ dX8_forgetCursors_23 hW hF ⟨trivial, hR⟩
      · refine lv_aload_n hx hb dX8_forgetCursors_7 rfl (lv_at hl 0 rfl) ?_
        refine j_getR hx hb (C := RX8) (T := TX8) (N := 3) hts inX8_forgetCursors_X8 hown hK hS hW h0 rfl 1 rfl rfl (by decide) (hts _ flX8_forgetCursors_20) dX8_forgetCursors_8 ?_
        have h_2 : τ (G a0 1) = 32 := gty hS h0 (k := 1) rfl rfl
        refine lv_iload_n hx hb dX8_forgetCursors_11 rfl (lv_at hl 1 rfl) ?_
        refine j_aald hx hb hK hS hW h_2 (n := 4) rfl rfl (by omega) (by omega) (by decide) dX8_forgetCursors_12 ?_
        have h_3 : τ (G (G a0 1) (v1_2).toNat) = 1 := gtyR hS h_2 (n := 4) rfl (by omega) (by omega)
        refine j_const hx hb dX8_forgetCursors_13 ?_
        refine j_putI hx hb (C := RX0) (T := TX0) (N := 5) hts inX8_forgetCursors_X0 tyX0 tyX0_ok nmX0 hown hK hS hA hW hF h_3 rfl 1 (lo := 0) (hi := 1) rfl rfl (by decide) (hts _ flX8_forgetCursors_42) rfl .boolean rfl (by omega) (nar01 (by omega)) (fit01 (by omega)) dX8_forgetCursors_14 (fun σ_4 H locs e_5 hW hF => ?_)
        have hR := fr_up hR e_5 h_3 1001 rfl (by decide)
        have : σ_4 (G (G a0 1) (v1_2).toNat) 1 = 0 := by rw [e_5]; exact up2_at _ _ _ _
        refine j_iinc (lv' := [(1, .int (jI (v1_2 + 1))), (0, .ref a0)]) hx hb dX8_forgetCursors_17 hl (k := 1) rfl (by decide) rfl (fun ls hl => ?_)
        refine lv_goto (tgt := 2) hx hb dX8_forgetCursors_20 (by decide) ?_
        exact ih_2 ((2147483647 - (v1_2 + 1) : Int).toNat) (by omega) (v1_2 + 1) σ_4 _ _ _ rfl (by omega) (by omega) (by omega) hW hF hR (lv_sub hl [1, 0] rfl)
  exact L_2 ((2147483647 - 0 : Int).toNat) 0 σ _ _ _ rfl (by omega) (by omega) (by decide) hW hF hR (lv_sub hl [1, 0] rfl)
