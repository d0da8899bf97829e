theorem flX12_stays_7 : Cond.fieldLink RX12 7 "PageTrieModel" "file" "[I" ∈ wsX12_stays := List.mem_of_getElem? (i := 1) rfl
theorem inX12_stays_X12 : ∀ w ∈ u_ws RX12 TX12 41, w ∈ wsX12_stays := mem_r _ [17, 18, 19, 20, 21, 22, 23, 24, 25, 26, 27, 28, 29, 30, 31, 32, 33, 34, 35, 36, 37, 38, 39, 40, 41, 42, 43, 44, 45, 46, 47, 48, 49, 50, 51, 52, 53, 54, 55, 56, 57] rfl
theorem hvX12_stays : yX12_stays.cls = RX12 ∧ yX12_stays.cls ≠ "java/lang/invoke/MethodHandle" ∧ yX12_stays.cls ≠ "java/lang/invoke/VarHandle" ∧ (parseMethodDescriptor yX12_stays.desc).map (fun d => d.parameters.length) = some 3 := by decide +kernel
set_option maxHeartbeats 4000000 in
set_option maxRecDepth 100000 in
theorem kX12_stays (l : Launch) {D : va_G} {cA : Nat → ClassId} {τ : Nat → Nat} {G : Nat → Nat → Nat} {L : List Nat} (hS : SW τ G L) (σ : Nat → Nat → Int) {a0 : Nat} (h0 : τ a0 = 13) {x1 : Int} (r1 : rg x1) {x2 : Int} (r2 : rg x2) {x3 : Int} (r3 : rg x3) (hI : FI G a0 σ) (q0 : 0 ≤ x1) (q1 : x1 < σ (G a0 0) 7) (q2 : 0 ≤ x2) (q3 : x2 < σ (G a0 0) 0) : Met l yX12_stays wsX12_stays ({ frames := 2, cells := 0, slots := 0, locals := 44 }) (jP D cA τ G L σ [.ref a0, .int (jI x1), .int (jI x2), .int (jI x3)]) (jQR (fun r => (0 ≤ r ∧ r ≤ 1) ∧ (True))) 0 0 (fun _ => False) := by
  refine j_metRZ (by decide +kernel) rfl (Nat.le_of_ble_eq_true rfl) ?_
  intro p e s m args below meth c Q hx hb hml hown hts hK hW hRet ls hl
  have hl : lv_has ls 5 [(0, .ref a0), (1, .int (jI x1)), (2, .int (jI x2)), (3, .int (jI x3))] := hl
  have := FI_bd hI
  have := fbd hW h0 (k := 3) (lo := 0) (hi := 24) rfl rfl
  refine lv_aload_n hx hb dX12_stays_0 rfl (lv_at hl 0 rfl) ?_
  refine j_getR hx hb (C := RX12) (T := TX12) (N := 41) hts inX12_stays_X12 hown hK hS hW h0 rfl 0 rfl rfl (by decide) (hts _ flX12_stays_7) dX12_stays_1 ?_
  have h_1 : τ (G a0 0) = 40 := gty hS h0 (k := 0) rfl rfl
  refine j_bi hx hb dX12_stays_4 (by decide) ?_
  refine j_bi hx hb dX12_stays_6 (by decide) ?_
  refine lv_iload_n hx hb dX12_stays_8 rfl (lv_at hl 1 rfl) ?_
  refine j_mul hx hb dX12_stays_9 ?_
  refine j_add hx hb dX12_stays_10 ?_
  refine j_const hx hb dX12_stays_11 ?_
  refine j_add hx hb dX12_stays_12 ?_
  refine j_ald hx hb hK hS hW h_1 (n := 17624) rfl (by omega) (by omega) (by decide) dX12_stays_13 ?_
  have := abd hW h_1 (n := 17624) (lo := -2147483648) (hi := 2147483647) (i := (16 + (28 * x1)) + 1) rfl (by omega) (by omega)
  refine lv_istore (lv' := [(4, .int (jI (σ (G a0 0) ((16 + (28 * x1)) + 1).toNat))), (0, .ref a0), (1, .int (jI x1)), (2, .int (jI x2)), (3, .int (jI x3))]) hx hb dX12_stays_14 hl (by decide) rfl (fun ls hl => ?_)
  refine lv_aload_n hx hb dX12_stays_16 rfl (lv_at hl 1 rfl) ?_
  refine j_getR hx hb (C := RX12) (T := TX12) (N := 41) hts inX12_stays_X12 hown hK hS hW h0 rfl 0 rfl rfl (by decide) (hts _ flX12_stays_7) dX12_stays_17 ?_
  refine j_bi hx hb dX12_stays_20 (by decide) ?_
  refine j_bi hx hb dX12_stays_22 (by decide) ?_
  refine lv_iload_n hx hb dX12_stays_24 rfl (lv_at hl 2 rfl) ?_
  refine j_mul hx hb dX12_stays_25 ?_
  refine j_add hx hb dX12_stays_26 ?_
  refine j_ald hx hb hK hS hW h_1 (n := 17624) rfl (by omega) (by omega) (by decide) dX12_stays_27 ?_
  have := abd hW h_1 (n := 17624) (lo := -2147483648) (hi := 2147483647) (i := 16 + (28 * x1)) rfl (by omega) (by omega)
  have hrc_2 : rg (σ (G a0 0) (16 + (28 * x1)).toNat) := by omega
  by_cases c_2_60 : σ (G a0 0) (16 + (28 * x1)).toNat = 60
  · refine lv_lookup (tgt := 135) (off := 107) hx hb dX12_stays_28 (by decide) (by rw [jI_toInt hrc_2, c_2_60]; decide) (by decide) ?_
    refine lv_aload_n hx hb dX12_stays_135 rfl (lv_at hl 1 rfl) ?_
    refine lv_iload_n hx hb dX12_stays_136 rfl (lv_at hl 3 rfl) ?_
    refine j_const hx hb dX12_stays_137 ?_
    refine j_cR (j_runV (As := [.int (jI x2), .int (jI 1)]) (rest := []) hx hb hml hown hts hK hS hW (kX12_of l hS σ (a0 := a0) (h0 := h0) (x1 := x2) (r1 := (by omega)) (x2 := 1) (r2 := (by decide)) (q0 := (by omega)) (q1 := (by omega))) 2 gX12_stays_X12_of rfl hvX12_of ⟨Nat.le_of_ble_eq_true rfl, Nat.le_of_ble_eq_true rfl⟩ rfl rfl h0 rfl rfl rfl rfl hl.1 rfl (Nat.le_of_ble_eq_true rfl) dX12_stays_138 ⟨Nat.le_of_ble_eq_true rfl, Nat.le_of_ble_eq_true rfl⟩) (fun v_3 rv_3 pv_3 => ?_)
    try dsimp only at pv_3
    have q_of := pv_3
    refine lv_iload hx hb dX12_stays_141 (lv_at hl 0 rfl) ?_
    refine j_icmp_ge (tgt := 150) hx hb (by omega) (by omega) dX12_stays_143 (by decide) (fun c_4 => ?_) (fun c_4 => ?_)
    · refine j_const hx hb dX12_stays_150 ?_
      exact hRet 151 _ 0 dX12_stays_151 (by omega) trivial
    · refine j_const hx hb dX12_stays_146 ?_
      refine lv_goto (tgt := 151) hx hb dX12_stays_147 (by decide) ?_
      exact hRet 151 _ 1 dX12_stays_151 (by omega) trivial
  by_cases c_2_62 : σ (G a0 0) (16 + (28 * x1)).toNat = 62
  · refine lv_lookup (tgt := 118) (off := 90) hx hb dX12_stays_28 (by decide) (by rw [jI_toInt hrc_2, c_2_62]; decide) (by decide) ?_
    refine lv_aload_n hx hb dX12_stays_118 rfl (lv_at hl 1 rfl) ?_
    refine lv_iload_n hx hb dX12_stays_119 rfl (lv_at hl 3 rfl) ?_
    refine j_const hx hb dX12_stays_120 ?_
    refine j_cR (j_runV (As := [.int (jI x2), .int (jI 1)]) (rest := []) hx hb hml hown hts hK hS hW (kX12_of l hS σ (a0 := a0) (h0 := h0) (x1 := x2) (r1 := (by omega)) (x2 := 1) (r2 := (by decide)) (q0 := (by omega)) (q1 := (by omega))) 2 gX12_stays_X12_of rfl hvX12_of ⟨Nat.le_of_ble_eq_true rfl, Nat.le_of_ble_eq_true rfl⟩ rfl rfl h0 rfl rfl rfl rfl hl.1 rfl (Nat.le_of_ble_eq_true rfl) dX12_stays_121 ⟨Nat.le_of_ble_eq_true rfl, Nat.le_of_ble_eq_true rfl⟩) (fun v_5 rv_5 pv_5 => ?_)
    try dsimp only at pv_5
    have q_of := pv_5
    refine lv_iload hx hb dX12_stays_124 (lv_at hl 0 rfl) ?_
    refine j_icmp_le (tgt := 133) hx hb (by omega) (by omega) dX12_stays_126 (by decide) (fun c_6 => ?_) (fun c_6 => ?_)
    · refine j_const hx hb dX12_stays_133 ?_
      exact hRet 134 _ 0 dX12_stays_134 (by omega) trivial
    · refine j_const hx hb dX12_stays_129 ?_
      refine lv_goto (tgt := 134) hx hb dX12_stays_130 (by decide) ?_
      exact hRet 134 _ 1 dX12_stays_134 (by omega) trivial
  by_cases c_2_100 : σ (G a0 0) (16 + (28 * x1)).toNat = 100
  · refine lv_lookup (tgt := 217) (off := 189) hx hb dX12_stays_28 (by decide) (by rw [jI_toInt hrc_2, c_2_100]; decide) (by decide) ?_
    refine lv_iload_n hx hb dX12_stays_217 rfl (lv_at hl 4 rfl) ?_
    refine lv_iload hx hb dX12_stays_218 (lv_at hl 0 rfl) ?_
    refine j_icmp_lt (tgt := 227) hx hb (by omega) (by omega) dX12_stays_220 (by decide) (fun c_7 => ?_) (fun c_7 => ?_)
    · refine j_const hx hb dX12_stays_227 ?_
      exact hRet 228 _ 0 dX12_stays_228 (by omega) trivial
    · refine j_const hx hb dX12_stays_223 ?_
      refine lv_goto (tgt := 228) hx hb dX12_stays_224 (by decide) ?_
      exact hRet 228 _ 1 dX12_stays_228 (by omega) trivial
  by_cases c_2_101 : σ (G a0 0) (16 + (28 * x1)).toNat = 101
  · refine lv_lookup (tgt := 169) (off := 141) hx hb dX12_stays_28 (by decide) (by rw [jI_toInt hrc_2, c_2_101]; decide) (by decide) ?_
    refine lv_aload_n hx hb dX12_stays_169 rfl (lv_at hl 1 rfl) ?_
    refine lv_iload_n hx hb dX12_stays_170 rfl (lv_at hl 3 rfl) ?_
    refine j_const hx hb dX12_stays_171 ?_
    refine j_cR (j_runV (As := [.int (jI x2), .int (jI 1)]) (rest := []) hx hb hml hown hts hK hS hW (kX12_of l hS σ (a0 := a0) (h0 := h0) (x1 := x2) (r1 := (by omega)) (x2 := 1) (r2 := (by decide)) (q0 := (by omega)) (q1 := (by omega))) 2 gX12_stays_X12_of rfl hvX12_of ⟨Nat.le_of_ble_eq_true rfl, Nat.le_of_ble_eq_true rfl⟩ rfl rfl h0 rfl rfl rfl rfl hl.1 rfl (Nat.le_of_ble_eq_true rfl) dX12_stays_172 ⟨Nat.le_of_ble_eq_true rfl, Nat.le_of_ble_eq_true rfl⟩) (fun v_8 rv_8 pv_8 => ?_)
    try dsimp only at pv_8
    have q_of := pv_8
    refine j_const hx hb dX12_stays_175 ?_
    refine j_rem hx hb (by decide) (by decide) dX12_stays_176 (fun z_9 rz_9 => ?_)
    refine j_if_ne (tgt := 184) hx hb (by omega) dX12_stays_177 (by decide) (fun c_10 => ?_) (fun c_10 => ?_)
    · refine j_const hx hb dX12_stays_184 ?_
      exact hRet 185 _ 0 dX12_stays_185 (by omega) trivial
    · refine j_const hx hb dX12_stays_180 ?_
      refine lv_goto (tgt := 185) hx hb dX12_stays_181 (by decide) ?_
      exact hRet 185 _ 1 dX12_stays_185 (by omega) trivial
  by_cases c_2_107 : σ (G a0 0) (16 + (28 * x1)).toNat = 107
  · refine lv_lookup (tgt := 204) (off := 176) hx hb dX12_stays_28 (by decide) (by rw [jI_toInt hrc_2, c_2_107]; decide) (by decide) ?_
    refine lv_iload_n hx hb dX12_stays_204 rfl (lv_at hl 4 rfl) ?_
    refine lv_iload hx hb dX12_stays_205 (lv_at hl 0 rfl) ?_
    refine j_rem hx hb (by omega) ((hI.2.1.2.1 x1 (by omega) (by omega)).2.1 (by omega) (by assumption)) dX12_stays_207 (fun z_11 rz_11 => ?_)
    refine j_if_ne (tgt := 215) hx hb (by omega) dX12_stays_208 (by decide) (fun c_12 => ?_) (fun c_12 => ?_)
    · refine j_const hx hb dX12_stays_215 ?_
      exact hRet 216 _ 0 dX12_stays_216 (by omega) trivial
    · refine j_const hx hb dX12_stays_211 ?_
      refine lv_goto (tgt := 216) hx hb dX12_stays_212 (by decide) ?_
      exact hRet 216 _ 1 dX12_stays_216 (by omega) trivial
  by_cases c_2_108 : σ (G a0 0) (16 + (28 * x1)).toNat = 108
  · refine lv_lookup (tgt := 152) (off := 124) hx hb dX12_stays_28 (by decide) (by rw [jI_toInt hrc_2, c_2_108]; decide) (by decide) ?_
    refine lv_aload_n hx hb dX12_stays_152 rfl (lv_at hl 1 rfl) ?_
    refine lv_iload_n hx hb dX12_stays_153 rfl (lv_at hl 3 rfl) ?_
    refine j_const hx hb dX12_stays_154 ?_
    refine j_cR (j_runV (As := [.int (jI x2), .int (jI 0)]) (rest := []) hx hb hml hown hts hK hS hW (kX12_of l hS σ (a0 := a0) (h0 := h0) (x1 := x2) (r1 := (by omega)) (x2 := 0) (r2 := (by decide)) (q0 := (by omega)) (q1 := (by omega))) 2 gX12_stays_X12_of rfl hvX12_of ⟨Nat.le_of_ble_eq_true rfl, Nat.le_of_ble_eq_true rfl⟩ rfl rfl h0 rfl rfl rfl rfl hl.1 rfl (Nat.le_of_ble_eq_true rfl) dX12_stays_155 ⟨Nat.le_of_ble_eq_true rfl, Nat.le_of_ble_eq_true rfl⟩) (fun v_13 rv_13 pv_13 => ?_)
    try dsimp only at pv_13
    have q_of := pv_13
    have := @FI_len _ _ _ hI x2
    refine lv_iload hx hb dX12_stays_158 (lv_at hl 0 rfl) ?_
    refine j_icmp_lt (tgt := 167) hx hb (by omega) (by omega) dX12_stays_160 (by decide) (fun c_14 => ?_) (fun c_14 => ?_)
    · refine j_const hx hb dX12_stays_167 ?_
      exact hRet 168 _ 0 dX12_stays_168 (by omega) trivial
    · refine j_const hx hb dX12_stays_163 ?_
      refine lv_goto (tgt := 168) hx hb dX12_stays_164 (by decide) ?_
      exact hRet 168 _ 1 dX12_stays_168 (by omega) trivial
  by_cases c_2_111 : σ (G a0 0) (16 + (28 * x1)).toNat = 111
  · refine lv_lookup (tgt := 186) (off := 158) hx hb dX12_stays_28 (by decide) (by rw [jI_toInt hrc_2, c_2_111]; decide) (by decide) ?_
    refine lv_aload_n hx hb dX12_stays_186 rfl (lv_at hl 1 rfl) ?_
    refine lv_iload_n hx hb dX12_stays_187 rfl (lv_at hl 3 rfl) ?_
    refine j_const hx hb dX12_stays_188 ?_
    refine j_cR (j_runV (As := [.int (jI x2), .int (jI 1)]) (rest := []) hx hb hml hown hts hK hS hW (kX12_of l hS σ (a0 := a0) (h0 := h0) (x1 := x2) (r1 := (by omega)) (x2 := 1) (r2 := (by decide)) (q0 := (by omega)) (q1 := (by omega))) 2 gX12_stays_X12_of rfl hvX12_of ⟨Nat.le_of_ble_eq_true rfl, Nat.le_of_ble_eq_true rfl⟩ rfl rfl h0 rfl rfl rfl rfl hl.1 rfl (Nat.le_of_ble_eq_true rfl) dX12_stays_189 ⟨Nat.le_of_ble_eq_true rfl, Nat.le_of_ble_eq_true rfl⟩) (fun v_15 rv_15 pv_15 => ?_)
    try dsimp only at pv_15
    have q_of := pv_15
    refine j_const hx hb dX12_stays_192 ?_
    refine j_rem hx hb (by decide) (by decide) dX12_stays_193 (fun z_16 rz_16 => ?_)
    refine j_const hx hb dX12_stays_194 ?_
    refine j_icmp_ne (tgt := 202) hx hb (by omega) (by decide) dX12_stays_195 (by decide) (fun c_17 => ?_) (fun c_17 => ?_)
    · refine j_const hx hb dX12_stays_202 ?_
      exact hRet 203 _ 0 dX12_stays_203 (by omega) trivial
    · refine j_const hx hb dX12_stays_198 ?_
      refine lv_goto (tgt := 203) hx hb dX12_stays_199 (by decide) ?_
      exact hRet 203 _ 1 dX12_stays_203 (by omega) trivial
  by_cases c_2_112 : σ (G a0 0) (16 + (28 * x1)).toNat = 112
  · refine lv_lookup (tgt := 112) (off := 84) hx hb dX12_stays_28 (by decide) (by rw [jI_toInt hrc_2, c_2_112]; decide) (by decide) ?_
    refine lv_aload_n hx hb dX12_stays_112 rfl (lv_at hl 1 rfl) ?_
    refine lv_iload_n hx hb dX12_stays_113 rfl (lv_at hl 3 rfl) ?_
    refine j_cR (j_runV (As := [.int (jI x2)]) (rest := []) hx hb hml hown hts hK hS hW (kX12_beginsWith l hS σ (a0 := a0) (h0 := h0) (x1 := x2) (r1 := (by omega)) (hI := hI) (q0 := (by omega)) (q1 := (by omega))) 1 gX12_stays_X12_beginsWith rfl hvX12_beginsWith ⟨Nat.le_of_ble_eq_true rfl, Nat.le_of_ble_eq_true rfl⟩ rfl rfl h0 rfl rfl rfl rfl hl.1 rfl (Nat.le_of_ble_eq_true rfl) dX12_stays_114 ⟨Nat.le_of_ble_eq_true rfl, Nat.le_of_ble_eq_true rfl⟩) (fun v_18 rv_18 pv_18 => ?_)
    try dsimp only at pv_18
    have q_beginsWith := pv_18
    exact hRet 117 _ v_18 dX12_stays_117 (by omega) trivial
  by_cases c_2_116 : σ (G a0 0) (16 + (28 * x1)).toNat = 116
  · refine lv_lookup (tgt := 229) (off := 201) hx hb dX12_stays_28 (by decide) (by rw [jI_toInt hrc_2, c_2_116]; decide) (by decide) ?_
    refine lv_iload_n hx hb dX12_stays_229 rfl (lv_at hl 4 rfl) ?_
    refine lv_iload hx hb dX12_stays_230 (lv_at hl 0 rfl) ?_
    refine j_icmp_ge (tgt := 239) hx hb (by omega) (by omega) dX12_stays_232 (by decide) (fun c_19 => ?_) (fun c_19 => ?_)
    · refine j_const hx hb dX12_stays_239 ?_
      exact hRet 240 _ 0 dX12_stays_240 (by omega) trivial
    · refine j_const hx hb dX12_stays_235 ?_
      refine lv_goto (tgt := 240) hx hb dX12_stays_236 (by decide) ?_
      exact hRet 240 _ 1 dX12_stays_240 (by omega) trivial
  refine lv_lookup (tgt := 241) (off := 213) hx hb dX12_stays_28 (by decide) (by rw [jI_toInt hrc_2]; simp [Op.lookupswitch.offset, Ne.symm c_2_60, Ne.symm c_2_62, Ne.symm c_2_100, Ne.symm c_2_101, Ne.symm c_2_107, Ne.symm c_2_108, Ne.symm c_2_111, Ne.symm c_2_112, Ne.symm c_2_116]) (by decide) ?_
  refine j_const hx hb dX12_stays_241 ?_
  exact hRet 242 _ 1 dX12_stays_242 (by omega) trivial
abbrev wr_X12_turns : List Nat := [52000]
theorem flX12_turns_47 : Cond.fieldLink RX12 47 "PageTrieModel" "foundOf" "[I" ∈ wsX12_turns := List.mem_of_getElem? (i := 2) rfl
theorem flX12_turns_360 : Cond.fieldLink RX12 360 "PageTrieModel" "foundMany" "I" ∈ wsX12_turns := List.mem_of_getElem? (i := 1) rfl
theorem inX12_turns_X12 : ∀ w ∈ u_ws RX12 TX12 41, w ∈ wsX12_turns := mem_r _ [3, 4, 5, 6, 7, 8, 9, 10, 11, 12, 13, 14, 15, 16, 17, 18, 19, 20, 21, 22, 23, 24, 25, 26, 27, 28, 29, 30, 31, 32, 33, 34, 35, 36, 37, 38, 39, 40, 41, 42, 43] rfl
theorem hvX12_turns : yX12_turns.cls = RX12 ∧ yX12_turns.cls ≠ "java/lang/invoke/MethodHandle" ∧ yX12_turns.cls ≠ "java/lang/invoke/VarHandle" ∧ (parseMethodDescriptor yX12_turns.desc).map (fun d => d.parameters.length) = some 0 := by decide +kernel
set_option maxHeartbeats 4000000 in
set_option maxRecDepth 100000 in
theorem kX12_turns (l : Launch) {D : va_G} {cA : Nat → ClassId} {τ : Nat → Nat} {G : Nat → Nat → Nat} {L : List Nat} (hS : SW τ G L) (σ : Nat → Nat → Int) {a0 : Nat} (h0 : τ a0 = 13) {t : Int} (q0 : FO (σ (G a0 39)) 0 (σ a0 40) t) : Met l yX12_turns wsX12_turns ({ frames := 0, cells := 0, slots := 0, locals := 0 }) (jP D cA τ G L σ [.ref a0]) (jQV D cA τ G L (fun σ' => ((FO (σ' (G a0 39)) 0 (σ a0 40) t)) ∧ fr wr_X12_turns τ σ σ')) 0 0 (fun q => q ∈ L) := by
  refine j_metV (by decide +kernel) rfl (Nat.le_of_ble_eq_true rfl) ?_
  intro p e s m args below meth c Q hx hb hml hown hts hK hW hRet ls hl
  have hl : lv_has ls 3 [(0, .ref a0)] := hl
  have hA : ∀ q ∈ L, (fun q => q ∈ L) q := fun _ h => h
  have hF : va_S (fun q => q ∈ L) s.heap s.heap [] := va_S.rf
  have hR : fr wr_X12_turns τ σ σ := fr_rf
  have hk_fo : τ (G a0 39) = 52 := gty hS h0 (k := 39) rfl rfl
  have := fbd hW h0 (k := 40) (lo := 0) (hi := 150) rfl rfl
  refine j_const hx hb dX12_turns_0 ?_
  refine lv_istore_n (lv' := [(1, .int (jI 0)), (0, .ref a0)]) hx hb dX12_turns_1 rfl hl (by decide) rfl (fun ls hl => ?_)
  have L_2 : ∀ (N : Nat) (v1_2 : Int) (σL_2 : Nat → Nat → Int) (H : Heap) (locs : List Loc) (ls : Array Slot), N = (2147483647 - v1_2 : Int).toNat → (0 ≤ v1_2) → (FO (σL_2 (G a0 39)) 0 (σ a0 40) t) → rg v1_2 → PW D cA τ G L σL_2 H → va_S (fun q => q ∈ L) s.heap H locs → fr wr_X12_turns τ σ σL_2 → σL_2 a0 40 = σ a0 40 → lv_has ls 3 [(0, .ref a0), (1, .int (jI v1_2))] → W p l e ({ frames := 0, cells := 0, slots := 0, locals := 0 }) s m args below meth c H locs 0 0 Q (F0 m 2 ls []) := by
    intro N
    induction N using Nat.strongRecOn with
    | ind N ih_2 =>
      intro v1_2 σL_2 H locs ls hN i0_2 i1_2 rv1_2 hW hF hR Efm hl
      refine lv_iload_n hx hb dX12_turns_2 rfl (lv_at hl 1 rfl) ?_
      refine lv_aload_n hx hb dX12_turns_3 rfl (lv_at hl 0 rfl) ?_
      refine j_getI hx hb (C := RX12) (T := TX12) (N := 41) hts inX12_turns_X12 hown hK hS hW h0 rfl 40 rfl rfl (by decide) (hts _ flX12_turns_360) dX12_turns_4 ?_
      rw [Efm]
      have := fbd hW h0 (k := 40) (lo := 0) (hi := 150) rfl rfl
      try simp only [Efm] at this
      refine j_const hx hb dX12_turns_7 ?_
      refine j_div hx hb (by omega) (by omega) dX12_turns_8 ?_
      refine j_icmp_ge (tgt := 58) hx hb (by omega) (by omega) dX12_turns_9 (by decide) (fun c_1 => ?_) (fun c_1 => ?_)
      · exact hRet 58 _ _ _ _ dX12_turns_58 hW hF ⟨(by first | exact i1_2 | (simp only [Efm]; exact i1_2)), hR⟩
      · refine lv_aload_n hx hb dX12_turns_12 rfl (lv_at hl 0 rfl) ?_
        refine j_getR hx hb (C := RX12) (T := TX12) (N := 41) hts inX12_turns_X12 hown hK hS hW h0 rfl 39 rfl rfl (by decide) (hts _ flX12_turns_47) dX12_turns_13 ?_
        refine lv_iload_n hx hb dX12_turns_16 rfl (lv_at hl 1 rfl) ?_
        refine j_ald hx hb hK hS hW hk_fo (n := 150) rfl (by omega) (by omega) (by decide) dX12_turns_17 ?_
        have := abd hW hk_fo (n := 150) (lo := 0) (hi := 149) (i := v1_2) rfl (by omega) (by omega)
        refine lv_istore_n (lv' := [(2, .int (jI (σL_2 (G a0 39) (v1_2).toNat))), (0, .ref a0), (1, .int (jI v1_2))]) hx hb dX12_turns_18 rfl hl (by decide) rfl (fun ls hl => ?_)
        refine lv_aload_n hx hb dX12_turns_19 rfl (lv_at hl 1 rfl) ?_
        refine j_getR hx hb (C := RX12) (T := TX12) (N := 41) hts inX12_turns_X12 hown hK hS hW h0 rfl 39 rfl rfl (by decide) (hts _ flX12_turns_47) dX12_turns_20 ?_
        refine lv_iload_n hx hb dX12_turns_23 rfl (lv_at hl 2 rfl) ?_
        refine lv_aload_n hx hb dX12_turns_24 rfl (lv_at hl 1 rfl) ?_
        refine j_getR hx hb (C := RX12) (T := TX12) (N := 41) hts inX12_turns_X12 hown hK hS hW h0 rfl 39 rfl rfl (by decide) (hts _ flX12_turns_47) dX12_turns_25 ?_
        refine lv_aload_n hx hb dX12_turns_28 rfl (lv_at hl 1 rfl) ?_
        refine j_getI hx hb (C := RX12) (T := TX12) (N := 41) hts inX12_turns_X12 hown hK hS hW h0 rfl 40 rfl rfl (by decide) (hts _ flX12_turns_360) dX12_turns_29 ?_
        rw [Efm]
        refine j_const hx hb dX12_turns_32 ?_
        refine j_sub hx hb dX12_turns_33 ?_
        refine lv_iload_n hx hb dX12_turns_34 rfl (lv_at hl 2 rfl) ?_
        refine j_sub hx hb dX12_turns_35 ?_
        refine j_ald hx hb hK hS hW hk_fo (n := 150) rfl (by omega) (by omega) (by decide) dX12_turns_36 ?_
        have := abd hW hk_fo (n := 150) (lo := 0) (hi := 149) (i := ((σ a0 40) - 1) - v1_2) rfl (by omega) (by omega)
        refine j_ast hx hb hK hS hA hW hF hk_fo (n := 150) (lo := 0) (hi := 149) rfl (by omega) (by omega) (by decide) (by omega) dX12_turns_37 (fun σ_2 H locs e_3 hW hF => ?_)
        have st_fo := e_3
        have hR := fr_up hR e_3 hk_fo 52000 (cdA 52 (by decide) _) (by decide)
        have Efm : σ_2 a0 40 = σ a0 40 := (fld_up e_3 hk_fo h0 (fun q => absurd q.1 (by decide))).trans Efm
        have st_a := st_fo
        refine lv_aload_n hx hb dX12_turns_38 rfl (lv_at hl 1 rfl) ?_
        refine j_getR hx hb (C := RX12) (T := TX12) (N := 41) hts inX12_turns_X12 hown hK hS hW h0 rfl 39 rfl rfl (by decide) (hts _ flX12_turns_47) dX12_turns_39 ?_
        refine lv_aload_n hx hb dX12_turns_42 rfl (lv_at hl 1 rfl) ?_
        refine j_getI hx hb (C := RX12) (T := TX12) (N := 41) hts inX12_turns_X12 hown hK hS hW h0 rfl 40 rfl rfl (by decide) (hts _ flX12_turns_360) dX12_turns_43 ?_
        rw [Efm]
        refine j_const hx hb dX12_turns_46 ?_
        refine j_sub hx hb dX12_turns_47 ?_
        refine lv_iload_n hx hb dX12_turns_48 rfl (lv_at hl 2 rfl) ?_
        refine j_sub hx hb dX12_turns_49 ?_
        refine lv_iload_n hx hb dX12_turns_50 rfl (lv_at hl 0 rfl) ?_
        refine j_ast hx hb hK hS hA hW hF hk_fo (n := 150) (lo := 0) (hi := 149) rfl (by omega) (by omega) (by decide) (by omega) dX12_turns_51 (fun σ_4 H locs e_5 hW hF => ?_)
        have st_fo := e_5
        have hR := fr_up hR e_5 hk_fo 52000 (cdA 52 (by decide) _) (by decide)
        have Efm : σ_4 a0 40 = σ a0 40 := (fld_up e_5 hk_fo h0 (fun q => absurd q.1 (by decide))).trans Efm
        refine j_iinc (lv' := [(1, .int (jI (v1_2 + 1))), (2, .int (jI (σL_2 (G a0 39) (v1_2).toNat))), (0, .ref a0)]) hx hb dX12_turns_52 hl (k := 2) rfl (by decide) rfl (fun ls hl => ?_)
        refine lv_goto (tgt := 2) hx hb dX12_turns_55 (by decide) ?_
        exact ih_2 ((2147483647 - (v1_2 + 1) : Int).toNat) (by omega) (v1_2 + 1) σ_4 _ _ _ rfl (by omega) (by first | exact (by first | exact q0 | exact FO_swap i1_2 rfl st_a st_fo rfl rfl (by omega) (by omega) (by omega)) | (simp only [Efm]; exact (by first | exact q0 | exact FO_swap i1_2 rfl st_a st_fo rfl rfl (by omega) (by omega) (by omega)))) (by omega) hW hF hR Efm (lv_sub hl [2, 0] rfl)
  exact L_2 ((2147483647 - 0 : Int).toNat) 0 σ _ _ _ rfl (by omega) (by first | exact q0 | exact FO_swap i1_2 rfl st_a st_fo rfl rfl (by omega) (by omega) (by omega)) (by decide) hW hF hR rfl (lv_sub hl [1, 0] rfl)
abbrev wr_X12_goesStep : List Nat := [13003, 13040, 41000, 52000]
theorem flX12_goesStep_7 : Cond.fieldLink RX12 7 "PageTrieModel" "file" "[I" ∈ wsX12_goesStep := List.mem_of_getElem? (i := 1) rfl
theorem flX12_goesStep_13 : Cond.fieldLink RX12 13 "PageTrieModel" "hand" "[I" ∈ wsX12_goesStep := List.mem_of_getElem? (i := 3) rfl
theorem flX12_goesStep_47 : Cond.fieldLink RX12 47 "PageTrieModel" "foundOf" "[I" ∈ wsX12_goesStep := List.mem_of_getElem? (i := 5) rfl
theorem flX12_goesStep_70 : Cond.fieldLink RX12 70 "PageTrieModel" "handLong" "I" ∈ wsX12_goesStep := List.mem_of_getElem? (i := 2) rfl
theorem flX12_goesStep_360 : Cond.fieldLink RX12 360 "PageTrieModel" "foundMany" "I" ∈ wsX12_goesStep := List.mem_of_getElem? (i := 4) rfl
theorem inX12_goesStep_X12 : ∀ w ∈ u_ws RX12 TX12 41, w ∈ wsX12_goesStep := mem_r _ [27, 28, 29, 30, 31, 32, 33, 34, 35, 36, 37, 38, 39, 40, 41, 42, 43, 44, 45, 46, 47, 48, 49, 50, 51, 52, 53, 54, 55, 56, 57, 58, 59, 60, 61, 62, 63, 64, 65, 66, 67] rfl
theorem hvX12_goesStep : yX12_goesStep.cls = RX12 ∧ yX12_goesStep.cls ≠ "java/lang/invoke/MethodHandle" ∧ yX12_goesStep.cls ≠ "java/lang/invoke/VarHandle" ∧ (parseMethodDescriptor yX12_goesStep.desc).map (fun d => d.parameters.length) = some 1 := by decide +kernel
set_option maxHeartbeats 4000000 in
set_option maxRecDepth 100000 in
theorem kX12_goesStep (l : Launch) {D : va_G} {cA : Nat → ClassId} {τ : Nat → Nat} {G : Nat → Nat → Nat} {L : List Nat} (hS : SW τ G L) (σ : Nat → Nat → Int) {a0 : Nat} (h0 : τ a0 = 13) {x1 : Int} (r1 : rg x1) (hI : FI G a0 σ) (q0 : 0 ≤ x1) (q1 : x1 < σ (G a0 0) 7) (q2 : FO (σ (G a0 39)) 0 (σ a0 40) (σ (G a0 0) 0)) : Met l yX12_goesStep wsX12_goesStep ({ frames := 3, cells := 0, slots := 0, locals := 68 }) (jP D cA τ G L σ [.ref a0, .int (jI x1)]) (jQV D cA τ G L (fun σ' => ((FO (σ' (G a0 39)) 0 (σ' a0 40) (σ (G a0 0) 0)) ∧ (0 ≤ σ' a0 40) ∧ (σ' a0 40 ≤ σ a0 40)) ∧ fr wr_X12_goesStep τ σ σ')) 0 0 (fun q => q ∈ L) := by
  refine j_metV (by decide +kernel) rfl (Nat.le_of_ble_eq_true rfl) ?_
  intro p e s m args below meth c Q hx hb hml hown hts hK hW hRet ls hl
  have hl : lv_has ls 5 [(0, .ref a0), (1, .int (jI x1))] := hl
  have hA : ∀ q ∈ L, (fun q => q ∈ L) q := fun _ h => h
  have hF : va_S (fun q => q ∈ L) s.heap s.heap [] := va_S.rf
  have hR : fr wr_X12_goesStep τ σ σ := fr_rf
  have hk_file : τ (G a0 0) = 40 := gty hS h0 (k := 0) rfl rfl
  have hk_fo : τ (G a0 39) = 52 := gty hS h0 (k := 39) rfl rfl
  have := FI_bd hI
  have := fbd hW h0 (k := 3) (lo := 0) (hi := 24) rfl rfl
  have := fbd hW h0 (k := 40) (lo := 0) (hi := 150) rfl rfl
  refine j_bi hx hb dX12_goesStep_0 (by decide) ?_
  refine j_bi hx hb dX12_goesStep_2 (by decide) ?_
  refine lv_iload_n hx hb dX12_goesStep_4 rfl (lv_at hl 1 rfl) ?_
  refine j_mul hx hb dX12_goesStep_5 ?_
  refine j_add hx hb dX12_goesStep_6 ?_
  refine lv_istore_n (lv' := [(2, .int (jI (16 + (28 * x1)))), (0, .ref a0), (1, .int (jI x1))]) hx hb dX12_goesStep_7 rfl hl (by decide) rfl (fun ls hl => ?_)
  obtain ⟨hs1, hs2, hs3⟩ := hI.2.1.2.1 x1 (by omega) (by omega)
  refine lv_aload_n hx hb dX12_goesStep_8 rfl (lv_at hl 1 rfl) ?_
  refine lv_aload_n hx hb dX12_goesStep_9 rfl (lv_at hl 1 rfl) ?_
  refine j_getR hx hb (C := RX12) (T := TX12) (N := 41) hts inX12_goesStep_X12 hown hK hS hW h0 rfl 0 rfl rfl (by decide) (hts _ flX12_goesStep_7) dX12_goesStep_10 ?_
  refine lv_iload_n hx hb dX12_goesStep_13 rfl (lv_at hl 0 rfl) ?_
  refine j_const hx hb dX12_goesStep_14 ?_
  refine j_add hx hb dX12_goesStep_15 ?_
  refine j_ald hx hb hK hS hW hk_file (n := 17624) rfl (by omega) (by omega) (by decide) dX12_goesStep_16 ?_
  have := abd hW hk_file (n := 17624) (lo := -2147483648) (hi := 2147483647) (i := (16 + (28 * x1)) + 2) rfl (by omega) (by omega)
  refine j_putI hx hb (C := RX12) (T := TX12) (N := 41) hts inX12_goesStep_X12 tyX12 tyX12_ok nmX12 hown hK hS hA hW hF h0 rfl 3 (lo := 0) (hi := 24) rfl rfl (by decide) (hts _ flX12_goesStep_70) rfl .int rfl (by omega) rfl rfl dX12_goesStep_17 (fun σ_1 H locs e_2 hW hF => ?_)
  have hR := fr_up hR e_2 h0 13003 rfl (by decide)
  have Efile : σ_1 (G a0 0) = σ (G a0 0) := row_up e_2 h0 hk_file (by decide)
  try clear hcf
  have hcf := congrFun Efile 0
  have Efo : σ_1 (G a0 39) = σ (G a0 39) := row_up e_2 h0 hk_fo (by decide)
  have Efm : σ_1 a0 40 = σ a0 40 := fld_up e_2 h0 h0 (fun q => absurd q.2 (by decide))
  have hI := FI_dep hS h0 hI (kp_up e_2 h0 13003 rfl (by decide))
  try clear hfk
  have hfk : σ_1 a0 3 = σ (G a0 0) ((16 + (28 * x1)) + 2).toNat := by rw [e_2]; exact up2_at _ _ _ _
  have hhl := hfk
  refine j_const hx hb dX12_goesStep_20 ?_
  refine lv_istore_n (lv' := [(3, .int (jI 0)), (2, .int (jI (16 + (28 * x1)))), (0, .ref a0), (1, .int (jI x1))]) hx hb dX12_goesStep_21 rfl hl (by decide) rfl (fun ls hl => ?_)
  have L_22 : ∀ (N : Nat) (v3_22 : Int) (σL_22 : Nat → Nat → Int) (H : Heap) (locs : List Loc) (ls : Array Slot), N = (2147483647 - v3_22 : Int).toNat → (0 ≤ v3_22) → rg v3_22 → PW D cA τ G L σL_22 H → va_S (fun q => q ∈ L) s.heap H locs → fr wr_X12_goesStep τ σ σL_22 → FI G a0 σL_22 → σL_22 (G a0 0) = σ (G a0 0) → σL_22 a0 3 = σ_1 a0 3 → σL_22 (G a0 39) = σ (G a0 39) → σL_22 a0 40 = σ a0 40 → lv_has ls 5 [(0, .ref a0), (1, .int (jI x1)), (2, .int (jI (16 + (28 * x1)))), (3, .int (jI v3_22))] → W p l e ({ frames := 3, cells := 0, slots := 0, locals := 68 }) s m args below meth c H locs 0 0 Q (F0 m 22 ls []) := by
    intro N
    induction N using Nat.strongRecOn with
    | ind N ih_22 =>
      intro v3_22 σL_22 H locs ls hN i0_22 rv3_22 hW hF hR hI Efile Ehl Efo Efm hl
      try clear hcf
      try clear hfk
      have hcf := congrFun Efile 0
      refine lv_iload_n hx hb dX12_goesStep_22 rfl (lv_at hl 3 rfl) ?_
      refine lv_aload_n hx hb dX12_goesStep_23 rfl (lv_at hl 0 rfl) ?_
      refine j_getI hx hb (C := RX12) (T := TX12) (N := 41) hts inX12_goesStep_X12 hown hK hS hW h0 rfl 3 rfl rfl (by decide) (hts _ flX12_goesStep_70) dX12_goesStep_24 ?_
      rw [Ehl]
      have := fbd hW h0 (k := 3) (lo := 0) (hi := 24) rfl rfl
      try simp only [Ehl] at this
      refine j_icmp_ge (tgt := 52) hx hb (by omega) (by omega) dX12_goesStep_27 (by decide) (fun c_3 => ?_) (fun c_3 => ?_)
      · refine j_const hx hb dX12_goesStep_52 ?_
        refine lv_istore_n (lv' := [(3, .int (jI 0)), (0, .ref a0), (1, .int (jI x1)), (2, .int (jI (16 + (28 * x1))))]) hx hb dX12_goesStep_53 rfl hl (by decide) rfl (fun ls hl => ?_)
        refine j_const hx hb dX12_goesStep_54 ?_
        refine lv_istore (lv' := [(4, .int (jI 0)), (3, .int (jI 0)), (0, .ref a0), (1, .int (jI x1)), (2, .int (jI (16 + (28 * x1))))]) hx hb dX12_goesStep_55 hl (by decide) rfl (fun ls hl => ?_)
        have L_57 : ∀ (N : Nat) (v3_57 v4_57 : Int) (σL_57 : Nat → Nat → Int) (H : Heap) (locs : List Loc) (ls : Array Slot), N = (2147483647 - v4_57 : Int).toNat → (0 ≤ v3_57) → (v3_57 ≤ v4_57) → (v4_57 ≤ (σ a0 40)) → (FOC (σL_57 (G a0 39)) v3_57 v4_57 (σ a0 40) (σ (G a0 0) 0)) → rg v3_57 → rg v4_57 → PW D cA τ G L σL_57 H → va_S (fun q => q ∈ L) s.heap H locs → fr wr_X12_goesStep τ σ σL_57 → FI G a0 σL_57 → σL_57 (G a0 0) = σ (G a0 0) → σL_57 a0 3 = σ_1 a0 3 → σL_57 a0 40 = σ a0 40 → lv_has ls 5 [(0, .ref a0), (1, .int (jI x1)), (2, .int (jI (16 + (28 * x1)))), (3, .int (jI v3_57)), (4, .int (jI v4_57))] → W p l e ({ frames := 3, cells := 0, slots := 0, locals := 68 }) s m args below meth c H locs 0 0 Q (F0 m 57 ls []) := by
          intro N
          induction N using Nat.strongRecOn with
          | ind N ih_57 =>
            intro v3_57 v4_57 σL_57 H locs ls hN i0_57 i1_57 i2_57 i3_57 rv3_57 rv4_57 hW hF hR hI Efile Ehl Efm hl
            try clear hcf
            try clear hfk
            have hcf := congrFun Efile 0
            have := congrFun Efile 7
            refine lv_iload hx hb dX12_goesStep_57 (lv_at hl 4 rfl) ?_
            refine lv_aload_n hx hb dX12_goesStep_59 rfl (lv_at hl 0 rfl) ?_
            refine j_getI hx hb (C := RX12) (T := TX12) (N := 41) hts inX12_goesStep_X12 hown hK hS hW h0 rfl 40 rfl rfl (by decide) (hts _ flX12_goesStep_360) dX12_goesStep_60 ?_
            rw [Efm]
            have := fbd hW h0 (k := 40) (lo := 0) (hi := 150) rfl rfl
            try simp only [Efm] at this
            refine j_icmp_ge (tgt := 109) hx hb (by omega) (by omega) dX12_goesStep_63 (by decide) (fun c_4 => ?_) (fun c_4 => ?_)
            · refine lv_aload_n hx hb dX12_goesStep_109 rfl (lv_at hl 0 rfl) ?_
              refine lv_iload_n hx hb dX12_goesStep_110 rfl (lv_at hl 3 rfl) ?_
              refine j_putI hx hb (C := RX12) (T := TX12) (N := 41) hts inX12_goesStep_X12 tyX12 tyX12_ok nmX12 hown hK hS hA hW hF h0 rfl 40 (lo := 0) (hi := 150) rfl rfl (by decide) (hts _ flX12_goesStep_360) rfl .int rfl (by omega) rfl rfl dX12_goesStep_111 (fun σ_5 H locs e_6 hW hF => ?_)
              have hR := fr_up hR e_6 h0 13040 rfl (by decide)
              have Efile : σ_5 (G a0 0) = σ (G a0 0) := (row_up e_6 h0 hk_file (by decide)).trans Efile
              try clear hcf
              have hcf := congrFun Efile 0
              have Ehl : σ_5 a0 3 = σ_1 a0 3 := (fld_up e_6 h0 h0 (fun q => absurd q.2 (by decide))).trans Ehl
              have Efo : σ_5 (G a0 39) = σL_57 (G a0 39) := row_up e_6 h0 hk_fo (by decide)
              have hI := FI_dep hS h0 hI (kp_up e_6 h0 13040 rfl (by decide))
              try clear hfk
              have hfk : σ_5 a0 40 = v3_57 := by rw [e_6]; exact up2_at _ _ _ _
              have hfe := FOC_end i3_57 (by omega)
              have hfm := hfk
              refine lv_aload_n hx hb dX12_goesStep_114 rfl (lv_at hl 0 rfl) ?_
              refine j_getR hx hb (C := RX12) (T := TX12) (N := 41) hts inX12_goesStep_X12 hown hK hS hW h0 rfl 0 rfl rfl (by decide) (hts _ flX12_goesStep_7) dX12_goesStep_115 ?_
              refine lv_iload_n hx hb dX12_goesStep_118 rfl (lv_at hl 2 rfl) ?_
              refine j_ald hx hb hK hS hW hk_file (n := 17624) rfl (by omega) (by omega) (by decide) dX12_goesStep_119 ?_
              have := abd hW hk_file (n := 17624) (lo := -2147483648) (hi := 2147483647) (i := 16 + (28 * x1)) rfl (by omega) (by omega)
              rw [Efile]
              try simp only [Efile] at this
              refine j_bi hx hb dX12_goesStep_120 (by decide) ?_
              refine j_icmp_ne (tgt := 129) hx hb (by omega) (by decide) dX12_goesStep_122 (by decide) (fun c_7 => ?_) (fun c_7 => ?_)
              · exact hRet 129 _ _ _ _ dX12_goesStep_129 hW hF ⟨(by first | exact (by first | exact ⟨(by rw [hfm]; exact hfe), by omega, by omega⟩ | exact ⟨(by rw [hfm]; exact (by first | exact (by rw [hfm] at q_turns; exact q_turns) | exact q_turns)), by omega, by omega⟩) | (simp only [Efile, Ehl, Efo]; exact (by first | exact ⟨(by rw [hfm]; exact hfe), by omega, by omega⟩ | exact ⟨(by rw [hfm]; exact (by first | exact (by rw [hfm] at q_turns; exact q_turns) | exact q_turns)), by omega, by omega⟩))), hR⟩
              · refine lv_aload_n hx hb dX12_goesStep_125 rfl (lv_at hl 0 rfl) ?_
                refine j_cV (j_runV (As := []) (rest := []) hx hb hml hown hts hK hS hW (kX12_turns l hS σ_5 (a0 := a0) (h0 := h0) (t := σ (G a0 0) 0) (q0 := (by rw [hfm, Efo]; exact hfe))) 0 gX12_goesStep_X12_turns rfl hvX12_turns ⟨Nat.le_of_ble_eq_true rfl, Nat.le_of_ble_eq_true rfl⟩ rfl rfl h0 rfl rfl rfl rfl hl.1 rfl (Nat.le_of_ble_eq_true rfl) dX12_goesStep_126 ⟨Nat.le_of_ble_eq_true rfl, Nat.le_of_ble_eq_true rfl⟩) hA hF (fun σ_8 H locs hW hF pσ_8 => ?_)
                try dsimp only at pσ_8
                obtain ⟨pσ_8, fpσ_8⟩ := pσ_8
                try simp only [Efile, Ehl, Efo] at pσ_8
                have q_turns := pσ_8
                have hR := fr_call hR fpσ_8 (by decide)
                have Efile : σ_8 (G a0 0) = σ (G a0 0) := (row_fr fpσ_8 hk_file 40 (by decide) (by decide)).trans Efile
                try clear hcf
                have hcf := congrFun Efile 0
                have Ehl : σ_8 a0 3 = σ_1 a0 3 := (fr_at fpσ_8 h0 3 13003 rfl (by decide)).trans Ehl
                have Efm : σ_8 a0 40 = σ_5 a0 40 := fr_at fpσ_8 h0 40 13040 rfl (by decide)
                have hI := FI_dep hS h0 hI (kp_fr fpσ_8 (by decide))
                exact hRet 129 _ _ _ _ dX12_goesStep_129 hW hF ⟨(by first | exact (by first | exact ⟨(by rw [hfm]; exact hfe), by omega, by omega⟩ | exact ⟨(by rw [hfm]; exact (by first | exact (by rw [hfm] at q_turns; exact q_turns) | exact q_turns)), by omega, by omega⟩) | (simp only [Efile, Ehl, Efm]; exact (by first | exact ⟨(by rw [hfm]; exact hfe), by omega, by omega⟩ | exact ⟨(by rw [hfm]; exact (by first | exact (by rw [hfm] at q_turns; exact q_turns) | exact q_turns)), by omega, by omega⟩))), hR⟩
            · refine lv_aload_n hx hb dX12_goesStep_66 rfl (lv_at hl 0 rfl) ?_
              refine lv_iload_n hx hb dX12_goesStep_67 rfl (lv_at hl 1 rfl) ?_
              refine lv_aload_n hx hb dX12_goesStep_68 rfl (lv_at hl 0 rfl) ?_
              refine j_getR hx hb (C := RX12) (T := TX12) (N := 41) hts inX12_goesStep_X12 hown hK hS hW h0 rfl 39 rfl rfl (by decide) (hts _ flX12_goesStep_47) dX12_goesStep_69 ?_
              refine lv_iload hx hb dX12_goesStep_72 (lv_at hl 4 rfl) ?_
              refine j_ald hx hb hK hS hW hk_fo (n := 150) rfl (by omega) (by omega) (by decide) dX12_goesStep_74 ?_
              have := abd hW hk_fo (n := 150) (lo := 0) (hi := 149) (i := v4_57) rfl (by omega) (by omega)
              have hfb := i3_57.1 v4_57 (by omega) (by omega) (Or.inr (by omega))
              refine lv_iload hx hb dX12_goesStep_75 (lv_at hl 4 rfl) ?_
              refine j_cR (j_runV (As := [.int (jI x1), .int (jI (σL_57 (G a0 39) (v4_57).toNat)), .int (jI v4_57)]) (rest := []) hx hb hml hown hts hK hS hW (kX12_stays l hS σL_57 (a0 := a0) (h0 := h0) (x1 := x1) (r1 := (by omega)) (x2 := σL_57 (G a0 39) (v4_57).toNat) (r2 := (by omega)) (x3 := v4_57) (r3 := (by omega)) (hI := hI) (q0 := (by omega)) (q1 := (by omega)) (q2 := (by omega)) (q3 := (by omega))) 3 gX12_goesStep_X12_stays rfl hvX12_stays ⟨Nat.le_of_ble_eq_true rfl, Nat.le_of_ble_eq_true rfl⟩ rfl rfl h0 rfl rfl rfl rfl hl.1 rfl (Nat.le_of_ble_eq_true rfl) dX12_goesStep_77 ⟨Nat.le_of_ble_eq_true rfl, Nat.le_of_ble_eq_true rfl⟩) (fun v_9 rv_9 pv_9 => ?_)
              try dsimp only at pv_9
              have q_stays := pv_9
              refine j_if_ne (tgt := 86) hx hb (by omega) dX12_goesStep_80 (by decide) (fun c_10 => ?_) (fun c_10 => ?_)
              · refine lv_aload_n hx hb dX12_goesStep_86 rfl (lv_at hl 0 rfl) ?_
                refine j_getR hx hb (C := RX12) (T := TX12) (N := 41) hts inX12_goesStep_X12 hown hK hS hW h0 rfl 39 rfl rfl (by decide) (hts _ flX12_goesStep_47) dX12_goesStep_87 ?_
                refine lv_iload_n hx hb dX12_goesStep_90 rfl (lv_at hl 3 rfl) ?_
                refine lv_aload_n hx hb dX12_goesStep_91 rfl (lv_at hl 0 rfl) ?_
                refine j_getR hx hb (C := RX12) (T := TX12) (N := 41) hts inX12_goesStep_X12 hown hK hS hW h0 rfl 39 rfl rfl (by decide) (hts _ flX12_goesStep_47) dX12_goesStep_92 ?_
                refine lv_iload hx hb dX12_goesStep_95 (lv_at hl 4 rfl) ?_
                refine j_ald hx hb hK hS hW hk_fo (n := 150) rfl (by omega) (by omega) (by decide) dX12_goesStep_97 ?_
                refine j_ast hx hb hK hS hA hW hF hk_fo (n := 150) (lo := 0) (hi := 149) rfl (by omega) (by omega) (by decide) (by omega) dX12_goesStep_98 (fun σ_11 H locs e_12 hW hF => ?_)
                have st_fo := e_12
                have hR := fr_up hR e_12 hk_fo 52000 (cdA 52 (by decide) _) (by decide)
                have Efile : σ_11 (G a0 0) = σ (G a0 0) := (row_up e_12 hk_fo hk_file (by decide)).trans Efile
                try clear hcf
                have hcf := congrFun Efile 0
                have Ehl : σ_11 a0 3 = σ_1 a0 3 := (fld_up e_12 hk_fo h0 (fun q => absurd q.1 (by decide))).trans Ehl
                have Efm : σ_11 a0 40 = σ a0 40 := (fld_up e_12 hk_fo h0 (fun q => absurd q.1 (by decide))).trans Efm
                have hI := FI_dep hS h0 hI (kp_up e_12 hk_fo 52000 (cdA 52 (by decide) _) (by decide))
                refine lv_iload_n hx hb dX12_goesStep_99 rfl (lv_at hl 3 rfl) ?_
                refine j_const hx hb dX12_goesStep_100 ?_
                refine j_add hx hb dX12_goesStep_101 ?_
                refine lv_istore_n (lv' := [(3, .int (jI (v3_57 + 1))), (0, .ref a0), (1, .int (jI x1)), (2, .int (jI (16 + (28 * x1)))), (4, .int (jI v4_57))]) hx hb dX12_goesStep_102 rfl hl (by decide) rfl (fun ls hl => ?_)
                refine j_iinc (lv' := [(4, .int (jI (v4_57 + 1))), (3, .int (jI (v3_57 + 1))), (0, .ref a0), (1, .int (jI x1)), (2, .int (jI (16 + (28 * x1))))]) hx hb dX12_goesStep_103 hl (k := 4) rfl (by decide) rfl (fun ls hl => ?_)
                refine lv_goto (tgt := 57) hx hb dX12_goesStep_106 (by decide) ?_
                exact ih_57 ((2147483647 - (v4_57 + 1) : Int).toNat) (by omega) (v3_57 + 1) (v4_57 + 1) σ_11 _ _ _ rfl (by omega) (by omega) (by omega) (by first | exact (by first | exact FOC_0 q2 | exact FOC_drop i3_57 | exact FOC_keep i3_57 st_fo rfl rfl (by omega) (by omega) (by omega)) | (simp only [Efile, Ehl, Efm]; exact (by first | exact FOC_0 q2 | exact FOC_drop i3_57 | exact FOC_keep i3_57 st_fo rfl rfl (by omega) (by omega) (by omega)))) (by omega) (by omega) hW hF hR hI Efile Ehl Efm (lv_sub hl [2, 3, 4, 1, 0] rfl)
              · refine lv_goto (tgt := 103) hx hb dX12_goesStep_83 (by decide) ?_
                refine j_iinc (lv' := [(4, .int (jI (v4_57 + 1))), (0, .ref a0), (1, .int (jI x1)), (2, .int (jI (16 + (28 * x1)))), (3, .int (jI v3_57))]) hx hb dX12_goesStep_103 hl (k := 4) rfl (by decide) rfl (fun ls hl => ?_)
                refine lv_goto (tgt := 57) hx hb dX12_goesStep_106 (by decide) ?_
                exact ih_57 ((2147483647 - (v4_57 + 1) : Int).toNat) (by omega) v3_57 (v4_57 + 1) σL_57 _ _ _ rfl (by omega) (by omega) (by omega) (by first | exact (by first | exact FOC_0 q2 | exact FOC_drop i3_57 | exact FOC_keep i3_57 st_fo rfl rfl (by omega) (by omega) (by omega)) | (simp only [Efile, Ehl, Efm]; exact (by first | exact FOC_0 q2 | exact FOC_drop i3_57 | exact FOC_keep i3_57 st_fo rfl rfl (by omega) (by omega) (by omega)))) (by omega) (by omega) hW hF hR hI Efile Ehl Efm (lv_sub hl [1, 2, 3, 4, 0] rfl)
        exact L_57 ((2147483647 - 0 : Int).toNat) 0 0 σL_22 _ _ _ rfl (by omega) (by omega) (by omega) (by first | exact (by first | exact FOC_0 q2 | exact FOC_drop i3_57 | exact FOC_keep i3_57 st_fo rfl rfl (by omega) (by omega) (by omega)) | (simp only [Efile, Ehl, Efo, Efm]; exact (by first | exact FOC_0 q2 | exact FOC_drop i3_57 | exact FOC_keep i3_57 st_fo rfl rfl (by omega) (by omega) (by omega)))) (by decide) (by decide) hW hF hR hI Efile Ehl Efm (lv_sub hl [2, 3, 4, 1, 0] rfl)
      · have hsb := hs3 v3_22 (by omega) (by omega)
        refine lv_aload_n hx hb dX12_goesStep_30 rfl (lv_at hl 0 rfl) ?_
        refine j_getR hx hb (C := RX12) (T := TX12) (N := 41) hts inX12_goesStep_X12 hown hK hS hW h0 rfl 2 rfl rfl (by decide) (hts _ flX12_goesStep_13) dX12_goesStep_31 ?_
        have h_13 : τ (G a0 2) = 41 := gty hS h0 (k := 2) rfl rfl
        refine lv_iload_n hx hb dX12_goesStep_34 rfl (lv_at hl 3 rfl) ?_
        refine lv_aload_n hx hb dX12_goesStep_35 rfl (lv_at hl 0 rfl) ?_
        refine j_getR hx hb (C := RX12) (T := TX12) (N := 41) hts inX12_goesStep_X12 hown hK hS hW h0 rfl 0 rfl rfl (by decide) (hts _ flX12_goesStep_7) dX12_goesStep_36 ?_
        refine lv_iload_n hx hb dX12_goesStep_39 rfl (lv_at hl 2 rfl) ?_
        refine j_const hx hb dX12_goesStep_40 ?_
        refine j_add hx hb dX12_goesStep_41 ?_
        refine lv_iload_n hx hb dX12_goesStep_42 rfl (lv_at hl 3 rfl) ?_
        refine j_add hx hb dX12_goesStep_43 ?_
        refine j_ald hx hb hK hS hW hk_file (n := 17624) rfl (by omega) (by omega) (by decide) dX12_goesStep_44 ?_
        have := abd hW hk_file (n := 17624) (lo := -2147483648) (hi := 2147483647) (i := ((16 + (28 * x1)) + 3) + v3_22) rfl (by omega) (by omega)
        rw [Efile]
        try simp only [Efile] at this
        refine j_ast hx hb hK hS hA hW hF h_13 (n := 24) (lo := 0) (hi := 255) rfl (by omega) (by omega) (by decide) (by omega) dX12_goesStep_45 (fun σ_14 H locs e_15 hW hF => ?_)
        have st_hand := e_15
        have hR := fr_up hR e_15 h_13 41000 (cdA 41 (by decide) _) (by decide)
        have Efile : σ_14 (G a0 0) = σ (G a0 0) := (row_up e_15 h_13 hk_file (by decide)).trans Efile
        try clear hcf
        have hcf := congrFun Efile 0
        have Ehl : σ_14 a0 3 = σ_1 a0 3 := (fld_up e_15 h_13 h0 (fun q => absurd q.1 (by decide))).trans Ehl
        have Efo : σ_14 (G a0 39) = σ (G a0 39) := (row_up e_15 h_13 hk_fo (by decide)).trans Efo
        have Efm : σ_14 a0 40 = σ a0 40 := (fld_up e_15 h_13 h0 (fun q => absurd q.1 (by decide))).trans Efm
        have hI := FI_dep hS h0 hI (kp_up e_15 h_13 41000 (cdA 41 (by decide) _) (by decide))
        refine j_iinc (lv' := [(3, .int (jI (v3_22 + 1))), (0, .ref a0), (1, .int (jI x1)), (2, .int (jI (16 + (28 * x1))))]) hx hb dX12_goesStep_46 hl (k := 3) rfl (by decide) rfl (fun ls hl => ?_)
        refine lv_goto (tgt := 22) hx hb dX12_goesStep_49 (by decide) ?_
        exact ih_22 ((2147483647 - (v3_22 + 1) : Int).toNat) (by omega) (v3_22 + 1) σ_14 _ _ _ rfl (by omega) (by omega) hW hF hR hI Efile Ehl Efo Efm (lv_sub hl [1, 2, 3, 0] rfl)
  exact L_22 ((2147483647 - 0 : Int).toNat) 0 σ_1 _ _ _ rfl (by omega) (by decide) hW hF hR hI Efile rfl Efo Efm (lv_sub hl [2, 3, 1, 0] rfl)
abbrev wr_X12_finds : List Nat := [13003, 13040, 41000, 52000]
theorem flX12_finds_7 : Cond.fieldLink RX12 7 "PageTrieModel" "file" "[I" ∈ wsX12_finds := List.mem_of_getElem? (i := 3) rfl
theorem flX12_finds_47 : Cond.fieldLink RX12 47 "PageTrieModel" "foundOf" "[I" ∈ wsX12_finds := List.mem_of_getElem? (i := 2) rfl
theorem flX12_finds_360 : Cond.fieldLink RX12 360 "PageTrieModel" "foundMany" "I" ∈ wsX12_finds := List.mem_of_getElem? (i := 1) rfl
theorem inX12_finds_X12 : ∀ w ∈ u_ws RX12 TX12 41, w ∈ wsX12_finds := mem_r _ [35, 36, 37, 38, 39, 40, 41, 42, 43, 44, 45, 46, 47, 48, 49, 50, 51, 52, 53, 54, 55, 56, 57, 58, 59, 60, 61, 62, 63, 64, 65, 66, 67, 68, 69, 70, 71, 72, 73, 74, 75] rfl
theorem hvX12_finds : yX12_finds.cls = RX12 ∧ yX12_finds.cls ≠ "java/lang/invoke/MethodHandle" ∧ yX12_finds.cls ≠ "java/lang/invoke/VarHandle" ∧ (parseMethodDescriptor yX12_finds.desc).map (fun d => d.parameters.length) = some 0 := by decide +kernel
set_option maxHeartbeats 4000000 in
set_option maxRecDepth 100000 in
theorem kX12_finds (l : Launch) {D : va_G} {cA : Nat → ClassId} {τ : Nat → Nat} {G : Nat → Nat → Nat} {L : List Nat} (hS : SW τ G L) (σ : Nat → Nat → Int) {a0 : Nat} (h0 : τ a0 = 13) (hI : FI G a0 σ) : Met l yX12_finds wsX12_finds ({ frames := 4, cells := 0, slots := 0, locals := 92 }) (jP D cA τ G L σ [.ref a0]) (jQV D cA τ G L (fun σ' => ((FO (σ' (G a0 39)) 0 (σ' a0 40) (σ (G a0 0) 0)) ∧ (0 ≤ σ' a0 40) ∧ (σ' a0 40 ≤ σ (G a0 0) 0)) ∧ fr wr_X12_finds τ σ σ')) 0 0 (fun q => q ∈ L) := by
  refine j_metV (by decide +kernel) rfl (Nat.le_of_ble_eq_true rfl) ?_
  intro p e s m args below meth c Q hx hb hml hown hts hK hW hRet ls hl
  have hl : lv_has ls 2 [(0, .ref a0)] := hl
  have hA : ∀ q ∈ L, (fun q => q ∈ L) q := fun _ h => h
  have hF : va_S (fun q => q ∈ L) s.heap s.heap [] := va_S.rf
  have hR : fr wr_X12_finds τ σ σ := fr_rf
  have hk_file : τ (G a0 0) = 40 := gty hS h0 (k := 0) rfl rfl
  have hk_fo : τ (G a0 39) = 52 := gty hS h0 (k := 39) rfl rfl
  have := FI_bd hI
  have := fbd hW h0 (k := 3) (lo := 0) (hi := 24) rfl rfl
  refine lv_aload_n hx hb dX12_finds_0 rfl (lv_at hl 0 rfl) ?_
  refine lv_aload_n hx hb dX12_finds_1 rfl (lv_at hl 0 rfl) ?_
  refine j_cR (j_runV (As := []) (rest := [.ref a0]) hx hb hml hown hts hK hS hW (kX12_many l hS σ (a0 := a0) (h0 := h0)) 0 gX12_finds_X12_many rfl hvX12_many ⟨Nat.le_of_ble_eq_true rfl, Nat.le_of_ble_eq_true rfl⟩ rfl rfl h0 rfl rfl rfl rfl hl.1 rfl (Nat.le_of_ble_eq_true rfl) dX12_finds_2 ⟨Nat.le_of_ble_eq_true rfl, Nat.le_of_ble_eq_true rfl⟩) (fun v_1 rv_1 pv_1 => ?_)
  try dsimp only at pv_1
  have q_many := pv_1
  have := FI_bd hI
  refine j_putI hx hb (C := RX12) (T := TX12) (N := 41) hts inX12_finds_X12 tyX12 tyX12_ok nmX12 hown hK hS hA hW hF h0 rfl 40 (lo := 0) (hi := 150) rfl rfl (by decide) (hts _ flX12_finds_360) rfl .int rfl (by omega) rfl rfl dX12_finds_5 (fun σ_2 H locs e_3 hW hF => ?_)
  have hR := fr_up hR e_3 h0 13040 rfl (by decide)
  have Efile : σ_2 (G a0 0) = σ (G a0 0) := row_up e_3 h0 hk_file (by decide)
  try clear hcf
  have hcf := congrFun Efile 0
  have Efo : σ_2 (G a0 39) = σ (G a0 39) := row_up e_3 h0 hk_fo (by decide)
  have hI := FI_dep hS h0 hI (kp_up e_3 h0 13040 rfl (by decide))
  try clear hfk
  have hfk : σ_2 a0 40 = v_1 := by rw [e_3]; exact up2_at _ _ _ _
  have hfm : (σ_2 a0 40) = σ (G a0 0) 0 := by omega
  refine j_const hx hb dX12_finds_8 ?_
  refine lv_istore_n (lv' := [(1, .int (jI 0)), (0, .ref a0)]) hx hb dX12_finds_9 rfl hl (by decide) rfl (fun ls hl => ?_)
  have L_10 : ∀ (N : Nat) (v1_10 : Int) (σL_10 : Nat → Nat → Int) (H : Heap) (locs : List Loc) (ls : Array Slot), N = (2147483647 - v1_10 : Int).toNat → (0 ≤ v1_10) → (∀ i : Int, 0 ≤ i → i < v1_10 → (σL_10 (G a0 39)) i.toNat = i) → rg v1_10 → PW D cA τ G L σL_10 H → va_S (fun q => q ∈ L) s.heap H locs → fr wr_X12_finds τ σ σL_10 → FI G a0 σL_10 → σL_10 (G a0 0) = σ (G a0 0) → σL_10 a0 40 = σ_2 a0 40 → lv_has ls 2 [(0, .ref a0), (1, .int (jI v1_10))] → W p l e ({ frames := 4, cells := 0, slots := 0, locals := 92 }) s m args below meth c H locs 0 0 Q (F0 m 10 ls []) := by
    intro N
    induction N using Nat.strongRecOn with
    | ind N ih_10 =>
      intro v1_10 σL_10 H locs ls hN i0_10 i1_10 rv1_10 hW hF hR hI Efile Efm hl
      try clear hcf
      try clear hfk
      have hcf := congrFun Efile 0
      refine lv_iload_n hx hb dX12_finds_10 rfl (lv_at hl 1 rfl) ?_
      refine lv_aload_n hx hb dX12_finds_11 rfl (lv_at hl 0 rfl) ?_
      refine j_cR (j_runV (As := []) (rest := [.int (jI v1_10)]) hx hb hml hown hts hK hS hW (kX12_many l hS σL_10 (a0 := a0) (h0 := h0)) 0 gX12_finds_X12_many rfl hvX12_many ⟨Nat.le_of_ble_eq_true rfl, Nat.le_of_ble_eq_true rfl⟩ rfl rfl h0 rfl rfl rfl rfl hl.1 rfl (Nat.le_of_ble_eq_true rfl) dX12_finds_12 ⟨Nat.le_of_ble_eq_true rfl, Nat.le_of_ble_eq_true rfl⟩) (fun v_4 rv_4 pv_4 => ?_)
      try dsimp only at pv_4
      try simp only [Efile, Efm] at pv_4
      have q_many := pv_4
      have := FI_bd hI
      try simp only [Efile] at this
      refine j_icmp_ge (tgt := 31) hx hb (by omega) (by omega) dX12_finds_15 (by decide) (fun c_5 => ?_) (fun c_5 => ?_)
      · refine j_const hx hb dX12_finds_31 ?_
        refine lv_istore_n (lv' := [(1, .int (jI 0)), (0, .ref a0)]) hx hb dX12_finds_32 rfl hl (by decide) rfl (fun ls hl => ?_)
        have L_33 : ∀ (N : Nat) (v1_33 : Int) (σL_33 : Nat → Nat → Int) (H : Heap) (locs : List Loc) (ls : Array Slot), N = (2147483647 - v1_33 : Int).toNat → (0 ≤ v1_33) → (FO (σL_33 (G a0 39)) 0 (σL_33 a0 40) (σ (G a0 0) 0)) → (0 ≤ (σL_33 a0 40)) → ((σL_33 a0 40) ≤ σ (G a0 0) 0) → rg v1_33 → PW D cA τ G L σL_33 H → va_S (fun q => q ∈ L) s.heap H locs → fr wr_X12_finds τ σ σL_33 → FI G a0 σL_33 → σL_33 (G a0 0) = σ (G a0 0) → lv_has ls 2 [(0, .ref a0), (1, .int (jI v1_33))] → W p l e ({ frames := 4, cells := 0, slots := 0, locals := 92 }) s m args below meth c H locs 0 0 Q (F0 m 33 ls []) := by
          intro N
          induction N using Nat.strongRecOn with
          | ind N ih_33 =>
            intro v1_33 σL_33 H locs ls hN i0_33 i1_33 i2_33 i3_33 rv1_33 hW hF hR hI Efile hl
            try clear hcf
            try clear hfk
            have hcf := congrFun Efile 0
            have := congrFun Efile 7
            refine lv_iload_n hx hb dX12_finds_33 rfl (lv_at hl 1 rfl) ?_
            refine lv_aload_n hx hb dX12_finds_34 rfl (lv_at hl 0 rfl) ?_
            refine j_getR hx hb (C := RX12) (T := TX12) (N := 41) hts inX12_finds_X12 hown hK hS hW h0 rfl 0 rfl rfl (by decide) (hts _ flX12_finds_7) dX12_finds_35 ?_
            refine j_bi hx hb dX12_finds_38 (by decide) ?_
            refine j_ald hx hb hK hS hW hk_file (n := 17624) rfl (by omega) (by omega) (by decide) dX12_finds_40 ?_
            have : -2147483648 ≤ σL_33 (G a0 0) 7 ∧ σL_33 (G a0 0) 7 ≤ 2147483647 := abd hW hk_file (n := 17624) (lo := -2147483648) (hi := 2147483647) (i := 7) rfl (by decide) (by decide)
            rw [Efile]
            try simp only [Efile] at this
            refine j_eq (z := σ (G a0 0) 7) rfl ?_
            have := FI_bd hI; rw [Efile] at this
            refine j_icmp_ge (tgt := 55) hx hb (by omega) (by omega) dX12_finds_41 (by decide) (fun c_6 => ?_) (fun c_6 => ?_)
            · exact hRet 55 _ _ _ _ dX12_finds_55 hW hF ⟨(by first | exact ⟨i1_33, by omega, by omega⟩ | (simp only [Efile]; exact ⟨i1_33, by omega, by omega⟩)), hR⟩
            · refine lv_aload_n hx hb dX12_finds_44 rfl (lv_at hl 0 rfl) ?_
              refine lv_iload_n hx hb dX12_finds_45 rfl (lv_at hl 1 rfl) ?_
              refine j_cV (j_runV (As := [.int (jI v1_33)]) (rest := []) hx hb hml hown hts hK hS hW (kX12_goesStep l hS σL_33 (a0 := a0) (h0 := h0) (x1 := v1_33) (r1 := (by omega)) (hI := hI) (q0 := (by omega)) (q1 := (by omega)) (q2 := (by rw [Efile]; exact i1_33))) 1 gX12_finds_X12_goesStep rfl hvX12_goesStep ⟨Nat.le_of_ble_eq_true rfl, Nat.le_of_ble_eq_true rfl⟩ rfl rfl h0 rfl rfl rfl rfl hl.1 rfl (Nat.le_of_ble_eq_true rfl) dX12_finds_46 ⟨Nat.le_of_ble_eq_true rfl, Nat.le_of_ble_eq_true rfl⟩) hA hF (fun σ_7 H locs hW hF pσ_7 => ?_)
              try dsimp only at pσ_7
              obtain ⟨pσ_7, fpσ_7⟩ := pσ_7
              try simp only [Efile] at pσ_7
              have q_goesStep := pσ_7
              have hR := fr_call hR fpσ_7 (by decide)
              have Efile : σ_7 (G a0 0) = σ (G a0 0) := (row_fr fpσ_7 hk_file 40 (by decide) (by decide)).trans Efile
              try clear hcf
              have hcf := congrFun Efile 0
              have hI := FI_dep hS h0 hI (kp_fr fpσ_7 (by decide))
              refine j_iinc (lv' := [(1, .int (jI (v1_33 + 1))), (0, .ref a0)]) hx hb dX12_finds_49 hl (k := 1) rfl (by decide) rfl (fun ls hl => ?_)
              refine lv_goto (tgt := 33) hx hb dX12_finds_52 (by decide) ?_
              exact ih_33 ((2147483647 - (v1_33 + 1) : Int).toNat) (by omega) (v1_33 + 1) σ_7 _ _ _ rfl (by omega) (by first | exact (by first | exact q_goesStep.1 | (rw [hfm]; exact FO_id i1_10 (by omega))) | (simp only [Efile]; exact (by first | exact q_goesStep.1 | (rw [hfm]; exact FO_id i1_10 (by omega))))) (by omega) (by omega) (by omega) hW hF hR hI Efile (lv_sub hl [1, 0] rfl)
        exact L_33 ((2147483647 - 0 : Int).toNat) 0 σL_10 _ _ _ rfl (by omega) (by first | exact (by first | exact q_goesStep.1 | (rw [hfm]; exact FO_id i1_10 (by omega))) | (simp only [Efile, Efm]; exact (by first | exact q_goesStep.1 | (rw [hfm]; exact FO_id i1_10 (by omega))))) (by omega) (by omega) (by decide) hW hF hR hI Efile (lv_sub hl [1, 0] rfl)
      · refine lv_aload_n hx hb dX12_finds_18 rfl (lv_at hl 0 rfl) ?_
        refine j_getR hx hb (C := RX12) (T := TX12) (N := 41) hts inX12_finds_X12 hown hK hS hW h0 rfl 39 rfl rfl (by decide) (hts _ flX12_finds_47) dX12_finds_19 ?_
        refine lv_iload_n hx hb dX12_finds_22 rfl (lv_at hl 1 rfl) ?_
        refine lv_iload_n hx hb dX12_finds_23 rfl (lv_at hl 1 rfl) ?_
        refine j_ast hx hb hK hS hA hW hF hk_fo (n := 150) (lo := 0) (hi := 149) rfl (by omega) (by omega) (by decide) (by omega) dX12_finds_24 (fun σ_8 H locs e_9 hW hF => ?_)
        have st_fo := e_9
        have hR := fr_up hR e_9 hk_fo 52000 (cdA 52 (by decide) _) (by decide)
        have Efile : σ_8 (G a0 0) = σ (G a0 0) := (row_up e_9 hk_fo hk_file (by decide)).trans Efile
        try clear hcf
        have hcf := congrFun Efile 0
        have Efm : σ_8 a0 40 = σ_2 a0 40 := (fld_up e_9 hk_fo h0 (fun q => absurd q.1 (by decide))).trans Efm
        have hI := FI_dep hS h0 hI (kp_up e_9 hk_fo 52000 (cdA 52 (by decide) _) (by decide))
        refine j_iinc (lv' := [(1, .int (jI (v1_10 + 1))), (0, .ref a0)]) hx hb dX12_finds_25 hl (k := 1) rfl (by decide) rfl (fun ls hl => ?_)
        refine lv_goto (tgt := 10) hx hb dX12_finds_28 (by decide) ?_
        exact ih_10 ((2147483647 - (v1_10 + 1) : Int).toNat) (by omega) (v1_10 + 1) σ_8 _ _ _ rfl (by omega) (by first | exact (by first | (intro i a b; exfalso; omega) | exact id_s i1_10 st_fo (by omega)) | (simp only [Efile, Efm]; exact (by first | (intro i a b; exfalso; omega) | exact id_s i1_10 st_fo (by omega)))) (by omega) hW hF hR hI Efile Efm (lv_sub hl [1, 0] rfl)
  exact L_10 ((2147483647 - 0 : Int).toNat) 0 σ_2 _ _ _ rfl (by omega) (by first | exact (by first | (intro i a b; exfalso; omega) | exact id_s i1_10 st_fo (by omega)) | (simp only [Efile, Efo]; exact (by first | (intro i a b; exfalso; omega) | exact id_s i1_10 st_fo (by omega)))) (by decide) hW hF hR hI Efile rfl (lv_sub hl [1, 0] rfl)
