set_option maxHeartbeats 4000000 in
set_option maxRecDepth 100000 in
theorem law_c0 (l : Launch) {p : Program} {e : Env} {s : State} {m : MethodId} {below : List Frame} {meth : Method} {c : Code} {b Ln : Nat} {xs : Nat → Int32} (C0 : lw_At p s m meth c b Ln xs) (hL : Ln ≤ 3072) {D : va_G} {cA : Nat → ClassId} {τ : Nat → Nat} {G : Nat → Nat → Nat} {L : List Nat} {a1 a2 : Nat} (hS : SW τ G L) (h1 : τ a1 = 12) (h2 : τ a2 = 13) (hK : XK D cA s) (hA : ∀ q ∈ L, s.heap.size ≤ q) {σ : Nat → Nat → Int} {H : Heap} {locs : List Loc} (hW : PW D cA τ G L σ H) (hI : FI G a2 σ) (hM : FM (σ (G a2 0))) (hE : σ a1 5 = σ a2 1) (hF : va_S (fun q => s.heap.size ≤ q) s.heap H locs) {i : Int} (i0 : 0 ≤ i) (i6 : i + 6 ≤ (Ln : Int)) {ls : Array Slot} (hl : lv_has ls 4 [(3, .int (jI i)), (2, .ref a2), (1, .ref a1), (0, .ref b)]) {Q : State → Prop} (kk : ∀ (σ : Nat → Nat → Int) (H : Heap) (locs : List Loc), PW D cA τ G L σ H → FI G a2 σ → FM (σ (G a2 0)) → σ a1 5 = σ a2 1 → va_S (fun q => s.heap.size ≤ q) s.heap H locs → W p l e room_1 s m #[Value.ref b] below meth c H locs 224 38112 Q (F0 m 1061 ls [])) : W p l e room_1 s m #[Value.ref b] below meth c H locs 224 38112 Q (F0 m 172 ls []) := by
  obtain ⟨hx, hb, hr, hml, hown, hts0, hX, hbl, hlocks, hgv⟩ := id C0
  have hown : s.vm.findClass RL = some m.cls := hown
  have hts : ∀ w ∈ wsLW, w.before #[Value.ref b] s = true := fun w h => hts0 w (wsLW_in w h)
  have hbA : ¬ (fun q : Nat => s.heap.size ≤ q) b := Nat.not_le.mpr hbl
  have hF0 := hF
  refine lv_aload_n hx hb dL_law_172 rfl (lv_at hl 2 rfl) ?_
  refine lv_aload_n hx hb dL_law_173 rfl (lv_at hl 3 rfl) ?_
  refine lv_iload_n hx hb dL_law_174 rfl (lv_at hl 0 rfl) ?_
  refine j_const hx hb dL_law_175 ?_
  refine j_add hx hb dL_law_176 ?_
  refine va_sld hx hb hX hbl hbA hF (jI_in (by omega) (by omega) (by omega)) dL_law_177 (j_raw fun z1 rz1 ez1 => ?_)
  refine lv_aload_n hx hb dL_law_178 rfl (lv_at hl 3 rfl) ?_
  refine lv_iload_n hx hb dL_law_179 rfl (lv_at hl 0 rfl) ?_
  refine j_const hx hb dL_law_180 ?_
  refine j_add hx hb dL_law_181 ?_
  refine va_sld hx hb hX hbl hbA hF (jI_in (by omega) (by omega) (by omega)) dL_law_182 (j_raw fun z2 rz2 ez2 => ?_)
  refine lv_aload_n hx hb dL_law_183 rfl (lv_at hl 3 rfl) ?_
  refine lv_iload_n hx hb dL_law_184 rfl (lv_at hl 0 rfl) ?_
  refine j_const hx hb dL_law_185 ?_
  refine j_add hx hb dL_law_186 ?_
  refine va_sld hx hb hX hbl hbA hF (jI_in (by omega) (by omega) (by omega)) dL_law_187 (j_raw fun z3 rz3 ez3 => ?_)
  refine lv_aload_n hx hb dL_law_188 rfl (lv_at hl 3 rfl) ?_
  refine lv_iload_n hx hb dL_law_189 rfl (lv_at hl 0 rfl) ?_
  refine j_const hx hb dL_law_190 ?_
  refine j_add hx hb dL_law_191 ?_
  refine va_sld hx hb hX hbl hbA hF (jI_in (by omega) (by omega) (by omega)) dL_law_192 (j_raw fun z4 rz4 ez4 => ?_)
  refine lv_aload_n hx hb dL_law_193 rfl (lv_at hl 3 rfl) ?_
  refine lv_iload_n hx hb dL_law_194 rfl (lv_at hl 0 rfl) ?_
  refine j_const hx hb dL_law_195 ?_
  refine j_add hx hb dL_law_196 ?_
  refine va_sld hx hb hX hbl hbA hF (jI_in (by omega) (by omega) (by omega)) dL_law_197 (j_raw fun z5 rz5 ez5 => ?_)
  refine j_cI (j_runV (As := [.int (jI z1), .int (jI z2), .int (jI z3), .int (jI z4), .int (jI z5)]) (rest := []) hx hb hml hown hts hK hS hW (kX11_feed l hS σ (a0 := a1) (h0 := h1) (x1 := z1) (r1 := (by omega)) (x2 := z2) (r2 := (by omega)) (x3 := z3) (r3 := (by omega)) (x4 := z4) (r4 := (by omega)) (x5 := z5) (r5 := (by omega))) 5 gL_law_X11_feed rfl hvX11_feed ⟨Nat.le_of_ble_eq_true rfl, Nat.le_of_ble_eq_true rfl⟩ rfl rfl h1 rfl rfl rfl rfl hl.1 rfl (Nat.le_of_ble_eq_true rfl) dL_law_198 ⟨Nat.le_of_ble_eq_true rfl, Nat.le_of_ble_eq_true rfl⟩) hA hF (fun v6 σ7 H locs hW hF rv6 pv6 => ?_)
  try dsimp only at pv6
  obtain ⟨pv6, fv6⟩ := pv6
  have hM := FM_dep hS h2 hM (kp_fr fv6 (by decide))
  have hI := FI_dep hS h2 hI (kp_fr fv6 (by decide))
  have hu3 := fr_at fv6 h2 1 13001 rfl (by decide)
  have hE := (fr_at fv6 h1 5 12005 rfl (by decide)).trans (hE.trans hu3.symm)
  refine lv_pop hx hb dL_law_201 rfl ?_
  refine lv_aload_n hx hb dL_law_202 rfl (lv_at hl 1 rfl) ?_
  refine lv_aload_n hx hb dL_law_203 rfl (lv_at hl 3 rfl) ?_
  refine lv_iload_n hx hb dL_law_204 rfl (lv_at hl 0 rfl) ?_
  refine j_const hx hb dL_law_205 ?_
  refine j_add hx hb dL_law_206 ?_
  refine va_sld hx hb hX hbl hbA hF (jI_in (by omega) (by omega) (by omega)) dL_law_207 (j_raw fun z8 rz8 ez8 => ?_)
  have uz8 : z8 = z1 := ez8.trans ez1.symm
  refine lv_aload_n hx hb dL_law_208 rfl (lv_at hl 3 rfl) ?_
  refine lv_iload_n hx hb dL_law_209 rfl (lv_at hl 0 rfl) ?_
  refine j_const hx hb dL_law_210 ?_
  refine j_add hx hb dL_law_211 ?_
  refine va_sld hx hb hX hbl hbA hF (jI_in (by omega) (by omega) (by omega)) dL_law_212 (j_raw fun z9 rz9 ez9 => ?_)
  have uz9 : z9 = z2 := ez9.trans ez2.symm
  refine lv_aload_n hx hb dL_law_213 rfl (lv_at hl 3 rfl) ?_
  refine lv_iload_n hx hb dL_law_214 rfl (lv_at hl 0 rfl) ?_
  refine j_const hx hb dL_law_215 ?_
  refine j_add hx hb dL_law_216 ?_
  refine va_sld hx hb hX hbl hbA hF (jI_in (by omega) (by omega) (by omega)) dL_law_217 (j_raw fun z10 rz10 ez10 => ?_)
  have uz10 : z10 = z3 := ez10.trans ez3.symm
  refine lv_aload_n hx hb dL_law_218 rfl (lv_at hl 3 rfl) ?_
  refine lv_iload_n hx hb dL_law_219 rfl (lv_at hl 0 rfl) ?_
  refine j_const hx hb dL_law_220 ?_
  refine j_add hx hb dL_law_221 ?_
  refine va_sld hx hb hX hbl hbA hF (jI_in (by omega) (by omega) (by omega)) dL_law_222 (j_raw fun z11 rz11 ez11 => ?_)
  have uz11 : z11 = z4 := ez11.trans ez4.symm
  refine lv_aload_n hx hb dL_law_223 rfl (lv_at hl 3 rfl) ?_
  refine lv_iload_n hx hb dL_law_224 rfl (lv_at hl 0 rfl) ?_
  refine j_const hx hb dL_law_225 ?_
  refine j_add hx hb dL_law_226 ?_
  refine va_sld hx hb hX hbl hbA hF (jI_in (by omega) (by omega) (by omega)) dL_law_227 (j_raw fun z12 rz12 ez12 => ?_)
  have uz12 : z12 = z5 := ez12.trans ez5.symm
  refine j_cI (j_runV (As := [.int (jI z8), .int (jI z9), .int (jI z10), .int (jI z11), .int (jI z12)]) (rest := []) hx hb hml hown hts hK hS hW (kX12_feed l hS σ7 (a0 := a2) (h0 := h2) (x1 := z8) (r1 := (by omega)) (x2 := z9) (r2 := (by omega)) (x3 := z10) (r3 := (by omega)) (x4 := z11) (r4 := (by omega)) (x5 := z12) (r5 := (by omega))) 5 gL_law_X12_feed rfl hvX12_feed ⟨Nat.le_of_ble_eq_true rfl, Nat.le_of_ble_eq_true rfl⟩ rfl rfl h2 rfl rfl rfl rfl hl.1 rfl (Nat.le_of_ble_eq_true rfl) dL_law_228 ⟨Nat.le_of_ble_eq_true rfl, Nat.le_of_ble_eq_true rfl⟩) hA hF (fun v13 σ14 H locs hW hF rv13 pv13 => ?_)
  try dsimp only at pv13
  obtain ⟨pv13, fv13⟩ := pv13
  have hM := FM_dep hS h2 hM (kp_fr fv13 (by decide))
  have hI := FI_dep hS h2 hI (kp_fr fv13 (by decide))
  have hu3 := fr_at fv13 h2 1 13001 rfl (by decide)
  have hE := (fr_at fv13 h1 5 12005 rfl (by decide)).trans (hE.trans hu3.symm)
  refine lv_pop hx hb dL_law_231 rfl ?_
  refine lv_goto (tgt := 1061) hx hb dL_law_232 (by decide) ?_
  exact kk _ _ _ hW hI hM hE hF
set_option maxHeartbeats 4000000 in
set_option maxRecDepth 100000 in
theorem law_c1 (l : Launch) {p : Program} {e : Env} {s : State} {m : MethodId} {below : List Frame} {meth : Method} {c : Code} {b Ln : Nat} {xs : Nat → Int32} (C0 : lw_At p s m meth c b Ln xs) (hL : Ln ≤ 3072) {D : va_G} {cA : Nat → ClassId} {τ : Nat → Nat} {G : Nat → Nat → Nat} {L : List Nat} {a1 a2 : Nat} (hS : SW τ G L) (h1 : τ a1 = 12) (h2 : τ a2 = 13) (hK : XK D cA s) (hA : ∀ q ∈ L, s.heap.size ≤ q) {σ : Nat → Nat → Int} {H : Heap} {locs : List Loc} (hW : PW D cA τ G L σ H) (hI : FI G a2 σ) (hM : FM (σ (G a2 0))) (hE : σ a1 5 = σ a2 1) (hF : va_S (fun q => s.heap.size ≤ q) s.heap H locs) {i : Int} (i0 : 0 ≤ i) (i6 : i + 6 ≤ (Ln : Int)) {ls : Array Slot} (hl : lv_has ls 4 [(3, .int (jI i)), (2, .ref a2), (1, .ref a1), (0, .ref b)]) {Q : State → Prop} (kk : ∀ (σ : Nat → Nat → Int) (H : Heap) (locs : List Loc), PW D cA τ G L σ H → FI G a2 σ → FM (σ (G a2 0)) → σ a1 5 = σ a2 1 → va_S (fun q => s.heap.size ≤ q) s.heap H locs → W p l e room_1 s m #[Value.ref b] below meth c H locs 224 38112 Q (F0 m 1061 ls [])) : W p l e room_1 s m #[Value.ref b] below meth c H locs 224 38112 Q (F0 m 235 ls []) := by
  obtain ⟨hx, hb, hr, hml, hown, hts0, hX, hbl, hlocks, hgv⟩ := id C0
  have hown : s.vm.findClass RL = some m.cls := hown
  have hts : ∀ w ∈ wsLW, w.before #[Value.ref b] s = true := fun w h => hts0 w (wsLW_in w h)
  have hbA : ¬ (fun q : Nat => s.heap.size ≤ q) b := Nat.not_le.mpr hbl
  have hF0 := hF
  refine lv_aload_n hx hb dL_law_235 rfl (lv_at hl 2 rfl) ?_
  refine lv_aload_n hx hb dL_law_236 rfl (lv_at hl 3 rfl) ?_
  refine lv_iload_n hx hb dL_law_237 rfl (lv_at hl 0 rfl) ?_
  refine j_const hx hb dL_law_238 ?_
  refine j_add hx hb dL_law_239 ?_
  refine va_sld hx hb hX hbl hbA hF (jI_in (by omega) (by omega) (by omega)) dL_law_240 (j_raw fun z1 rz1 ez1 => ?_)
  refine lv_aload_n hx hb dL_law_241 rfl (lv_at hl 3 rfl) ?_
  refine lv_iload_n hx hb dL_law_242 rfl (lv_at hl 0 rfl) ?_
  refine j_const hx hb dL_law_243 ?_
  refine j_add hx hb dL_law_244 ?_
  refine va_sld hx hb hX hbl hbA hF (jI_in (by omega) (by omega) (by omega)) dL_law_245 (j_raw fun z2 rz2 ez2 => ?_)
  refine j_cI (j_runV (As := [.int (jI z1), .int (jI z2)]) (rest := []) hx hb hml hown hts hK hS hW (kX11_begin l hS σ (a0 := a1) (h0 := h1) (x1 := z1) (r1 := (by omega)) (x2 := z2) (r2 := (by omega))) 2 gL_law_X11_begin rfl hvX11_begin ⟨Nat.le_of_ble_eq_true rfl, Nat.le_of_ble_eq_true rfl⟩ rfl rfl h1 rfl rfl rfl rfl hl.1 rfl (Nat.le_of_ble_eq_true rfl) dL_law_246 ⟨Nat.le_of_ble_eq_true rfl, Nat.le_of_ble_eq_true rfl⟩) hA hF (fun v3 σ4 H locs hW hF rv3 pv3 => ?_)
  try dsimp only at pv3
  obtain ⟨pv3, fv3⟩ := pv3
  have hM := FM_dep hS h2 hM (kp_fr fv3 (by decide))
  have hI := FI_dep hS h2 hI (kp_fr fv3 (by decide))
  have hu3 := fr_at fv3 h2 1 13001 rfl (by decide)
  have hE := (fr_at fv3 h1 5 12005 rfl (by decide)).trans (hE.trans hu3.symm)
  refine lv_pop hx hb dL_law_249 rfl ?_
  refine lv_aload_n hx hb dL_law_250 rfl (lv_at hl 1 rfl) ?_
  refine lv_aload_n hx hb dL_law_251 rfl (lv_at hl 3 rfl) ?_
  refine lv_iload_n hx hb dL_law_252 rfl (lv_at hl 0 rfl) ?_
  refine j_const hx hb dL_law_253 ?_
  refine j_add hx hb dL_law_254 ?_
  refine va_sld hx hb hX hbl hbA hF (jI_in (by omega) (by omega) (by omega)) dL_law_255 (j_raw fun z5 rz5 ez5 => ?_)
  have uz5 : z5 = z1 := ez5.trans ez1.symm
  refine lv_aload_n hx hb dL_law_256 rfl (lv_at hl 3 rfl) ?_
  refine lv_iload_n hx hb dL_law_257 rfl (lv_at hl 0 rfl) ?_
  refine j_const hx hb dL_law_258 ?_
  refine j_add hx hb dL_law_259 ?_
  refine va_sld hx hb hX hbl hbA hF (jI_in (by omega) (by omega) (by omega)) dL_law_260 (j_raw fun z6 rz6 ez6 => ?_)
  have uz6 : z6 = z2 := ez6.trans ez2.symm
  refine j_cI (j_runV (As := [.int (jI z5), .int (jI z6)]) (rest := []) hx hb hml hown hts hK hS hW (kX12_begin l hS σ4 (a0 := a2) (h0 := h2) (x1 := z5) (r1 := (by omega)) (x2 := z6) (r2 := (by omega)) (hI := hI) (q0 := hM)) 2 gL_law_X12_begin rfl hvX12_begin ⟨Nat.le_of_ble_eq_true rfl, Nat.le_of_ble_eq_true rfl⟩ rfl rfl h2 rfl rfl rfl rfl hl.1 rfl (Nat.le_of_ble_eq_true rfl) dL_law_261 ⟨Nat.le_of_ble_eq_true rfl, Nat.le_of_ble_eq_true rfl⟩) hA hF (fun v7 σ8 H locs hW hF rv7 pv7 => ?_)
  try dsimp only at pv7
  obtain ⟨pv7, fv7⟩ := pv7
  have hI := pv7.2.1
  have hM := pv7.2.2
  have hu3 := fr_at fv7 h2 1 13001 rfl (by decide)
  have hE := (fr_at fv7 h1 5 12005 rfl (by decide)).trans (hE.trans hu3.symm)
  refine lv_pop hx hb dL_law_264 rfl ?_
  refine lv_goto (tgt := 1061) hx hb dL_law_265 (by decide) ?_
  exact kk _ _ _ hW hI hM hE hF
set_option maxHeartbeats 4000000 in
set_option maxRecDepth 100000 in
theorem law_c2 (l : Launch) {p : Program} {e : Env} {s : State} {m : MethodId} {below : List Frame} {meth : Method} {c : Code} {b Ln : Nat} {xs : Nat → Int32} (C0 : lw_At p s m meth c b Ln xs) (hL : Ln ≤ 3072) {D : va_G} {cA : Nat → ClassId} {τ : Nat → Nat} {G : Nat → Nat → Nat} {L : List Nat} {a1 a2 : Nat} (hS : SW τ G L) (h1 : τ a1 = 12) (h2 : τ a2 = 13) (hK : XK D cA s) (hA : ∀ q ∈ L, s.heap.size ≤ q) {σ : Nat → Nat → Int} {H : Heap} {locs : List Loc} (hW : PW D cA τ G L σ H) (hI : FI G a2 σ) (hM : FM (σ (G a2 0))) (hE : σ a1 5 = σ a2 1) (hF : va_S (fun q => s.heap.size ≤ q) s.heap H locs) {i : Int} (i0 : 0 ≤ i) (i6 : i + 6 ≤ (Ln : Int)) {ls : Array Slot} (hl : lv_has ls 4 [(3, .int (jI i)), (2, .ref a2), (1, .ref a1), (0, .ref b)]) {Q : State → Prop} (kk : ∀ (σ : Nat → Nat → Int) (H : Heap) (locs : List Loc), PW D cA τ G L σ H → FI G a2 σ → FM (σ (G a2 0)) → σ a1 5 = σ a2 1 → va_S (fun q => s.heap.size ≤ q) s.heap H locs → W p l e room_1 s m #[Value.ref b] below meth c H locs 224 38112 Q (F0 m 1061 ls [])) : W p l e room_1 s m #[Value.ref b] below meth c H locs 224 38112 Q (F0 m 268 ls []) := by
  obtain ⟨hx, hb, hr, hml, hown, hts0, hX, hbl, hlocks, hgv⟩ := id C0
  have hown : s.vm.findClass RL = some m.cls := hown
  have hts : ∀ w ∈ wsLW, w.before #[Value.ref b] s = true := fun w h => hts0 w (wsLW_in w h)
  have hbA : ¬ (fun q : Nat => s.heap.size ≤ q) b := Nat.not_le.mpr hbl
  have hF0 := hF
  refine lv_aload_n hx hb dL_law_268 rfl (lv_at hl 2 rfl) ?_
  refine lv_aload_n hx hb dL_law_269 rfl (lv_at hl 3 rfl) ?_
  refine lv_iload_n hx hb dL_law_270 rfl (lv_at hl 0 rfl) ?_
  refine j_const hx hb dL_law_271 ?_
  refine j_add hx hb dL_law_272 ?_
  refine va_sld hx hb hX hbl hbA hF (jI_in (by omega) (by omega) (by omega)) dL_law_273 (j_raw fun z1 rz1 ez1 => ?_)
  refine lv_aload_n hx hb dL_law_274 rfl (lv_at hl 3 rfl) ?_
  refine lv_iload_n hx hb dL_law_275 rfl (lv_at hl 0 rfl) ?_
  refine j_const hx hb dL_law_276 ?_
  refine j_add hx hb dL_law_277 ?_
  refine va_sld hx hb hX hbl hbA hF (jI_in (by omega) (by omega) (by omega)) dL_law_278 (j_raw fun z2 rz2 ez2 => ?_)
  refine j_cI (j_runV (As := [.int (jI z1), .int (jI z2)]) (rest := []) hx hb hml hown hts hK hS hW (kX11_put l hS σ (a0 := a1) (h0 := h1) (x1 := z1) (r1 := (by omega)) (x2 := z2) (r2 := (by omega))) 2 gL_law_X11_put rfl hvX11_put ⟨Nat.le_of_ble_eq_true rfl, Nat.le_of_ble_eq_true rfl⟩ rfl rfl h1 rfl rfl rfl rfl hl.1 rfl (Nat.le_of_ble_eq_true rfl) dL_law_279 ⟨Nat.le_of_ble_eq_true rfl, Nat.le_of_ble_eq_true rfl⟩) hA hF (fun v3 σ4 H locs hW hF rv3 pv3 => ?_)
  try dsimp only at pv3
  obtain ⟨pv3, fv3⟩ := pv3
  have hM := FM_dep hS h2 hM (kp_fr fv3 (by decide))
  have hI := FI_dep hS h2 hI (kp_fr fv3 (by decide))
  have hu3 := fr_at fv3 h2 1 13001 rfl (by decide)
  have hE := (fr_at fv3 h1 5 12005 rfl (by decide)).trans (hE.trans hu3.symm)
  refine lv_pop hx hb dL_law_282 rfl ?_
  refine lv_aload_n hx hb dL_law_283 rfl (lv_at hl 1 rfl) ?_
  refine lv_aload_n hx hb dL_law_284 rfl (lv_at hl 3 rfl) ?_
  refine lv_iload_n hx hb dL_law_285 rfl (lv_at hl 0 rfl) ?_
  refine j_const hx hb dL_law_286 ?_
  refine j_add hx hb dL_law_287 ?_
  refine va_sld hx hb hX hbl hbA hF (jI_in (by omega) (by omega) (by omega)) dL_law_288 (j_raw fun z5 rz5 ez5 => ?_)
  have uz5 : z5 = z1 := ez5.trans ez1.symm
  refine lv_aload_n hx hb dL_law_289 rfl (lv_at hl 3 rfl) ?_
  refine lv_iload_n hx hb dL_law_290 rfl (lv_at hl 0 rfl) ?_
  refine j_const hx hb dL_law_291 ?_
  refine j_add hx hb dL_law_292 ?_
  refine va_sld hx hb hX hbl hbA hF (jI_in (by omega) (by omega) (by omega)) dL_law_293 (j_raw fun z6 rz6 ez6 => ?_)
  have uz6 : z6 = z2 := ez6.trans ez2.symm
  refine j_cI (j_runV (As := [.int (jI z5), .int (jI z6)]) (rest := []) hx hb hml hown hts hK hS hW (kX12_put l hS σ4 (a0 := a2) (h0 := h2) (x1 := z5) (r1 := (by omega)) (x2 := z6) (r2 := (by omega)) (hI := hI) (q0 := hM)) 2 gL_law_X12_put rfl hvX12_put ⟨Nat.le_of_ble_eq_true rfl, Nat.le_of_ble_eq_true rfl⟩ rfl rfl h2 rfl rfl rfl rfl hl.1 rfl (Nat.le_of_ble_eq_true rfl) dL_law_294 ⟨Nat.le_of_ble_eq_true rfl, Nat.le_of_ble_eq_true rfl⟩) hA hF (fun v7 σ8 H locs hW hF rv7 pv7 => ?_)
  try dsimp only at pv7
  obtain ⟨pv7, fv7⟩ := pv7
  have hI := pv7.1
  have hM := pv7.2
  have hu3 := fr_at fv7 h2 1 13001 rfl (by decide)
  have hE := (fr_at fv7 h1 5 12005 rfl (by decide)).trans (hE.trans hu3.symm)
  refine lv_pop hx hb dL_law_297 rfl ?_
  refine lv_goto (tgt := 1061) hx hb dL_law_298 (by decide) ?_
  exact kk _ _ _ hW hI hM hE hF
set_option maxHeartbeats 4000000 in
set_option maxRecDepth 100000 in
theorem law_c3 (l : Launch) {p : Program} {e : Env} {s : State} {m : MethodId} {below : List Frame} {meth : Method} {c : Code} {b Ln : Nat} {xs : Nat → Int32} (C0 : lw_At p s m meth c b Ln xs) (hL : Ln ≤ 3072) {D : va_G} {cA : Nat → ClassId} {τ : Nat → Nat} {G : Nat → Nat → Nat} {L : List Nat} {a1 a2 : Nat} (hS : SW τ G L) (h1 : τ a1 = 12) (h2 : τ a2 = 13) (hK : XK D cA s) (hA : ∀ q ∈ L, s.heap.size ≤ q) {σ : Nat → Nat → Int} {H : Heap} {locs : List Loc} (hW : PW D cA τ G L σ H) (hI : FI G a2 σ) (hM : FM (σ (G a2 0))) (hE : σ a1 5 = σ a2 1) (hF : va_S (fun q => s.heap.size ≤ q) s.heap H locs) {i : Int} (i0 : 0 ≤ i) (i6 : i + 6 ≤ (Ln : Int)) {ls : Array Slot} (hl : lv_has ls 4 [(3, .int (jI i)), (2, .ref a2), (1, .ref a1), (0, .ref b)]) {Q : State → Prop} (kk : ∀ (σ : Nat → Nat → Int) (H : Heap) (locs : List Loc), PW D cA τ G L σ H → FI G a2 σ → FM (σ (G a2 0)) → σ a1 5 = σ a2 1 → va_S (fun q => s.heap.size ≤ q) s.heap H locs → W p l e room_1 s m #[Value.ref b] below meth c H locs 224 38112 Q (F0 m 1061 ls [])) : W p l e room_1 s m #[Value.ref b] below meth c H locs 224 38112 Q (F0 m 301 ls []) := by
  obtain ⟨hx, hb, hr, hml, hown, hts0, hX, hbl, hlocks, hgv⟩ := id C0
  have hown : s.vm.findClass RL = some m.cls := hown
  have hts : ∀ w ∈ wsLW, w.before #[Value.ref b] s = true := fun w h => hts0 w (wsLW_in w h)
  have hbA : ¬ (fun q : Nat => s.heap.size ≤ q) b := Nat.not_le.mpr hbl
  have hF0 := hF
  refine lv_aload_n hx hb dL_law_301 rfl (lv_at hl 2 rfl) ?_
  refine lv_aload_n hx hb dL_law_302 rfl (lv_at hl 3 rfl) ?_
  refine lv_iload_n hx hb dL_law_303 rfl (lv_at hl 0 rfl) ?_
  refine j_const hx hb dL_law_304 ?_
  refine j_add hx hb dL_law_305 ?_
  refine va_sld hx hb hX hbl hbA hF (jI_in (by omega) (by omega) (by omega)) dL_law_306 (j_raw fun z1 rz1 ez1 => ?_)
  refine j_cI (j_runV (As := [.int (jI z1)]) (rest := []) hx hb hml hown hts hK hS hW (kX11_take l hS σ (a0 := a1) (h0 := h1) (x1 := z1) (r1 := (by omega))) 1 gL_law_X11_take rfl hvX11_take ⟨Nat.le_of_ble_eq_true rfl, Nat.le_of_ble_eq_true rfl⟩ rfl rfl h1 rfl rfl rfl rfl hl.1 rfl (Nat.le_of_ble_eq_true rfl) dL_law_307 ⟨Nat.le_of_ble_eq_true rfl, Nat.le_of_ble_eq_true rfl⟩) hA hF (fun v2 σ3 H locs hW hF rv2 pv2 => ?_)
  try dsimp only at pv2
  obtain ⟨pv2, fv2⟩ := pv2
  have hM := FM_dep hS h2 hM (kp_fr fv2 (by decide))
  have hI := FI_dep hS h2 hI (kp_fr fv2 (by decide))
  have hu3 := fr_at fv2 h2 1 13001 rfl (by decide)
  have hE := (fr_at fv2 h1 5 12005 rfl (by decide)).trans (hE.trans hu3.symm)
  refine lv_pop hx hb dL_law_310 rfl ?_
  refine lv_aload_n hx hb dL_law_311 rfl (lv_at hl 1 rfl) ?_
  refine lv_aload_n hx hb dL_law_312 rfl (lv_at hl 3 rfl) ?_
  refine lv_iload_n hx hb dL_law_313 rfl (lv_at hl 0 rfl) ?_
  refine j_const hx hb dL_law_314 ?_
  refine j_add hx hb dL_law_315 ?_
  refine va_sld hx hb hX hbl hbA hF (jI_in (by omega) (by omega) (by omega)) dL_law_316 (j_raw fun z4 rz4 ez4 => ?_)
  have uz4 : z4 = z1 := ez4.trans ez1.symm
  refine j_cI (j_runV (As := [.int (jI z4)]) (rest := []) hx hb hml hown hts hK hS hW (kX12_take l hS σ3 (a0 := a2) (h0 := h2) (x1 := z4) (r1 := (by omega)) (hI := hI) (q0 := hM)) 1 gL_law_X12_take rfl hvX12_take ⟨Nat.le_of_ble_eq_true rfl, Nat.le_of_ble_eq_true rfl⟩ rfl rfl h2 rfl rfl rfl rfl hl.1 rfl (Nat.le_of_ble_eq_true rfl) dL_law_317 ⟨Nat.le_of_ble_eq_true rfl, Nat.le_of_ble_eq_true rfl⟩) hA hF (fun v5 σ6 H locs hW hF rv5 pv5 => ?_)
  try dsimp only at pv5
  obtain ⟨pv5, fv5⟩ := pv5
  have hI := pv5.1
  have hM := pv5.2
  have hu3 := fr_at fv5 h2 1 13001 rfl (by decide)
  have hE := (fr_at fv5 h1 5 12005 rfl (by decide)).trans (hE.trans hu3.symm)
  refine lv_pop hx hb dL_law_320 rfl ?_
  refine lv_goto (tgt := 1061) hx hb dL_law_321 (by decide) ?_
  exact kk _ _ _ hW hI hM hE hF
set_option maxHeartbeats 4000000 in
set_option maxRecDepth 100000 in
theorem law_c4 (l : Launch) {p : Program} {e : Env} {s : State} {m : MethodId} {below : List Frame} {meth : Method} {c : Code} {b Ln : Nat} {xs : Nat → Int32} (C0 : lw_At p s m meth c b Ln xs) (hL : Ln ≤ 3072) {D : va_G} {cA : Nat → ClassId} {τ : Nat → Nat} {G : Nat → Nat → Nat} {L : List Nat} {a1 a2 : Nat} (hS : SW τ G L) (h1 : τ a1 = 12) (h2 : τ a2 = 13) (hK : XK D cA s) (hA : ∀ q ∈ L, s.heap.size ≤ q) {σ : Nat → Nat → Int} {H : Heap} {locs : List Loc} (hW : PW D cA τ G L σ H) (hI : FI G a2 σ) (hM : FM (σ (G a2 0))) (hE : σ a1 5 = σ a2 1) (hF : va_S (fun q => s.heap.size ≤ q) s.heap H locs) {i : Int} (i0 : 0 ≤ i) (i6 : i + 6 ≤ (Ln : Int)) {ls : Array Slot} (hl : lv_has ls 4 [(3, .int (jI i)), (2, .ref a2), (1, .ref a1), (0, .ref b)]) {Q : State → Prop} (kk : ∀ (σ : Nat → Nat → Int) (H : Heap) (locs : List Loc), PW D cA τ G L σ H → FI G a2 σ → FM (σ (G a2 0)) → σ a1 5 = σ a2 1 → va_S (fun q => s.heap.size ≤ q) s.heap H locs → W p l e room_1 s m #[Value.ref b] below meth c H locs 224 38112 Q (F0 m 1061 ls [])) : W p l e room_1 s m #[Value.ref b] below meth c H locs 224 38112 Q (F0 m 324 ls []) := by
  obtain ⟨hx, hb, hr, hml, hown, hts0, hX, hbl, hlocks, hgv⟩ := id C0
  have hown : s.vm.findClass RL = some m.cls := hown
  have hts : ∀ w ∈ wsLW, w.before #[Value.ref b] s = true := fun w h => hts0 w (wsLW_in w h)
  have hbA : ¬ (fun q : Nat => s.heap.size ≤ q) b := Nat.not_le.mpr hbl
  have hF0 := hF
  refine lv_aload_n hx hb dL_law_324 rfl (lv_at hl 2 rfl) ?_
  refine lv_aload_n hx hb dL_law_325 rfl (lv_at hl 3 rfl) ?_
  refine lv_iload_n hx hb dL_law_326 rfl (lv_at hl 0 rfl) ?_
  refine j_const hx hb dL_law_327 ?_
  refine j_add hx hb dL_law_328 ?_
  refine va_sld hx hb hX hbl hbA hF (jI_in (by omega) (by omega) (by omega)) dL_law_329 (j_raw fun z1 rz1 ez1 => ?_)
  refine j_cI (j_runV (As := [.int (jI z1)]) (rest := []) hx hb hml hown hts hK hS hW (kX11_orders l hS σ (a0 := a1) (h0 := h1) (x1 := z1) (r1 := (by omega))) 1 gL_law_X11_orders rfl hvX11_orders ⟨Nat.le_of_ble_eq_true rfl, Nat.le_of_ble_eq_true rfl⟩ rfl rfl h1 rfl rfl rfl rfl hl.1 rfl (Nat.le_of_ble_eq_true rfl) dL_law_330 ⟨Nat.le_of_ble_eq_true rfl, Nat.le_of_ble_eq_true rfl⟩) hA hF (fun v2 σ3 H locs hW hF rv2 pv2 => ?_)
  try dsimp only at pv2
  obtain ⟨pv2, fv2⟩ := pv2
  have hM := FM_dep hS h2 hM (kp_fr fv2 (by decide))
  have hI := FI_dep hS h2 hI (kp_fr fv2 (by decide))
  have hu3 := fr_at fv2 h2 1 13001 rfl (by decide)
  have hE := (fr_at fv2 h1 5 12005 rfl (by decide)).trans (hE.trans hu3.symm)
  refine lv_pop hx hb dL_law_333 rfl ?_
  refine lv_aload_n hx hb dL_law_334 rfl (lv_at hl 1 rfl) ?_
  refine lv_aload_n hx hb dL_law_335 rfl (lv_at hl 3 rfl) ?_
  refine lv_iload_n hx hb dL_law_336 rfl (lv_at hl 0 rfl) ?_
  refine j_const hx hb dL_law_337 ?_
  refine j_add hx hb dL_law_338 ?_
  refine va_sld hx hb hX hbl hbA hF (jI_in (by omega) (by omega) (by omega)) dL_law_339 (j_raw fun z4 rz4 ez4 => ?_)
  have uz4 : z4 = z1 := ez4.trans ez1.symm
  refine j_cI (j_runV (As := [.int (jI z4)]) (rest := []) hx hb hml hown hts hK hS hW (kX12_orders l hS σ3 (a0 := a2) (h0 := h2) (x1 := z4) (r1 := (by omega)) (hI := hI) (q0 := hM)) 1 gL_law_X12_orders rfl hvX12_orders ⟨Nat.le_of_ble_eq_true rfl, Nat.le_of_ble_eq_true rfl⟩ rfl rfl h2 rfl rfl rfl rfl hl.1 rfl (Nat.le_of_ble_eq_true rfl) dL_law_340 ⟨Nat.le_of_ble_eq_true rfl, Nat.le_of_ble_eq_true rfl⟩) hA hF (fun v5 σ6 H locs hW hF rv5 pv5 => ?_)
  try dsimp only at pv5
  obtain ⟨pv5, fv5⟩ := pv5
  have hI := pv5.1
  have hM := pv5.2
  have hu3 := fr_at fv5 h2 1 13001 rfl (by decide)
  have hE := (fr_at fv5 h1 5 12005 rfl (by decide)).trans (hE.trans hu3.symm)
  refine lv_pop hx hb dL_law_343 rfl ?_
  refine lv_goto (tgt := 1061) hx hb dL_law_344 (by decide) ?_
  exact kk _ _ _ hW hI hM hE hF
set_option maxHeartbeats 4000000 in
set_option maxRecDepth 100000 in
theorem law_c5 (l : Launch) {p : Program} {e : Env} {s : State} {m : MethodId} {below : List Frame} {meth : Method} {c : Code} {b Ln : Nat} {xs : Nat → Int32} (C0 : lw_At p s m meth c b Ln xs) (hL : Ln ≤ 3072) {D : va_G} {cA : Nat → ClassId} {τ : Nat → Nat} {G : Nat → Nat → Nat} {L : List Nat} {a1 a2 : Nat} (hS : SW τ G L) (h1 : τ a1 = 12) (h2 : τ a2 = 13) (hK : XK D cA s) (hA : ∀ q ∈ L, s.heap.size ≤ q) {σ : Nat → Nat → Int} {H : Heap} {locs : List Loc} (hW : PW D cA τ G L σ H) (hI : FI G a2 σ) (hM : FM (σ (G a2 0))) (hE : σ a1 5 = σ a2 1) (hF : va_S (fun q => s.heap.size ≤ q) s.heap H locs) {i : Int} (i0 : 0 ≤ i) (i6 : i + 6 ≤ (Ln : Int)) {ls : Array Slot} (hl : lv_has ls 4 [(3, .int (jI i)), (2, .ref a2), (1, .ref a1), (0, .ref b)]) {Q : State → Prop} (kk : ∀ (σ : Nat → Nat → Int) (H : Heap) (locs : List Loc), PW D cA τ G L σ H → FI G a2 σ → FM (σ (G a2 0)) → σ a1 5 = σ a2 1 → va_S (fun q => s.heap.size ≤ q) s.heap H locs → W p l e room_1 s m #[Value.ref b] below meth c H locs 224 38112 Q (F0 m 1061 ls [])) : W p l e room_1 s m #[Value.ref b] below meth c H locs 224 38112 Q (F0 m 347 ls []) := by
  obtain ⟨hx, hb, hr, hml, hown, hts0, hX, hbl, hlocks, hgv⟩ := id C0
  have hown : s.vm.findClass RL = some m.cls := hown
  have hts : ∀ w ∈ wsLW, w.before #[Value.ref b] s = true := fun w h => hts0 w (wsLW_in w h)
  have hbA : ¬ (fun q : Nat => s.heap.size ≤ q) b := Nat.not_le.mpr hbl
  have hF0 := hF
  refine lv_aload_n hx hb dL_law_347 rfl (lv_at hl 2 rfl) ?_
  refine lv_aload_n hx hb dL_law_348 rfl (lv_at hl 3 rfl) ?_
  refine lv_iload_n hx hb dL_law_349 rfl (lv_at hl 0 rfl) ?_
  refine j_const hx hb dL_law_350 ?_
  refine j_add hx hb dL_law_351 ?_
  refine va_sld hx hb hX hbl hbA hF (jI_in (by omega) (by omega) (by omega)) dL_law_352 (j_raw fun z1 rz1 ez1 => ?_)
  refine j_cI (j_runV (As := [.int (jI z1)]) (rest := []) hx hb hml hown hts hK hS hW (kX11_batch l hS σ (a0 := a1) (h0 := h1) (x1 := z1) (r1 := (by omega))) 1 gL_law_X11_batch rfl hvX11_batch ⟨Nat.le_of_ble_eq_true rfl, Nat.le_of_ble_eq_true rfl⟩ rfl rfl h1 rfl rfl rfl rfl hl.1 rfl (Nat.le_of_ble_eq_true rfl) dL_law_353 ⟨Nat.le_of_ble_eq_true rfl, Nat.le_of_ble_eq_true rfl⟩) hA hF (fun v2 σ3 H locs hW hF rv2 pv2 => ?_)
  try dsimp only at pv2
  obtain ⟨pv2, fv2⟩ := pv2
  have hM := FM_dep hS h2 hM (kp_fr fv2 (by decide))
  have hI := FI_dep hS h2 hI (kp_fr fv2 (by decide))
  have hu3 := fr_at fv2 h2 1 13001 rfl (by decide)
  have hE := (fr_at fv2 h1 5 12005 rfl (by decide)).trans (hE.trans hu3.symm)
  refine lv_pop hx hb dL_law_356 rfl ?_
  refine lv_aload_n hx hb dL_law_357 rfl (lv_at hl 1 rfl) ?_
  refine lv_aload_n hx hb dL_law_358 rfl (lv_at hl 3 rfl) ?_
  refine lv_iload_n hx hb dL_law_359 rfl (lv_at hl 0 rfl) ?_
  refine j_const hx hb dL_law_360 ?_
  refine j_add hx hb dL_law_361 ?_
  refine va_sld hx hb hX hbl hbA hF (jI_in (by omega) (by omega) (by omega)) dL_law_362 (j_raw fun z4 rz4 ez4 => ?_)
  have uz4 : z4 = z1 := ez4.trans ez1.symm
  refine j_cI (j_runV (As := [.int (jI z4)]) (rest := []) hx hb hml hown hts hK hS hW (kX12_batch l hS σ3 (a0 := a2) (h0 := h2) (x1 := z4) (r1 := (by omega)) (hI := hI) (q0 := hM)) 1 gL_law_X12_batch rfl hvX12_batch ⟨Nat.le_of_ble_eq_true rfl, Nat.le_of_ble_eq_true rfl⟩ rfl rfl h2 rfl rfl rfl rfl hl.1 rfl (Nat.le_of_ble_eq_true rfl) dL_law_363 ⟨Nat.le_of_ble_eq_true rfl, Nat.le_of_ble_eq_true rfl⟩) hA hF (fun v5 σ6 H locs hW hF rv5 pv5 => ?_)
  try dsimp only at pv5
  obtain ⟨pv5, fv5⟩ := pv5
  have hI := pv5.1
  have hM := pv5.2
  have hu3 := fr_at fv5 h2 1 13001 rfl (by decide)
  have hE := (fr_at fv5 h1 5 12005 rfl (by decide)).trans (hE.trans hu3.symm)
  refine lv_pop hx hb dL_law_366 rfl ?_
  refine lv_goto (tgt := 1061) hx hb dL_law_367 (by decide) ?_
  exact kk _ _ _ hW hI hM hE hF
set_option maxHeartbeats 4000000 in
set_option maxRecDepth 100000 in
theorem law_c6 (l : Launch) {p : Program} {e : Env} {s : State} {m : MethodId} {below : List Frame} {meth : Method} {c : Code} {b Ln : Nat} {xs : Nat → Int32} (C0 : lw_At p s m meth c b Ln xs) (hL : Ln ≤ 3072) {D : va_G} {cA : Nat → ClassId} {τ : Nat → Nat} {G : Nat → Nat → Nat} {L : List Nat} {a1 a2 : Nat} (hS : SW τ G L) (h1 : τ a1 = 12) (h2 : τ a2 = 13) (hK : XK D cA s) (hA : ∀ q ∈ L, s.heap.size ≤ q) {σ : Nat → Nat → Int} {H : Heap} {locs : List Loc} (hW : PW D cA τ G L σ H) (hI : FI G a2 σ) (hM : FM (σ (G a2 0))) (hE : σ a1 5 = σ a2 1) (hF : va_S (fun q => s.heap.size ≤ q) s.heap H locs) {i : Int} (i0 : 0 ≤ i) (i6 : i + 6 ≤ (Ln : Int)) {ls : Array Slot} (hl : lv_has ls 4 [(3, .int (jI i)), (2, .ref a2), (1, .ref a1), (0, .ref b)]) {Q : State → Prop} (kk : ∀ (σ : Nat → Nat → Int) (H : Heap) (locs : List Loc), PW D cA τ G L σ H → FI G a2 σ → FM (σ (G a2 0)) → σ a1 5 = σ a2 1 → va_S (fun q => s.heap.size ≤ q) s.heap H locs → W p l e room_1 s m #[Value.ref b] below meth c H locs 224 38112 Q (F0 m 1061 ls [])) : W p l e room_1 s m #[Value.ref b] below meth c H locs 224 38112 Q (F0 m 370 ls []) := by
  obtain ⟨hx, hb, hr, hml, hown, hts0, hX, hbl, hlocks, hgv⟩ := id C0
  have hown : s.vm.findClass RL = some m.cls := hown
  have hts : ∀ w ∈ wsLW, w.before #[Value.ref b] s = true := fun w h => hts0 w (wsLW_in w h)
  have hbA : ¬ (fun q : Nat => s.heap.size ≤ q) b := Nat.not_le.mpr hbl
  have hF0 := hF
  refine lv_aload_n hx hb dL_law_370 rfl (lv_at hl 2 rfl) ?_
  refine lv_aload_n hx hb dL_law_371 rfl (lv_at hl 3 rfl) ?_
  refine lv_iload_n hx hb dL_law_372 rfl (lv_at hl 0 rfl) ?_
  refine j_const hx hb dL_law_373 ?_
  refine j_add hx hb dL_law_374 ?_
  refine va_sld hx hb hX hbl hbA hF (jI_in (by omega) (by omega) (by omega)) dL_law_375 (j_raw fun z1 rz1 ez1 => ?_)
  refine j_cR (j_runV (As := [.int (jI z1)]) (rest := []) hx hb hml hown hts hK hS hW (kX11_count l hS σ (a0 := a1) (h0 := h1) (x1 := z1) (r1 := (by omega))) 1 gL_law_X11_count rfl hvX11_count ⟨Nat.le_of_ble_eq_true rfl, Nat.le_of_ble_eq_true rfl⟩ rfl rfl h1 rfl rfl rfl rfl hl.1 rfl (Nat.le_of_ble_eq_true rfl) dL_law_376 ⟨Nat.le_of_ble_eq_true rfl, Nat.le_of_ble_eq_true rfl⟩) (fun v2 rv2 pv2 => ?_)
  refine lv_pop hx hb dL_law_379 rfl ?_
  refine lv_aload_n hx hb dL_law_380 rfl (lv_at hl 1 rfl) ?_
  refine lv_aload_n hx hb dL_law_381 rfl (lv_at hl 3 rfl) ?_
  refine lv_iload_n hx hb dL_law_382 rfl (lv_at hl 0 rfl) ?_
  refine j_const hx hb dL_law_383 ?_
  refine j_add hx hb dL_law_384 ?_
  refine va_sld hx hb hX hbl hbA hF (jI_in (by omega) (by omega) (by omega)) dL_law_385 (j_raw fun z3 rz3 ez3 => ?_)
  have uz3 : z3 = z1 := ez3.trans ez1.symm
  refine j_cI (j_runV (As := [.int (jI z3)]) (rest := []) hx hb hml hown hts hK hS hW (kX12_count l hS σ (a0 := a2) (h0 := h2) (x1 := z3) (r1 := (by omega)) (hI := hI)) 1 gL_law_X12_count rfl hvX12_count ⟨Nat.le_of_ble_eq_true rfl, Nat.le_of_ble_eq_true rfl⟩ rfl rfl h2 rfl rfl rfl rfl hl.1 rfl (Nat.le_of_ble_eq_true rfl) dL_law_386 ⟨Nat.le_of_ble_eq_true rfl, Nat.le_of_ble_eq_true rfl⟩) hA hF (fun v4 σ5 H locs hW hF rv4 pv4 => ?_)
  try dsimp only at pv4
  obtain ⟨pv4, fv4⟩ := pv4
  have hM := FM_dep hS h2 hM (kp_fr fv4 (by decide))
  have hI := FI_dep hS h2 hI (kp_fr fv4 (by decide))
  have hu3 := fr_at fv4 h2 1 13001 rfl (by decide)
  have hE := (fr_at fv4 h1 5 12005 rfl (by decide)).trans (hE.trans hu3.symm)
  refine lv_pop hx hb dL_law_389 rfl ?_
  refine lv_goto (tgt := 1061) hx hb dL_law_390 (by decide) ?_
  exact kk _ _ _ hW hI hM hE hF
set_option maxHeartbeats 4000000 in
set_option maxRecDepth 100000 in
theorem law_c7 (l : Launch) {p : Program} {e : Env} {s : State} {m : MethodId} {below : List Frame} {meth : Method} {c : Code} {b Ln : Nat} {xs : Nat → Int32} (C0 : lw_At p s m meth c b Ln xs) (hL : Ln ≤ 3072) {D : va_G} {cA : Nat → ClassId} {τ : Nat → Nat} {G : Nat → Nat → Nat} {L : List Nat} {a1 a2 : Nat} (hS : SW τ G L) (h1 : τ a1 = 12) (h2 : τ a2 = 13) (hK : XK D cA s) (hA : ∀ q ∈ L, s.heap.size ≤ q) {σ : Nat → Nat → Int} {H : Heap} {locs : List Loc} (hW : PW D cA τ G L σ H) (hI : FI G a2 σ) (hM : FM (σ (G a2 0))) (hE : σ a1 5 = σ a2 1) (hF : va_S (fun q => s.heap.size ≤ q) s.heap H locs) {i : Int} (i0 : 0 ≤ i) (i6 : i + 6 ≤ (Ln : Int)) {ls : Array Slot} (hl : lv_has ls 4 [(3, .int (jI i)), (2, .ref a2), (1, .ref a1), (0, .ref b)]) {Q : State → Prop} (kk : ∀ (σ : Nat → Nat → Int) (H : Heap) (locs : List Loc), PW D cA τ G L σ H → FI G a2 σ → FM (σ (G a2 0)) → σ a1 5 = σ a2 1 → va_S (fun q => s.heap.size ≤ q) s.heap H locs → W p l e room_1 s m #[Value.ref b] below meth c H locs 224 38112 Q (F0 m 1061 ls [])) : W p l e room_1 s m #[Value.ref b] below meth c H locs 224 38112 Q (F0 m 393 ls []) := by
  obtain ⟨hx, hb, hr, hml, hown, hts0, hX, hbl, hlocks, hgv⟩ := id C0
  have hown : s.vm.findClass RL = some m.cls := hown
  have hts : ∀ w ∈ wsLW, w.before #[Value.ref b] s = true := fun w h => hts0 w (wsLW_in w h)
  have hbA : ¬ (fun q : Nat => s.heap.size ≤ q) b := Nat.not_le.mpr hbl
  have hF0 := hF
  refine lv_aload_n hx hb dL_law_393 rfl (lv_at hl 2 rfl) ?_
  refine lv_aload_n hx hb dL_law_394 rfl (lv_at hl 3 rfl) ?_
  refine lv_iload_n hx hb dL_law_395 rfl (lv_at hl 0 rfl) ?_
  refine j_const hx hb dL_law_396 ?_
  refine j_add hx hb dL_law_397 ?_
  refine va_sld hx hb hX hbl hbA hF (jI_in (by omega) (by omega) (by omega)) dL_law_398 (j_raw fun z1 rz1 ez1 => ?_)
  refine j_cI (j_runV (As := [.int (jI z1)]) (rest := []) hx hb hml hown hts hK hS hW (kX11_value l hS σ (a0 := a1) (h0 := h1) (x1 := z1) (r1 := (by omega))) 1 gL_law_X11_value rfl hvX11_value ⟨Nat.le_of_ble_eq_true rfl, Nat.le_of_ble_eq_true rfl⟩ rfl rfl h1 rfl rfl rfl rfl hl.1 rfl (Nat.le_of_ble_eq_true rfl) dL_law_399 ⟨Nat.le_of_ble_eq_true rfl, Nat.le_of_ble_eq_true rfl⟩) hA hF (fun v2 σ3 H locs hW hF rv2 pv2 => ?_)
  try dsimp only at pv2
  obtain ⟨pv2, fv2⟩ := pv2
  have hM := FM_dep hS h2 hM (kp_fr fv2 (by decide))
  have hI := FI_dep hS h2 hI (kp_fr fv2 (by decide))
  have hu3 := fr_at fv2 h2 1 13001 rfl (by decide)
  have hE := (fr_at fv2 h1 5 12005 rfl (by decide)).trans (hE.trans hu3.symm)
  refine lv_pop hx hb dL_law_402 rfl ?_
  refine lv_aload_n hx hb dL_law_403 rfl (lv_at hl 1 rfl) ?_
  refine lv_aload_n hx hb dL_law_404 rfl (lv_at hl 3 rfl) ?_
  refine lv_iload_n hx hb dL_law_405 rfl (lv_at hl 0 rfl) ?_
  refine j_const hx hb dL_law_406 ?_
  refine j_add hx hb dL_law_407 ?_
  refine va_sld hx hb hX hbl hbA hF (jI_in (by omega) (by omega) (by omega)) dL_law_408 (j_raw fun z4 rz4 ez4 => ?_)
  have uz4 : z4 = z1 := ez4.trans ez1.symm
  refine j_cI (j_runV (As := [.int (jI z4)]) (rest := []) hx hb hml hown hts hK hS hW (kX12_value l hS σ3 (a0 := a2) (h0 := h2) (x1 := z4) (r1 := (by omega)) (hI := hI)) 1 gL_law_X12_value rfl hvX12_value ⟨Nat.le_of_ble_eq_true rfl, Nat.le_of_ble_eq_true rfl⟩ rfl rfl h2 rfl rfl rfl rfl hl.1 rfl (Nat.le_of_ble_eq_true rfl) dL_law_409 ⟨Nat.le_of_ble_eq_true rfl, Nat.le_of_ble_eq_true rfl⟩) hA hF (fun v5 σ6 H locs hW hF rv5 pv5 => ?_)
  try dsimp only at pv5
  obtain ⟨pv5, fv5⟩ := pv5
  have hM := FM_dep hS h2 hM (kp_fr fv5 (by decide))
  have hI := FI_dep hS h2 hI (kp_fr fv5 (by decide))
  have hu3 := fr_at fv5 h2 1 13001 rfl (by decide)
  have hE := (fr_at fv5 h1 5 12005 rfl (by decide)).trans (hE.trans hu3.symm)
  refine lv_pop hx hb dL_law_412 rfl ?_
  refine lv_goto (tgt := 1061) hx hb dL_law_413 (by decide) ?_
  exact kk _ _ _ hW hI hM hE hF
