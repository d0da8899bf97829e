set_option maxHeartbeats 4000000 in
set_option maxRecDepth 100000 in
theorem law_c8 (l : Launch) {p : Program} {e : Env} {s : State} {m : MethodId} {below : List Frame} {meth : Method} {c : Code} {b Ln : Nat} {xs : Nat → Int32} (C0 : lw_At p s m meth c b Ln xs) (hL : Ln ≤ 3072) {D : va_G} {cA : Nat → ClassId} {τ : Nat → Nat} {G : Nat → Nat → Nat} {L : List Nat} {a1 a2 : Nat} (hS : SW τ G L) (h1 : τ a1 = 12) (h2 : τ a2 = 13) (hK : XK D cA s) (hA : ∀ q ∈ L, s.heap.size ≤ q) {σ : Nat → Nat → Int} {H : Heap} {locs : List Loc} (hW : PW D cA τ G L σ H) (hI : FI G a2 σ) (hM : FM (σ (G a2 0))) (hE : σ a1 5 = σ a2 1) (hF : va_S (fun q => s.heap.size ≤ q) s.heap H locs) {i : Int} (i0 : 0 ≤ i) (i6 : i + 6 ≤ (Ln : Int)) {ls : Array Slot} (hl : lv_has ls 4 [(3, .int (jI i)), (2, .ref a2), (1, .ref a1), (0, .ref b)]) {Q : State → Prop} (kk : ∀ (σ : Nat → Nat → Int) (H : Heap) (locs : List Loc), PW D cA τ G L σ H → FI G a2 σ → FM (σ (G a2 0)) → σ a1 5 = σ a2 1 → va_S (fun q => s.heap.size ≤ q) s.heap H locs → W p l e room_1 s m #[Value.ref b] below meth c H locs 224 38112 Q (F0 m 1061 ls [])) : W p l e room_1 s m #[Value.ref b] below meth c H locs 224 38112 Q (F0 m 416 ls []) := by
  obtain ⟨hx, hb, hr, hml, hown, hts0, hX, hbl, hlocks, hgv⟩ := id C0
  have hown : s.vm.findClass RL = some m.cls := hown
  have hts : ∀ w ∈ wsLW, w.before #[Value.ref b] s = true := fun w h => hts0 w (wsLW_in w h)
  have hbA : ¬ (fun q : Nat => s.heap.size ≤ q) b := Nat.not_le.mpr hbl
  have hF0 := hF
  refine lv_aload_n hx hb dL_law_416 rfl (lv_at hl 2 rfl) ?_
  refine lv_aload_n hx hb dL_law_417 rfl (lv_at hl 3 rfl) ?_
  refine lv_iload_n hx hb dL_law_418 rfl (lv_at hl 0 rfl) ?_
  refine j_const hx hb dL_law_419 ?_
  refine j_add hx hb dL_law_420 ?_
  refine va_sld hx hb hX hbl hbA hF (jI_in (by omega) (by omega) (by omega)) dL_law_421 (j_raw fun z1 rz1 ez1 => ?_)
  refine j_cI (j_runV (As := [.int (jI z1)]) (rest := []) hx hb hml hown hts hK hS hW (kX11_rank l hS σ (a0 := a1) (h0 := h1) (x1 := z1) (r1 := (by omega))) 1 gL_law_X11_rank rfl hvX11_rank ⟨Nat.le_of_ble_eq_true rfl, Nat.le_of_ble_eq_true rfl⟩ rfl rfl h1 rfl rfl rfl rfl hl.1 rfl (Nat.le_of_ble_eq_true rfl) dL_law_422 ⟨Nat.le_of_ble_eq_true rfl, Nat.le_of_ble_eq_true rfl⟩) hA hF (fun v2 σ3 H locs hW hF rv2 pv2 => ?_)
  try dsimp only at pv2
  obtain ⟨pv2, fv2⟩ := pv2
  have hM := FM_dep hS h2 hM (kp_fr fv2 (by decide))
  have hI := FI_dep hS h2 hI (kp_fr fv2 (by decide))
  have hu3 := fr_at fv2 h2 1 13001 rfl (by decide)
  have hE := (fr_at fv2 h1 5 12005 rfl (by decide)).trans (hE.trans hu3.symm)
  refine lv_pop hx hb dL_law_425 rfl ?_
  refine lv_aload_n hx hb dL_law_426 rfl (lv_at hl 1 rfl) ?_
  refine lv_aload_n hx hb dL_law_427 rfl (lv_at hl 3 rfl) ?_
  refine lv_iload_n hx hb dL_law_428 rfl (lv_at hl 0 rfl) ?_
  refine j_const hx hb dL_law_429 ?_
  refine j_add hx hb dL_law_430 ?_
  refine va_sld hx hb hX hbl hbA hF (jI_in (by omega) (by omega) (by omega)) dL_law_431 (j_raw fun z4 rz4 ez4 => ?_)
  have uz4 : z4 = z1 := ez4.trans ez1.symm
  refine j_cI (j_runV (As := [.int (jI z4)]) (rest := []) hx hb hml hown hts hK hS hW (kX12_rank l hS σ3 (a0 := a2) (h0 := h2) (x1 := z4) (r1 := (by omega)) (hI := hI)) 1 gL_law_X12_rank rfl hvX12_rank ⟨Nat.le_of_ble_eq_true rfl, Nat.le_of_ble_eq_true rfl⟩ rfl rfl h2 rfl rfl rfl rfl hl.1 rfl (Nat.le_of_ble_eq_true rfl) dL_law_432 ⟨Nat.le_of_ble_eq_true rfl, Nat.le_of_ble_eq_true rfl⟩) hA hF (fun v5 σ6 H locs hW hF rv5 pv5 => ?_)
  try dsimp only at pv5
  obtain ⟨pv5, fv5⟩ := pv5
  have hM := FM_dep hS h2 hM (kp_fr fv5 (by decide))
  have hI := FI_dep hS h2 hI (kp_fr fv5 (by decide))
  have hu3 := fr_at fv5 h2 1 13001 rfl (by decide)
  have hE := (fr_at fv5 h1 5 12005 rfl (by decide)).trans (hE.trans hu3.symm)
  refine lv_pop hx hb dL_law_435 rfl ?_
  refine lv_goto (tgt := 1061) hx hb dL_law_436 (by decide) ?_
  exact kk _ _ _ hW hI hM hE hF
set_option maxHeartbeats 4000000 in
set_option maxRecDepth 100000 in
theorem law_c9 (l : Launch) {p : Program} {e : Env} {s : State} {m : MethodId} {below : List Frame} {meth : Method} {c : Code} {b Ln : Nat} {xs : Nat → Int32} (C0 : lw_At p s m meth c b Ln xs) (hL : Ln ≤ 3072) {D : va_G} {cA : Nat → ClassId} {τ : Nat → Nat} {G : Nat → Nat → Nat} {L : List Nat} {a1 a2 : Nat} (hS : SW τ G L) (h1 : τ a1 = 12) (h2 : τ a2 = 13) (hK : XK D cA s) (hA : ∀ q ∈ L, s.heap.size ≤ q) {σ : Nat → Nat → Int} {H : Heap} {locs : List Loc} (hW : PW D cA τ G L σ H) (hI : FI G a2 σ) (hM : FM (σ (G a2 0))) (hE : σ a1 5 = σ a2 1) (hF : va_S (fun q => s.heap.size ≤ q) s.heap H locs) {i : Int} (i0 : 0 ≤ i) (i6 : i + 6 ≤ (Ln : Int)) {ls : Array Slot} (hl : lv_has ls 4 [(3, .int (jI i)), (2, .ref a2), (1, .ref a1), (0, .ref b)]) {Q : State → Prop} (kk : ∀ (σ : Nat → Nat → Int) (H : Heap) (locs : List Loc), PW D cA τ G L σ H → FI G a2 σ → FM (σ (G a2 0)) → σ a1 5 = σ a2 1 → va_S (fun q => s.heap.size ≤ q) s.heap H locs → W p l e room_1 s m #[Value.ref b] below meth c H locs 224 38112 Q (F0 m 1061 ls [])) : W p l e room_1 s m #[Value.ref b] below meth c H locs 224 38112 Q (F0 m 439 ls []) := by
  obtain ⟨hx, hb, hr, hml, hown, hts0, hX, hbl, hlocks, hgv⟩ := id C0
  have hown : s.vm.findClass RL = some m.cls := hown
  have hts : ∀ w ∈ wsLW, w.before #[Value.ref b] s = true := fun w h => hts0 w (wsLW_in w h)
  have hbA : ¬ (fun q : Nat => s.heap.size ≤ q) b := Nat.not_le.mpr hbl
  have hF0 := hF
  refine lv_aload_n hx hb dL_law_439 rfl (lv_at hl 2 rfl) ?_
  refine lv_aload_n hx hb dL_law_440 rfl (lv_at hl 3 rfl) ?_
  refine lv_iload_n hx hb dL_law_441 rfl (lv_at hl 0 rfl) ?_
  refine j_const hx hb dL_law_442 ?_
  refine j_add hx hb dL_law_443 ?_
  refine va_sld hx hb hX hbl hbA hF (jI_in (by omega) (by omega) (by omega)) dL_law_444 (j_raw fun z1 rz1 ez1 => ?_)
  refine lv_aload_n hx hb dL_law_445 rfl (lv_at hl 3 rfl) ?_
  refine lv_iload_n hx hb dL_law_446 rfl (lv_at hl 0 rfl) ?_
  refine j_const hx hb dL_law_447 ?_
  refine j_add hx hb dL_law_448 ?_
  refine va_sld hx hb hX hbl hbA hF (jI_in (by omega) (by omega) (by omega)) dL_law_449 (j_raw fun z2 rz2 ez2 => ?_)
  refine j_cR (j_runV (As := [.int (jI z1), .int (jI z2)]) (rest := []) hx hb hml hown hts hK hS hW (kX11_key l hS σ (a0 := a1) (h0 := h1) (x1 := z1) (r1 := (by omega)) (x2 := z2) (r2 := (by omega))) 2 gL_law_X11_key rfl hvX11_key ⟨Nat.le_of_ble_eq_true rfl, Nat.le_of_ble_eq_true rfl⟩ rfl rfl h1 rfl rfl rfl rfl hl.1 rfl (Nat.le_of_ble_eq_true rfl) dL_law_450 ⟨Nat.le_of_ble_eq_true rfl, Nat.le_of_ble_eq_true rfl⟩) (fun v3 rv3 pv3 => ?_)
  refine lv_pop hx hb dL_law_453 rfl ?_
  refine lv_aload_n hx hb dL_law_454 rfl (lv_at hl 1 rfl) ?_
  refine lv_aload_n hx hb dL_law_455 rfl (lv_at hl 3 rfl) ?_
  refine lv_iload_n hx hb dL_law_456 rfl (lv_at hl 0 rfl) ?_
  refine j_const hx hb dL_law_457 ?_
  refine j_add hx hb dL_law_458 ?_
  refine va_sld hx hb hX hbl hbA hF (jI_in (by omega) (by omega) (by omega)) dL_law_459 (j_raw fun z4 rz4 ez4 => ?_)
  have uz4 : z4 = z1 := ez4.trans ez1.symm
  refine lv_aload_n hx hb dL_law_460 rfl (lv_at hl 3 rfl) ?_
  refine lv_iload_n hx hb dL_law_461 rfl (lv_at hl 0 rfl) ?_
  refine j_const hx hb dL_law_462 ?_
  refine j_add hx hb dL_law_463 ?_
  refine va_sld hx hb hX hbl hbA hF (jI_in (by omega) (by omega) (by omega)) dL_law_464 (j_raw fun z5 rz5 ez5 => ?_)
  have uz5 : z5 = z2 := ez5.trans ez2.symm
  refine j_cI (j_runV (As := [.int (jI z4), .int (jI z5)]) (rest := []) hx hb hml hown hts hK hS hW (kX12_key l hS σ (a0 := a2) (h0 := h2) (x1 := z4) (r1 := (by omega)) (x2 := z5) (r2 := (by omega)) (hI := hI)) 2 gL_law_X12_key rfl hvX12_key ⟨Nat.le_of_ble_eq_true rfl, Nat.le_of_ble_eq_true rfl⟩ rfl rfl h2 rfl rfl rfl rfl hl.1 rfl (Nat.le_of_ble_eq_true rfl) dL_law_465 ⟨Nat.le_of_ble_eq_true rfl, Nat.le_of_ble_eq_true rfl⟩) hA hF (fun v6 σ7 H locs hW hF rv6 pv6 => ?_)
  try dsimp only at pv6
  obtain ⟨pv6, fv6⟩ := pv6
  have hM := FM_dep hS h2 hM (kp_fr fv6 (by decide))
  have hI := FI_dep hS h2 hI (kp_fr fv6 (by decide))
  have hu3 := fr_at fv6 h2 1 13001 rfl (by decide)
  have hE := (fr_at fv6 h1 5 12005 rfl (by decide)).trans (hE.trans hu3.symm)
  refine lv_pop hx hb dL_law_468 rfl ?_
  refine lv_goto (tgt := 1061) hx hb dL_law_469 (by decide) ?_
  exact kk _ _ _ hW hI hM hE hF
set_option maxHeartbeats 4000000 in
set_option maxRecDepth 100000 in
theorem law_c10 (l : Launch) {p : Program} {e : Env} {s : State} {m : MethodId} {below : List Frame} {meth : Method} {c : Code} {b Ln : Nat} {xs : Nat → Int32} (C0 : lw_At p s m meth c b Ln xs) (hL : Ln ≤ 3072) {D : va_G} {cA : Nat → ClassId} {τ : Nat → Nat} {G : Nat → Nat → Nat} {L : List Nat} {a1 a2 : Nat} (hS : SW τ G L) (h1 : τ a1 = 12) (h2 : τ a2 = 13) (hK : XK D cA s) (hA : ∀ q ∈ L, s.heap.size ≤ q) {σ : Nat → Nat → Int} {H : Heap} {locs : List Loc} (hW : PW D cA τ G L σ H) (hI : FI G a2 σ) (hM : FM (σ (G a2 0))) (hE : σ a1 5 = σ a2 1) (hF : va_S (fun q => s.heap.size ≤ q) s.heap H locs) {i : Int} (i0 : 0 ≤ i) (i6 : i + 6 ≤ (Ln : Int)) {ls : Array Slot} (hl : lv_has ls 4 [(3, .int (jI i)), (2, .ref a2), (1, .ref a1), (0, .ref b)]) {Q : State → Prop} (kk : ∀ (σ : Nat → Nat → Int) (H : Heap) (locs : List Loc), PW D cA τ G L σ H → FI G a2 σ → FM (σ (G a2 0)) → σ a1 5 = σ a2 1 → va_S (fun q => s.heap.size ≤ q) s.heap H locs → W p l e room_1 s m #[Value.ref b] below meth c H locs 224 38112 Q (F0 m 1061 ls [])) : W p l e room_1 s m #[Value.ref b] below meth c H locs 224 38112 Q (F0 m 472 ls []) := by
  obtain ⟨hx, hb, hr, hml, hown, hts0, hX, hbl, hlocks, hgv⟩ := id C0
  have hown : s.vm.findClass RL = some m.cls := hown
  have hts : ∀ w ∈ wsLW, w.before #[Value.ref b] s = true := fun w h => hts0 w (wsLW_in w h)
  have hbA : ¬ (fun q : Nat => s.heap.size ≤ q) b := Nat.not_le.mpr hbl
  have hF0 := hF
  refine lv_aload_n hx hb dL_law_472 rfl (lv_at hl 2 rfl) ?_
  refine lv_aload_n hx hb dL_law_473 rfl (lv_at hl 3 rfl) ?_
  refine lv_iload_n hx hb dL_law_474 rfl (lv_at hl 0 rfl) ?_
  refine j_const hx hb dL_law_475 ?_
  refine j_add hx hb dL_law_476 ?_
  refine va_sld hx hb hX hbl hbA hF (jI_in (by omega) (by omega) (by omega)) dL_law_477 (j_raw fun z1 rz1 ez1 => ?_)
  refine lv_aload_n hx hb dL_law_478 rfl (lv_at hl 3 rfl) ?_
  refine lv_iload_n hx hb dL_law_479 rfl (lv_at hl 0 rfl) ?_
  refine j_const hx hb dL_law_480 ?_
  refine j_add hx hb dL_law_481 ?_
  refine va_sld hx hb hX hbl hbA hF (jI_in (by omega) (by omega) (by omega)) dL_law_482 (j_raw fun z2 rz2 ez2 => ?_)
  refine j_cI (j_runV (As := [.int (jI z1), .int (jI z2)]) (rest := []) hx hb hml hown hts hK hS hW (kX11_near l hS σ (a0 := a1) (h0 := h1) (x1 := z1) (r1 := (by omega)) (x2 := z2) (r2 := (by omega))) 2 gL_law_X11_near rfl hvX11_near ⟨Nat.le_of_ble_eq_true rfl, Nat.le_of_ble_eq_true rfl⟩ rfl rfl h1 rfl rfl rfl rfl hl.1 rfl (Nat.le_of_ble_eq_true rfl) dL_law_483 ⟨Nat.le_of_ble_eq_true rfl, Nat.le_of_ble_eq_true rfl⟩) hA hF (fun v3 σ4 H locs hW hF rv3 pv3 => ?_)
  try dsimp only at pv3
  obtain ⟨pv3, fv3⟩ := pv3
  have hM := FM_dep hS h2 hM (kp_fr fv3 (by decide))
  have hI := FI_dep hS h2 hI (kp_fr fv3 (by decide))
  have hu3 := fr_at fv3 h2 1 13001 rfl (by decide)
  have hE := (fr_at fv3 h1 5 12005 rfl (by decide)).trans (hE.trans hu3.symm)
  refine lv_pop hx hb dL_law_486 rfl ?_
  refine lv_aload_n hx hb dL_law_487 rfl (lv_at hl 1 rfl) ?_
  refine lv_aload_n hx hb dL_law_488 rfl (lv_at hl 3 rfl) ?_
  refine lv_iload_n hx hb dL_law_489 rfl (lv_at hl 0 rfl) ?_
  refine j_const hx hb dL_law_490 ?_
  refine j_add hx hb dL_law_491 ?_
  refine va_sld hx hb hX hbl hbA hF (jI_in (by omega) (by omega) (by omega)) dL_law_492 (j_raw fun z5 rz5 ez5 => ?_)
  have uz5 : z5 = z1 := ez5.trans ez1.symm
  refine lv_aload_n hx hb dL_law_493 rfl (lv_at hl 3 rfl) ?_
  refine lv_iload_n hx hb dL_law_494 rfl (lv_at hl 0 rfl) ?_
  refine j_const hx hb dL_law_495 ?_
  refine j_add hx hb dL_law_496 ?_
  refine va_sld hx hb hX hbl hbA hF (jI_in (by omega) (by omega) (by omega)) dL_law_497 (j_raw fun z6 rz6 ez6 => ?_)
  have uz6 : z6 = z2 := ez6.trans ez2.symm
  refine j_cI (j_runV (As := [.int (jI z5), .int (jI z6)]) (rest := []) hx hb hml hown hts hK hS hW (kX12_near l hS σ4 (a0 := a2) (h0 := h2) (x1 := z5) (r1 := (by omega)) (x2 := z6) (r2 := (by omega)) (hI := hI)) 2 gL_law_X12_near rfl hvX12_near ⟨Nat.le_of_ble_eq_true rfl, Nat.le_of_ble_eq_true rfl⟩ rfl rfl h2 rfl rfl rfl rfl hl.1 rfl (Nat.le_of_ble_eq_true rfl) dL_law_498 ⟨Nat.le_of_ble_eq_true rfl, Nat.le_of_ble_eq_true rfl⟩) hA hF (fun v7 σ8 H locs hW hF rv7 pv7 => ?_)
  try dsimp only at pv7
  obtain ⟨pv7, fv7⟩ := pv7
  have hM := FM_dep hS h2 hM (kp_fr fv7 (by decide))
  have hI := FI_dep hS h2 hI (kp_fr fv7 (by decide))
  have hu3 := fr_at fv7 h2 1 13001 rfl (by decide)
  have hE := (fr_at fv7 h1 5 12005 rfl (by decide)).trans (hE.trans hu3.symm)
  refine lv_pop hx hb dL_law_501 rfl ?_
  refine lv_goto (tgt := 1061) hx hb dL_law_502 (by decide) ?_
  exact kk _ _ _ hW hI hM hE hF
set_option maxHeartbeats 4000000 in
set_option maxRecDepth 100000 in
theorem law_c11 (l : Launch) {p : Program} {e : Env} {s : State} {m : MethodId} {below : List Frame} {meth : Method} {c : Code} {b Ln : Nat} {xs : Nat → Int32} (C0 : lw_At p s m meth c b Ln xs) (hL : Ln ≤ 3072) {D : va_G} {cA : Nat → ClassId} {τ : Nat → Nat} {G : Nat → Nat → Nat} {L : List Nat} {a1 a2 : Nat} (hS : SW τ G L) (h1 : τ a1 = 12) (h2 : τ a2 = 13) (hK : XK D cA s) (hA : ∀ q ∈ L, s.heap.size ≤ q) {σ : Nat → Nat → Int} {H : Heap} {locs : List Loc} (hW : PW D cA τ G L σ H) (hI : FI G a2 σ) (hM : FM (σ (G a2 0))) (hE : σ a1 5 = σ a2 1) (hF : va_S (fun q => s.heap.size ≤ q) s.heap H locs) {i : Int} (i0 : 0 ≤ i) (i6 : i + 6 ≤ (Ln : Int)) {ls : Array Slot} (hl : lv_has ls 4 [(3, .int (jI i)), (2, .ref a2), (1, .ref a1), (0, .ref b)]) {Q : State → Prop} (kk : ∀ (σ : Nat → Nat → Int) (H : Heap) (locs : List Loc), PW D cA τ G L σ H → FI G a2 σ → FM (σ (G a2 0)) → σ a1 5 = σ a2 1 → va_S (fun q => s.heap.size ≤ q) s.heap H locs → W p l e room_1 s m #[Value.ref b] below meth c H locs 224 38112 Q (F0 m 1061 ls [])) : W p l e room_1 s m #[Value.ref b] below meth c H locs 224 38112 Q (F0 m 505 ls []) := by
  obtain ⟨hx, hb, hr, hml, hown, hts0, hX, hbl, hlocks, hgv⟩ := id C0
  have hown : s.vm.findClass RL = some m.cls := hown
  have hts : ∀ w ∈ wsLW, w.before #[Value.ref b] s = true := fun w h => hts0 w (wsLW_in w h)
  have hbA : ¬ (fun q : Nat => s.heap.size ≤ q) b := Nat.not_le.mpr hbl
  have hF0 := hF
  refine lv_aload_n hx hb dL_law_505 rfl (lv_at hl 2 rfl) ?_
  refine lv_aload_n hx hb dL_law_506 rfl (lv_at hl 3 rfl) ?_
  refine lv_iload_n hx hb dL_law_507 rfl (lv_at hl 0 rfl) ?_
  refine j_const hx hb dL_law_508 ?_
  refine j_add hx hb dL_law_509 ?_
  refine va_sld hx hb hX hbl hbA hF (jI_in (by omega) (by omega) (by omega)) dL_law_510 (j_raw fun z1 rz1 ez1 => ?_)
  refine lv_aload_n hx hb dL_law_511 rfl (lv_at hl 3 rfl) ?_
  refine lv_iload_n hx hb dL_law_512 rfl (lv_at hl 0 rfl) ?_
  refine j_const hx hb dL_law_513 ?_
  refine j_add hx hb dL_law_514 ?_
  refine va_sld hx hb hX hbl hbA hF (jI_in (by omega) (by omega) (by omega)) dL_law_515 (j_raw fun z2 rz2 ez2 => ?_)
  refine j_cI (j_runV (As := [.int (jI z1), .int (jI z2)]) (rest := []) hx hb hml hown hts hK hS hW (kX11_begins l hS σ (a0 := a1) (h0 := h1) (x1 := z1) (r1 := (by omega)) (x2 := z2) (r2 := (by omega))) 2 gL_law_X11_begins rfl hvX11_begins ⟨Nat.le_of_ble_eq_true rfl, Nat.le_of_ble_eq_true rfl⟩ rfl rfl h1 rfl rfl rfl rfl hl.1 rfl (Nat.le_of_ble_eq_true rfl) dL_law_516 ⟨Nat.le_of_ble_eq_true rfl, Nat.le_of_ble_eq_true rfl⟩) hA hF (fun v3 σ4 H locs hW hF rv3 pv3 => ?_)
  try dsimp only at pv3
  obtain ⟨pv3, fv3⟩ := pv3
  have hM := FM_dep hS h2 hM (kp_fr fv3 (by decide))
  have hI := FI_dep hS h2 hI (kp_fr fv3 (by decide))
  have hu3 := fr_at fv3 h2 1 13001 rfl (by decide)
  have hE := (fr_at fv3 h1 5 12005 rfl (by decide)).trans (hE.trans hu3.symm)
  refine lv_pop hx hb dL_law_519 rfl ?_
  refine lv_aload_n hx hb dL_law_520 rfl (lv_at hl 1 rfl) ?_
  refine lv_aload_n hx hb dL_law_521 rfl (lv_at hl 3 rfl) ?_
  refine lv_iload_n hx hb dL_law_522 rfl (lv_at hl 0 rfl) ?_
  refine j_const hx hb dL_law_523 ?_
  refine j_add hx hb dL_law_524 ?_
  refine va_sld hx hb hX hbl hbA hF (jI_in (by omega) (by omega) (by omega)) dL_law_525 (j_raw fun z5 rz5 ez5 => ?_)
  have uz5 : z5 = z1 := ez5.trans ez1.symm
  refine lv_aload_n hx hb dL_law_526 rfl (lv_at hl 3 rfl) ?_
  refine lv_iload_n hx hb dL_law_527 rfl (lv_at hl 0 rfl) ?_
  refine j_const hx hb dL_law_528 ?_
  refine j_add hx hb dL_law_529 ?_
  refine va_sld hx hb hX hbl hbA hF (jI_in (by omega) (by omega) (by omega)) dL_law_530 (j_raw fun z6 rz6 ez6 => ?_)
  have uz6 : z6 = z2 := ez6.trans ez2.symm
  refine j_cI (j_runV (As := [.int (jI z5), .int (jI z6)]) (rest := []) hx hb hml hown hts hK hS hW (kX12_begins l hS σ4 (a0 := a2) (h0 := h2) (x1 := z5) (r1 := (by omega)) (x2 := z6) (r2 := (by omega)) (hI := hI)) 2 gL_law_X12_begins rfl hvX12_begins ⟨Nat.le_of_ble_eq_true rfl, Nat.le_of_ble_eq_true rfl⟩ rfl rfl h2 rfl rfl rfl rfl hl.1 rfl (Nat.le_of_ble_eq_true rfl) dL_law_531 ⟨Nat.le_of_ble_eq_true rfl, Nat.le_of_ble_eq_true rfl⟩) hA hF (fun v7 σ8 H locs hW hF rv7 pv7 => ?_)
  try dsimp only at pv7
  obtain ⟨pv7, fv7⟩ := pv7
  have hM := FM_dep hS h2 hM (kp_fr fv7 (by decide))
  have hI := FI_dep hS h2 hI (kp_fr fv7 (by decide))
  have hu3 := fr_at fv7 h2 1 13001 rfl (by decide)
  have hE := (fr_at fv7 h1 5 12005 rfl (by decide)).trans (hE.trans hu3.symm)
  refine lv_pop hx hb dL_law_534 rfl ?_
  refine lv_goto (tgt := 1061) hx hb dL_law_535 (by decide) ?_
  exact kk _ _ _ hW hI hM hE hF
set_option maxHeartbeats 4000000 in
set_option maxRecDepth 100000 in
theorem law_c12 (l : Launch) {p : Program} {e : Env} {s : State} {m : MethodId} {below : List Frame} {meth : Method} {c : Code} {b Ln : Nat} {xs : Nat → Int32} (C0 : lw_At p s m meth c b Ln xs) (hL : Ln ≤ 3072) {D : va_G} {cA : Nat → ClassId} {τ : Nat → Nat} {G : Nat → Nat → Nat} {L : List Nat} {a1 a2 : Nat} (hS : SW τ G L) (h1 : τ a1 = 12) (h2 : τ a2 = 13) (hK : XK D cA s) (hA : ∀ q ∈ L, s.heap.size ≤ q) {σ : Nat → Nat → Int} {H : Heap} {locs : List Loc} (hW : PW D cA τ G L σ H) (hI : FI G a2 σ) (hM : FM (σ (G a2 0))) (hE : σ a1 5 = σ a2 1) (hF : va_S (fun q => s.heap.size ≤ q) s.heap H locs) {i : Int} (i0 : 0 ≤ i) (i6 : i + 6 ≤ (Ln : Int)) {ls : Array Slot} (hl : lv_has ls 4 [(3, .int (jI i)), (2, .ref a2), (1, .ref a1), (0, .ref b)]) {Q : State → Prop} (kk : ∀ (σ : Nat → Nat → Int) (H : Heap) (locs : List Loc), PW D cA τ G L σ H → FI G a2 σ → FM (σ (G a2 0)) → σ a1 5 = σ a2 1 → va_S (fun q => s.heap.size ≤ q) s.heap H locs → W p l e room_1 s m #[Value.ref b] below meth c H locs 224 38112 Q (F0 m 1061 ls [])) : W p l e room_1 s m #[Value.ref b] below meth c H locs 224 38112 Q (F0 m 538 ls []) := by
  obtain ⟨hx, hb, hr, hml, hown, hts0, hX, hbl, hlocks, hgv⟩ := id C0
  have hown : s.vm.findClass RL = some m.cls := hown
  have hts : ∀ w ∈ wsLW, w.before #[Value.ref b] s = true := fun w h => hts0 w (wsLW_in w h)
  have hbA : ¬ (fun q : Nat => s.heap.size ≤ q) b := Nat.not_le.mpr hbl
  have hF0 := hF
  refine lv_aload_n hx hb dL_law_538 rfl (lv_at hl 2 rfl) ?_
  refine lv_aload_n hx hb dL_law_539 rfl (lv_at hl 3 rfl) ?_
  refine lv_iload_n hx hb dL_law_540 rfl (lv_at hl 0 rfl) ?_
  refine j_const hx hb dL_law_541 ?_
  refine j_add hx hb dL_law_542 ?_
  refine va_sld hx hb hX hbl hbA hF (jI_in (by omega) (by omega) (by omega)) dL_law_543 (j_raw fun z1 rz1 ez1 => ?_)
  refine lv_aload_n hx hb dL_law_544 rfl (lv_at hl 3 rfl) ?_
  refine lv_iload_n hx hb dL_law_545 rfl (lv_at hl 0 rfl) ?_
  refine j_const hx hb dL_law_546 ?_
  refine j_add hx hb dL_law_547 ?_
  refine va_sld hx hb hX hbl hbA hF (jI_in (by omega) (by omega) (by omega)) dL_law_548 (j_raw fun z2 rz2 ez2 => ?_)
  refine j_cR (j_runV (As := [.int (jI z1), .int (jI z2)]) (rest := []) hx hb hml hown hts hK hS hW (kX11_alike l hS σ (a0 := a1) (h0 := h1) (x1 := z1) (r1 := (by omega)) (x2 := z2) (r2 := (by omega))) 2 gL_law_X11_alike rfl hvX11_alike ⟨Nat.le_of_ble_eq_true rfl, Nat.le_of_ble_eq_true rfl⟩ rfl rfl h1 rfl rfl rfl rfl hl.1 rfl (Nat.le_of_ble_eq_true rfl) dL_law_549 ⟨Nat.le_of_ble_eq_true rfl, Nat.le_of_ble_eq_true rfl⟩) (fun v3 rv3 pv3 => ?_)
  refine lv_pop hx hb dL_law_552 rfl ?_
  refine lv_aload_n hx hb dL_law_553 rfl (lv_at hl 1 rfl) ?_
  refine lv_aload_n hx hb dL_law_554 rfl (lv_at hl 3 rfl) ?_
  refine lv_iload_n hx hb dL_law_555 rfl (lv_at hl 0 rfl) ?_
  refine j_const hx hb dL_law_556 ?_
  refine j_add hx hb dL_law_557 ?_
  refine va_sld hx hb hX hbl hbA hF (jI_in (by omega) (by omega) (by omega)) dL_law_558 (j_raw fun z4 rz4 ez4 => ?_)
  have uz4 : z4 = z1 := ez4.trans ez1.symm
  refine lv_aload_n hx hb dL_law_559 rfl (lv_at hl 3 rfl) ?_
  refine lv_iload_n hx hb dL_law_560 rfl (lv_at hl 0 rfl) ?_
  refine j_const hx hb dL_law_561 ?_
  refine j_add hx hb dL_law_562 ?_
  refine va_sld hx hb hX hbl hbA hF (jI_in (by omega) (by omega) (by omega)) dL_law_563 (j_raw fun z5 rz5 ez5 => ?_)
  have uz5 : z5 = z2 := ez5.trans ez2.symm
  refine j_cR (j_runV (As := [.int (jI z4), .int (jI z5)]) (rest := []) hx hb hml hown hts hK hS hW (kX12_alike l hS σ (a0 := a2) (h0 := h2) (x1 := z4) (r1 := (by omega)) (x2 := z5) (r2 := (by omega)) (hI := hI)) 2 gL_law_X12_alike rfl hvX12_alike ⟨Nat.le_of_ble_eq_true rfl, Nat.le_of_ble_eq_true rfl⟩ rfl rfl h2 rfl rfl rfl rfl hl.1 rfl (Nat.le_of_ble_eq_true rfl) dL_law_564 ⟨Nat.le_of_ble_eq_true rfl, Nat.le_of_ble_eq_true rfl⟩) (fun v6 rv6 pv6 => ?_)
  refine lv_pop hx hb dL_law_567 rfl ?_
  refine lv_goto (tgt := 1061) hx hb dL_law_568 (by decide) ?_
  exact kk _ _ _ hW hI hM hE hF
set_option maxHeartbeats 4000000 in
set_option maxRecDepth 100000 in
theorem law_c13 (l : Launch) {p : Program} {e : Env} {s : State} {m : MethodId} {below : List Frame} {meth : Method} {c : Code} {b Ln : Nat} {xs : Nat → Int32} (C0 : lw_At p s m meth c b Ln xs) (hL : Ln ≤ 3072) {D : va_G} {cA : Nat → ClassId} {τ : Nat → Nat} {G : Nat → Nat → Nat} {L : List Nat} {a1 a2 : Nat} (hS : SW τ G L) (h1 : τ a1 = 12) (h2 : τ a2 = 13) (hK : XK D cA s) (hA : ∀ q ∈ L, s.heap.size ≤ q) {σ : Nat → Nat → Int} {H : Heap} {locs : List Loc} (hW : PW D cA τ G L σ H) (hI : FI G a2 σ) (hM : FM (σ (G a2 0))) (hE : σ a1 5 = σ a2 1) (hF : va_S (fun q => s.heap.size ≤ q) s.heap H locs) {i : Int} (i0 : 0 ≤ i) (i6 : i + 6 ≤ (Ln : Int)) {ls : Array Slot} (hl : lv_has ls 4 [(3, .int (jI i)), (2, .ref a2), (1, .ref a1), (0, .ref b)]) {Q : State → Prop} (kk : ∀ (σ : Nat → Nat → Int) (H : Heap) (locs : List Loc), PW D cA τ G L σ H → FI G a2 σ → FM (σ (G a2 0)) → σ a1 5 = σ a2 1 → va_S (fun q => s.heap.size ≤ q) s.heap H locs → W p l e room_1 s m #[Value.ref b] below meth c H locs 224 38112 Q (F0 m 1061 ls [])) : W p l e room_1 s m #[Value.ref b] below meth c H locs 224 38112 Q (F0 m 571 ls []) := by
  obtain ⟨hx, hb, hr, hml, hown, hts0, hX, hbl, hlocks, hgv⟩ := id C0
  have hown : s.vm.findClass RL = some m.cls := hown
  have hts : ∀ w ∈ wsLW, w.before #[Value.ref b] s = true := fun w h => hts0 w (wsLW_in w h)
  have hbA : ¬ (fun q : Nat => s.heap.size ≤ q) b := Nat.not_le.mpr hbl
  have hF0 := hF
  refine lv_aload_n hx hb dL_law_571 rfl (lv_at hl 2 rfl) ?_
  refine lv_aload_n hx hb dL_law_572 rfl (lv_at hl 3 rfl) ?_
  refine lv_iload_n hx hb dL_law_573 rfl (lv_at hl 0 rfl) ?_
  refine j_const hx hb dL_law_574 ?_
  refine j_add hx hb dL_law_575 ?_
  refine va_sld hx hb hX hbl hbA hF (jI_in (by omega) (by omega) (by omega)) dL_law_576 (j_raw fun z1 rz1 ez1 => ?_)
  refine lv_aload_n hx hb dL_law_577 rfl (lv_at hl 3 rfl) ?_
  refine lv_iload_n hx hb dL_law_578 rfl (lv_at hl 0 rfl) ?_
  refine j_const hx hb dL_law_579 ?_
  refine j_add hx hb dL_law_580 ?_
  refine va_sld hx hb hX hbl hbA hF (jI_in (by omega) (by omega) (by omega)) dL_law_581 (j_raw fun z2 rz2 ez2 => ?_)
  refine j_cI (j_runV (As := [.int (jI z1), .int (jI z2)]) (rest := []) hx hb hml hown hts hK hS hW (kX11_cursor l hS σ (a0 := a1) (h0 := h1) (x1 := z1) (r1 := (by omega)) (x2 := z2) (r2 := (by omega))) 2 gL_law_X11_cursor rfl hvX11_cursor ⟨Nat.le_of_ble_eq_true rfl, Nat.le_of_ble_eq_true rfl⟩ rfl rfl h1 rfl rfl rfl rfl hl.1 rfl (Nat.le_of_ble_eq_true rfl) dL_law_582 ⟨Nat.le_of_ble_eq_true rfl, Nat.le_of_ble_eq_true rfl⟩) hA hF (fun v3 σ4 H locs hW hF rv3 pv3 => ?_)
  try dsimp only at pv3
  obtain ⟨pv3, fv3⟩ := pv3
  have hM := FM_dep hS h2 hM (kp_fr fv3 (by decide))
  have hI := FI_dep hS h2 hI (kp_fr fv3 (by decide))
  have hu3 := fr_at fv3 h2 1 13001 rfl (by decide)
  have hE := (fr_at fv3 h1 5 12005 rfl (by decide)).trans (hE.trans hu3.symm)
  refine lv_pop hx hb dL_law_585 rfl ?_
  refine lv_aload_n hx hb dL_law_586 rfl (lv_at hl 1 rfl) ?_
  refine lv_aload_n hx hb dL_law_587 rfl (lv_at hl 3 rfl) ?_
  refine lv_iload_n hx hb dL_law_588 rfl (lv_at hl 0 rfl) ?_
  refine j_const hx hb dL_law_589 ?_
  refine j_add hx hb dL_law_590 ?_
  refine va_sld hx hb hX hbl hbA hF (jI_in (by omega) (by omega) (by omega)) dL_law_591 (j_raw fun z5 rz5 ez5 => ?_)
  have uz5 : z5 = z1 := ez5.trans ez1.symm
  refine lv_aload_n hx hb dL_law_592 rfl (lv_at hl 3 rfl) ?_
  refine lv_iload_n hx hb dL_law_593 rfl (lv_at hl 0 rfl) ?_
  refine j_const hx hb dL_law_594 ?_
  refine j_add hx hb dL_law_595 ?_
  refine va_sld hx hb hX hbl hbA hF (jI_in (by omega) (by omega) (by omega)) dL_law_596 (j_raw fun z6 rz6 ez6 => ?_)
  have uz6 : z6 = z2 := ez6.trans ez2.symm
  refine j_cI (j_runV (As := [.int (jI z5), .int (jI z6)]) (rest := []) hx hb hml hown hts hK hS hW (kX12_cursor l hS σ4 (a0 := a2) (h0 := h2) (x1 := z5) (r1 := (by omega)) (x2 := z6) (r2 := (by omega)) (hI := hI) (q0 := hM)) 2 gL_law_X12_cursor rfl hvX12_cursor ⟨Nat.le_of_ble_eq_true rfl, Nat.le_of_ble_eq_true rfl⟩ rfl rfl h2 rfl rfl rfl rfl hl.1 rfl (Nat.le_of_ble_eq_true rfl) dL_law_597 ⟨Nat.le_of_ble_eq_true rfl, Nat.le_of_ble_eq_true rfl⟩) hA hF (fun v7 σ8 H locs hW hF rv7 pv7 => ?_)
  try dsimp only at pv7
  obtain ⟨pv7, fv7⟩ := pv7
  have hI := pv7.1
  have hM := pv7.2
  have hu3 := fr_at fv7 h2 1 13001 rfl (by decide)
  have hE := (fr_at fv7 h1 5 12005 rfl (by decide)).trans (hE.trans hu3.symm)
  refine lv_pop hx hb dL_law_600 rfl ?_
  refine lv_goto (tgt := 1061) hx hb dL_law_601 (by decide) ?_
  exact kk _ _ _ hW hI hM hE hF
set_option maxHeartbeats 4000000 in
set_option maxRecDepth 100000 in
theorem law_c14 (l : Launch) {p : Program} {e : Env} {s : State} {m : MethodId} {below : List Frame} {meth : Method} {c : Code} {b Ln : Nat} {xs : Nat → Int32} (C0 : lw_At p s m meth c b Ln xs) (hL : Ln ≤ 3072) {D : va_G} {cA : Nat → ClassId} {τ : Nat → Nat} {G : Nat → Nat → Nat} {L : List Nat} {a1 a2 : Nat} (hS : SW τ G L) (h1 : τ a1 = 12) (h2 : τ a2 = 13) (hK : XK D cA s) (hA : ∀ q ∈ L, s.heap.size ≤ q) {σ : Nat → Nat → Int} {H : Heap} {locs : List Loc} (hW : PW D cA τ G L σ H) (hI : FI G a2 σ) (hM : FM (σ (G a2 0))) (hE : σ a1 5 = σ a2 1) (hF : va_S (fun q => s.heap.size ≤ q) s.heap H locs) {i : Int} (i0 : 0 ≤ i) (i6 : i + 6 ≤ (Ln : Int)) {ls : Array Slot} (hl : lv_has ls 4 [(3, .int (jI i)), (2, .ref a2), (1, .ref a1), (0, .ref b)]) {Q : State → Prop} (kk : ∀ (σ : Nat → Nat → Int) (H : Heap) (locs : List Loc), PW D cA τ G L σ H → FI G a2 σ → FM (σ (G a2 0)) → σ a1 5 = σ a2 1 → va_S (fun q => s.heap.size ≤ q) s.heap H locs → W p l e room_1 s m #[Value.ref b] below meth c H locs 224 38112 Q (F0 m 1061 ls [])) : W p l e room_1 s m #[Value.ref b] below meth c H locs 224 38112 Q (F0 m 604 ls []) := by
  obtain ⟨hx, hb, hr, hml, hown, hts0, hX, hbl, hlocks, hgv⟩ := id C0
  have hown : s.vm.findClass RL = some m.cls := hown
  have hts : ∀ w ∈ wsLW, w.before #[Value.ref b] s = true := fun w h => hts0 w (wsLW_in w h)
  have hbA : ¬ (fun q : Nat => s.heap.size ≤ q) b := Nat.not_le.mpr hbl
  have hF0 := hF
  refine lv_aload_n hx hb dL_law_604 rfl (lv_at hl 2 rfl) ?_
  refine lv_aload_n hx hb dL_law_605 rfl (lv_at hl 3 rfl) ?_
  refine lv_iload_n hx hb dL_law_606 rfl (lv_at hl 0 rfl) ?_
  refine j_const hx hb dL_law_607 ?_
  refine j_add hx hb dL_law_608 ?_
  refine va_sld hx hb hX hbl hbA hF (jI_in (by omega) (by omega) (by omega)) dL_law_609 (j_raw fun z1 rz1 ez1 => ?_)
  refine lv_aload_n hx hb dL_law_610 rfl (lv_at hl 3 rfl) ?_
  refine lv_iload_n hx hb dL_law_611 rfl (lv_at hl 0 rfl) ?_
  refine j_const hx hb dL_law_612 ?_
  refine j_add hx hb dL_law_613 ?_
  refine va_sld hx hb hX hbl hbA hF (jI_in (by omega) (by omega) (by omega)) dL_law_614 (j_raw fun z2 rz2 ez2 => ?_)
  have J623 : ∀ f3 : Int, 0 ≤ f3 ∧ f3 ≤ 1 → W p l e room_1 s m #[Value.ref b] below meth c H locs 224 38112 Q (F0 m 623 ls [.int (jI f3), .int (jI z1), .ref a1]) := by
    intro f3 rf3
    refine j_cI (j_runV (As := [.int (jI z1), .int (jI f3)]) (rest := []) hx hb hml hown hts hK hS hW (kX11_step l hS σ (a0 := a1) (h0 := h1) (x1 := z1) (r1 := (by omega)) (x2 := f3) (r2 := (by omega))) 2 gL_law_X11_step rfl hvX11_step ⟨Nat.le_of_ble_eq_true rfl, Nat.le_of_ble_eq_true rfl⟩ rfl rfl h1 rfl rfl rfl rfl hl.1 rfl (Nat.le_of_ble_eq_true rfl) dL_law_623 ⟨Nat.le_of_ble_eq_true rfl, Nat.le_of_ble_eq_true rfl⟩) hA hF (fun v4 σ5 H locs hW hF rv4 pv4 => ?_)
    try dsimp only at pv4
    obtain ⟨pv4, fv4⟩ := pv4
    have hM := FM_dep hS h2 hM (kp_fr fv4 (by decide))
    have hI := FI_dep hS h2 hI (kp_fr fv4 (by decide))
    have hu3 := fr_at fv4 h2 1 13001 rfl (by decide)
    have hE := (fr_at fv4 h1 5 12005 rfl (by decide)).trans (hE.trans hu3.symm)
    refine lv_pop hx hb dL_law_626 rfl ?_
    refine lv_aload_n hx hb dL_law_627 rfl (lv_at hl 1 rfl) ?_
    refine lv_aload_n hx hb dL_law_628 rfl (lv_at hl 3 rfl) ?_
    refine lv_iload_n hx hb dL_law_629 rfl (lv_at hl 0 rfl) ?_
    refine j_const hx hb dL_law_630 ?_
    refine j_add hx hb dL_law_631 ?_
    refine va_sld hx hb hX hbl hbA hF (jI_in (by omega) (by omega) (by omega)) dL_law_632 (j_raw fun z6 rz6 ez6 => ?_)
    have uz6 : z6 = z1 := ez6.trans ez1.symm
    refine lv_aload_n hx hb dL_law_633 rfl (lv_at hl 3 rfl) ?_
    refine lv_iload_n hx hb dL_law_634 rfl (lv_at hl 0 rfl) ?_
    refine j_const hx hb dL_law_635 ?_
    refine j_add hx hb dL_law_636 ?_
    refine va_sld hx hb hX hbl hbA hF (jI_in (by omega) (by omega) (by omega)) dL_law_637 (j_raw fun z7 rz7 ez7 => ?_)
    have uz7 : z7 = z2 := ez7.trans ez2.symm
    have J646 : ∀ f8 : Int, 0 ≤ f8 ∧ f8 ≤ 1 → W p l e room_1 s m #[Value.ref b] below meth c H locs 224 38112 Q (F0 m 646 ls [.int (jI f8), .int (jI z6), .ref a2]) := by
      intro f8 rf8
      refine j_cI (j_runV (As := [.int (jI z6), .int (jI f8)]) (rest := []) hx hb hml hown hts hK hS hW (kX12_step l hS σ5 (a0 := a2) (h0 := h2) (x1 := z6) (r1 := (by omega)) (x2 := f8) (r2 := (by omega)) (hI := hI) (q0 := hM)) 2 gL_law_X12_step rfl hvX12_step ⟨Nat.le_of_ble_eq_true rfl, Nat.le_of_ble_eq_true rfl⟩ rfl rfl h2 rfl rfl rfl rfl hl.1 rfl (Nat.le_of_ble_eq_true rfl) dL_law_646 ⟨Nat.le_of_ble_eq_true rfl, Nat.le_of_ble_eq_true rfl⟩) hA hF (fun v9 σ10 H locs hW hF rv9 pv9 => ?_)
      try dsimp only at pv9
      obtain ⟨pv9, fv9⟩ := pv9
      have hI := pv9.1
      have hM := pv9.2
      have hu3 := fr_at fv9 h2 1 13001 rfl (by decide)
      have hE := (fr_at fv9 h1 5 12005 rfl (by decide)).trans (hE.trans hu3.symm)
      refine lv_pop hx hb dL_law_649 rfl ?_
      refine lv_goto (tgt := 1061) hx hb dL_law_650 (by decide) ?_
      exact kk _ _ _ hW hI hM hE hF
    refine j_if_eq (tgt := 645) hx hb (by omega) dL_law_638 (by decide) (fun _ => ?_) (fun _ => ?_)
    · refine j_const hx hb dL_law_645 ?_
      exact J646 0 (by decide)
    · refine j_const hx hb dL_law_641 ?_
      refine lv_goto (tgt := 646) hx hb dL_law_642 (by decide) ?_
      exact J646 1 (by decide)
  refine j_if_eq (tgt := 622) hx hb (by omega) dL_law_615 (by decide) (fun _ => ?_) (fun _ => ?_)
  · refine j_const hx hb dL_law_622 ?_
    exact J623 0 (by decide)
  · refine j_const hx hb dL_law_618 ?_
    refine lv_goto (tgt := 623) hx hb dL_law_619 (by decide) ?_
    exact J623 1 (by decide)
set_option maxHeartbeats 4000000 in
set_option maxRecDepth 100000 in
theorem law_c15 (l : Launch) {p : Program} {e : Env} {s : State} {m : MethodId} {below : List Frame} {meth : Method} {c : Code} {b Ln : Nat} {xs : Nat → Int32} (C0 : lw_At p s m meth c b Ln xs) (hL : Ln ≤ 3072) {D : va_G} {cA : Nat → ClassId} {τ : Nat → Nat} {G : Nat → Nat → Nat} {L : List Nat} {a1 a2 : Nat} (hS : SW τ G L) (h1 : τ a1 = 12) (h2 : τ a2 = 13) (hK : XK D cA s) (hA : ∀ q ∈ L, s.heap.size ≤ q) {σ : Nat → Nat → Int} {H : Heap} {locs : List Loc} (hW : PW D cA τ G L σ H) (hI : FI G a2 σ) (hM : FM (σ (G a2 0))) (hE : σ a1 5 = σ a2 1) (hF : va_S (fun q => s.heap.size ≤ q) s.heap H locs) {i : Int} (i0 : 0 ≤ i) (i6 : i + 6 ≤ (Ln : Int)) {ls : Array Slot} (hl : lv_has ls 4 [(3, .int (jI i)), (2, .ref a2), (1, .ref a1), (0, .ref b)]) {Q : State → Prop} (kk : ∀ (σ : Nat → Nat → Int) (H : Heap) (locs : List Loc), PW D cA τ G L σ H → FI G a2 σ → FM (σ (G a2 0)) → σ a1 5 = σ a2 1 → va_S (fun q => s.heap.size ≤ q) s.heap H locs → W p l e room_1 s m #[Value.ref b] below meth c H locs 224 38112 Q (F0 m 1061 ls [])) : W p l e room_1 s m #[Value.ref b] below meth c H locs 224 38112 Q (F0 m 653 ls []) := by
  obtain ⟨hx, hb, hr, hml, hown, hts0, hX, hbl, hlocks, hgv⟩ := id C0
  have hown : s.vm.findClass RL = some m.cls := hown
  have hts : ∀ w ∈ wsLW, w.before #[Value.ref b] s = true := fun w h => hts0 w (wsLW_in w h)
  have hbA : ¬ (fun q : Nat => s.heap.size ≤ q) b := Nat.not_le.mpr hbl
  have hF0 := hF
  refine lv_aload_n hx hb dL_law_653 rfl (lv_at hl 2 rfl) ?_
  refine lv_aload_n hx hb dL_law_654 rfl (lv_at hl 3 rfl) ?_
  refine lv_iload_n hx hb dL_law_655 rfl (lv_at hl 0 rfl) ?_
  refine j_const hx hb dL_law_656 ?_
  refine j_add hx hb dL_law_657 ?_
  refine va_sld hx hb hX hbl hbA hF (jI_in (by omega) (by omega) (by omega)) dL_law_658 (j_raw fun z1 rz1 ez1 => ?_)
  refine lv_aload_n hx hb dL_law_659 rfl (lv_at hl 3 rfl) ?_
  refine lv_iload_n hx hb dL_law_660 rfl (lv_at hl 0 rfl) ?_
  refine j_const hx hb dL_law_661 ?_
  refine j_add hx hb dL_law_662 ?_
  refine va_sld hx hb hX hbl hbA hF (jI_in (by omega) (by omega) (by omega)) dL_law_663 (j_raw fun z2 rz2 ez2 => ?_)
  refine j_cR (j_runV (As := [.int (jI z1), .int (jI z2)]) (rest := []) hx hb hml hown hts hK hS hW (kX11_cursorIs l hS σ (a0 := a1) (h0 := h1) (x1 := z1) (r1 := (by omega)) (x2 := z2) (r2 := (by omega))) 2 gL_law_X11_cursorIs rfl hvX11_cursorIs ⟨Nat.le_of_ble_eq_true rfl, Nat.le_of_ble_eq_true rfl⟩ rfl rfl h1 rfl rfl rfl rfl hl.1 rfl (Nat.le_of_ble_eq_true rfl) dL_law_664 ⟨Nat.le_of_ble_eq_true rfl, Nat.le_of_ble_eq_true rfl⟩) (fun v3 rv3 pv3 => ?_)
  refine lv_pop hx hb dL_law_667 rfl ?_
  refine lv_aload_n hx hb dL_law_668 rfl (lv_at hl 1 rfl) ?_
  refine lv_aload_n hx hb dL_law_669 rfl (lv_at hl 3 rfl) ?_
  refine lv_iload_n hx hb dL_law_670 rfl (lv_at hl 0 rfl) ?_
  refine j_const hx hb dL_law_671 ?_
  refine j_add hx hb dL_law_672 ?_
  refine va_sld hx hb hX hbl hbA hF (jI_in (by omega) (by omega) (by omega)) dL_law_673 (j_raw fun z4 rz4 ez4 => ?_)
  have uz4 : z4 = z1 := ez4.trans ez1.symm
  refine lv_aload_n hx hb dL_law_674 rfl (lv_at hl 3 rfl) ?_
  refine lv_iload_n hx hb dL_law_675 rfl (lv_at hl 0 rfl) ?_
  refine j_const hx hb dL_law_676 ?_
  refine j_add hx hb dL_law_677 ?_
  refine va_sld hx hb hX hbl hbA hF (jI_in (by omega) (by omega) (by omega)) dL_law_678 (j_raw fun z5 rz5 ez5 => ?_)
  have uz5 : z5 = z2 := ez5.trans ez2.symm
  refine j_cI (j_runV (As := [.int (jI z4), .int (jI z5)]) (rest := []) hx hb hml hown hts hK hS hW (kX12_cursorIs l hS σ (a0 := a2) (h0 := h2) (x1 := z4) (r1 := (by omega)) (x2 := z5) (r2 := (by omega)) (hI := hI)) 2 gL_law_X12_cursorIs rfl hvX12_cursorIs ⟨Nat.le_of_ble_eq_true rfl, Nat.le_of_ble_eq_true rfl⟩ rfl rfl h2 rfl rfl rfl rfl hl.1 rfl (Nat.le_of_ble_eq_true rfl) dL_law_679 ⟨Nat.le_of_ble_eq_true rfl, Nat.le_of_ble_eq_true rfl⟩) hA hF (fun v6 σ7 H locs hW hF rv6 pv6 => ?_)
  try dsimp only at pv6
  obtain ⟨pv6, fv6⟩ := pv6
  have hM := FM_dep hS h2 hM (kp_fr fv6 (by decide))
  have hI := FI_dep hS h2 hI (kp_fr fv6 (by decide))
  have hu3 := fr_at fv6 h2 1 13001 rfl (by decide)
  have hE := (fr_at fv6 h1 5 12005 rfl (by decide)).trans (hE.trans hu3.symm)
  refine lv_pop hx hb dL_law_682 rfl ?_
  refine lv_goto (tgt := 1061) hx hb dL_law_683 (by decide) ?_
  exact kk _ _ _ hW hI hM hE hF
