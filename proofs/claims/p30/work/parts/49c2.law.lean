set_option maxHeartbeats 4000000 in
set_option maxRecDepth 100000 in
theorem law_c16 (l : Launch) {p : Program} {e : Env} {s : State} {m : MethodId} {below : List Frame} {meth : Method} {c : Code} {b Ln : Nat} {xs : Nat → Int32} (C0 : lw_At p s m meth c b Ln xs) (hL : Ln ≤ 3072) {D : va_G} {cA : Nat → ClassId} {τ : Nat → Nat} {G : Nat → Nat → Nat} {L : List Nat} {a1 a2 : Nat} (hS : SW τ G L) (h1 : τ a1 = 12) (h2 : τ a2 = 13) (hK : XK D cA s) (hA : ∀ q ∈ L, s.heap.size ≤ q) {σ : Nat → Nat → Int} {H : Heap} {locs : List Loc} (hW : PW D cA τ G L σ H) (hI : FI G a2 σ) (hM : FM (σ (G a2 0))) (hE : σ a1 5 = σ a2 1) (hF : va_S (fun q => s.heap.size ≤ q) s.heap H locs) {i : Int} (i0 : 0 ≤ i) (i6 : i + 6 ≤ (Ln : Int)) {ls : Array Slot} (hl : lv_has ls 4 [(3, .int (jI i)), (2, .ref a2), (1, .ref a1), (0, .ref b)]) {Q : State → Prop} (kk : ∀ (σ : Nat → Nat → Int) (H : Heap) (locs : List Loc), PW D cA τ G L σ H → FI G a2 σ → FM (σ (G a2 0)) → σ a1 5 = σ a2 1 → va_S (fun q => s.heap.size ≤ q) s.heap H locs → W p l e room_1 s m #[Value.ref b] below meth c H locs 224 38112 Q (F0 m 1061 ls [])) : W p l e room_1 s m #[Value.ref b] below meth c H locs 224 38112 Q (F0 m 686 ls []) := by
  obtain ⟨hx, hb, hr, hml, hown, hts0, hX, hbl, hlocks, hgv⟩ := id C0
  have hown : s.vm.findClass RL = some m.cls := hown
  have hts : ∀ w ∈ wsLW, w.before #[Value.ref b] s = true := fun w h => hts0 w (wsLW_in w h)
  have hbA : ¬ (fun q : Nat => s.heap.size ≤ q) b := Nat.not_le.mpr hbl
  have hF0 := hF
  refine lv_aload_n hx hb dL_law_686 rfl (lv_at hl 2 rfl) ?_
  refine lv_aload_n hx hb dL_law_687 rfl (lv_at hl 3 rfl) ?_
  refine lv_iload_n hx hb dL_law_688 rfl (lv_at hl 0 rfl) ?_
  refine j_const hx hb dL_law_689 ?_
  refine j_add hx hb dL_law_690 ?_
  refine va_sld hx hb hX hbl hbA hF (jI_in (by omega) (by omega) (by omega)) dL_law_691 (j_raw fun z1 rz1 ez1 => ?_)
  refine j_cR (j_runV (As := [.int (jI z1)]) (rest := []) hx hb hml hown hts hK hS hW (kX11_full l hS σ (a0 := a1) (h0 := h1) (x1 := z1) (r1 := (by omega))) 1 gL_law_X11_full rfl hvX11_full ⟨Nat.le_of_ble_eq_true rfl, Nat.le_of_ble_eq_true rfl⟩ rfl rfl h1 rfl rfl rfl rfl hl.1 rfl (Nat.le_of_ble_eq_true rfl) dL_law_692 ⟨Nat.le_of_ble_eq_true rfl, Nat.le_of_ble_eq_true rfl⟩) (fun v2 rv2 pv2 => ?_)
  refine lv_pop hx hb dL_law_695 rfl ?_
  refine lv_aload_n hx hb dL_law_696 rfl (lv_at hl 1 rfl) ?_
  refine lv_aload_n hx hb dL_law_697 rfl (lv_at hl 3 rfl) ?_
  refine lv_iload_n hx hb dL_law_698 rfl (lv_at hl 0 rfl) ?_
  refine j_const hx hb dL_law_699 ?_
  refine j_add hx hb dL_law_700 ?_
  refine va_sld hx hb hX hbl hbA hF (jI_in (by omega) (by omega) (by omega)) dL_law_701 (j_raw fun z3 rz3 ez3 => ?_)
  have uz3 : z3 = z1 := ez3.trans ez1.symm
  refine j_cI (j_runV (As := [.int (jI z3)]) (rest := []) hx hb hml hown hts hK hS hW (kX12_full l hS σ (a0 := a2) (h0 := h2) (x1 := z3) (r1 := (by omega)) (hI := hI)) 1 gL_law_X12_full rfl hvX12_full ⟨Nat.le_of_ble_eq_true rfl, Nat.le_of_ble_eq_true rfl⟩ rfl rfl h2 rfl rfl rfl rfl hl.1 rfl (Nat.le_of_ble_eq_true rfl) dL_law_702 ⟨Nat.le_of_ble_eq_true rfl, Nat.le_of_ble_eq_true rfl⟩) hA hF (fun v4 σ5 H locs hW hF rv4 pv4 => ?_)
  try dsimp only at pv4
  obtain ⟨pv4, fv4⟩ := pv4
  have hM := FM_dep hS h2 hM (kp_fr fv4 (by decide))
  have hI := FI_dep hS h2 hI (kp_fr fv4 (by decide))
  have hu3 := fr_at fv4 h2 1 13001 rfl (by decide)
  have hE := (fr_at fv4 h1 5 12005 rfl (by decide)).trans (hE.trans hu3.symm)
  refine lv_pop hx hb dL_law_705 rfl ?_
  refine lv_goto (tgt := 1061) hx hb dL_law_706 (by decide) ?_
  exact kk _ _ _ hW hI hM hE hF
set_option maxHeartbeats 4000000 in
set_option maxRecDepth 100000 in
theorem law_c17 (l : Launch) {p : Program} {e : Env} {s : State} {m : MethodId} {below : List Frame} {meth : Method} {c : Code} {b Ln : Nat} {xs : Nat → Int32} (C0 : lw_At p s m meth c b Ln xs) (hL : Ln ≤ 3072) {D : va_G} {cA : Nat → ClassId} {τ : Nat → Nat} {G : Nat → Nat → Nat} {L : List Nat} {a1 a2 : Nat} (hS : SW τ G L) (h1 : τ a1 = 12) (h2 : τ a2 = 13) (hK : XK D cA s) (hA : ∀ q ∈ L, s.heap.size ≤ q) {σ : Nat → Nat → Int} {H : Heap} {locs : List Loc} (hW : PW D cA τ G L σ H) (hI : FI G a2 σ) (hM : FM (σ (G a2 0))) (hE : σ a1 5 = σ a2 1) (hF : va_S (fun q => s.heap.size ≤ q) s.heap H locs) {i : Int} (i0 : 0 ≤ i) (i6 : i + 6 ≤ (Ln : Int)) {ls : Array Slot} (hl : lv_has ls 4 [(3, .int (jI i)), (2, .ref a2), (1, .ref a1), (0, .ref b)]) {Q : State → Prop} (kk : ∀ (σ : Nat → Nat → Int) (H : Heap) (locs : List Loc), PW D cA τ G L σ H → FI G a2 σ → FM (σ (G a2 0)) → σ a1 5 = σ a2 1 → va_S (fun q => s.heap.size ≤ q) s.heap H locs → W p l e room_1 s m #[Value.ref b] below meth c H locs 224 38112 Q (F0 m 1061 ls [])) : W p l e room_1 s m #[Value.ref b] below meth c H locs 224 38112 Q (F0 m 709 ls []) := by
  obtain ⟨hx, hb, hr, hml, hown, hts0, hX, hbl, hlocks, hgv⟩ := id C0
  have hown : s.vm.findClass RL = some m.cls := hown
  have hts : ∀ w ∈ wsLW, w.before #[Value.ref b] s = true := fun w h => hts0 w (wsLW_in w h)
  have hbA : ¬ (fun q : Nat => s.heap.size ≤ q) b := Nat.not_le.mpr hbl
  have hF0 := hF
  refine lv_aload_n hx hb dL_law_709 rfl (lv_at hl 2 rfl) ?_
  refine lv_aload_n hx hb dL_law_710 rfl (lv_at hl 3 rfl) ?_
  refine lv_iload_n hx hb dL_law_711 rfl (lv_at hl 0 rfl) ?_
  refine j_const hx hb dL_law_712 ?_
  refine j_add hx hb dL_law_713 ?_
  refine va_sld hx hb hX hbl hbA hF (jI_in (by omega) (by omega) (by omega)) dL_law_714 (j_raw fun z1 rz1 ez1 => ?_)
  refine j_cR (j_runV (As := [.int (jI z1)]) (rest := []) hx hb hml hown hts hK hS hW (kX11_closest l hS σ (a0 := a1) (h0 := h1) (x1 := z1) (r1 := (by omega))) 1 gL_law_X11_closest rfl hvX11_closest ⟨Nat.le_of_ble_eq_true rfl, Nat.le_of_ble_eq_true rfl⟩ rfl rfl h1 rfl rfl rfl rfl hl.1 rfl (Nat.le_of_ble_eq_true rfl) dL_law_715 ⟨Nat.le_of_ble_eq_true rfl, Nat.le_of_ble_eq_true rfl⟩) (fun v2 rv2 pv2 => ?_)
  refine lv_pop hx hb dL_law_718 rfl ?_
  refine lv_aload_n hx hb dL_law_719 rfl (lv_at hl 1 rfl) ?_
  refine lv_aload_n hx hb dL_law_720 rfl (lv_at hl 3 rfl) ?_
  refine lv_iload_n hx hb dL_law_721 rfl (lv_at hl 0 rfl) ?_
  refine j_const hx hb dL_law_722 ?_
  refine j_add hx hb dL_law_723 ?_
  refine va_sld hx hb hX hbl hbA hF (jI_in (by omega) (by omega) (by omega)) dL_law_724 (j_raw fun z3 rz3 ez3 => ?_)
  have uz3 : z3 = z1 := ez3.trans ez1.symm
  refine j_cR (j_runV (As := [.int (jI z3)]) (rest := []) hx hb hml hown hts hK hS hW (kX12_closest l hS σ (a0 := a2) (h0 := h2) (x1 := z3) (r1 := (by omega)) (hI := hI)) 1 gL_law_X12_closest rfl hvX12_closest ⟨Nat.le_of_ble_eq_true rfl, Nat.le_of_ble_eq_true rfl⟩ rfl rfl h2 rfl rfl rfl rfl hl.1 rfl (Nat.le_of_ble_eq_true rfl) dL_law_725 ⟨Nat.le_of_ble_eq_true rfl, Nat.le_of_ble_eq_true rfl⟩) (fun v4 rv4 pv4 => ?_)
  refine lv_pop hx hb dL_law_728 rfl ?_
  refine lv_goto (tgt := 1061) hx hb dL_law_729 (by decide) ?_
  exact kk _ _ _ hW hI hM hE hF
set_option maxHeartbeats 4000000 in
set_option maxRecDepth 100000 in
theorem law_c18 (l : Launch) {p : Program} {e : Env} {s : State} {m : MethodId} {below : List Frame} {meth : Method} {c : Code} {b Ln : Nat} {xs : Nat → Int32} (C0 : lw_At p s m meth c b Ln xs) (hL : Ln ≤ 3072) {D : va_G} {cA : Nat → ClassId} {τ : Nat → Nat} {G : Nat → Nat → Nat} {L : List Nat} {a1 a2 : Nat} (hS : SW τ G L) (h1 : τ a1 = 12) (h2 : τ a2 = 13) (hK : XK D cA s) (hA : ∀ q ∈ L, s.heap.size ≤ q) {σ : Nat → Nat → Int} {H : Heap} {locs : List Loc} (hW : PW D cA τ G L σ H) (hI : FI G a2 σ) (hM : FM (σ (G a2 0))) (hE : σ a1 5 = σ a2 1) (hF : va_S (fun q => s.heap.size ≤ q) s.heap H locs) {i : Int} (i0 : 0 ≤ i) (i6 : i + 6 ≤ (Ln : Int)) {ls : Array Slot} (hl : lv_has ls 4 [(3, .int (jI i)), (2, .ref a2), (1, .ref a1), (0, .ref b)]) {Q : State → Prop} (kk : ∀ (σ : Nat → Nat → Int) (H : Heap) (locs : List Loc), PW D cA τ G L σ H → FI G a2 σ → FM (σ (G a2 0)) → σ a1 5 = σ a2 1 → va_S (fun q => s.heap.size ≤ q) s.heap H locs → W p l e room_1 s m #[Value.ref b] below meth c H locs 224 38112 Q (F0 m 1061 ls [])) : W p l e room_1 s m #[Value.ref b] below meth c H locs 224 38112 Q (F0 m 732 ls []) := by
  obtain ⟨hx, hb, hr, hml, hown, hts0, hX, hbl, hlocks, hgv⟩ := id C0
  have hown : s.vm.findClass RL = some m.cls := hown
  have hts : ∀ w ∈ wsLW, w.before #[Value.ref b] s = true := fun w h => hts0 w (wsLW_in w h)
  have hbA : ¬ (fun q : Nat => s.heap.size ≤ q) b := Nat.not_le.mpr hbl
  have hF0 := hF
  refine lv_aload_n hx hb dL_law_732 rfl (lv_at hl 2 rfl) ?_
  refine lv_aload_n hx hb dL_law_733 rfl (lv_at hl 3 rfl) ?_
  refine lv_iload_n hx hb dL_law_734 rfl (lv_at hl 0 rfl) ?_
  refine j_const hx hb dL_law_735 ?_
  refine j_add hx hb dL_law_736 ?_
  refine va_sld hx hb hX hbl hbA hF (jI_in (by omega) (by omega) (by omega)) dL_law_737 (j_raw fun z1 rz1 ez1 => ?_)
  refine lv_aload_n hx hb dL_law_738 rfl (lv_at hl 3 rfl) ?_
  refine lv_iload_n hx hb dL_law_739 rfl (lv_at hl 0 rfl) ?_
  refine j_const hx hb dL_law_740 ?_
  refine j_add hx hb dL_law_741 ?_
  refine va_sld hx hb hX hbl hbA hF (jI_in (by omega) (by omega) (by omega)) dL_law_742 (j_raw fun z2 rz2 ez2 => ?_)
  refine j_cI (j_runV (As := [.int (jI z1), .int (jI z2)]) (rest := []) hx hb hml hown hts hK hS hW (kX11_layer l hS σ (a0 := a1) (h0 := h1) (x1 := z1) (r1 := (by omega)) (x2 := z2) (r2 := (by omega))) 2 gL_law_X11_layer rfl hvX11_layer ⟨Nat.le_of_ble_eq_true rfl, Nat.le_of_ble_eq_true rfl⟩ rfl rfl h1 rfl rfl rfl rfl hl.1 rfl (Nat.le_of_ble_eq_true rfl) dL_law_743 ⟨Nat.le_of_ble_eq_true rfl, Nat.le_of_ble_eq_true rfl⟩) hA hF (fun v3 σ4 H locs hW hF rv3 pv3 => ?_)
  try dsimp only at pv3
  obtain ⟨pv3, fv3⟩ := pv3
  have hM := FM_dep hS h2 hM (kp_fr fv3 (by decide))
  have hI := FI_dep hS h2 hI (kp_fr fv3 (by decide))
  have hu3 := fr_at fv3 h2 1 13001 rfl (by decide)
  have hE := (fr_at fv3 h1 5 12005 rfl (by decide)).trans (hE.trans hu3.symm)
  refine lv_pop hx hb dL_law_746 rfl ?_
  refine lv_aload_n hx hb dL_law_747 rfl (lv_at hl 1 rfl) ?_
  refine lv_aload_n hx hb dL_law_748 rfl (lv_at hl 3 rfl) ?_
  refine lv_iload_n hx hb dL_law_749 rfl (lv_at hl 0 rfl) ?_
  refine j_const hx hb dL_law_750 ?_
  refine j_add hx hb dL_law_751 ?_
  refine va_sld hx hb hX hbl hbA hF (jI_in (by omega) (by omega) (by omega)) dL_law_752 (j_raw fun z5 rz5 ez5 => ?_)
  have uz5 : z5 = z1 := ez5.trans ez1.symm
  refine lv_aload_n hx hb dL_law_753 rfl (lv_at hl 3 rfl) ?_
  refine lv_iload_n hx hb dL_law_754 rfl (lv_at hl 0 rfl) ?_
  refine j_const hx hb dL_law_755 ?_
  refine j_add hx hb dL_law_756 ?_
  refine va_sld hx hb hX hbl hbA hF (jI_in (by omega) (by omega) (by omega)) dL_law_757 (j_raw fun z6 rz6 ez6 => ?_)
  have uz6 : z6 = z2 := ez6.trans ez2.symm
  refine j_cI (j_runV (As := [.int (jI z5), .int (jI z6)]) (rest := []) hx hb hml hown hts hK hS hW (kX12_layer l hS σ4 (a0 := a2) (h0 := h2) (x1 := z5) (r1 := (by omega)) (x2 := z6) (r2 := (by omega)) (hI := hI)) 2 gL_law_X12_layer rfl hvX12_layer ⟨Nat.le_of_ble_eq_true rfl, Nat.le_of_ble_eq_true rfl⟩ rfl rfl h2 rfl rfl rfl rfl hl.1 rfl (Nat.le_of_ble_eq_true rfl) dL_law_758 ⟨Nat.le_of_ble_eq_true rfl, Nat.le_of_ble_eq_true rfl⟩) hA hF (fun v7 σ8 H locs hW hF rv7 pv7 => ?_)
  try dsimp only at pv7
  obtain ⟨pv7, fv7⟩ := pv7
  have hM := FM_dep hS h2 hM (kp_fr fv7 (by decide))
  have hI := FI_dep hS h2 hI (kp_fr fv7 (by decide))
  have hu3 := fr_at fv7 h2 1 13001 rfl (by decide)
  have hE := (fr_at fv7 h1 5 12005 rfl (by decide)).trans (hE.trans hu3.symm)
  refine lv_pop hx hb dL_law_761 rfl ?_
  refine lv_goto (tgt := 1061) hx hb dL_law_762 (by decide) ?_
  exact kk _ _ _ hW hI hM hE hF
set_option maxHeartbeats 4000000 in
set_option maxRecDepth 100000 in
theorem law_c19 (l : Launch) {p : Program} {e : Env} {s : State} {m : MethodId} {below : List Frame} {meth : Method} {c : Code} {b Ln : Nat} {xs : Nat → Int32} (C0 : lw_At p s m meth c b Ln xs) (hL : Ln ≤ 3072) {D : va_G} {cA : Nat → ClassId} {τ : Nat → Nat} {G : Nat → Nat → Nat} {L : List Nat} {a1 a2 : Nat} (hS : SW τ G L) (h1 : τ a1 = 12) (h2 : τ a2 = 13) (hK : XK D cA s) (hA : ∀ q ∈ L, s.heap.size ≤ q) {σ : Nat → Nat → Int} {H : Heap} {locs : List Loc} (hW : PW D cA τ G L σ H) (hI : FI G a2 σ) (hM : FM (σ (G a2 0))) (hE : σ a1 5 = σ a2 1) (hF : va_S (fun q => s.heap.size ≤ q) s.heap H locs) {i : Int} (i0 : 0 ≤ i) (i6 : i + 6 ≤ (Ln : Int)) {ls : Array Slot} (hl : lv_has ls 4 [(3, .int (jI i)), (2, .ref a2), (1, .ref a1), (0, .ref b)]) {Q : State → Prop} (kk : ∀ (σ : Nat → Nat → Int) (H : Heap) (locs : List Loc), PW D cA τ G L σ H → FI G a2 σ → FM (σ (G a2 0)) → σ a1 5 = σ a2 1 → va_S (fun q => s.heap.size ≤ q) s.heap H locs → W p l e room_1 s m #[Value.ref b] below meth c H locs 224 38112 Q (F0 m 1061 ls [])) : W p l e room_1 s m #[Value.ref b] below meth c H locs 224 38112 Q (F0 m 765 ls []) := by
  obtain ⟨hx, hb, hr, hml, hown, hts0, hX, hbl, hlocks, hgv⟩ := id C0
  have hown : s.vm.findClass RL = some m.cls := hown
  have hts : ∀ w ∈ wsLW, w.before #[Value.ref b] s = true := fun w h => hts0 w (wsLW_in w h)
  have hbA : ¬ (fun q : Nat => s.heap.size ≤ q) b := Nat.not_le.mpr hbl
  have hF0 := hF
  refine lv_aload_n hx hb dL_law_765 rfl (lv_at hl 2 rfl) ?_
  refine lv_aload_n hx hb dL_law_766 rfl (lv_at hl 3 rfl) ?_
  refine lv_iload_n hx hb dL_law_767 rfl (lv_at hl 0 rfl) ?_
  refine j_const hx hb dL_law_768 ?_
  refine j_add hx hb dL_law_769 ?_
  refine va_sld hx hb hX hbl hbA hF (jI_in (by omega) (by omega) (by omega)) dL_law_770 (j_raw fun z1 rz1 ez1 => ?_)
  refine lv_aload_n hx hb dL_law_771 rfl (lv_at hl 3 rfl) ?_
  refine lv_iload_n hx hb dL_law_772 rfl (lv_at hl 0 rfl) ?_
  refine j_const hx hb dL_law_773 ?_
  refine j_add hx hb dL_law_774 ?_
  refine va_sld hx hb hX hbl hbA hF (jI_in (by omega) (by omega) (by omega)) dL_law_775 (j_raw fun z2 rz2 ez2 => ?_)
  refine lv_aload_n hx hb dL_law_776 rfl (lv_at hl 3 rfl) ?_
  refine lv_iload_n hx hb dL_law_777 rfl (lv_at hl 0 rfl) ?_
  refine j_const hx hb dL_law_778 ?_
  refine j_add hx hb dL_law_779 ?_
  refine va_sld hx hb hX hbl hbA hF (jI_in (by omega) (by omega) (by omega)) dL_law_780 (j_raw fun z3 rz3 ez3 => ?_)
  refine j_cI (j_runV (As := [.int (jI z1), .int (jI z2), .int (jI z3)]) (rest := []) hx hb hml hown hts hK hS hW (kX11_entry l hS σ (a0 := a1) (h0 := h1) (x1 := z1) (r1 := (by omega)) (x2 := z2) (r2 := (by omega)) (x3 := z3) (r3 := (by omega))) 3 gL_law_X11_entry rfl hvX11_entry ⟨Nat.le_of_ble_eq_true rfl, Nat.le_of_ble_eq_true rfl⟩ rfl rfl h1 rfl rfl rfl rfl hl.1 rfl (Nat.le_of_ble_eq_true rfl) dL_law_781 ⟨Nat.le_of_ble_eq_true rfl, Nat.le_of_ble_eq_true rfl⟩) hA hF (fun v4 σ5 H locs hW hF rv4 pv4 => ?_)
  try dsimp only at pv4
  obtain ⟨pv4, fv4⟩ := pv4
  have hM := FM_dep hS h2 hM (kp_fr fv4 (by decide))
  have hI := FI_dep hS h2 hI (kp_fr fv4 (by decide))
  have hu3 := fr_at fv4 h2 1 13001 rfl (by decide)
  have hE := (fr_at fv4 h1 5 12005 rfl (by decide)).trans (hE.trans hu3.symm)
  refine lv_pop hx hb dL_law_784 rfl ?_
  refine lv_aload_n hx hb dL_law_785 rfl (lv_at hl 1 rfl) ?_
  refine lv_aload_n hx hb dL_law_786 rfl (lv_at hl 3 rfl) ?_
  refine lv_iload_n hx hb dL_law_787 rfl (lv_at hl 0 rfl) ?_
  refine j_const hx hb dL_law_788 ?_
  refine j_add hx hb dL_law_789 ?_
  refine va_sld hx hb hX hbl hbA hF (jI_in (by omega) (by omega) (by omega)) dL_law_790 (j_raw fun z6 rz6 ez6 => ?_)
  have uz6 : z6 = z1 := ez6.trans ez1.symm
  refine lv_aload_n hx hb dL_law_791 rfl (lv_at hl 3 rfl) ?_
  refine lv_iload_n hx hb dL_law_792 rfl (lv_at hl 0 rfl) ?_
  refine j_const hx hb dL_law_793 ?_
  refine j_add hx hb dL_law_794 ?_
  refine va_sld hx hb hX hbl hbA hF (jI_in (by omega) (by omega) (by omega)) dL_law_795 (j_raw fun z7 rz7 ez7 => ?_)
  have uz7 : z7 = z2 := ez7.trans ez2.symm
  refine lv_aload_n hx hb dL_law_796 rfl (lv_at hl 3 rfl) ?_
  refine lv_iload_n hx hb dL_law_797 rfl (lv_at hl 0 rfl) ?_
  refine j_const hx hb dL_law_798 ?_
  refine j_add hx hb dL_law_799 ?_
  refine va_sld hx hb hX hbl hbA hF (jI_in (by omega) (by omega) (by omega)) dL_law_800 (j_raw fun z8 rz8 ez8 => ?_)
  have uz8 : z8 = z3 := ez8.trans ez3.symm
  refine j_cI (j_runV (As := [.int (jI z6), .int (jI z7), .int (jI z8)]) (rest := []) hx hb hml hown hts hK hS hW (kX12_entry l hS σ5 (a0 := a2) (h0 := h2) (x1 := z6) (r1 := (by omega)) (x2 := z7) (r2 := (by omega)) (x3 := z8) (r3 := (by omega)) (hI := hI)) 3 gL_law_X12_entry rfl hvX12_entry ⟨Nat.le_of_ble_eq_true rfl, Nat.le_of_ble_eq_true rfl⟩ rfl rfl h2 rfl rfl rfl rfl hl.1 rfl (Nat.le_of_ble_eq_true rfl) dL_law_801 ⟨Nat.le_of_ble_eq_true rfl, Nat.le_of_ble_eq_true rfl⟩) hA hF (fun v9 σ10 H locs hW hF rv9 pv9 => ?_)
  try dsimp only at pv9
  obtain ⟨pv9, fv9⟩ := pv9
  have hM := FM_dep hS h2 hM (kp_fr fv9 (by decide))
  have hI := FI_dep hS h2 hI (kp_fr fv9 (by decide))
  have hu3 := fr_at fv9 h2 1 13001 rfl (by decide)
  have hE := (fr_at fv9 h1 5 12005 rfl (by decide)).trans (hE.trans hu3.symm)
  refine lv_pop hx hb dL_law_804 rfl ?_
  refine lv_goto (tgt := 1061) hx hb dL_law_805 (by decide) ?_
  exact kk _ _ _ hW hI hM hE hF
set_option maxHeartbeats 4000000 in
set_option maxRecDepth 100000 in
theorem law_c20 (l : Launch) {p : Program} {e : Env} {s : State} {m : MethodId} {below : List Frame} {meth : Method} {c : Code} {b Ln : Nat} {xs : Nat → Int32} (C0 : lw_At p s m meth c b Ln xs) (hL : Ln ≤ 3072) {D : va_G} {cA : Nat → ClassId} {τ : Nat → Nat} {G : Nat → Nat → Nat} {L : List Nat} {a1 a2 : Nat} (hS : SW τ G L) (h1 : τ a1 = 12) (h2 : τ a2 = 13) (hK : XK D cA s) (hA : ∀ q ∈ L, s.heap.size ≤ q) {σ : Nat → Nat → Int} {H : Heap} {locs : List Loc} (hW : PW D cA τ G L σ H) (hI : FI G a2 σ) (hM : FM (σ (G a2 0))) (hE : σ a1 5 = σ a2 1) (hF : va_S (fun q => s.heap.size ≤ q) s.heap H locs) {i : Int} (i0 : 0 ≤ i) (i6 : i + 6 ≤ (Ln : Int)) {ls : Array Slot} (hl : lv_has ls 4 [(3, .int (jI i)), (2, .ref a2), (1, .ref a1), (0, .ref b)]) {Q : State → Prop} (kk : ∀ (σ : Nat → Nat → Int) (H : Heap) (locs : List Loc), PW D cA τ G L σ H → FI G a2 σ → FM (σ (G a2 0)) → σ a1 5 = σ a2 1 → va_S (fun q => s.heap.size ≤ q) s.heap H locs → W p l e room_1 s m #[Value.ref b] below meth c H locs 224 38112 Q (F0 m 1061 ls [])) : W p l e room_1 s m #[Value.ref b] below meth c H locs 224 38112 Q (F0 m 808 ls []) := by
  obtain ⟨hx, hb, hr, hml, hown, hts0, hX, hbl, hlocks, hgv⟩ := id C0
  have hown : s.vm.findClass RL = some m.cls := hown
  have hts : ∀ w ∈ wsLW, w.before #[Value.ref b] s = true := fun w h => hts0 w (wsLW_in w h)
  have hbA : ¬ (fun q : Nat => s.heap.size ≤ q) b := Nat.not_le.mpr hbl
  have hF0 := hF
  refine lv_aload_n hx hb dL_law_808 rfl (lv_at hl 2 rfl) ?_
  refine lv_aload_n hx hb dL_law_809 rfl (lv_at hl 3 rfl) ?_
  refine lv_iload_n hx hb dL_law_810 rfl (lv_at hl 0 rfl) ?_
  refine j_const hx hb dL_law_811 ?_
  refine j_add hx hb dL_law_812 ?_
  refine va_sld hx hb hX hbl hbA hF (jI_in (by omega) (by omega) (by omega)) dL_law_813 (j_raw fun z1 rz1 ez1 => ?_)
  refine j_cI (j_runV (As := [.int (jI z1)]) (rest := []) hx hb hml hown hts hK hS hW (kX11_query l hS σ (a0 := a1) (h0 := h1) (x1 := z1) (r1 := (by omega))) 1 gL_law_X11_query rfl hvX11_query ⟨Nat.le_of_ble_eq_true rfl, Nat.le_of_ble_eq_true rfl⟩ rfl rfl h1 rfl rfl rfl rfl hl.1 rfl (Nat.le_of_ble_eq_true rfl) dL_law_814 ⟨Nat.le_of_ble_eq_true rfl, Nat.le_of_ble_eq_true rfl⟩) hA hF (fun v2 σ3 H locs hW hF rv2 pv2 => ?_)
  try dsimp only at pv2
  obtain ⟨pv2, fv2⟩ := pv2
  have hM := FM_dep hS h2 hM (kp_fr fv2 (by decide))
  have hI := FI_dep hS h2 hI (kp_fr fv2 (by decide))
  have hu3 := fr_at fv2 h2 1 13001 rfl (by decide)
  have hE := (fr_at fv2 h1 5 12005 rfl (by decide)).trans (hE.trans hu3.symm)
  refine lv_pop hx hb dL_law_817 rfl ?_
  refine lv_aload_n hx hb dL_law_818 rfl (lv_at hl 1 rfl) ?_
  refine lv_aload_n hx hb dL_law_819 rfl (lv_at hl 3 rfl) ?_
  refine lv_iload_n hx hb dL_law_820 rfl (lv_at hl 0 rfl) ?_
  refine j_const hx hb dL_law_821 ?_
  refine j_add hx hb dL_law_822 ?_
  refine va_sld hx hb hX hbl hbA hF (jI_in (by omega) (by omega) (by omega)) dL_law_823 (j_raw fun z4 rz4 ez4 => ?_)
  have uz4 : z4 = z1 := ez4.trans ez1.symm
  refine j_cI (j_runV (As := [.int (jI z4)]) (rest := []) hx hb hml hown hts hK hS hW (kX12_query l hS σ3 (a0 := a2) (h0 := h2) (x1 := z4) (r1 := (by omega)) (hI := hI) (q0 := hM)) 1 gL_law_X12_query rfl hvX12_query ⟨Nat.le_of_ble_eq_true rfl, Nat.le_of_ble_eq_true rfl⟩ rfl rfl h2 rfl rfl rfl rfl hl.1 rfl (Nat.le_of_ble_eq_true rfl) dL_law_824 ⟨Nat.le_of_ble_eq_true rfl, Nat.le_of_ble_eq_true rfl⟩) hA hF (fun v5 σ6 H locs hW hF rv5 pv5 => ?_)
  try dsimp only at pv5
  obtain ⟨pv5, fv5⟩ := pv5
  have hI := pv5.1
  have hM := pv5.2
  have hu3 := fr_at fv5 h2 1 13001 rfl (by decide)
  have hE := (fr_at fv5 h1 5 12005 rfl (by decide)).trans (hE.trans hu3.symm)
  refine lv_pop hx hb dL_law_827 rfl ?_
  refine lv_goto (tgt := 1061) hx hb dL_law_828 (by decide) ?_
  exact kk _ _ _ hW hI hM hE hF
set_option maxHeartbeats 4000000 in
set_option maxRecDepth 100000 in
theorem law_c21 (l : Launch) {p : Program} {e : Env} {s : State} {m : MethodId} {below : List Frame} {meth : Method} {c : Code} {b Ln : Nat} {xs : Nat → Int32} (C0 : lw_At p s m meth c b Ln xs) (hL : Ln ≤ 3072) {D : va_G} {cA : Nat → ClassId} {τ : Nat → Nat} {G : Nat → Nat → Nat} {L : List Nat} {a1 a2 : Nat} (hS : SW τ G L) (h1 : τ a1 = 12) (h2 : τ a2 = 13) (hK : XK D cA s) (hA : ∀ q ∈ L, s.heap.size ≤ q) {σ : Nat → Nat → Int} {H : Heap} {locs : List Loc} (hW : PW D cA τ G L σ H) (hI : FI G a2 σ) (hM : FM (σ (G a2 0))) (hE : σ a1 5 = σ a2 1) (hF : va_S (fun q => s.heap.size ≤ q) s.heap H locs) {i : Int} (i0 : 0 ≤ i) (i6 : i + 6 ≤ (Ln : Int)) {ls : Array Slot} (hl : lv_has ls 4 [(3, .int (jI i)), (2, .ref a2), (1, .ref a1), (0, .ref b)]) {Q : State → Prop} (kk : ∀ (σ : Nat → Nat → Int) (H : Heap) (locs : List Loc), PW D cA τ G L σ H → FI G a2 σ → FM (σ (G a2 0)) → σ a1 5 = σ a2 1 → va_S (fun q => s.heap.size ≤ q) s.heap H locs → W p l e room_1 s m #[Value.ref b] below meth c H locs 224 38112 Q (F0 m 1061 ls [])) : W p l e room_1 s m #[Value.ref b] below meth c H locs 224 38112 Q (F0 m 831 ls []) := by
  obtain ⟨hx, hb, hr, hml, hown, hts0, hX, hbl, hlocks, hgv⟩ := id C0
  have hown : s.vm.findClass RL = some m.cls := hown
  have hts : ∀ w ∈ wsLW, w.before #[Value.ref b] s = true := fun w h => hts0 w (wsLW_in w h)
  have hbA : ¬ (fun q : Nat => s.heap.size ≤ q) b := Nat.not_le.mpr hbl
  have hF0 := hF
  refine lv_aload_n hx hb dL_law_831 rfl (lv_at hl 2 rfl) ?_
  refine lv_aload_n hx hb dL_law_832 rfl (lv_at hl 3 rfl) ?_
  refine lv_iload_n hx hb dL_law_833 rfl (lv_at hl 0 rfl) ?_
  refine j_const hx hb dL_law_834 ?_
  refine j_add hx hb dL_law_835 ?_
  refine va_sld hx hb hX hbl hbA hF (jI_in (by omega) (by omega) (by omega)) dL_law_836 (j_raw fun z1 rz1 ez1 => ?_)
  refine j_cI (j_runV (As := [.int (jI z1)]) (rest := []) hx hb hml hown hts hK hS hW (kX11_found l hS σ (a0 := a1) (h0 := h1) (x1 := z1) (r1 := (by omega))) 1 gL_law_X11_found rfl hvX11_found ⟨Nat.le_of_ble_eq_true rfl, Nat.le_of_ble_eq_true rfl⟩ rfl rfl h1 rfl rfl rfl rfl hl.1 rfl (Nat.le_of_ble_eq_true rfl) dL_law_837 ⟨Nat.le_of_ble_eq_true rfl, Nat.le_of_ble_eq_true rfl⟩) hA hF (fun v2 σ3 H locs hW hF rv2 pv2 => ?_)
  try dsimp only at pv2
  obtain ⟨pv2, fv2⟩ := pv2
  have hM := FM_dep hS h2 hM (kp_fr fv2 (by decide))
  have hI := FI_dep hS h2 hI (kp_fr fv2 (by decide))
  have hu3 := fr_at fv2 h2 1 13001 rfl (by decide)
  have hE := (fr_at fv2 h1 5 12005 rfl (by decide)).trans (hE.trans hu3.symm)
  refine lv_pop hx hb dL_law_840 rfl ?_
  refine lv_aload_n hx hb dL_law_841 rfl (lv_at hl 1 rfl) ?_
  refine lv_aload_n hx hb dL_law_842 rfl (lv_at hl 3 rfl) ?_
  refine lv_iload_n hx hb dL_law_843 rfl (lv_at hl 0 rfl) ?_
  refine j_const hx hb dL_law_844 ?_
  refine j_add hx hb dL_law_845 ?_
  refine va_sld hx hb hX hbl hbA hF (jI_in (by omega) (by omega) (by omega)) dL_law_846 (j_raw fun z4 rz4 ez4 => ?_)
  have uz4 : z4 = z1 := ez4.trans ez1.symm
  refine j_cI (j_runV (As := [.int (jI z4)]) (rest := []) hx hb hml hown hts hK hS hW (kX12_found l hS σ3 (a0 := a2) (h0 := h2) (x1 := z4) (r1 := (by omega)) (hI := hI)) 1 gL_law_X12_found rfl hvX12_found ⟨Nat.le_of_ble_eq_true rfl, Nat.le_of_ble_eq_true rfl⟩ rfl rfl h2 rfl rfl rfl rfl hl.1 rfl (Nat.le_of_ble_eq_true rfl) dL_law_847 ⟨Nat.le_of_ble_eq_true rfl, Nat.le_of_ble_eq_true rfl⟩) hA hF (fun v5 σ6 H locs hW hF rv5 pv5 => ?_)
  try dsimp only at pv5
  obtain ⟨pv5, fv5⟩ := pv5
  have hM := FM_dep hS h2 hM (kp_fr fv5 (by decide))
  have hI := FI_dep hS h2 hI (kp_fr fv5 (by decide))
  have hu3 := fr_at fv5 h2 1 13001 rfl (by decide)
  have hE := (fr_at fv5 h1 5 12005 rfl (by decide)).trans (hE.trans hu3.symm)
  refine lv_pop hx hb dL_law_850 rfl ?_
  refine lv_goto (tgt := 1061) hx hb dL_law_851 (by decide) ?_
  exact kk _ _ _ hW hI hM hE hF
set_option maxHeartbeats 4000000 in
set_option maxRecDepth 100000 in
theorem law_c22 (l : Launch) {p : Program} {e : Env} {s : State} {m : MethodId} {below : List Frame} {meth : Method} {c : Code} {b Ln : Nat} {xs : Nat → Int32} (C0 : lw_At p s m meth c b Ln xs) (hL : Ln ≤ 3072) {D : va_G} {cA : Nat → ClassId} {τ : Nat → Nat} {G : Nat → Nat → Nat} {L : List Nat} {a1 a2 : Nat} (hS : SW τ G L) (h1 : τ a1 = 12) (h2 : τ a2 = 13) (hK : XK D cA s) (hA : ∀ q ∈ L, s.heap.size ≤ q) {σ : Nat → Nat → Int} {H : Heap} {locs : List Loc} (hW : PW D cA τ G L σ H) (hI : FI G a2 σ) (hM : FM (σ (G a2 0))) (hE : σ a1 5 = σ a2 1) (hF : va_S (fun q => s.heap.size ≤ q) s.heap H locs) {i : Int} (i0 : 0 ≤ i) (i6 : i + 6 ≤ (Ln : Int)) {ls : Array Slot} (hl : lv_has ls 4 [(3, .int (jI i)), (2, .ref a2), (1, .ref a1), (0, .ref b)]) {Q : State → Prop} (kk : ∀ (σ : Nat → Nat → Int) (H : Heap) (locs : List Loc), PW D cA τ G L σ H → FI G a2 σ → FM (σ (G a2 0)) → σ a1 5 = σ a2 1 → va_S (fun q => s.heap.size ≤ q) s.heap H locs → W p l e room_1 s m #[Value.ref b] below meth c H locs 224 38112 Q (F0 m 1061 ls [])) : W p l e room_1 s m #[Value.ref b] below meth c H locs 224 38112 Q (F0 m 854 ls []) := by
  obtain ⟨hx, hb, hr, hml, hown, hts0, hX, hbl, hlocks, hgv⟩ := id C0
  have hown : s.vm.findClass RL = some m.cls := hown
  have hts : ∀ w ∈ wsLW, w.before #[Value.ref b] s = true := fun w h => hts0 w (wsLW_in w h)
  have hbA : ¬ (fun q : Nat => s.heap.size ≤ q) b := Nat.not_le.mpr hbl
  have hF0 := hF
  refine lv_aload_n hx hb dL_law_854 rfl (lv_at hl 2 rfl) ?_
  refine lv_aload_n hx hb dL_law_855 rfl (lv_at hl 3 rfl) ?_
  refine lv_iload_n hx hb dL_law_856 rfl (lv_at hl 0 rfl) ?_
  refine j_const hx hb dL_law_857 ?_
  refine j_add hx hb dL_law_858 ?_
  refine va_sld hx hb hX hbl hbA hF (jI_in (by omega) (by omega) (by omega)) dL_law_859 (j_raw fun z1 rz1 ez1 => ?_)
  refine j_cI (j_runV (As := [.int (jI z1)]) (rest := []) hx hb hml hown hts hK hS hW (kX11_foundAt l hS σ (a0 := a1) (h0 := h1) (x1 := z1) (r1 := (by omega))) 1 gL_law_X11_foundAt rfl hvX11_foundAt ⟨Nat.le_of_ble_eq_true rfl, Nat.le_of_ble_eq_true rfl⟩ rfl rfl h1 rfl rfl rfl rfl hl.1 rfl (Nat.le_of_ble_eq_true rfl) dL_law_860 ⟨Nat.le_of_ble_eq_true rfl, Nat.le_of_ble_eq_true rfl⟩) hA hF (fun v2 σ3 H locs hW hF rv2 pv2 => ?_)
  try dsimp only at pv2
  obtain ⟨pv2, fv2⟩ := pv2
  have hM := FM_dep hS h2 hM (kp_fr fv2 (by decide))
  have hI := FI_dep hS h2 hI (kp_fr fv2 (by decide))
  have hu3 := fr_at fv2 h2 1 13001 rfl (by decide)
  have hE := (fr_at fv2 h1 5 12005 rfl (by decide)).trans (hE.trans hu3.symm)
  refine lv_pop hx hb dL_law_863 rfl ?_
  refine lv_aload_n hx hb dL_law_864 rfl (lv_at hl 1 rfl) ?_
  refine lv_aload_n hx hb dL_law_865 rfl (lv_at hl 3 rfl) ?_
  refine lv_iload_n hx hb dL_law_866 rfl (lv_at hl 0 rfl) ?_
  refine j_const hx hb dL_law_867 ?_
  refine j_add hx hb dL_law_868 ?_
  refine va_sld hx hb hX hbl hbA hF (jI_in (by omega) (by omega) (by omega)) dL_law_869 (j_raw fun z4 rz4 ez4 => ?_)
  have uz4 : z4 = z1 := ez4.trans ez1.symm
  refine j_cI (j_runV (As := [.int (jI z4)]) (rest := []) hx hb hml hown hts hK hS hW (kX12_foundAt l hS σ3 (a0 := a2) (h0 := h2) (x1 := z4) (r1 := (by omega)) (hI := hI)) 1 gL_law_X12_foundAt rfl hvX12_foundAt ⟨Nat.le_of_ble_eq_true rfl, Nat.le_of_ble_eq_true rfl⟩ rfl rfl h2 rfl rfl rfl rfl hl.1 rfl (Nat.le_of_ble_eq_true rfl) dL_law_870 ⟨Nat.le_of_ble_eq_true rfl, Nat.le_of_ble_eq_true rfl⟩) hA hF (fun v5 σ6 H locs hW hF rv5 pv5 => ?_)
  try dsimp only at pv5
  obtain ⟨pv5, fv5⟩ := pv5
  have hM := FM_dep hS h2 hM (kp_fr fv5 (by decide))
  have hI := FI_dep hS h2 hI (kp_fr fv5 (by decide))
  have hu3 := fr_at fv5 h2 1 13001 rfl (by decide)
  have hE := (fr_at fv5 h1 5 12005 rfl (by decide)).trans (hE.trans hu3.symm)
  refine lv_pop hx hb dL_law_873 rfl ?_
  refine lv_goto (tgt := 1061) hx hb dL_law_874 (by decide) ?_
  exact kk _ _ _ hW hI hM hE hF
set_option maxHeartbeats 4000000 in
set_option maxRecDepth 100000 in
theorem law_c23 (l : Launch) {p : Program} {e : Env} {s : State} {m : MethodId} {below : List Frame} {meth : Method} {c : Code} {b Ln : Nat} {xs : Nat → Int32} (C0 : lw_At p s m meth c b Ln xs) (hL : Ln ≤ 3072) {D : va_G} {cA : Nat → ClassId} {τ : Nat → Nat} {G : Nat → Nat → Nat} {L : List Nat} {a1 a2 : Nat} (hS : SW τ G L) (h1 : τ a1 = 12) (h2 : τ a2 = 13) (hK : XK D cA s) (hA : ∀ q ∈ L, s.heap.size ≤ q) {σ : Nat → Nat → Int} {H : Heap} {locs : List Loc} (hW : PW D cA τ G L σ H) (hI : FI G a2 σ) (hM : FM (σ (G a2 0))) (hE : σ a1 5 = σ a2 1) (hF : va_S (fun q => s.heap.size ≤ q) s.heap H locs) {i : Int} (i0 : 0 ≤ i) (i6 : i + 6 ≤ (Ln : Int)) {ls : Array Slot} (hl : lv_has ls 4 [(3, .int (jI i)), (2, .ref a2), (1, .ref a1), (0, .ref b)]) {Q : State → Prop} (kk : ∀ (σ : Nat → Nat → Int) (H : Heap) (locs : List Loc), PW D cA τ G L σ H → FI G a2 σ → FM (σ (G a2 0)) → σ a1 5 = σ a2 1 → va_S (fun q => s.heap.size ≤ q) s.heap H locs → W p l e room_1 s m #[Value.ref b] below meth c H locs 224 38112 Q (F0 m 1061 ls [])) : W p l e room_1 s m #[Value.ref b] below meth c H locs 224 38112 Q (F0 m 877 ls []) := by
  obtain ⟨hx, hb, hr, hml, hown, hts0, hX, hbl, hlocks, hgv⟩ := id C0
  have hown : s.vm.findClass RL = some m.cls := hown
  have hts : ∀ w ∈ wsLW, w.before #[Value.ref b] s = true := fun w h => hts0 w (wsLW_in w h)
  have hbA : ¬ (fun q : Nat => s.heap.size ≤ q) b := Nat.not_le.mpr hbl
  have hF0 := hF
  refine lv_aload_n hx hb dL_law_877 rfl (lv_at hl 2 rfl) ?_
  refine j_cI (j_runV (As := []) (rest := []) hx hb hml hown hts hK hS hW (kX11_takeFound l hS σ (a0 := a1) (h0 := h1)) 0 gL_law_X11_takeFound rfl hvX11_takeFound ⟨Nat.le_of_ble_eq_true rfl, Nat.le_of_ble_eq_true rfl⟩ rfl rfl h1 rfl rfl rfl rfl hl.1 rfl (Nat.le_of_ble_eq_true rfl) dL_law_878 ⟨Nat.le_of_ble_eq_true rfl, Nat.le_of_ble_eq_true rfl⟩) hA hF (fun v1 σ2 H locs hW hF rv1 pv1 => ?_)
  try dsimp only at pv1
  obtain ⟨pv1, fv1⟩ := pv1
  have hM := FM_dep hS h2 hM (kp_fr fv1 (by decide))
  have hI := FI_dep hS h2 hI (kp_fr fv1 (by decide))
  have hu3 := fr_at fv1 h2 1 13001 rfl (by decide)
  have hE := (fr_at fv1 h1 5 12005 rfl (by decide)).trans (hE.trans hu3.symm)
  refine lv_pop hx hb dL_law_881 rfl ?_
  refine lv_aload_n hx hb dL_law_882 rfl (lv_at hl 1 rfl) ?_
  refine j_cI (j_runV (As := []) (rest := []) hx hb hml hown hts hK hS hW (kX12_takeFound l hS σ2 (a0 := a2) (h0 := h2) (hI := hI) (q0 := hM)) 0 gL_law_X12_takeFound rfl hvX12_takeFound ⟨Nat.le_of_ble_eq_true rfl, Nat.le_of_ble_eq_true rfl⟩ rfl rfl h2 rfl rfl rfl rfl hl.1 rfl (Nat.le_of_ble_eq_true rfl) dL_law_883 ⟨Nat.le_of_ble_eq_true rfl, Nat.le_of_ble_eq_true rfl⟩) hA hF (fun v3 σ4 H locs hW hF rv3 pv3 => ?_)
  try dsimp only at pv3
  obtain ⟨pv3, fv3⟩ := pv3
  have hI := pv3.1
  have hM := pv3.2
  have hu3 := fr_at fv3 h2 1 13001 rfl (by decide)
  have hE := (fr_at fv3 h1 5 12005 rfl (by decide)).trans (hE.trans hu3.symm)
  refine lv_pop hx hb dL_law_886 rfl ?_
  refine lv_goto (tgt := 1061) hx hb dL_law_887 (by decide) ?_
  exact kk _ _ _ hW hI hM hE hF
