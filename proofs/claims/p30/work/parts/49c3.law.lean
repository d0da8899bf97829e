set_option maxHeartbeats 4000000 in
set_option maxRecDepth 100000 in
theorem law_c24 (l : Launch) {p : Program} {e : Env} {s : State} {m : MethodId} {below : List Frame} {meth : Method} {c : Code} {b Ln : Nat} {xs : Nat → Int32} (C0 : lw_At p s m meth c b Ln xs) (hL : Ln ≤ 3072) {D : va_G} {cA : Nat → ClassId} {τ : Nat → Nat} {G : Nat → Nat → Nat} {L : List Nat} {a1 a2 : Nat} (hS : SW τ G L) (h1 : τ a1 = 12) (h2 : τ a2 = 13) (hK : XK D cA s) (hA : ∀ q ∈ L, s.heap.size ≤ q) {σ : Nat → Nat → Int} {H : Heap} {locs : List Loc} (hW : PW D cA τ G L σ H) (hI : FI G a2 σ) (hM : FM (σ (G a2 0))) (hE : σ a1 5 = σ a2 1) (hF : va_S (fun q => s.heap.size ≤ q) s.heap H locs) {i : Int} (i0 : 0 ≤ i) (i6 : i + 6 ≤ (Ln : Int)) {ls : Array Slot} (hl : lv_has ls 4 [(3, .int (jI i)), (2, .ref a2), (1, .ref a1), (0, .ref b)]) {Q : State → Prop} (kk : ∀ (σ : Nat → Nat → Int) (H : Heap) (locs : List Loc), PW D cA τ G L σ H → FI G a2 σ → FM (σ (G a2 0)) → σ a1 5 = σ a2 1 → va_S (fun q => s.heap.size ≤ q) s.heap H locs → W p l e room_1 s m #[Value.ref b] below meth c H locs 224 38112 Q (F0 m 1061 ls [])) : W p l e room_1 s m #[Value.ref b] below meth c H locs 224 38112 Q (F0 m 890 ls []) := by
  obtain ⟨hx, hb, hr, hml, hown, hts0, hX, hbl, hlocks, hgv⟩ := id C0
  have hown : s.vm.findClass RL = some m.cls := hown
  have hts : ∀ w ∈ wsLW, w.before #[Value.ref b] s = true := fun w h => hts0 w (wsLW_in w h)
  have hbA : ¬ (fun q : Nat => s.heap.size ≤ q) b := Nat.not_le.mpr hbl
  have hF0 := hF
  refine lv_aload_n hx hb dL_law_890 rfl (lv_at hl 2 rfl) ?_
  refine lv_aload_n hx hb dL_law_891 rfl (lv_at hl 3 rfl) ?_
  refine lv_iload_n hx hb dL_law_892 rfl (lv_at hl 0 rfl) ?_
  refine j_const hx hb dL_law_893 ?_
  refine j_add hx hb dL_law_894 ?_
  refine va_sld hx hb hX hbl hbA hF (jI_in (by omega) (by omega) (by omega)) dL_law_895 (j_raw fun z1 rz1 ez1 => ?_)
  refine lv_aload_n hx hb dL_law_896 rfl (lv_at hl 3 rfl) ?_
  refine lv_iload_n hx hb dL_law_897 rfl (lv_at hl 0 rfl) ?_
  refine j_const hx hb dL_law_898 ?_
  refine j_add hx hb dL_law_899 ?_
  refine va_sld hx hb hX hbl hbA hF (jI_in (by omega) (by omega) (by omega)) dL_law_900 (j_raw fun z2 rz2 ez2 => ?_)
  refine j_cI (j_runV (As := [.int (jI z1), .int (jI z2)]) (rest := []) hx hb hml hown hts hK hS hW (kX11_change l hS σ (a0 := a1) (h0 := h1) (x1 := z1) (r1 := (by omega)) (x2 := z2) (r2 := (by omega))) 2 gL_law_X11_change rfl hvX11_change ⟨Nat.le_of_ble_eq_true rfl, Nat.le_of_ble_eq_true rfl⟩ rfl rfl h1 rfl rfl rfl rfl hl.1 rfl (Nat.le_of_ble_eq_true rfl) dL_law_901 ⟨Nat.le_of_ble_eq_true rfl, Nat.le_of_ble_eq_true rfl⟩) hA hF (fun v3 σ4 H locs hW hF rv3 pv3 => ?_)
  try dsimp only at pv3
  obtain ⟨pv3, fv3⟩ := pv3
  have hM := FM_dep hS h2 hM (kp_fr fv3 (by decide))
  have hI := FI_dep hS h2 hI (kp_fr fv3 (by decide))
  have hu3 := fr_at fv3 h2 1 13001 rfl (by decide)
  have hE := (fr_at fv3 h1 5 12005 rfl (by decide)).trans (hE.trans hu3.symm)
  refine lv_pop hx hb dL_law_904 rfl ?_
  refine lv_aload_n hx hb dL_law_905 rfl (lv_at hl 1 rfl) ?_
  refine lv_aload_n hx hb dL_law_906 rfl (lv_at hl 3 rfl) ?_
  refine lv_iload_n hx hb dL_law_907 rfl (lv_at hl 0 rfl) ?_
  refine j_const hx hb dL_law_908 ?_
  refine j_add hx hb dL_law_909 ?_
  refine va_sld hx hb hX hbl hbA hF (jI_in (by omega) (by omega) (by omega)) dL_law_910 (j_raw fun z5 rz5 ez5 => ?_)
  have uz5 : z5 = z1 := ez5.trans ez1.symm
  refine lv_aload_n hx hb dL_law_911 rfl (lv_at hl 3 rfl) ?_
  refine lv_iload_n hx hb dL_law_912 rfl (lv_at hl 0 rfl) ?_
  refine j_const hx hb dL_law_913 ?_
  refine j_add hx hb dL_law_914 ?_
  refine va_sld hx hb hX hbl hbA hF (jI_in (by omega) (by omega) (by omega)) dL_law_915 (j_raw fun z6 rz6 ez6 => ?_)
  have uz6 : z6 = z2 := ez6.trans ez2.symm
  refine j_cI (j_runV (As := [.int (jI z5), .int (jI z6)]) (rest := []) hx hb hml hown hts hK hS hW (kX12_change l hS σ4 (a0 := a2) (h0 := h2) (x1 := z5) (r1 := (by omega)) (x2 := z6) (r2 := (by omega)) (hI := hI) (q0 := hM)) 2 gL_law_X12_change rfl hvX12_change ⟨Nat.le_of_ble_eq_true rfl, Nat.le_of_ble_eq_true rfl⟩ rfl rfl h2 rfl rfl rfl rfl hl.1 rfl (Nat.le_of_ble_eq_true rfl) dL_law_916 ⟨Nat.le_of_ble_eq_true rfl, Nat.le_of_ble_eq_true rfl⟩) hA hF (fun v7 σ8 H locs hW hF rv7 pv7 => ?_)
  try dsimp only at pv7
  obtain ⟨pv7, fv7⟩ := pv7
  have hI := pv7.1
  have hM := pv7.2
  have hu3 := fr_at fv7 h2 1 13001 rfl (by decide)
  have hE := (fr_at fv7 h1 5 12005 rfl (by decide)).trans (hE.trans hu3.symm)
  refine lv_pop hx hb dL_law_919 rfl ?_
  refine lv_goto (tgt := 1061) hx hb dL_law_920 (by decide) ?_
  exact kk _ _ _ hW hI hM hE hF
set_option maxHeartbeats 4000000 in
set_option maxRecDepth 100000 in
theorem law_c25 (l : Launch) {p : Program} {e : Env} {s : State} {m : MethodId} {below : List Frame} {meth : Method} {c : Code} {b Ln : Nat} {xs : Nat → Int32} (C0 : lw_At p s m meth c b Ln xs) (hL : Ln ≤ 3072) {D : va_G} {cA : Nat → ClassId} {τ : Nat → Nat} {G : Nat → Nat → Nat} {L : List Nat} {a1 a2 : Nat} (hS : SW τ G L) (h1 : τ a1 = 12) (h2 : τ a2 = 13) (hK : XK D cA s) (hA : ∀ q ∈ L, s.heap.size ≤ q) {σ : Nat → Nat → Int} {H : Heap} {locs : List Loc} (hW : PW D cA τ G L σ H) (hI : FI G a2 σ) (hM : FM (σ (G a2 0))) (hE : σ a1 5 = σ a2 1) (hF : va_S (fun q => s.heap.size ≤ q) s.heap H locs) {i : Int} (i0 : 0 ≤ i) (i6 : i + 6 ≤ (Ln : Int)) {ls : Array Slot} (hl : lv_has ls 4 [(3, .int (jI i)), (2, .ref a2), (1, .ref a1), (0, .ref b)]) {Q : State → Prop} (kk : ∀ (σ : Nat → Nat → Int) (H : Heap) (locs : List Loc), PW D cA τ G L σ H → FI G a2 σ → FM (σ (G a2 0)) → σ a1 5 = σ a2 1 → va_S (fun q => s.heap.size ≤ q) s.heap H locs → W p l e room_1 s m #[Value.ref b] below meth c H locs 224 38112 Q (F0 m 1061 ls [])) : W p l e room_1 s m #[Value.ref b] below meth c H locs 224 38112 Q (F0 m 923 ls []) := by
  obtain ⟨hx, hb, hr, hml, hown, hts0, hX, hbl, hlocks, hgv⟩ := id C0
  have hown : s.vm.findClass RL = some m.cls := hown
  have hts : ∀ w ∈ wsLW, w.before #[Value.ref b] s = true := fun w h => hts0 w (wsLW_in w h)
  have hbA : ¬ (fun q : Nat => s.heap.size ≤ q) b := Nat.not_le.mpr hbl
  have hF0 := hF
  refine lv_aload_n hx hb dL_law_923 rfl (lv_at hl 2 rfl) ?_
  refine lv_aload_n hx hb dL_law_924 rfl (lv_at hl 3 rfl) ?_
  refine lv_iload_n hx hb dL_law_925 rfl (lv_at hl 0 rfl) ?_
  refine j_const hx hb dL_law_926 ?_
  refine j_add hx hb dL_law_927 ?_
  refine va_sld hx hb hX hbl hbA hF (jI_in (by omega) (by omega) (by omega)) dL_law_928 (j_raw fun z1 rz1 ez1 => ?_)
  refine lv_aload_n hx hb dL_law_929 rfl (lv_at hl 3 rfl) ?_
  refine lv_iload_n hx hb dL_law_930 rfl (lv_at hl 0 rfl) ?_
  refine j_const hx hb dL_law_931 ?_
  refine j_add hx hb dL_law_932 ?_
  refine va_sld hx hb hX hbl hbA hF (jI_in (by omega) (by omega) (by omega)) dL_law_933 (j_raw fun z2 rz2 ez2 => ?_)
  refine lv_aload_n hx hb dL_law_934 rfl (lv_at hl 3 rfl) ?_
  refine lv_iload_n hx hb dL_law_935 rfl (lv_at hl 0 rfl) ?_
  refine j_const hx hb dL_law_936 ?_
  refine j_add hx hb dL_law_937 ?_
  refine va_sld hx hb hX hbl hbA hF (jI_in (by omega) (by omega) (by omega)) dL_law_938 (j_raw fun z3 rz3 ez3 => ?_)
  refine j_cI (j_runV (As := [.int (jI z1), .int (jI z2), .int (jI z3)]) (rest := []) hx hb hml hown hts hK hS hW (kX11_tried l hS σ (a0 := a1) (h0 := h1) (x1 := z1) (r1 := (by omega)) (x2 := z2) (r2 := (by omega)) (x3 := z3) (r3 := (by omega))) 3 gL_law_X11_tried rfl hvX11_tried ⟨Nat.le_of_ble_eq_true rfl, Nat.le_of_ble_eq_true rfl⟩ rfl rfl h1 rfl rfl rfl rfl hl.1 rfl (Nat.le_of_ble_eq_true rfl) dL_law_939 ⟨Nat.le_of_ble_eq_true rfl, Nat.le_of_ble_eq_true rfl⟩) hA hF (fun v4 σ5 H locs hW hF rv4 pv4 => ?_)
  try dsimp only at pv4
  obtain ⟨pv4, fv4⟩ := pv4
  have hM := FM_dep hS h2 hM (kp_fr fv4 (by decide))
  have hI := FI_dep hS h2 hI (kp_fr fv4 (by decide))
  have hu3 := fr_at fv4 h2 1 13001 rfl (by decide)
  have hE := (fr_at fv4 h1 5 12005 rfl (by decide)).trans (hE.trans hu3.symm)
  refine lv_pop hx hb dL_law_942 rfl ?_
  refine lv_aload_n hx hb dL_law_943 rfl (lv_at hl 1 rfl) ?_
  refine lv_aload_n hx hb dL_law_944 rfl (lv_at hl 3 rfl) ?_
  refine lv_iload_n hx hb dL_law_945 rfl (lv_at hl 0 rfl) ?_
  refine j_const hx hb dL_law_946 ?_
  refine j_add hx hb dL_law_947 ?_
  refine va_sld hx hb hX hbl hbA hF (jI_in (by omega) (by omega) (by omega)) dL_law_948 (j_raw fun z6 rz6 ez6 => ?_)
  have uz6 : z6 = z1 := ez6.trans ez1.symm
  refine lv_aload_n hx hb dL_law_949 rfl (lv_at hl 3 rfl) ?_
  refine lv_iload_n hx hb dL_law_950 rfl (lv_at hl 0 rfl) ?_
  refine j_const hx hb dL_law_951 ?_
  refine j_add hx hb dL_law_952 ?_
  refine va_sld hx hb hX hbl hbA hF (jI_in (by omega) (by omega) (by omega)) dL_law_953 (j_raw fun z7 rz7 ez7 => ?_)
  have uz7 : z7 = z2 := ez7.trans ez2.symm
  refine lv_aload_n hx hb dL_law_954 rfl (lv_at hl 3 rfl) ?_
  refine lv_iload_n hx hb dL_law_955 rfl (lv_at hl 0 rfl) ?_
  refine j_const hx hb dL_law_956 ?_
  refine j_add hx hb dL_law_957 ?_
  refine va_sld hx hb hX hbl hbA hF (jI_in (by omega) (by omega) (by omega)) dL_law_958 (j_raw fun z8 rz8 ez8 => ?_)
  have uz8 : z8 = z3 := ez8.trans ez3.symm
  refine j_cI (j_runV (As := [.int (jI z6), .int (jI z7), .int (jI z8)]) (rest := []) hx hb hml hown hts hK hS hW (kX12_tried l hS σ5 (a0 := a2) (h0 := h2) (x1 := z6) (r1 := (by omega)) (x2 := z7) (r2 := (by omega)) (x3 := z8) (r3 := (by omega)) (hI := hI) (q0 := hM)) 3 gL_law_X12_tried rfl hvX12_tried ⟨Nat.le_of_ble_eq_true rfl, Nat.le_of_ble_eq_true rfl⟩ rfl rfl h2 rfl rfl rfl rfl hl.1 rfl (Nat.le_of_ble_eq_true rfl) dL_law_959 ⟨Nat.le_of_ble_eq_true rfl, Nat.le_of_ble_eq_true rfl⟩) hA hF (fun v9 σ10 H locs hW hF rv9 pv9 => ?_)
  try dsimp only at pv9
  obtain ⟨pv9, fv9⟩ := pv9
  have hI := pv9.1
  have hM := pv9.2
  have hu3 := fr_at fv9 h2 1 13001 rfl (by decide)
  have hE := (fr_at fv9 h1 5 12005 rfl (by decide)).trans (hE.trans hu3.symm)
  refine lv_pop hx hb dL_law_962 rfl ?_
  refine lv_goto (tgt := 1061) hx hb dL_law_963 (by decide) ?_
  exact kk _ _ _ hW hI hM hE hF
set_option maxHeartbeats 4000000 in
set_option maxRecDepth 100000 in
theorem law_c26 (l : Launch) {p : Program} {e : Env} {s : State} {m : MethodId} {below : List Frame} {meth : Method} {c : Code} {b Ln : Nat} {xs : Nat → Int32} (C0 : lw_At p s m meth c b Ln xs) (hL : Ln ≤ 3072) {D : va_G} {cA : Nat → ClassId} {τ : Nat → Nat} {G : Nat → Nat → Nat} {L : List Nat} {a1 a2 : Nat} (hS : SW τ G L) (h1 : τ a1 = 12) (h2 : τ a2 = 13) (hK : XK D cA s) (hA : ∀ q ∈ L, s.heap.size ≤ q) {σ : Nat → Nat → Int} {H : Heap} {locs : List Loc} (hW : PW D cA τ G L σ H) (hI : FI G a2 σ) (hM : FM (σ (G a2 0))) (hE : σ a1 5 = σ a2 1) (hF : va_S (fun q => s.heap.size ≤ q) s.heap H locs) {i : Int} (i0 : 0 ≤ i) (i6 : i + 6 ≤ (Ln : Int)) {ls : Array Slot} (hl : lv_has ls 4 [(3, .int (jI i)), (2, .ref a2), (1, .ref a1), (0, .ref b)]) {Q : State → Prop} (kk : ∀ (σ : Nat → Nat → Int) (H : Heap) (locs : List Loc), PW D cA τ G L σ H → FI G a2 σ → FM (σ (G a2 0)) → σ a1 5 = σ a2 1 → va_S (fun q => s.heap.size ≤ q) s.heap H locs → W p l e room_1 s m #[Value.ref b] below meth c H locs 224 38112 Q (F0 m 1061 ls [])) : W p l e room_1 s m #[Value.ref b] below meth c H locs 224 38112 Q (F0 m 966 ls []) := by
  obtain ⟨hx, hb, hr, hml, hown, hts0, hX, hbl, hlocks, hgv⟩ := id C0
  have hown : s.vm.findClass RL = some m.cls := hown
  have hts : ∀ w ∈ wsLW, w.before #[Value.ref b] s = true := fun w h => hts0 w (wsLW_in w h)
  have hbA : ¬ (fun q : Nat => s.heap.size ≤ q) b := Nat.not_le.mpr hbl
  have hF0 := hF
  refine lv_aload_n hx hb dL_law_966 rfl (lv_at hl 2 rfl) ?_
  refine lv_aload_n hx hb dL_law_967 rfl (lv_at hl 3 rfl) ?_
  refine lv_iload_n hx hb dL_law_968 rfl (lv_at hl 0 rfl) ?_
  refine j_const hx hb dL_law_969 ?_
  refine j_add hx hb dL_law_970 ?_
  refine va_sld hx hb hX hbl hbA hF (jI_in (by omega) (by omega) (by omega)) dL_law_971 (j_raw fun z1 rz1 ez1 => ?_)
  refine j_cI (j_runV (As := [.int (jI z1)]) (rest := []) hx hb hml hown hts hK hS hW (kX11_best l hS σ (a0 := a1) (h0 := h1) (x1 := z1) (r1 := (by omega))) 1 gL_law_X11_best rfl hvX11_best ⟨Nat.le_of_ble_eq_true rfl, Nat.le_of_ble_eq_true rfl⟩ rfl rfl h1 rfl rfl rfl rfl hl.1 rfl (Nat.le_of_ble_eq_true rfl) dL_law_972 ⟨Nat.le_of_ble_eq_true rfl, Nat.le_of_ble_eq_true rfl⟩) hA hF (fun v2 σ3 H locs hW hF rv2 pv2 => ?_)
  try dsimp only at pv2
  obtain ⟨pv2, fv2⟩ := pv2
  have hM := FM_dep hS h2 hM (kp_fr fv2 (by decide))
  have hI := FI_dep hS h2 hI (kp_fr fv2 (by decide))
  have hu3 := fr_at fv2 h2 1 13001 rfl (by decide)
  have hE := (fr_at fv2 h1 5 12005 rfl (by decide)).trans (hE.trans hu3.symm)
  refine lv_pop hx hb dL_law_975 rfl ?_
  refine lv_aload_n hx hb dL_law_976 rfl (lv_at hl 1 rfl) ?_
  refine lv_aload_n hx hb dL_law_977 rfl (lv_at hl 3 rfl) ?_
  refine lv_iload_n hx hb dL_law_978 rfl (lv_at hl 0 rfl) ?_
  refine j_const hx hb dL_law_979 ?_
  refine j_add hx hb dL_law_980 ?_
  refine va_sld hx hb hX hbl hbA hF (jI_in (by omega) (by omega) (by omega)) dL_law_981 (j_raw fun z4 rz4 ez4 => ?_)
  have uz4 : z4 = z1 := ez4.trans ez1.symm
  refine j_cI (j_runV (As := [.int (jI z4)]) (rest := []) hx hb hml hown hts hK hS hW (kX12_best l hS σ3 (a0 := a2) (h0 := h2) (x1 := z4) (r1 := (by omega)) (hI := hI) (q0 := hM)) 1 gL_law_X12_best rfl hvX12_best ⟨Nat.le_of_ble_eq_true rfl, Nat.le_of_ble_eq_true rfl⟩ rfl rfl h2 rfl rfl rfl rfl hl.1 rfl (Nat.le_of_ble_eq_true rfl) dL_law_982 ⟨Nat.le_of_ble_eq_true rfl, Nat.le_of_ble_eq_true rfl⟩) hA hF (fun v5 σ6 H locs hW hF rv5 pv5 => ?_)
  try dsimp only at pv5
  obtain ⟨pv5, fv5⟩ := pv5
  have hI := pv5.1
  have hM := pv5.2
  have hu3 := fr_at fv5 h2 1 13001 rfl (by decide)
  have hE := (fr_at fv5 h1 5 12005 rfl (by decide)).trans (hE.trans hu3.symm)
  refine lv_pop hx hb dL_law_985 rfl ?_
  refine lv_goto (tgt := 1061) hx hb dL_law_986 (by decide) ?_
  exact kk _ _ _ hW hI hM hE hF
set_option maxHeartbeats 4000000 in
set_option maxRecDepth 100000 in
theorem law_c27 (l : Launch) {p : Program} {e : Env} {s : State} {m : MethodId} {below : List Frame} {meth : Method} {c : Code} {b Ln : Nat} {xs : Nat → Int32} (C0 : lw_At p s m meth c b Ln xs) (hL : Ln ≤ 3072) {D : va_G} {cA : Nat → ClassId} {τ : Nat → Nat} {G : Nat → Nat → Nat} {L : List Nat} {a1 a2 : Nat} (hS : SW τ G L) (h1 : τ a1 = 12) (h2 : τ a2 = 13) (hK : XK D cA s) (hA : ∀ q ∈ L, s.heap.size ≤ q) {σ : Nat → Nat → Int} {H : Heap} {locs : List Loc} (hW : PW D cA τ G L σ H) (hI : FI G a2 σ) (hM : FM (σ (G a2 0))) (hE : σ a1 5 = σ a2 1) (hF : va_S (fun q => s.heap.size ≤ q) s.heap H locs) {i : Int} (i0 : 0 ≤ i) (i6 : i + 6 ≤ (Ln : Int)) {ls : Array Slot} (hl : lv_has ls 4 [(3, .int (jI i)), (2, .ref a2), (1, .ref a1), (0, .ref b)]) {Q : State → Prop} (kk : ∀ (σ : Nat → Nat → Int) (H : Heap) (locs : List Loc), PW D cA τ G L σ H → FI G a2 σ → FM (σ (G a2 0)) → σ a1 5 = σ a2 1 → va_S (fun q => s.heap.size ≤ q) s.heap H locs → W p l e room_1 s m #[Value.ref b] below meth c H locs 224 38112 Q (F0 m 1061 ls [])) : W p l e room_1 s m #[Value.ref b] below meth c H locs 224 38112 Q (F0 m 989 ls []) := by
  obtain ⟨hx, hb, hr, hml, hown, hts0, hX, hbl, hlocks, hgv⟩ := id C0
  have hown : s.vm.findClass RL = some m.cls := hown
  have hts : ∀ w ∈ wsLW, w.before #[Value.ref b] s = true := fun w h => hts0 w (wsLW_in w h)
  have hbA : ¬ (fun q : Nat => s.heap.size ≤ q) b := Nat.not_le.mpr hbl
  have hF0 := hF
  refine lv_aload_n hx hb dL_law_989 rfl (lv_at hl 2 rfl) ?_
  refine j_cI (j_runV (As := []) (rest := []) hx hb hml hown hts hK hS hW (kX11_keep l hS σ (a0 := a1) (h0 := h1)) 0 gL_law_X11_keep rfl hvX11_keep ⟨Nat.le_of_ble_eq_true rfl, Nat.le_of_ble_eq_true rfl⟩ rfl rfl h1 rfl rfl rfl rfl hl.1 rfl (Nat.le_of_ble_eq_true rfl) dL_law_990 ⟨Nat.le_of_ble_eq_true rfl, Nat.le_of_ble_eq_true rfl⟩) hA hF (fun v1 σ2 H locs hW hF rv1 pv1 => ?_)
  try dsimp only at pv1
  obtain ⟨pv1, fv1⟩ := pv1
  have hM := FM_dep hS h2 hM (kp_fr fv1 (by decide))
  have hI := FI_dep hS h2 hI (kp_fr fv1 (by decide))
  have hE := pv1
  refine lv_pop hx hb dL_law_993 rfl ?_
  refine lv_aload_n hx hb dL_law_994 rfl (lv_at hl 1 rfl) ?_
  refine j_cI (j_runV (As := []) (rest := []) hx hb hml hown hts hK hS hW (kX12_keep l hS σ2 (a0 := a2) (h0 := h2) (hI := hI) (q0 := hM)) 0 gL_law_X12_keep rfl hvX12_keep ⟨Nat.le_of_ble_eq_true rfl, Nat.le_of_ble_eq_true rfl⟩ rfl rfl h2 rfl rfl rfl rfl hl.1 rfl (Nat.le_of_ble_eq_true rfl) dL_law_995 ⟨Nat.le_of_ble_eq_true rfl, Nat.le_of_ble_eq_true rfl⟩) hA hF (fun v3 σ4 H locs hW hF rv3 pv3 => ?_)
  try dsimp only at pv3
  obtain ⟨pv3, fv3⟩ := pv3
  have hI := pv3.1
  have hM := pv3.2.1
  have hE := (fr_at fv3 h1 5 12005 rfl (by decide)).trans (hE.trans (pv3.2.2).symm)
  refine lv_pop hx hb dL_law_998 rfl ?_
  refine lv_goto (tgt := 1061) hx hb dL_law_999 (by decide) ?_
  exact kk _ _ _ hW hI hM hE hF
set_option maxHeartbeats 4000000 in
set_option maxRecDepth 100000 in
theorem law_c28 (l : Launch) {p : Program} {e : Env} {s : State} {m : MethodId} {below : List Frame} {meth : Method} {c : Code} {b Ln : Nat} {xs : Nat → Int32} (C0 : lw_At p s m meth c b Ln xs) (hL : Ln ≤ 3072) {D : va_G} {cA : Nat → ClassId} {τ : Nat → Nat} {G : Nat → Nat → Nat} {L : List Nat} {a1 a2 : Nat} (hS : SW τ G L) (h1 : τ a1 = 12) (h2 : τ a2 = 13) (hK : XK D cA s) (hA : ∀ q ∈ L, s.heap.size ≤ q) {σ : Nat → Nat → Int} {H : Heap} {locs : List Loc} (hW : PW D cA τ G L σ H) (hI : FI G a2 σ) (hM : FM (σ (G a2 0))) (hE : σ a1 5 = σ a2 1) (hF : va_S (fun q => s.heap.size ≤ q) s.heap H locs) {i : Int} (i0 : 0 ≤ i) (i6 : i + 6 ≤ (Ln : Int)) {ls : Array Slot} (hl : lv_has ls 4 [(3, .int (jI i)), (2, .ref a2), (1, .ref a1), (0, .ref b)]) {Q : State → Prop} (kk : ∀ (σ : Nat → Nat → Int) (H : Heap) (locs : List Loc), PW D cA τ G L σ H → FI G a2 σ → FM (σ (G a2 0)) → σ a1 5 = σ a2 1 → va_S (fun q => s.heap.size ≤ q) s.heap H locs → W p l e room_1 s m #[Value.ref b] below meth c H locs 224 38112 Q (F0 m 1061 ls [])) : W p l e room_1 s m #[Value.ref b] below meth c H locs 224 38112 Q (F0 m 1002 ls []) := by
  obtain ⟨hx, hb, hr, hml, hown, hts0, hX, hbl, hlocks, hgv⟩ := id C0
  have hown : s.vm.findClass RL = some m.cls := hown
  have hts : ∀ w ∈ wsLW, w.before #[Value.ref b] s = true := fun w h => hts0 w (wsLW_in w h)
  have hbA : ¬ (fun q : Nat => s.heap.size ≤ q) b := Nat.not_le.mpr hbl
  have hF0 := hF
  refine lv_aload_n hx hb dL_law_1002 rfl (lv_at hl 2 rfl) ?_
  refine j_cI (j_runV (As := []) (rest := []) hx hb hml hown hts hK hS hW (kX11_undo l hS σ (a0 := a1) (h0 := h1)) 0 gL_law_X11_undo rfl hvX11_undo ⟨Nat.le_of_ble_eq_true rfl, Nat.le_of_ble_eq_true rfl⟩ rfl rfl h1 rfl rfl rfl rfl hl.1 rfl (Nat.le_of_ble_eq_true rfl) dL_law_1003 ⟨Nat.le_of_ble_eq_true rfl, Nat.le_of_ble_eq_true rfl⟩) hA hF (fun v1 σ2 H locs hW hF rv1 pv1 => ?_)
  try dsimp only at pv1
  obtain ⟨_, pv1, fv1⟩ := pv1
  have hM := FM_dep hS h2 hM (kp_fr fv1 (by decide))
  have hI := FI_dep hS h2 hI (kp_fr fv1 (by decide))
  have hE0 := hE
  have hu1 := pv1
  have hu3 := fr_at fv1 h2 1 13001 rfl (by decide)
  have hE := (fr_at fv1 h1 5 12005 rfl (by decide)).trans (hE.trans hu3.symm)
  have hu4 := hu3
  refine lv_aload_n hx hb dL_law_1006 rfl (lv_at hl 1 rfl) ?_
  refine j_cI (j_runV (As := []) (rest := [.int (jI v1)]) hx hb hml hown hts hK hS hW (kX12_undo l hS σ2 (a0 := a2) (h0 := h2) (hI := hI) (q0 := hM)) 0 gL_law_X12_undo rfl hvX12_undo ⟨Nat.le_of_ble_eq_true rfl, Nat.le_of_ble_eq_true rfl⟩ rfl rfl h2 rfl rfl rfl rfl hl.1 rfl (Nat.le_of_ble_eq_true rfl) dL_law_1007 ⟨Nat.le_of_ble_eq_true rfl, Nat.le_of_ble_eq_true rfl⟩) hA hF (fun v3 σ4 H locs hW hF rv3 pv3 => ?_)
  try dsimp only at pv3
  obtain ⟨_, pv3, fv3⟩ := pv3
  have hI := pv3.1
  have hM := pv3.2.1
  have hu2 := pv3.2.2
  have hu3 := fr_at fv3 h2 1 13001 rfl (by decide)
  have hE := (fr_at fv3 h1 5 12005 rfl (by decide)).trans (hE.trans hu3.symm)
  refine j_icmp_eq (tgt := 1061) hx hb (by omega) (by omega) dL_law_1010 (by decide) (fun _ => ?_) (fun hne => ?_)
  · exact kk _ _ _ hW hI hM hE hF
  · exfalso; omega
set_option maxHeartbeats 4000000 in
set_option maxRecDepth 100000 in
theorem law_c29 (l : Launch) {p : Program} {e : Env} {s : State} {m : MethodId} {below : List Frame} {meth : Method} {c : Code} {b Ln : Nat} {xs : Nat → Int32} (C0 : lw_At p s m meth c b Ln xs) (hL : Ln ≤ 3072) {D : va_G} {cA : Nat → ClassId} {τ : Nat → Nat} {G : Nat → Nat → Nat} {L : List Nat} {a1 a2 : Nat} (hS : SW τ G L) (h1 : τ a1 = 12) (h2 : τ a2 = 13) (hK : XK D cA s) (hA : ∀ q ∈ L, s.heap.size ≤ q) {σ : Nat → Nat → Int} {H : Heap} {locs : List Loc} (hW : PW D cA τ G L σ H) (hI : FI G a2 σ) (hM : FM (σ (G a2 0))) (hE : σ a1 5 = σ a2 1) (hF : va_S (fun q => s.heap.size ≤ q) s.heap H locs) {i : Int} (i0 : 0 ≤ i) (i6 : i + 6 ≤ (Ln : Int)) {ls : Array Slot} (hl : lv_has ls 4 [(3, .int (jI i)), (2, .ref a2), (1, .ref a1), (0, .ref b)]) {Q : State → Prop} (kk : ∀ (σ : Nat → Nat → Int) (H : Heap) (locs : List Loc), PW D cA τ G L σ H → FI G a2 σ → FM (σ (G a2 0)) → σ a1 5 = σ a2 1 → va_S (fun q => s.heap.size ≤ q) s.heap H locs → W p l e room_1 s m #[Value.ref b] below meth c H locs 224 38112 Q (F0 m 1061 ls [])) : W p l e room_1 s m #[Value.ref b] below meth c H locs 224 38112 Q (F0 m 1015 ls []) := by
  obtain ⟨hx, hb, hr, hml, hown, hts0, hX, hbl, hlocks, hgv⟩ := id C0
  have hown : s.vm.findClass RL = some m.cls := hown
  have hts : ∀ w ∈ wsLW, w.before #[Value.ref b] s = true := fun w h => hts0 w (wsLW_in w h)
  have hbA : ¬ (fun q : Nat => s.heap.size ≤ q) b := Nat.not_le.mpr hbl
  have hF0 := hF
  refine lv_aload_n hx hb dL_law_1015 rfl (lv_at hl 2 rfl) ?_
  refine lv_aload_n hx hb dL_law_1016 rfl (lv_at hl 3 rfl) ?_
  refine lv_iload_n hx hb dL_law_1017 rfl (lv_at hl 0 rfl) ?_
  refine j_const hx hb dL_law_1018 ?_
  refine j_add hx hb dL_law_1019 ?_
  refine va_sld hx hb hX hbl hbA hF (jI_in (by omega) (by omega) (by omega)) dL_law_1020 (j_raw fun z1 rz1 ez1 => ?_)
  refine j_cR (j_runV (As := [.int (jI z1)]) (rest := []) hx hb hml hown hts hK hS hW (kX11_unlike l hS σ (a0 := a1) (h0 := h1) (x1 := z1) (r1 := (by omega))) 1 gL_law_X11_unlike rfl hvX11_unlike ⟨Nat.le_of_ble_eq_true rfl, Nat.le_of_ble_eq_true rfl⟩ rfl rfl h1 rfl rfl rfl rfl hl.1 rfl (Nat.le_of_ble_eq_true rfl) dL_law_1021 ⟨Nat.le_of_ble_eq_true rfl, Nat.le_of_ble_eq_true rfl⟩) (fun v2 rv2 pv2 => ?_)
  refine lv_pop hx hb dL_law_1024 rfl ?_
  refine lv_aload_n hx hb dL_law_1025 rfl (lv_at hl 1 rfl) ?_
  refine lv_aload_n hx hb dL_law_1026 rfl (lv_at hl 3 rfl) ?_
  refine lv_iload_n hx hb dL_law_1027 rfl (lv_at hl 0 rfl) ?_
  refine j_const hx hb dL_law_1028 ?_
  refine j_add hx hb dL_law_1029 ?_
  refine va_sld hx hb hX hbl hbA hF (jI_in (by omega) (by omega) (by omega)) dL_law_1030 (j_raw fun z3 rz3 ez3 => ?_)
  have uz3 : z3 = z1 := ez3.trans ez1.symm
  refine j_cR (j_runV (As := [.int (jI z3)]) (rest := []) hx hb hml hown hts hK hS hW (kX12_unlike l hS σ (a0 := a2) (h0 := h2) (x1 := z3) (r1 := (by omega)) (hI := hI)) 1 gL_law_X12_unlike rfl hvX12_unlike ⟨Nat.le_of_ble_eq_true rfl, Nat.le_of_ble_eq_true rfl⟩ rfl rfl h2 rfl rfl rfl rfl hl.1 rfl (Nat.le_of_ble_eq_true rfl) dL_law_1031 ⟨Nat.le_of_ble_eq_true rfl, Nat.le_of_ble_eq_true rfl⟩) (fun v4 rv4 pv4 => ?_)
  refine lv_pop hx hb dL_law_1034 rfl ?_
  refine lv_goto (tgt := 1061) hx hb dL_law_1035 (by decide) ?_
  exact kk _ _ _ hW hI hM hE hF
set_option maxHeartbeats 4000000 in
set_option maxRecDepth 100000 in
theorem law_c30 (l : Launch) {p : Program} {e : Env} {s : State} {m : MethodId} {below : List Frame} {meth : Method} {c : Code} {b Ln : Nat} {xs : Nat → Int32} (C0 : lw_At p s m meth c b Ln xs) (hL : Ln ≤ 3072) {D : va_G} {cA : Nat → ClassId} {τ : Nat → Nat} {G : Nat → Nat → Nat} {L : List Nat} {a1 a2 : Nat} (hS : SW τ G L) (h1 : τ a1 = 12) (h2 : τ a2 = 13) (hK : XK D cA s) (hA : ∀ q ∈ L, s.heap.size ≤ q) {σ : Nat → Nat → Int} {H : Heap} {locs : List Loc} (hW : PW D cA τ G L σ H) (hI : FI G a2 σ) (hM : FM (σ (G a2 0))) (hE : σ a1 5 = σ a2 1) (hF : va_S (fun q => s.heap.size ≤ q) s.heap H locs) {i : Int} (i0 : 0 ≤ i) (i6 : i + 6 ≤ (Ln : Int)) {ls : Array Slot} (hl : lv_has ls 4 [(3, .int (jI i)), (2, .ref a2), (1, .ref a1), (0, .ref b)]) {Q : State → Prop} (kk : ∀ (σ : Nat → Nat → Int) (H : Heap) (locs : List Loc), PW D cA τ G L σ H → FI G a2 σ → FM (σ (G a2 0)) → σ a1 5 = σ a2 1 → va_S (fun q => s.heap.size ≤ q) s.heap H locs → W p l e room_1 s m #[Value.ref b] below meth c H locs 224 38112 Q (F0 m 1061 ls [])) : W p l e room_1 s m #[Value.ref b] below meth c H locs 224 38112 Q (F0 m 1038 ls []) := by
  obtain ⟨hx, hb, hr, hml, hown, hts0, hX, hbl, hlocks, hgv⟩ := id C0
  have hown : s.vm.findClass RL = some m.cls := hown
  have hts : ∀ w ∈ wsLW, w.before #[Value.ref b] s = true := fun w h => hts0 w (wsLW_in w h)
  have hbA : ¬ (fun q : Nat => s.heap.size ≤ q) b := Nat.not_le.mpr hbl
  have hF0 := hF
  refine lv_aload_n hx hb dL_law_1038 rfl (lv_at hl 2 rfl) ?_
  refine lv_aload_n hx hb dL_law_1039 rfl (lv_at hl 3 rfl) ?_
  refine lv_iload_n hx hb dL_law_1040 rfl (lv_at hl 0 rfl) ?_
  refine j_const hx hb dL_law_1041 ?_
  refine j_add hx hb dL_law_1042 ?_
  refine va_sld hx hb hX hbl hbA hF (jI_in (by omega) (by omega) (by omega)) dL_law_1043 (j_raw fun z1 rz1 ez1 => ?_)
  refine j_cI (j_runV (As := [.int (jI z1)]) (rest := []) hx hb hml hown hts hK hS hW (kX11_check l hS σ (a0 := a1) (h0 := h1) (x1 := z1) (r1 := (by omega))) 1 gL_law_X11_check rfl hvX11_check ⟨Nat.le_of_ble_eq_true rfl, Nat.le_of_ble_eq_true rfl⟩ rfl rfl h1 rfl rfl rfl rfl hl.1 rfl (Nat.le_of_ble_eq_true rfl) dL_law_1044 ⟨Nat.le_of_ble_eq_true rfl, Nat.le_of_ble_eq_true rfl⟩) hA hF (fun v2 σ3 H locs hW hF rv2 pv2 => ?_)
  try dsimp only at pv2
  obtain ⟨pv2, fv2⟩ := pv2
  have hM := FM_dep hS h2 hM (kp_fr fv2 (by decide))
  have hI := FI_dep hS h2 hI (kp_fr fv2 (by decide))
  have hu3 := fr_at fv2 h2 1 13001 rfl (by decide)
  have hE := (fr_at fv2 h1 5 12005 rfl (by decide)).trans (hE.trans hu3.symm)
  refine lv_pop hx hb dL_law_1047 rfl ?_
  refine lv_aload_n hx hb dL_law_1048 rfl (lv_at hl 1 rfl) ?_
  refine lv_aload_n hx hb dL_law_1049 rfl (lv_at hl 3 rfl) ?_
  refine lv_iload_n hx hb dL_law_1050 rfl (lv_at hl 0 rfl) ?_
  refine j_const hx hb dL_law_1051 ?_
  refine j_add hx hb dL_law_1052 ?_
  refine va_sld hx hb hX hbl hbA hF (jI_in (by omega) (by omega) (by omega)) dL_law_1053 (j_raw fun z4 rz4 ez4 => ?_)
  have uz4 : z4 = z1 := ez4.trans ez1.symm
  refine j_cI (j_runV (As := [.int (jI z4)]) (rest := []) hx hb hml hown hts hK hS hW (kX12_check l hS σ3 (a0 := a2) (h0 := h2) (x1 := z4) (r1 := (by omega)) (hI := hI)) 1 gL_law_X12_check rfl hvX12_check ⟨Nat.le_of_ble_eq_true rfl, Nat.le_of_ble_eq_true rfl⟩ rfl rfl h2 rfl rfl rfl rfl hl.1 rfl (Nat.le_of_ble_eq_true rfl) dL_law_1054 ⟨Nat.le_of_ble_eq_true rfl, Nat.le_of_ble_eq_true rfl⟩) hA hF (fun v5 σ6 H locs hW hF rv5 pv5 => ?_)
  try dsimp only at pv5
  obtain ⟨pv5, fv5⟩ := pv5
  have hM := FM_dep hS h2 hM (kp_fr fv5 (by decide))
  have hI := FI_dep hS h2 hI (kp_fr fv5 (by decide))
  have hu3 := fr_at fv5 h2 1 13001 rfl (by decide)
  have hE := (fr_at fv5 h1 5 12005 rfl (by decide)).trans (hE.trans hu3.symm)
  refine lv_pop hx hb dL_law_1057 rfl ?_
  refine lv_goto (tgt := 1061) hx hb dL_law_1058 (by decide) ?_
  exact kk _ _ _ hW hI hM hE hF
