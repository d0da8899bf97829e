theorem inX2_init_X2 : ∀ w ∈ u_ws RX2 TX2 2, w ∈ wsX2_init := mem_r _ [7, 8] rfl
set_option maxHeartbeats 4000000 in
set_option maxRecDepth 100000 in
theorem kX2_init (l : Launch) {D : va_G} {cA : Nat → ClassId} {h0 sz : Nat} : Met l yX2_init wsX2_init ({ frames := 1, cells := 1, slots := 24, locals := 12 }) (nP D cA h0 sz 2 [.null, .int 0] []) (nQ D cA h0 sz (nOK noE h0 3)) 1 24 (aw h0 sz) := by
  refine Met.ofW (cc := cX2_init) (maxL := 1) (ret := none) (by decide +kernel) rfl ?_
  intro p e s m args below meth c s₁ B hml hv
  obtain ⟨rfl, hsz, hP, hK⟩ := hv
  have hx := B.exec
  have hb := B.bytes
  have hr := B.returns
  have hts := atoms_spec (ws := wsX2_init) B.pre
  have hown : s.vm.findClass RX2 = some m.cls := findClass_of_methodNamed B.named
  have hlocks := B.notSynchronized
  have hin0 : meth.name = "<init>" := (name_of_methodNamed B.named B.method).1
  subst hsz
  have hA : ∀ q : Nat, s.heap.size ≤ q → aw h0 s.heap.size q := fun q h => Or.inr h
  have hS : va_S (aw h0 s.heap.size) s.heap s.heap [] := va_S.rf
  have hD : va_D (aw h0 s.heap.size) [(h0, (.inr (2, [.null, .int 0]) : va_E))] := D_iff.mpr ⟨List.nodup_cons.mpr ⟨List.not_mem_nil, List.nodup_nil⟩, fun q hq => by rw [List.mem_singleton.mp hq]; exact Or.inl rfl⟩
  have hok : okL noE [] := okL.nil
  have hl := lv_entry ([.ref h0]) (n := 1) (Nat.le_of_ble_eq_true rfl)
  rw [lg_entry_eq]
  generalize (lg_sl ([.ref h0]) ++ List.replicate (1 - (lg_sl ([.ref h0])).length) Slot.unset).toArray = ls at hl ⊢
  have hl : lv_has ls 1 [(0, .ref h0)] := hl
  have hP : va_P D vwCl ([(h0, .inr (2, [.null, .int 0]))] ++ cW cA []) s.heap := hP
  have hD : va_D (aw h0 s.heap.size) ([(h0, .inr (2, [.null, .int 0]))] ++ cW cA []) := hD
  refine lv_aload_n hx hb dX2_init_0 rfl (lv_at hl 0 rfl) ?_
  refine W.objInit hx hb hown (hts (.methodLink RX2 3 objectInit) (by decide +kernel)) (hts (.instanceMethod objectInit) (by decide +kernel)) (hts _ (List.mem_of_getElem? (i := 3) rfl)) rfl (by rw [hml]; exact hl.1) rfl dX2_init_1 (Nat.le_of_ble_eq_true rfl) (Nat.le_of_ble_eq_true rfl) ?_
  refine W.eq (g2 := F0 m 4 ls []) rfl ?_
  refine lv_aload_n hx hb dX2_init_4 rfl (lv_at hl 0 rfl) ?_
  refine j_bi hx hb dX2_init_5 (by decide) ?_
  refine n_arr (atype := .byte) (ty := .byte) (N' := 24) (ck := 0) (X := [(h0, .inr (2, [.null, .int 0]))]) (cl := []) hx hb (hts (.arrayClass .byte) (by decide +kernel)) rfl hK hP hD hS hA hok 20 rfl rfl ⟨by decide, by decide⟩ (fun _ => rfl) (jI_nlt0 (by omega) (by omega)) ((jI_clamp (by omega)).trans rfl) (Nat.le_of_ble_eq_true rfl) (Nat.le_of_ble_eq_true rfl) (Nat.le_of_ble_eq_true rfl) dX2_init_7 (fun q_1 cl_2 H hok hm k_q_1 hP hD hS => ?_)
  refine va_putF (C := RX2) (T := TX2) (N := 2) (ci := 2) (ty := tyX2 0) (v := .ref q_1) hx hb hts inX2_init_X2 tyX2 tyX2_ok nmX2 hown hK.1.1 hP hD hS 0 rfl rfl 0 (by decide) (hts (.fieldLink RX2 9 "PageTrie$Key" "bytes" "[B") (by decide +kernel)) (fun _ h9 => h9) rfl hin0 rfl (tyX2_ok 0 (by decide)) rfl rfl (Nat.le_of_ble_eq_true rfl) dX2_init_9 (fun H locs hP hD hS => ?_)
  have hP : va_P D vwCl ([(h0, .inr (2, [.ref q_1, .int 0]))] ++ cW cA cl_2) H := hP
  have hD : va_D (aw h0 s.heap.size) ([(h0, .inr (2, [.ref q_1, .int 0]))] ++ cW cA cl_2) := hD
  refine lv_aload_n hx hb dX2_init_12 rfl (lv_at hl 0 rfl) ?_
  refine j_const hx hb dX2_init_13 ?_
  refine va_put (C := RX2) (T := TX2) (N := 2) (ci := 2) (ty := tyX2 1) (v := .int (jI 0)) hx hb hts inX2_init_X2 tyX2 tyX2_ok nmX2 hown hK.1.1 hP hD hS 0 rfl rfl 1 (by decide) (hts (.fieldLink RX2 15 "PageTrie$Key" "length" "I") (by decide +kernel)) (fun _ h9 => h9) rfl (tyX2_ok 1 (by decide)) rfl rfl (Nat.le_of_ble_eq_true rfl) dX2_init_14 (fun H locs hP hD hS => ?_)
  have hP : va_P D vwCl ([(h0, .inr (2, [.ref q_1, .int (jI 0)]))] ++ cW cA cl_2) H := hP
  have hD : va_D (aw h0 s.heap.size) ([(h0, .inr (2, [.ref q_1, .int (jI 0)]))] ++ cW cA cl_2) := hD
  obtain ⟨cl9, hok, hm, k_h0, hP, hD⟩ := n_finO (X := []) (cl := cl_2) (h0 := h0) (ci := 2) (fs := [.ref q_1, .int (jI 0)]) (E := noE) 3 (fun k => [q_1, 0].getD k 0) rfl rfl hP hD hok (fun k t h => match k, h with | 0, h => by cases h; exact Or.inr k_q_1 | 1, h => by cases h | k + 2, h => by simp at h)
  refine W.widen (k := 1) (n := 24) (Nat.le_of_ble_eq_true rfl) (Nat.le_of_ble_eq_true rfl) ?_
  exact W.vret hx hb hr (fun t ht hW => ⟨⟨cl9, rfl, ⟨hok, k_h0⟩, by rw [ht]; exact hP, hD⟩, hS.F ht⟩) hS.2.2 dX2_init_17
theorem inX9_init_X9 : ∀ w ∈ u_ws RX9 TX9 2, w ∈ wsX9_init := mem_r _ [7, 8] rfl
set_option maxHeartbeats 4000000 in
set_option maxRecDepth 100000 in
theorem kX9_init (l : Launch) {D : va_G} {cA : Nat → ClassId} {h0 sz : Nat} : Met l yX9_init wsX9_init ({ frames := 1, cells := 1, slots := 240, locals := 12 }) (nP D cA h0 sz 9 [.null, .int 0] []) (nQ D cA h0 sz (nOK noE h0 10)) 1 240 (aw h0 sz) := by
  refine Met.ofW (cc := cX9_init) (maxL := 1) (ret := none) (by decide +kernel) rfl ?_
  intro p e s m args below meth c s₁ B hml hv
  obtain ⟨rfl, hsz, hP, hK⟩ := hv
  have hx := B.exec
  have hb := B.bytes
  have hr := B.returns
  have hts := atoms_spec (ws := wsX9_init) B.pre
  have hown : s.vm.findClass RX9 = some m.cls := findClass_of_methodNamed B.named
  have hlocks := B.notSynchronized
  have hin0 : meth.name = "<init>" := (name_of_methodNamed B.named B.method).1
  subst hsz
  have hA : ∀ q : Nat, s.heap.size ≤ q → aw h0 s.heap.size q := fun q h => Or.inr h
  have hS : va_S (aw h0 s.heap.size) s.heap s.heap [] := va_S.rf
  have hD : va_D (aw h0 s.heap.size) [(h0, (.inr (9, [.null, .int 0]) : va_E))] := D_iff.mpr ⟨List.nodup_cons.mpr ⟨List.not_mem_nil, List.nodup_nil⟩, fun q hq => by rw [List.mem_singleton.mp hq]; exact Or.inl rfl⟩
  have hok : okL noE [] := okL.nil
  have hl := lv_entry ([.ref h0]) (n := 1) (Nat.le_of_ble_eq_true rfl)
  rw [lg_entry_eq]
  generalize (lg_sl ([.ref h0]) ++ List.replicate (1 - (lg_sl ([.ref h0])).length) Slot.unset).toArray = ls at hl ⊢
  have hl : lv_has ls 1 [(0, .ref h0)] := hl
  have hP : va_P D vwCl ([(h0, .inr (9, [.null, .int 0]))] ++ cW cA []) s.heap := hP
  have hD : va_D (aw h0 s.heap.size) ([(h0, .inr (9, [.null, .int 0]))] ++ cW cA []) := hD
  refine lv_aload_n hx hb dX9_init_0 rfl (lv_at hl 0 rfl) ?_
  refine W.objInit hx hb hown (hts (.methodLink RX9 3 objectInit) (by decide +kernel)) (hts (.instanceMethod objectInit) (by decide +kernel)) (hts _ (List.mem_of_getElem? (i := 3) rfl)) rfl (by rw [hml]; exact hl.1) rfl dX9_init_1 (Nat.le_of_ble_eq_true rfl) (Nat.le_of_ble_eq_true rfl) ?_
  refine W.eq (g2 := F0 m 4 ls []) rfl ?_
  refine lv_aload_n hx hb dX9_init_4 rfl (lv_at hl 0 rfl) ?_
  refine j_si hx hb dX9_init_5 (by decide) ?_
  refine n_arr (atype := .byte) (ty := .byte) (N' := 240) (ck := 0) (X := [(h0, .inr (9, [.null, .int 0]))]) (cl := []) hx hb (hts (.arrayClass .byte) (by decide +kernel)) rfl hK hP hD hS hA hok 21 rfl rfl ⟨by decide, by decide⟩ (fun _ => rfl) (jI_nlt0 (by omega) (by omega)) ((jI_clamp (by omega)).trans rfl) (Nat.le_of_ble_eq_true rfl) (Nat.le_of_ble_eq_true rfl) (Nat.le_of_ble_eq_true rfl) dX9_init_8 (fun q_1 cl_2 H hok hm k_q_1 hP hD hS => ?_)
  refine va_putF (C := RX9) (T := TX9) (N := 2) (ci := 9) (ty := tyX9 0) (v := .ref q_1) hx hb hts inX9_init_X9 tyX9 tyX9_ok nmX9 hown hK.1.1 hP hD hS 0 rfl rfl 0 (by decide) (hts (.fieldLink RX9 9 "PageTrie$Tape" "bytes" "[B") (by decide +kernel)) (fun _ h9 => h9) rfl hin0 rfl (tyX9_ok 0 (by decide)) rfl rfl (Nat.le_of_ble_eq_true rfl) dX9_init_10 (fun H locs hP hD hS => ?_)
  have hP : va_P D vwCl ([(h0, .inr (9, [.ref q_1, .int 0]))] ++ cW cA cl_2) H := hP
  have hD : va_D (aw h0 s.heap.size) ([(h0, .inr (9, [.ref q_1, .int 0]))] ++ cW cA cl_2) := hD
  refine lv_aload_n hx hb dX9_init_13 rfl (lv_at hl 0 rfl) ?_
  refine j_const hx hb dX9_init_14 ?_
  refine va_put (C := RX9) (T := TX9) (N := 2) (ci := 9) (ty := tyX9 1) (v := .int (jI 0)) hx hb hts inX9_init_X9 tyX9 tyX9_ok nmX9 hown hK.1.1 hP hD hS 0 rfl rfl 1 (by decide) (hts (.fieldLink RX9 15 "PageTrie$Tape" "length" "I") (by decide +kernel)) (fun _ h9 => h9) rfl (tyX9_ok 1 (by decide)) rfl rfl (Nat.le_of_ble_eq_true rfl) dX9_init_15 (fun H locs hP hD hS => ?_)
  have hP : va_P D vwCl ([(h0, .inr (9, [.ref q_1, .int (jI 0)]))] ++ cW cA cl_2) H := hP
  have hD : va_D (aw h0 s.heap.size) ([(h0, .inr (9, [.ref q_1, .int (jI 0)]))] ++ cW cA cl_2) := hD
  obtain ⟨cl9, hok, hm, k_h0, hP, hD⟩ := n_finO (X := []) (cl := cl_2) (h0 := h0) (ci := 9) (fs := [.ref q_1, .int (jI 0)]) (E := noE) 10 (fun k => [q_1, 0].getD k 0) rfl rfl hP hD hok (fun k t h => match k, h with | 0, h => by cases h; exact Or.inr k_q_1 | 1, h => by cases h | k + 2, h => by simp at h)
  refine W.widen (k := 1) (n := 240) (Nat.le_of_ble_eq_true rfl) (Nat.le_of_ble_eq_true rfl) ?_
  exact W.vret hx hb hr (fun t ht hW => ⟨⟨cl9, rfl, ⟨hok, k_h0⟩, by rw [ht]; exact hP, hD⟩, hS.F ht⟩) hS.2.2 dX9_init_18
theorem inX7_init_X7 : ∀ w ∈ u_ws RX7 TX7 4, w ∈ wsX7_init := mem_r _ [8, 9, 10, 11] rfl
set_option maxHeartbeats 4000000 in
set_option maxRecDepth 100000 in
theorem kX7_init (l : Launch) {D : va_G} {cA : Nat → ClassId} {h0 sz : Nat} (x1 : Nat) : Met l yX7_init wsX7_init ({ frames := 1, cells := 0, slots := 0, locals := 12 }) (nP D cA h0 sz 7 [.null, .int 0, .int 0, .int 0] [.ref x1]) (nQ D cA h0 sz (nOK (oneE x1 10) h0 8)) 0 0 (aw h0 sz) := by
  refine Met.ofW (cc := cX7_init) (maxL := 2) (ret := none) (by decide +kernel) rfl ?_
  intro p e s m args below meth c s₁ B hml hv
  obtain ⟨rfl, hsz, hP, hK⟩ := hv
  have hx := B.exec
  have hb := B.bytes
  have hr := B.returns
  have hts := atoms_spec (ws := wsX7_init) B.pre
  have hown : s.vm.findClass RX7 = some m.cls := findClass_of_methodNamed B.named
  have hlocks := B.notSynchronized
  have hin0 : meth.name = "<init>" := (name_of_methodNamed B.named B.method).1
  subst hsz
  have hA : ∀ q : Nat, s.heap.size ≤ q → aw h0 s.heap.size q := fun q h => Or.inr h
  have hS : va_S (aw h0 s.heap.size) s.heap s.heap [] := va_S.rf
  have hD : va_D (aw h0 s.heap.size) [(h0, (.inr (7, [.null, .int 0, .int 0, .int 0]) : va_E))] := D_iff.mpr ⟨List.nodup_cons.mpr ⟨List.not_mem_nil, List.nodup_nil⟩, fun q hq => by rw [List.mem_singleton.mp hq]; exact Or.inl rfl⟩
  have hok : okL (oneE x1 10) [] := okL.nil
  have hl := lv_entry ([.ref h0, .ref x1]) (n := 2) (Nat.le_of_ble_eq_true rfl)
  rw [lg_entry_eq]
  generalize (lg_sl ([.ref h0, .ref x1]) ++ List.replicate (2 - (lg_sl ([.ref h0, .ref x1])).length) Slot.unset).toArray = ls at hl ⊢
  have hl : lv_has ls 2 [(0, .ref h0), (1, .ref x1)] := hl
  have hP : va_P D vwCl ([(h0, .inr (7, [.null, .int 0, .int 0, .int 0]))] ++ cW cA []) s.heap := hP
  have hD : va_D (aw h0 s.heap.size) ([(h0, .inr (7, [.null, .int 0, .int 0, .int 0]))] ++ cW cA []) := hD
  refine lv_aload_n hx hb dX7_init_0 rfl (lv_at hl 0 rfl) ?_
  refine W.objInit hx hb hown (hts (.methodLink RX7 3 objectInit) (by decide +kernel)) (hts (.instanceMethod objectInit) (by decide +kernel)) (hts _ (List.mem_of_getElem? (i := 3) rfl)) rfl (by rw [hml]; exact hl.1) rfl dX7_init_1 (Nat.le_of_ble_eq_true rfl) (Nat.le_of_ble_eq_true rfl) ?_
  refine W.eq (g2 := F0 m 4 ls []) rfl ?_
  refine lv_aload_n hx hb dX7_init_4 rfl (lv_at hl 0 rfl) ?_
  refine lv_aload_n hx hb dX7_init_5 rfl (lv_at hl 1 rfl) ?_
  refine va_putF (C := RX7) (T := TX7) (N := 4) (ci := 7) (ty := tyX7 0) (v := .ref x1) hx hb hts inX7_init_X7 tyX7 tyX7_ok nmX7 hown hK.1.1 hP hD hS 0 rfl rfl 0 (by decide) (hts (.fieldLink RX7 9 "PageTrie$Reader" "tape" "LPageTrie$Tape;") (by decide +kernel)) (fun _ h9 => h9) rfl hin0 rfl (tyX7_ok 0 (by decide)) rfl rfl (Nat.le_of_ble_eq_true rfl) dX7_init_6 (fun H locs hP hD hS => ?_)
  have hP : va_P D vwCl ([(h0, .inr (7, [.ref x1, .int 0, .int 0, .int 0]))] ++ cW cA []) H := hP
  have hD : va_D (aw h0 s.heap.size) ([(h0, .inr (7, [.ref x1, .int 0, .int 0, .int 0]))] ++ cW cA []) := hD
  refine lv_aload_n hx hb dX7_init_9 rfl (lv_at hl 0 rfl) ?_
  refine j_const hx hb dX7_init_10 ?_
  refine va_put (C := RX7) (T := TX7) (N := 4) (ci := 7) (ty := tyX7 1) (v := .int (jI 0)) hx hb hts inX7_init_X7 tyX7 tyX7_ok nmX7 hown hK.1.1 hP hD hS 0 rfl rfl 1 (by decide) (hts (.fieldLink RX7 15 "PageTrie$Reader" "at" "I") (by decide +kernel)) (fun _ h9 => h9) rfl (tyX7_ok 1 (by decide)) rfl rfl (Nat.le_of_ble_eq_true rfl) dX7_init_11 (fun H locs hP hD hS => ?_)
  have hP : va_P D vwCl ([(h0, .inr (7, [.ref x1, .int (jI 0), .int 0, .int 0]))] ++ cW cA []) H := hP
  have hD : va_D (aw h0 s.heap.size) ([(h0, .inr (7, [.ref x1, .int (jI 0), .int 0, .int 0]))] ++ cW cA []) := hD
  refine lv_aload_n hx hb dX7_init_14 rfl (lv_at hl 0 rfl) ?_
  refine j_const hx hb dX7_init_15 ?_
  refine va_put (C := RX7) (T := TX7) (N := 4) (ci := 7) (ty := tyX7 2) (v := .int (jI 0)) hx hb hts inX7_init_X7 tyX7 tyX7_ok nmX7 hown hK.1.1 hP hD hS 0 rfl rfl 2 (by decide) (hts (.fieldLink RX7 19 "PageTrie$Reader" "end" "I") (by decide +kernel)) (fun _ h9 => h9) rfl (tyX7_ok 2 (by decide)) rfl rfl (Nat.le_of_ble_eq_true rfl) dX7_init_16 (fun H locs hP hD hS => ?_)
  have hP : va_P D vwCl ([(h0, .inr (7, [.ref x1, .int (jI 0), .int (jI 0), .int 0]))] ++ cW cA []) H := hP
  have hD : va_D (aw h0 s.heap.size) ([(h0, .inr (7, [.ref x1, .int (jI 0), .int (jI 0), .int 0]))] ++ cW cA []) := hD
  refine lv_aload_n hx hb dX7_init_19 rfl (lv_at hl 0 rfl) ?_
  refine j_const hx hb dX7_init_20 ?_
  refine va_put (C := RX7) (T := TX7) (N := 4) (ci := 7) (ty := tyX7 3) (v := .int (jI 0)) hx hb hts inX7_init_X7 tyX7 tyX7_ok nmX7 hown hK.1.1 hP hD hS 0 rfl rfl 3 (by decide) (hts (.fieldLink RX7 22 "PageTrie$Reader" "fault" "I") (by decide +kernel)) (fun _ h9 => h9) rfl (tyX7_ok 3 (by decide)) rfl rfl (Nat.le_of_ble_eq_true rfl) dX7_init_21 (fun H locs hP hD hS => ?_)
  have hP : va_P D vwCl ([(h0, .inr (7, [.ref x1, .int (jI 0), .int (jI 0), .int (jI 0)]))] ++ cW cA []) H := hP
  have hD : va_D (aw h0 s.heap.size) ([(h0, .inr (7, [.ref x1, .int (jI 0), .int (jI 0), .int (jI 0)]))] ++ cW cA []) := hD
  obtain ⟨cl9, hok, hm, k_h0, hP, hD⟩ := n_finO (X := []) (cl := []) (h0 := h0) (ci := 7) (fs := [.ref x1, .int (jI 0), .int (jI 0), .int (jI 0)]) (E := (oneE x1 10)) 8 (fun k => [x1, 0, 0, 0].getD k 0) rfl rfl hP hD hok (fun k t h => match k, h with | 0, h => by cases h; exact Or.inl ⟨rfl, rfl⟩ | 1, h => by cases h | 2, h => by cases h | 3, h => by cases h | k + 4, h => by simp at h)
  refine W.widen (k := 0) (n := 0) (Nat.le_of_ble_eq_true rfl) (Nat.le_of_ble_eq_true rfl) ?_
  exact W.vret hx hb hr (fun t ht hW => ⟨⟨cl9, rfl, ⟨hok, k_h0⟩, by rw [ht]; exact hP, hD⟩, hS.F ht⟩) hS.2.2 dX7_init_24
theorem inX3_init_X3 : ∀ w ∈ u_ws RX3 TX3 4, w ∈ wsX3_init := mem_r _ [10, 11, 12, 13] rfl
set_option maxHeartbeats 4000000 in
set_option maxRecDepth 100000 in
theorem kX3_init (l : Launch) {D : va_G} {cA : Nat → ClassId} {h0 sz : Nat} : Met l yX3_init wsX3_init ({ frames := 1, cells := 3, slots := 3900, locals := 12 }) (nP D cA h0 sz 3 [.null, .null, .null, .int 0] []) (nQ D cA h0 sz (nOK noE h0 4)) 3 3900 (aw h0 sz) := by
  refine Met.ofW (cc := cX3_init) (maxL := 1) (ret := none) (by decide +kernel) rfl ?_
  intro p e s m args below meth c s₁ B hml hv
  obtain ⟨rfl, hsz, hP, hK⟩ := hv
  have hx := B.exec
  have hb := B.bytes
  have hr := B.returns
  have hts := atoms_spec (ws := wsX3_init) B.pre
  have hown : s.vm.findClass RX3 = some m.cls := findClass_of_methodNamed B.named
  have hlocks := B.notSynchronized
  have hin0 : meth.name = "<init>" := (name_of_methodNamed B.named B.method).1
  subst hsz
  have hA : ∀ q : Nat, s.heap.size ≤ q → aw h0 s.heap.size q := fun q h => Or.inr h
  have hS : va_S (aw h0 s.heap.size) s.heap s.heap [] := va_S.rf
  have hD : va_D (aw h0 s.heap.size) [(h0, (.inr (3, [.null, .null, .null, .int 0]) : va_E))] := D_iff.mpr ⟨List.nodup_cons.mpr ⟨List.not_mem_nil, List.nodup_nil⟩, fun q hq => by rw [List.mem_singleton.mp hq]; exact Or.inl rfl⟩
  have hok : okL noE [] := okL.nil
  have hl := lv_entry ([.ref h0]) (n := 1) (Nat.le_of_ble_eq_true rfl)
  rw [lg_entry_eq]
  generalize (lg_sl ([.ref h0]) ++ List.replicate (1 - (lg_sl ([.ref h0])).length) Slot.unset).toArray = ls at hl ⊢
  have hl : lv_has ls 1 [(0, .ref h0)] := hl
  have hP : va_P D vwCl ([(h0, .inr (3, [.null, .null, .null, .int 0]))] ++ cW cA []) s.heap := hP
  have hD : va_D (aw h0 s.heap.size) ([(h0, .inr (3, [.null, .null, .null, .int 0]))] ++ cW cA []) := hD
  refine lv_aload_n hx hb dX3_init_0 rfl (lv_at hl 0 rfl) ?_
  refine W.objInit hx hb hown (hts (.methodLink RX3 3 objectInit) (by decide +kernel)) (hts (.instanceMethod objectInit) (by decide +kernel)) (hts _ (List.mem_of_getElem? (i := 3) rfl)) rfl (by rw [hml]; exact hl.1) rfl dX3_init_1 (Nat.le_of_ble_eq_true rfl) (Nat.le_of_ble_eq_true rfl) ?_
  refine W.eq (g2 := F0 m 4 ls []) rfl ?_
  refine lv_aload_n hx hb dX3_init_4 rfl (lv_at hl 0 rfl) ?_
  refine j_si hx hb dX3_init_5 (by decide) ?_
  refine n_arr (atype := .byte) (ty := .byte) (N' := 3600) (ck := 0) (X := [(h0, .inr (3, [.null, .null, .null, .int 0]))]) (cl := []) hx hb (hts (.arrayClass .byte) (by decide +kernel)) rfl hK hP hD hS hA hok 22 rfl rfl ⟨by decide, by decide⟩ (fun _ => rfl) (jI_nlt0 (by omega) (by omega)) ((jI_clamp (by omega)).trans rfl) (Nat.le_of_ble_eq_true rfl) (Nat.le_of_ble_eq_true rfl) (Nat.le_of_ble_eq_true rfl) dX3_init_8 (fun q_1 cl_2 H hok hm k_q_1 hP hD hS => ?_)
  refine va_putF (C := RX3) (T := TX3) (N := 4) (ci := 3) (ty := tyX3 0) (v := .ref q_1) hx hb hts inX3_init_X3 tyX3 tyX3_ok nmX3 hown hK.1.1 hP hD hS 0 rfl rfl 0 (by decide) (hts (.fieldLink RX3 9 "PageTrie$Keys" "bytes" "[B") (by decide +kernel)) (fun _ h9 => h9) rfl hin0 rfl (tyX3_ok 0 (by decide)) rfl rfl (Nat.le_of_ble_eq_true rfl) dX3_init_10 (fun H locs hP hD hS => ?_)
  have hP : va_P D vwCl ([(h0, .inr (3, [.ref q_1, .null, .null, .int 0]))] ++ cW cA cl_2) H := hP
  have hD : va_D (aw h0 s.heap.size) ([(h0, .inr (3, [.ref q_1, .null, .null, .int 0]))] ++ cW cA cl_2) := hD
  refine lv_aload_n hx hb dX3_init_13 rfl (lv_at hl 0 rfl) ?_
  refine j_si hx hb dX3_init_14 (by decide) ?_
  refine n_arr (atype := .int) (ty := .int) (N' := 150) (ck := 1) (X := [(h0, .inr (3, [.ref q_1, .null, .null, .int 0]))]) (cl := cl_2) hx hb (hts (.arrayClass .int) (by decide +kernel)) rfl hK hP hD hS hA hok 23 rfl rfl ⟨by decide, by decide⟩ (fun _ => rfl) (jI_nlt0 (by omega) (by omega)) ((jI_clamp (by omega)).trans rfl) (Nat.le_of_ble_eq_true rfl) (Nat.le_of_ble_eq_true rfl) (Nat.le_of_ble_eq_true rfl) dX3_init_17 (fun q_3 cl_4 H hok hm k_q_3 hP hD hS => ?_)
  have k_q_1 := hm _ _ k_q_1
  refine va_putF (C := RX3) (T := TX3) (N := 4) (ci := 3) (ty := tyX3 1) (v := .ref q_3) hx hb hts inX3_init_X3 tyX3 tyX3_ok nmX3 hown hK.1.1 hP hD hS 0 rfl rfl 1 (by decide) (hts (.fieldLink RX3 15 "PageTrie$Keys" "lengths" "[I") (by decide +kernel)) (fun _ h9 => h9) rfl hin0 rfl (tyX3_ok 1 (by decide)) rfl rfl (Nat.le_of_ble_eq_true rfl) dX3_init_19 (fun H locs hP hD hS => ?_)
  have hP : va_P D vwCl ([(h0, .inr (3, [.ref q_1, .ref q_3, .null, .int 0]))] ++ cW cA cl_4) H := hP
  have hD : va_D (aw h0 s.heap.size) ([(h0, .inr (3, [.ref q_1, .ref q_3, .null, .int 0]))] ++ cW cA cl_4) := hD
  refine lv_aload_n hx hb dX3_init_22 rfl (lv_at hl 0 rfl) ?_
  refine j_si hx hb dX3_init_23 (by decide) ?_
  refine n_arr (atype := .int) (ty := .int) (N' := 150) (ck := 1) (X := [(h0, .inr (3, [.ref q_1, .ref q_3, .null, .int 0]))]) (cl := cl_4) hx hb (hts (.arrayClass .int) (by decide +kernel)) rfl hK hP hD hS hA hok 24 rfl rfl ⟨by decide, by decide⟩ (fun _ => rfl) (jI_nlt0 (by omega) (by omega)) ((jI_clamp (by omega)).trans rfl) (Nat.le_of_ble_eq_true rfl) (Nat.le_of_ble_eq_true rfl) (Nat.le_of_ble_eq_true rfl) dX3_init_26 (fun q_5 cl_6 H hok hm k_q_5 hP hD hS => ?_)
  have k_q_1 := hm _ _ k_q_1
  have k_q_3 := hm _ _ k_q_3
  refine va_putF (C := RX3) (T := TX3) (N := 4) (ci := 3) (ty := tyX3 2) (v := .ref q_5) hx hb hts inX3_init_X3 tyX3 tyX3_ok nmX3 hown hK.1.1 hP hD hS 0 rfl rfl 2 (by decide) (hts (.fieldLink RX3 19 "PageTrie$Keys" "values" "[I") (by decide +kernel)) (fun _ h9 => h9) rfl hin0 rfl (tyX3_ok 2 (by decide)) rfl rfl (Nat.le_of_ble_eq_true rfl) dX3_init_28 (fun H locs hP hD hS => ?_)
  have hP : va_P D vwCl ([(h0, .inr (3, [.ref q_1, .ref q_3, .ref q_5, .int 0]))] ++ cW cA cl_6) H := hP
  have hD : va_D (aw h0 s.heap.size) ([(h0, .inr (3, [.ref q_1, .ref q_3, .ref q_5, .int 0]))] ++ cW cA cl_6) := hD
  refine lv_aload_n hx hb dX3_init_31 rfl (lv_at hl 0 rfl) ?_
  refine j_const hx hb dX3_init_32 ?_
  refine va_put (C := RX3) (T := TX3) (N := 4) (ci := 3) (ty := tyX3 3) (v := .int (jI 0)) hx hb hts inX3_init_X3 tyX3 tyX3_ok nmX3 hown hK.1.1 hP hD hS 0 rfl rfl 3 (by decide) (hts (.fieldLink RX3 22 "PageTrie$Keys" "size" "I") (by decide +kernel)) (fun _ h9 => h9) rfl (tyX3_ok 3 (by decide)) rfl rfl (Nat.le_of_ble_eq_true rfl) dX3_init_33 (fun H locs hP hD hS => ?_)
  have hP : va_P D vwCl ([(h0, .inr (3, [.ref q_1, .ref q_3, .ref q_5, .int (jI 0)]))] ++ cW cA cl_6) H := hP
  have hD : va_D (aw h0 s.heap.size) ([(h0, .inr (3, [.ref q_1, .ref q_3, .ref q_5, .int (jI 0)]))] ++ cW cA cl_6) := hD
  obtain ⟨cl9, hok, hm, k_h0, hP, hD⟩ := n_finO (X := []) (cl := cl_6) (h0 := h0) (ci := 3) (fs := [.ref q_1, .ref q_3, .ref q_5, .int (jI 0)]) (E := noE) 4 (fun k => [q_1, q_3, q_5, 0].getD k 0) rfl rfl hP hD hok (fun k t h => match k, h with | 0, h => by cases h; exact Or.inr k_q_1 | 1, h => by cases h; exact Or.inr k_q_3 | 2, h => by cases h; exact Or.inr k_q_5 | 3, h => by cases h | k + 4, h => by simp at h)
  refine W.widen (k := 3) (n := 3900) (Nat.le_of_ble_eq_true rfl) (Nat.le_of_ble_eq_true rfl) ?_
  exact W.vret hx hb hr (fun t ht hW => ⟨⟨cl9, rfl, ⟨hok, k_h0⟩, by rw [ht]; exact hP, hD⟩, hS.F ht⟩) hS.2.2 dX3_init_36
theorem inX4_init_X4 : ∀ w ∈ u_ws RX4 TX4 4, w ∈ wsX4_init := mem_r _ [8, 9, 10, 11] rfl
set_option maxHeartbeats 4000000 in
set_option maxRecDepth 100000 in
theorem kX4_init (l : Launch) {D : va_G} {cA : Nat → ClassId} {h0 sz : Nat} (x1 : Nat) : Met l yX4_init wsX4_init ({ frames := 1, cells := 0, slots := 0, locals := 12 }) (nP D cA h0 sz 4 [.null, .int 0, .int 0, .int 0] [.ref x1]) (nQ D cA h0 sz (nOK (oneE x1 11) h0 5)) 0 0 (aw h0 sz) := by
  refine Met.ofW (cc := cX4_init) (maxL := 2) (ret := none) (by decide +kernel) rfl ?_
  intro p e s m args below meth c s₁ B hml hv
  obtain ⟨rfl, hsz, hP, hK⟩ := hv
  have hx := B.exec
  have hb := B.bytes
  have hr := B.returns
  have hts := atoms_spec (ws := wsX4_init) B.pre
  have hown : s.vm.findClass RX4 = some m.cls := findClass_of_methodNamed B.named
  have hlocks := B.notSynchronized
  have hin0 : meth.name = "<init>" := (name_of_methodNamed B.named B.method).1
  subst hsz
  have hA : ∀ q : Nat, s.heap.size ≤ q → aw h0 s.heap.size q := fun q h => Or.inr h
  have hS : va_S (aw h0 s.heap.size) s.heap s.heap [] := va_S.rf
  have hD : va_D (aw h0 s.heap.size) [(h0, (.inr (4, [.null, .int 0, .int 0, .int 0]) : va_E))] := D_iff.mpr ⟨List.nodup_cons.mpr ⟨List.not_mem_nil, List.nodup_nil⟩, fun q hq => by rw [List.mem_singleton.mp hq]; exact Or.inl rfl⟩
  have hok : okL (oneE x1 11) [] := okL.nil
  have hl := lv_entry ([.ref h0, .ref x1]) (n := 2) (Nat.le_of_ble_eq_true rfl)
  rw [lg_entry_eq]
  generalize (lg_sl ([.ref h0, .ref x1]) ++ List.replicate (2 - (lg_sl ([.ref h0, .ref x1])).length) Slot.unset).toArray = ls at hl ⊢
  have hl : lv_has ls 2 [(0, .ref h0), (1, .ref x1)] := hl
  have hP : va_P D vwCl ([(h0, .inr (4, [.null, .int 0, .int 0, .int 0]))] ++ cW cA []) s.heap := hP
  have hD : va_D (aw h0 s.heap.size) ([(h0, .inr (4, [.null, .int 0, .int 0, .int 0]))] ++ cW cA []) := hD
  refine lv_aload_n hx hb dX4_init_0 rfl (lv_at hl 0 rfl) ?_
  refine W.objInit hx hb hown (hts (.methodLink RX4 3 objectInit) (by decide +kernel)) (hts (.instanceMethod objectInit) (by decide +kernel)) (hts _ (List.mem_of_getElem? (i := 3) rfl)) rfl (by rw [hml]; exact hl.1) rfl dX4_init_1 (Nat.le_of_ble_eq_true rfl) (Nat.le_of_ble_eq_true rfl) ?_
  refine W.eq (g2 := F0 m 4 ls []) rfl ?_
  refine lv_aload_n hx hb dX4_init_4 rfl (lv_at hl 0 rfl) ?_
  refine lv_aload_n hx hb dX4_init_5 rfl (lv_at hl 1 rfl) ?_
  refine va_putF (C := RX4) (T := TX4) (N := 4) (ci := 4) (ty := tyX4 0) (v := .ref x1) hx hb hts inX4_init_X4 tyX4 tyX4_ok nmX4 hown hK.1.1 hP hD hS 0 rfl rfl 0 (by decide) (hts (.fieldLink RX4 9 "PageTrie$LayerView" "trie" "LPageTrie$Trie;") (by decide +kernel)) (fun _ h9 => h9) rfl hin0 rfl (tyX4_ok 0 (by decide)) rfl rfl (Nat.le_of_ble_eq_true rfl) dX4_init_6 (fun H locs hP hD hS => ?_)
  have hP : va_P D vwCl ([(h0, .inr (4, [.ref x1, .int 0, .int 0, .int 0]))] ++ cW cA []) H := hP
  have hD : va_D (aw h0 s.heap.size) ([(h0, .inr (4, [.ref x1, .int 0, .int 0, .int 0]))] ++ cW cA []) := hD
  refine lv_aload_n hx hb dX4_init_9 rfl (lv_at hl 0 rfl) ?_
  refine j_const hx hb dX4_init_10 ?_
  refine va_put (C := RX4) (T := TX4) (N := 4) (ci := 4) (ty := tyX4 1) (v := .int (jI 0)) hx hb hts inX4_init_X4 tyX4 tyX4_ok nmX4 hown hK.1.1 hP hD hS 0 rfl rfl 1 (by decide) (hts (.fieldLink RX4 15 "PageTrie$LayerView" "start" "I") (by decide +kernel)) (fun _ h9 => h9) rfl (tyX4_ok 1 (by decide)) rfl rfl (Nat.le_of_ble_eq_true rfl) dX4_init_11 (fun H locs hP hD hS => ?_)
  have hP : va_P D vwCl ([(h0, .inr (4, [.ref x1, .int (jI 0), .int 0, .int 0]))] ++ cW cA []) H := hP
  have hD : va_D (aw h0 s.heap.size) ([(h0, .inr (4, [.ref x1, .int (jI 0), .int 0, .int 0]))] ++ cW cA []) := hD
  refine lv_aload_n hx hb dX4_init_14 rfl (lv_at hl 0 rfl) ?_
  refine j_const hx hb dX4_init_15 ?_
  refine va_put (C := RX4) (T := TX4) (N := 4) (ci := 4) (ty := tyX4 2) (v := .int (jI 0)) hx hb hts inX4_init_X4 tyX4 tyX4_ok nmX4 hown hK.1.1 hP hD hS 0 rfl rfl 2 (by decide) (hts (.fieldLink RX4 19 "PageTrie$LayerView" "depth" "I") (by decide +kernel)) (fun _ h9 => h9) rfl (tyX4_ok 2 (by decide)) rfl rfl (Nat.le_of_ble_eq_true rfl) dX4_init_16 (fun H locs hP hD hS => ?_)
  have hP : va_P D vwCl ([(h0, .inr (4, [.ref x1, .int (jI 0), .int (jI 0), .int 0]))] ++ cW cA []) H := hP
  have hD : va_D (aw h0 s.heap.size) ([(h0, .inr (4, [.ref x1, .int (jI 0), .int (jI 0), .int 0]))] ++ cW cA []) := hD
  refine lv_aload_n hx hb dX4_init_19 rfl (lv_at hl 0 rfl) ?_
  refine j_const hx hb dX4_init_20 ?_
  refine va_put (C := RX4) (T := TX4) (N := 4) (ci := 4) (ty := tyX4 3) (v := .int (jI 0)) hx hb hts inX4_init_X4 tyX4 tyX4_ok nmX4 hown hK.1.1 hP hD hS 0 rfl rfl 3 (by decide) (hts (.fieldLink RX4 22 "PageTrie$LayerView" "end" "I") (by decide +kernel)) (fun _ h9 => h9) rfl (tyX4_ok 3 (by decide)) rfl rfl (Nat.le_of_ble_eq_true rfl) dX4_init_21 (fun H locs hP hD hS => ?_)
  have hP : va_P D vwCl ([(h0, .inr (4, [.ref x1, .int (jI 0), .int (jI 0), .int (jI 0)]))] ++ cW cA []) H := hP
  have hD : va_D (aw h0 s.heap.size) ([(h0, .inr (4, [.ref x1, .int (jI 0), .int (jI 0), .int (jI 0)]))] ++ cW cA []) := hD
  obtain ⟨cl9, hok, hm, k_h0, hP, hD⟩ := n_finO (X := []) (cl := []) (h0 := h0) (ci := 4) (fs := [.ref x1, .int (jI 0), .int (jI 0), .int (jI 0)]) (E := (oneE x1 11)) 5 (fun k => [x1, 0, 0, 0].getD k 0) rfl rfl hP hD hok (fun k t h => match k, h with | 0, h => by cases h; exact Or.inl ⟨rfl, rfl⟩ | 1, h => by cases h | 2, h => by cases h | 3, h => by cases h | k + 4, h => by simp at h)
  refine W.widen (k := 0) (n := 0) (Nat.le_of_ble_eq_true rfl) (Nat.le_of_ble_eq_true rfl) ?_
  exact W.vret hx hb hr (fun t ht hW => ⟨⟨cl9, rfl, ⟨hok, k_h0⟩, by rw [ht]; exact hP, hD⟩, hS.F ht⟩) hS.2.2 dX4_init_24
theorem inX1_init_X1 : ∀ w ∈ u_ws RX1 TX1 3, w ∈ wsX1_init := mem_r _ [8, 9, 10] rfl
set_option maxHeartbeats 4000000 in
set_option maxRecDepth 100000 in
theorem kX1_init (l : Launch) {D : va_G} {cA : Nat → ClassId} {h0 sz : Nat} (x1 : Nat) : Met l yX1_init wsX1_init ({ frames := 1, cells := 1, slots := 150, locals := 12 }) (nP D cA h0 sz 1 [.null, .null, .int 0] [.ref x1]) (nQ D cA h0 sz (nOK (oneE x1 4) h0 2)) 1 150 (aw h0 sz) := by
  refine Met.ofW (cc := cX1_init) (maxL := 2) (ret := none) (by decide +kernel) rfl ?_
  intro p e s m args below meth c s₁ B hml hv
  obtain ⟨rfl, hsz, hP, hK⟩ := hv
  have hx := B.exec
  have hb := B.bytes
  have hr := B.returns
  have hts := atoms_spec (ws := wsX1_init) B.pre
  have hown : s.vm.findClass RX1 = some m.cls := findClass_of_methodNamed B.named
  have hlocks := B.notSynchronized
  have hin0 : meth.name = "<init>" := (name_of_methodNamed B.named B.method).1
  subst hsz
  have hA : ∀ q : Nat, s.heap.size ≤ q → aw h0 s.heap.size q := fun q h => Or.inr h
  have hS : va_S (aw h0 s.heap.size) s.heap s.heap [] := va_S.rf
  have hD : va_D (aw h0 s.heap.size) [(h0, (.inr (1, [.null, .null, .int 0]) : va_E))] := D_iff.mpr ⟨List.nodup_cons.mpr ⟨List.not_mem_nil, List.nodup_nil⟩, fun q hq => by rw [List.mem_singleton.mp hq]; exact Or.inl rfl⟩
  have hok : okL (oneE x1 4) [] := okL.nil
  have hl := lv_entry ([.ref h0, .ref x1]) (n := 2) (Nat.le_of_ble_eq_true rfl)
  rw [lg_entry_eq]
  generalize (lg_sl ([.ref h0, .ref x1]) ++ List.replicate (2 - (lg_sl ([.ref h0, .ref x1])).length) Slot.unset).toArray = ls at hl ⊢
  have hl : lv_has ls 2 [(0, .ref h0), (1, .ref x1)] := hl
  have hP : va_P D vwCl ([(h0, .inr (1, [.null, .null, .int 0]))] ++ cW cA []) s.heap := hP
  have hD : va_D (aw h0 s.heap.size) ([(h0, .inr (1, [.null, .null, .int 0]))] ++ cW cA []) := hD
  refine lv_aload_n hx hb dX1_init_0 rfl (lv_at hl 0 rfl) ?_
  refine W.objInit hx hb hown (hts (.methodLink RX1 3 objectInit) (by decide +kernel)) (hts (.instanceMethod objectInit) (by decide +kernel)) (hts _ (List.mem_of_getElem? (i := 3) rfl)) rfl (by rw [hml]; exact hl.1) rfl dX1_init_1 (Nat.le_of_ble_eq_true rfl) (Nat.le_of_ble_eq_true rfl) ?_
  refine W.eq (g2 := F0 m 4 ls []) rfl ?_
  refine lv_aload_n hx hb dX1_init_4 rfl (lv_at hl 0 rfl) ?_
  refine lv_aload_n hx hb dX1_init_5 rfl (lv_at hl 1 rfl) ?_
  refine va_putF (C := RX1) (T := TX1) (N := 3) (ci := 1) (ty := tyX1 0) (v := .ref x1) hx hb hts inX1_init_X1 tyX1 tyX1_ok nmX1 hown hK.1.1 hP hD hS 0 rfl rfl 0 (by decide) (hts (.fieldLink RX1 9 "PageTrie$Found" "keys" "LPageTrie$Keys;") (by decide +kernel)) (fun _ h9 => h9) rfl hin0 rfl (tyX1_ok 0 (by decide)) rfl rfl (Nat.le_of_ble_eq_true rfl) dX1_init_6 (fun H locs hP hD hS => ?_)
  have hP : va_P D vwCl ([(h0, .inr (1, [.ref x1, .null, .int 0]))] ++ cW cA []) H := hP
  have hD : va_D (aw h0 s.heap.size) ([(h0, .inr (1, [.ref x1, .null, .int 0]))] ++ cW cA []) := hD
  refine lv_aload_n hx hb dX1_init_9 rfl (lv_at hl 0 rfl) ?_
  refine j_si hx hb dX1_init_10 (by decide) ?_
  refine n_arr (atype := .int) (ty := .int) (N' := 150) (ck := 1) (X := [(h0, .inr (1, [.ref x1, .null, .int 0]))]) (cl := []) hx hb (hts (.arrayClass .int) (by decide +kernel)) rfl hK hP hD hS hA hok 29 rfl rfl ⟨by decide, by decide⟩ (fun _ => rfl) (jI_nlt0 (by omega) (by omega)) ((jI_clamp (by omega)).trans rfl) (Nat.le_of_ble_eq_true rfl) (Nat.le_of_ble_eq_true rfl) (Nat.le_of_ble_eq_true rfl) dX1_init_13 (fun q_1 cl_2 H hok hm k_q_1 hP hD hS => ?_)
  refine va_putF (C := RX1) (T := TX1) (N := 3) (ci := 1) (ty := tyX1 1) (v := .ref q_1) hx hb hts inX1_init_X1 tyX1 tyX1_ok nmX1 hown hK.1.1 hP hD hS 0 rfl rfl 1 (by decide) (hts (.fieldLink RX1 15 "PageTrie$Found" "row" "[I") (by decide +kernel)) (fun _ h9 => h9) rfl hin0 rfl (tyX1_ok 1 (by decide)) rfl rfl (Nat.le_of_ble_eq_true rfl) dX1_init_15 (fun H locs hP hD hS => ?_)
  have hP : va_P D vwCl ([(h0, .inr (1, [.ref x1, .ref q_1, .int 0]))] ++ cW cA cl_2) H := hP
  have hD : va_D (aw h0 s.heap.size) ([(h0, .inr (1, [.ref x1, .ref q_1, .int 0]))] ++ cW cA cl_2) := hD
  refine lv_aload_n hx hb dX1_init_18 rfl (lv_at hl 0 rfl) ?_
  refine j_const hx hb dX1_init_19 ?_
  refine va_put (C := RX1) (T := TX1) (N := 3) (ci := 1) (ty := tyX1 2) (v := .int (jI 0)) hx hb hts inX1_init_X1 tyX1 tyX1_ok nmX1 hown hK.1.1 hP hD hS 0 rfl rfl 2 (by decide) (hts (.fieldLink RX1 19 "PageTrie$Found" "size" "I") (by decide +kernel)) (fun _ h9 => h9) rfl (tyX1_ok 2 (by decide)) rfl rfl (Nat.le_of_ble_eq_true rfl) dX1_init_20 (fun H locs hP hD hS => ?_)
  have hP : va_P D vwCl ([(h0, .inr (1, [.ref x1, .ref q_1, .int (jI 0)]))] ++ cW cA cl_2) H := hP
  have hD : va_D (aw h0 s.heap.size) ([(h0, .inr (1, [.ref x1, .ref q_1, .int (jI 0)]))] ++ cW cA cl_2) := hD
  obtain ⟨cl9, hok, hm, k_h0, hP, hD⟩ := n_finO (X := []) (cl := cl_2) (h0 := h0) (ci := 1) (fs := [.ref x1, .ref q_1, .int (jI 0)]) (E := (oneE x1 4)) 2 (fun k => [x1, q_1, 0].getD k 0) rfl rfl hP hD hok (fun k t h => match k, h with | 0, h => by cases h; exact Or.inl ⟨rfl, rfl⟩ | 1, h => by cases h; exact Or.inr k_q_1 | 2, h => by cases h | k + 3, h => by simp at h)
  refine W.widen (k := 1) (n := 150) (Nat.le_of_ble_eq_true rfl) (Nat.le_of_ble_eq_true rfl) ?_
  exact W.vret hx hb hr (fun t ht hW => ⟨⟨cl9, rfl, ⟨hok, k_h0⟩, by rw [ht]; exact hP, hD⟩, hS.F ht⟩) hS.2.2 dX1_init_23
theorem inX0_init_X2 : ∀ w ∈ u_ws RX2 TX2 2, w ∈ wsX0_init := mem_r _ [19, 20] rfl
theorem inX0_init_X0 : ∀ w ∈ u_ws RX0 TX0 5, w ∈ wsX0_init := mem_r _ [21, 22, 23, 24, 25] rfl
set_option maxHeartbeats 4000000 in
set_option maxRecDepth 100000 in
theorem kX0_init (l : Launch) {D : va_G} {cA : Nat → ClassId} {h0 sz : Nat} : Met l yX0_init wsX0_init ({ frames := 2, cells := 2, slots := 26, locals := 32 }) (nP D cA h0 sz 0 [.null, .int 0, .int 0, .int 0, .int 0] []) (nQ D cA h0 sz (nOK noE h0 1)) 2 26 (aw h0 sz) := by
  refine Met.ofW (cc := cX0_init) (maxL := 1) (ret := none) (by decide +kernel) rfl ?_
  intro p e s m args below meth c s₁ B hml hv
  obtain ⟨rfl, hsz, hP, hK⟩ := hv
  have hx := B.exec
  have hb := B.bytes
  have hr := B.returns
  have hts := atoms_spec (ws := wsX0_init) B.pre
  have hown : s.vm.findClass RX0 = some m.cls := findClass_of_methodNamed B.named
  have hlocks := B.notSynchronized
  have hin0 : meth.name = "<init>" := (name_of_methodNamed B.named B.method).1
  subst hsz
  have hA : ∀ q : Nat, s.heap.size ≤ q → aw h0 s.heap.size q := fun q h => Or.inr h
  have hS : va_S (aw h0 s.heap.size) s.heap s.heap [] := va_S.rf
  have hD : va_D (aw h0 s.heap.size) [(h0, (.inr (0, [.null, .int 0, .int 0, .int 0, .int 0]) : va_E))] := D_iff.mpr ⟨List.nodup_cons.mpr ⟨List.not_mem_nil, List.nodup_nil⟩, fun q hq => by rw [List.mem_singleton.mp hq]; exact Or.inl rfl⟩
  have hok : okL noE [] := okL.nil
  have hl := lv_entry ([.ref h0]) (n := 1) (Nat.le_of_ble_eq_true rfl)
  rw [lg_entry_eq]
  generalize (lg_sl ([.ref h0]) ++ List.replicate (1 - (lg_sl ([.ref h0])).length) Slot.unset).toArray = ls at hl ⊢
  have hl : lv_has ls 1 [(0, .ref h0)] := hl
  have hP : va_P D vwCl ([(h0, .inr (0, [.null, .int 0, .int 0, .int 0, .int 0]))] ++ cW cA []) s.heap := hP
  have hD : va_D (aw h0 s.heap.size) ([(h0, .inr (0, [.null, .int 0, .int 0, .int 0, .int 0]))] ++ cW cA []) := hD
  refine lv_aload_n hx hb dX0_init_0 rfl (lv_at hl 0 rfl) ?_
  refine W.objInit hx hb hown (hts (.methodLink RX0 3 objectInit) (by decide +kernel)) (hts (.instanceMethod objectInit) (by decide +kernel)) (hts _ (List.mem_of_getElem? (i := 3) rfl)) rfl (by rw [hml]; exact hl.1) rfl dX0_init_1 (Nat.le_of_ble_eq_true rfl) (Nat.le_of_ble_eq_true rfl) ?_
  refine W.eq (g2 := F0 m 4 ls []) rfl ?_
  refine lv_aload_n hx hb dX0_init_4 rfl (lv_at hl 0 rfl) ?_
  refine n_new (C := RX2) (T := TX2) (N := 2) (ci := 2) (fs := [.null, .int 0]) hx hb hts inX0_init_X2 tyX2 tyX2_ok hown (hts (.classLink RX0 9 RX2) (by decide +kernel)) (hts (.instantiable RX2 2) (by decide +kernel)) (hts (.initialized RX2) (by decide +kernel)) hK hP hD hS hA rfl (fun j hj => by rcases (show j = 0 ∨ j = 1 by omega) with rfl | rfl <;> rfl) (Nat.le_of_ble_eq_true rfl) (Nat.le_of_ble_eq_true rfl) dX0_init_5 (fun q_1 H hP hD hS => ?_)
  have hP : va_P D vwCl ([(q_1, .inr (2, [.null, .int 0])), (h0, .inr (0, [.null, .int 0, .int 0, .int 0, .int 0]))] ++ cW cA []) H := hP
  have hD : va_D (aw h0 s.heap.size) ([(q_1, .inr (2, [.null, .int 0])), (h0, .inr (0, [.null, .int 0, .int 0, .int 0, .int 0]))] ++ cW cA []) := hD
  refine lv_dup hx hb dX0_init_8 rfl ?_
  refine n_init (q := q_1) (t := 3) (ci := 2) (X := [(h0, .inr (0, [.null, .int 0, .int 0, .int 0, .int 0]))]) (cl := []) (rest := [.ref q_1, .ref h0]) (As := []) hx hb hml hown hts hK hP hD hS hA hok (kX2_init l) 0 gX0_init_X2_init rfl (hts (.initialized RX2) (by decide +kernel)) (hts (.methodLink RX0 11 yX2_init) (by decide +kernel)) (hts (.instanceMethod yX2_init) (by decide +kernel)) rfl (by decide +kernel) ⟨Nat.le_of_ble_eq_true rfl, Nat.le_of_ble_eq_true rfl⟩ rfl rfl rfl hl.1 rfl (Nat.le_of_ble_eq_true rfl) dX0_init_9 ⟨(Nat.le_of_ble_eq_true rfl), (Nat.le_of_ble_eq_true rfl)⟩ (fun _ _ h => False.elim h) (fun cl_2 H locs hok hm k_q_1 hP hD hS => ?_)
  refine va_putF (C := RX0) (T := TX0) (N := 5) (ci := 0) (ty := tyX0 0) (v := .ref q_1) hx hb hts inX0_init_X0 tyX0 tyX0_ok nmX0 hown hK.1.1 hP hD hS 0 rfl rfl 0 (by decide) (hts (.fieldLink RX0 12 "PageTrie$Cursor" "key" "LPageTrie$Key;") (by decide +kernel)) (fun _ h9 => h9) rfl hin0 rfl (tyX0_ok 0 (by decide)) rfl rfl (Nat.le_of_ble_eq_true rfl) dX0_init_12 (fun H locs hP hD hS => ?_)
  have hP : va_P D vwCl ([(h0, .inr (0, [.ref q_1, .int 0, .int 0, .int 0, .int 0]))] ++ cW cA cl_2) H := hP
  have hD : va_D (aw h0 s.heap.size) ([(h0, .inr (0, [.ref q_1, .int 0, .int 0, .int 0, .int 0]))] ++ cW cA cl_2) := hD
  refine lv_aload_n hx hb dX0_init_15 rfl (lv_at hl 0 rfl) ?_
  refine j_const hx hb dX0_init_16 ?_
  refine va_put (C := RX0) (T := TX0) (N := 5) (ci := 0) (ty := tyX0 1) (v := .int (jI 0)) hx hb hts inX0_init_X0 tyX0 tyX0_ok nmX0 hown hK.1.1 hP hD hS 0 rfl rfl 1 (by decide) (hts (.fieldLink RX0 18 "PageTrie$Cursor" "isTold" "Z") (by decide +kernel)) (fun _ h9 => h9) rfl (tyX0_ok 1 (by decide)) rfl rfl (Nat.le_of_ble_eq_true rfl) dX0_init_17 (fun H locs hP hD hS => ?_)
  have hP : va_P D vwCl ([(h0, .inr (0, [.ref q_1, .int (jI 0), .int 0, .int 0, .int 0]))] ++ cW cA cl_2) H := hP
  have hD : va_D (aw h0 s.heap.size) ([(h0, .inr (0, [.ref q_1, .int (jI 0), .int 0, .int 0, .int 0]))] ++ cW cA cl_2) := hD
  refine lv_aload_n hx hb dX0_init_20 rfl (lv_at hl 0 rfl) ?_
  refine j_const hx hb dX0_init_21 ?_
  refine va_put (C := RX0) (T := TX0) (N := 5) (ci := 0) (ty := tyX0 2) (v := .int (jI 0)) hx hb hts inX0_init_X0 tyX0 tyX0_ok nmX0 hown hK.1.1 hP hD hS 0 rfl rfl 2 (by decide) (hts (.fieldLink RX0 22 "PageTrie$Cursor" "nearSteps" "I") (by decide +kernel)) (fun _ h9 => h9) rfl (tyX0_ok 2 (by decide)) rfl rfl (Nat.le_of_ble_eq_true rfl) dX0_init_22 (fun H locs hP hD hS => ?_)
  have hP : va_P D vwCl ([(h0, .inr (0, [.ref q_1, .int (jI 0), .int (jI 0), .int 0, .int 0]))] ++ cW cA cl_2) H := hP
  have hD : va_D (aw h0 s.heap.size) ([(h0, .inr (0, [.ref q_1, .int (jI 0), .int (jI 0), .int 0, .int 0]))] ++ cW cA cl_2) := hD
  refine lv_aload_n hx hb dX0_init_25 rfl (lv_at hl 0 rfl) ?_
  refine j_const hx hb dX0_init_26 ?_
  refine va_put (C := RX0) (T := TX0) (N := 5) (ci := 0) (ty := tyX0 3) (v := .int (jI 0)) hx hb hts inX0_init_X0 tyX0 tyX0_ok nmX0 hown hK.1.1 hP hD hS 0 rfl rfl 3 (by decide) (hts (.fieldLink RX0 26 "PageTrie$Cursor" "farSteps" "I") (by decide +kernel)) (fun _ h9 => h9) rfl (tyX0_ok 3 (by decide)) rfl rfl (Nat.le_of_ble_eq_true rfl) dX0_init_27 (fun H locs hP hD hS => ?_)
  have hP : va_P D vwCl ([(h0, .inr (0, [.ref q_1, .int (jI 0), .int (jI 0), .int (jI 0), .int 0]))] ++ cW cA cl_2) H := hP
  have hD : va_D (aw h0 s.heap.size) ([(h0, .inr (0, [.ref q_1, .int (jI 0), .int (jI 0), .int (jI 0), .int 0]))] ++ cW cA cl_2) := hD
  refine lv_aload_n hx hb dX0_init_30 rfl (lv_at hl 0 rfl) ?_
  refine j_const hx hb dX0_init_31 ?_
  refine va_put (C := RX0) (T := TX0) (N := 5) (ci := 0) (ty := tyX0 4) (v := .int (jI 0)) hx hb hts inX0_init_X0 tyX0 tyX0_ok nmX0 hown hK.1.1 hP hD hS 0 rfl rfl 4 (by decide) (hts (.fieldLink RX0 29 "PageTrie$Cursor" "lostSteps" "I") (by decide +kernel)) (fun _ h9 => h9) rfl (tyX0_ok 4 (by decide)) rfl rfl (Nat.le_of_ble_eq_true rfl) dX0_init_32 (fun H locs hP hD hS => ?_)
  have hP : va_P D vwCl ([(h0, .inr (0, [.ref q_1, .int (jI 0), .int (jI 0), .int (jI 0), .int (jI 0)]))] ++ cW cA cl_2) H := hP
  have hD : va_D (aw h0 s.heap.size) ([(h0, .inr (0, [.ref q_1, .int (jI 0), .int (jI 0), .int (jI 0), .int (jI 0)]))] ++ cW cA cl_2) := hD
  obtain ⟨cl9, hok, hm, k_h0, hP, hD⟩ := n_finO (X := []) (cl := cl_2) (h0 := h0) (ci := 0) (fs := [.ref q_1, .int (jI 0), .int (jI 0), .int (jI 0), .int (jI 0)]) (E := noE) 1 (fun k => [q_1, 0, 0, 0, 0].getD k 0) rfl rfl hP hD hok (fun k t h => match k, h with | 0, h => by cases h; exact Or.inr k_q_1 | 1, h => by cases h | 2, h => by cases h | 3, h => by cases h | 4, h => by cases h | k + 5, h => by simp at h)
  refine W.widen (k := 2) (n := 26) (Nat.le_of_ble_eq_true rfl) (Nat.le_of_ble_eq_true rfl) ?_
  exact W.vret hx hb hr (fun t ht hW => ⟨⟨cl9, rfl, ⟨hok, k_h0⟩, by rw [ht]; exact hP, hD⟩, hS.F ht⟩) hS.2.2 dX0_init_35
theorem inX10_init_X3 : ∀ w ∈ u_ws RX3 TX3 4, w ∈ wsX10_init := mem_r _ [27, 28, 29, 30] rfl
theorem inX10_init_X10 : ∀ w ∈ u_ws RX10 TX10 9, w ∈ wsX10_init := mem_r _ [31, 32, 33, 34, 35, 36, 37, 38, 39] rfl
set_option maxHeartbeats 4000000 in
set_option maxRecDepth 100000 in
theorem kX10_init (l : Launch) {D : va_G} {cA : Nat → ClassId} {h0 sz : Nat} : Met l yX10_init wsX10_init ({ frames := 2, cells := 6, slots := 4204, locals := 32 }) (nP D cA h0 sz 10 [.null, .int 0, .int 0, .null, .null, .int 0, .int 0, .int 0, .int 0] []) (nQ D cA h0 sz (nOK noE h0 11)) 6 4204 (aw h0 sz) := by
  refine Met.ofW (cc := cX10_init) (maxL := 1) (ret := none) (by decide +kernel) rfl ?_
  intro p e s m args below meth c s₁ B hml hv
  obtain ⟨rfl, hsz, hP, hK⟩ := hv
  have hx := B.exec
  have hb := B.bytes
  have hr := B.returns
  have hts := atoms_spec (ws := wsX10_init) B.pre
  have hown : s.vm.findClass RX10 = some m.cls := findClass_of_methodNamed B.named
  have hlocks := B.notSynchronized
  have hin0 : meth.name = "<init>" := (name_of_methodNamed B.named B.method).1
  subst hsz
  have hA : ∀ q : Nat, s.heap.size ≤ q → aw h0 s.heap.size q := fun q h => Or.inr h
  have hS : va_S (aw h0 s.heap.size) s.heap s.heap [] := va_S.rf
  have hD : va_D (aw h0 s.heap.size) [(h0, (.inr (10, [.null, .int 0, .int 0, .null, .null, .int 0, .int 0, .int 0, .int 0]) : va_E))] := D_iff.mpr ⟨List.nodup_cons.mpr ⟨List.not_mem_nil, List.nodup_nil⟩, fun q hq => by rw [List.mem_singleton.mp hq]; exact Or.inl rfl⟩
  have hok : okL noE [] := okL.nil
  have hl := lv_entry ([.ref h0]) (n := 1) (Nat.le_of_ble_eq_true rfl)
  rw [lg_entry_eq]
  generalize (lg_sl ([.ref h0]) ++ List.replicate (1 - (lg_sl ([.ref h0])).length) Slot.unset).toArray = ls at hl ⊢
  have hl : lv_has ls 1 [(0, .ref h0)] := hl
  have hP : va_P D vwCl ([(h0, .inr (10, [.null, .int 0, .int 0, .null, .null, .int 0, .int 0, .int 0, .int 0]))] ++ cW cA []) s.heap := hP
  have hD : va_D (aw h0 s.heap.size) ([(h0, .inr (10, [.null, .int 0, .int 0, .null, .null, .int 0, .int 0, .int 0, .int 0]))] ++ cW cA []) := hD
  refine lv_aload_n hx hb dX10_init_0 rfl (lv_at hl 0 rfl) ?_
  refine W.objInit hx hb hown (hts (.methodLink RX10 3 objectInit) (by decide +kernel)) (hts (.instanceMethod objectInit) (by decide +kernel)) (hts _ (List.mem_of_getElem? (i := 3) rfl)) rfl (by rw [hml]; exact hl.1) rfl dX10_init_1 (Nat.le_of_ble_eq_true rfl) (Nat.le_of_ble_eq_true rfl) ?_
  refine W.eq (g2 := F0 m 4 ls []) rfl ?_
  refine lv_aload_n hx hb dX10_init_4 rfl (lv_at hl 0 rfl) ?_
  refine n_new (C := RX3) (T := TX3) (N := 4) (ci := 3) (fs := [.null, .null, .null, .int 0]) hx hb hts inX10_init_X3 tyX3 tyX3_ok hown (hts (.classLink RX10 9 RX3) (by decide +kernel)) (hts (.instantiable RX3 4) (by decide +kernel)) (hts (.initialized RX3) (by decide +kernel)) hK hP hD hS hA rfl (fun j hj => by rcases (show j = 0 ∨ j = 1 ∨ j = 2 ∨ j = 3 by omega) with rfl | rfl | rfl | rfl <;> rfl) (Nat.le_of_ble_eq_true rfl) (Nat.le_of_ble_eq_true rfl) dX10_init_5 (fun q_1 H hP hD hS => ?_)
  have hP : va_P D vwCl ([(q_1, .inr (3, [.null, .null, .null, .int 0])), (h0, .inr (10, [.null, .int 0, .int 0, .null, .null, .int 0, .int 0, .int 0, .int 0]))] ++ cW cA []) H := hP
  have hD : va_D (aw h0 s.heap.size) ([(q_1, .inr (3, [.null, .null, .null, .int 0])), (h0, .inr (10, [.null, .int 0, .int 0, .null, .null, .int 0, .int 0, .int 0, .int 0]))] ++ cW cA []) := hD
  refine lv_dup hx hb dX10_init_8 rfl ?_
  refine n_init (q := q_1) (t := 4) (ci := 3) (X := [(h0, .inr (10, [.null, .int 0, .int 0, .null, .null, .int 0, .int 0, .int 0, .int 0]))]) (cl := []) (rest := [.ref q_1, .ref h0]) (As := []) hx hb hml hown hts hK hP hD hS hA hok (kX3_init l) 0 gX10_init_X3_init rfl (hts (.initialized RX3) (by decide +kernel)) (hts (.methodLink RX10 11 yX3_init) (by decide +kernel)) (hts (.instanceMethod yX3_init) (by decide +kernel)) rfl (by decide +kernel) ⟨Nat.le_of_ble_eq_true rfl, Nat.le_of_ble_eq_true rfl⟩ rfl rfl rfl hl.1 rfl (Nat.le_of_ble_eq_true rfl) dX10_init_9 ⟨(Nat.le_of_ble_eq_true rfl), (Nat.le_of_ble_eq_true rfl)⟩ (fun _ _ h => False.elim h) (fun cl_2 H locs hok hm k_q_1 hP hD hS => ?_)
  refine va_putF (C := RX10) (T := TX10) (N := 9) (ci := 10) (ty := tyX10 0) (v := .ref q_1) hx hb hts inX10_init_X10 tyX10 tyX10_ok nmX10 hown hK.1.1 hP hD hS 0 rfl rfl 0 (by decide) (hts (.fieldLink RX10 12 "PageTrie$Trie" "keys" "LPageTrie$Keys;") (by decide +kernel)) (fun _ h9 => h9) rfl hin0 rfl (tyX10_ok 0 (by decide)) rfl rfl (Nat.le_of_ble_eq_true rfl) dX10_init_12 (fun H locs hP hD hS => ?_)
  have hP : va_P D vwCl ([(h0, .inr (10, [.ref q_1, .int 0, .int 0, .null, .null, .int 0, .int 0, .int 0, .int 0]))] ++ cW cA cl_2) H := hP
  have hD : va_D (aw h0 s.heap.size) ([(h0, .inr (10, [.ref q_1, .int 0, .int 0, .null, .null, .int 0, .int 0, .int 0, .int 0]))] ++ cW cA cl_2) := hD
  refine lv_aload_n hx hb dX10_init_15 rfl (lv_at hl 0 rfl) ?_
  refine j_si hx hb dX10_init_16 (by decide) ?_
  refine n_arr (atype := .int) (ty := .int) (N' := 150) (ck := 1) (X := [(h0, .inr (10, [.ref q_1, .int 0, .int 0, .null, .null, .int 0, .int 0, .int 0, .int 0]))]) (cl := cl_2) hx hb (hts (.arrayClass .int) (by decide +kernel)) rfl hK hP hD hS hA hok 25 rfl rfl ⟨by decide, by decide⟩ (fun _ => rfl) (jI_nlt0 (by omega) (by omega)) ((jI_clamp (by omega)).trans rfl) (Nat.le_of_ble_eq_true rfl) (Nat.le_of_ble_eq_true rfl) (Nat.le_of_ble_eq_true rfl) dX10_init_19 (fun q_3 cl_4 H hok hm k_q_3 hP hD hS => ?_)
  have k_q_1 := hm _ _ k_q_1
  refine va_putF (C := RX10) (T := TX10) (N := 9) (ci := 10) (ty := tyX10 3) (v := .ref q_3) hx hb hts inX10_init_X10 tyX10 tyX10_ok nmX10 hown hK.1.1 hP hD hS 0 rfl rfl 3 (by decide) (hts (.fieldLink RX10 18 "PageTrie$Trie" "shared" "[I") (by decide +kernel)) (fun _ h9 => h9) rfl hin0 rfl (tyX10_ok 3 (by decide)) rfl rfl (Nat.le_of_ble_eq_true rfl) dX10_init_21 (fun H locs hP hD hS => ?_)
  have hP : va_P D vwCl ([(h0, .inr (10, [.ref q_1, .int 0, .int 0, .ref q_3, .null, .int 0, .int 0, .int 0, .int 0]))] ++ cW cA cl_4) H := hP
  have hD : va_D (aw h0 s.heap.size) ([(h0, .inr (10, [.ref q_1, .int 0, .int 0, .ref q_3, .null, .int 0, .int 0, .int 0, .int 0]))] ++ cW cA cl_4) := hD
  refine lv_aload_n hx hb dX10_init_24 rfl (lv_at hl 0 rfl) ?_
  refine j_si hx hb dX10_init_25 (by decide) ?_
  refine n_arr (atype := .boolean) (ty := .boolean) (N' := 150) (ck := 2) (X := [(h0, .inr (10, [.ref q_1, .int 0, .int 0, .ref q_3, .null, .int 0, .int 0, .int 0, .int 0]))]) (cl := cl_4) hx hb (hts (.arrayClass .boolean) (by decide +kernel)) rfl hK hP hD hS hA hok 26 rfl rfl ⟨by decide, by decide⟩ (fun _ => rfl) (jI_nlt0 (by omega) (by omega)) ((jI_clamp (by omega)).trans rfl) (Nat.le_of_ble_eq_true rfl) (Nat.le_of_ble_eq_true rfl) (Nat.le_of_ble_eq_true rfl) dX10_init_28 (fun q_5 cl_6 H hok hm k_q_5 hP hD hS => ?_)
  have k_q_1 := hm _ _ k_q_1
  have k_q_3 := hm _ _ k_q_3
  refine va_putF (C := RX10) (T := TX10) (N := 9) (ci := 10) (ty := tyX10 4) (v := .ref q_5) hx hb hts inX10_init_X10 tyX10 tyX10_ok nmX10 hown hK.1.1 hP hD hS 0 rfl rfl 4 (by decide) (hts (.fieldLink RX10 22 "PageTrie$Trie" "opens" "[Z") (by decide +kernel)) (fun _ h9 => h9) rfl hin0 rfl (tyX10_ok 4 (by decide)) rfl rfl (Nat.le_of_ble_eq_true rfl) dX10_init_30 (fun H locs hP hD hS => ?_)
  have hP : va_P D vwCl ([(h0, .inr (10, [.ref q_1, .int 0, .int 0, .ref q_3, .ref q_5, .int 0, .int 0, .int 0, .int 0]))] ++ cW cA cl_6) H := hP
  have hD : va_D (aw h0 s.heap.size) ([(h0, .inr (10, [.ref q_1, .int 0, .int 0, .ref q_3, .ref q_5, .int 0, .int 0, .int 0, .int 0]))] ++ cW cA cl_6) := hD
  refine lv_aload_n hx hb dX10_init_33 rfl (lv_at hl 0 rfl) ?_
  refine j_const hx hb dX10_init_34 ?_
  refine va_put (C := RX10) (T := TX10) (N := 9) (ci := 10) (ty := tyX10 1) (v := .int (jI 4)) hx hb hts inX10_init_X10 tyX10 tyX10_ok nmX10 hown hK.1.1 hP hD hS 0 rfl rfl 1 (by decide) (hts (.fieldLink RX10 26 "PageTrie$Trie" "width" "I") (by decide +kernel)) (fun _ h9 => h9) rfl (tyX10_ok 1 (by decide)) rfl rfl (Nat.le_of_ble_eq_true rfl) dX10_init_35 (fun H locs hP hD hS => ?_)
  have hP : va_P D vwCl ([(h0, .inr (10, [.ref q_1, .int (jI 4), .int 0, .ref q_3, .ref q_5, .int 0, .int 0, .int 0, .int 0]))] ++ cW cA cl_6) H := hP
  have hD : va_D (aw h0 s.heap.size) ([(h0, .inr (10, [.ref q_1, .int (jI 4), .int 0, .ref q_3, .ref q_5, .int 0, .int 0, .int 0, .int 0]))] ++ cW cA cl_6) := hD
  refine lv_aload_n hx hb dX10_init_38 rfl (lv_at hl 0 rfl) ?_
  refine j_const hx hb dX10_init_39 ?_
  refine va_put (C := RX10) (T := TX10) (N := 9) (ci := 10) (ty := tyX10 2) (v := .int (jI 4)) hx hb hts inX10_init_X10 tyX10 tyX10_ok nmX10 hown hK.1.1 hP hD hS 0 rfl rfl 2 (by decide) (hts (.fieldLink RX10 30 "PageTrie$Trie" "room" "I") (by decide +kernel)) (fun _ h9 => h9) rfl (tyX10_ok 2 (by decide)) rfl rfl (Nat.le_of_ble_eq_true rfl) dX10_init_40 (fun H locs hP hD hS => ?_)
  have hP : va_P D vwCl ([(h0, .inr (10, [.ref q_1, .int (jI 4), .int (jI 4), .ref q_3, .ref q_5, .int 0, .int 0, .int 0, .int 0]))] ++ cW cA cl_6) H := hP
  have hD : va_D (aw h0 s.heap.size) ([(h0, .inr (10, [.ref q_1, .int (jI 4), .int (jI 4), .ref q_3, .ref q_5, .int 0, .int 0, .int 0, .int 0]))] ++ cW cA cl_6) := hD
  refine lv_aload_n hx hb dX10_init_43 rfl (lv_at hl 0 rfl) ?_
  refine j_const hx hb dX10_init_44 ?_
  refine va_put (C := RX10) (T := TX10) (N := 9) (ci := 10) (ty := tyX10 5) (v := .int (jI 0)) hx hb hts inX10_init_X10 tyX10 tyX10_ok nmX10 hown hK.1.1 hP hD hS 0 rfl rfl 5 (by decide) (hts (.fieldLink RX10 33 "PageTrie$Trie" "parted" "I") (by decide +kernel)) (fun _ h9 => h9) rfl (tyX10_ok 5 (by decide)) rfl rfl (Nat.le_of_ble_eq_true rfl) dX10_init_45 (fun H locs hP hD hS => ?_)
  have hP : va_P D vwCl ([(h0, .inr (10, [.ref q_1, .int (jI 4), .int (jI 4), .ref q_3, .ref q_5, .int (jI 0), .int 0, .int 0, .int 0]))] ++ cW cA cl_6) H := hP
  have hD : va_D (aw h0 s.heap.size) ([(h0, .inr (10, [.ref q_1, .int (jI 4), .int (jI 4), .ref q_3, .ref q_5, .int (jI 0), .int 0, .int 0, .int 0]))] ++ cW cA cl_6) := hD
  refine lv_aload_n hx hb dX10_init_48 rfl (lv_at hl 0 rfl) ?_
  refine j_const hx hb dX10_init_49 ?_
  refine va_put (C := RX10) (T := TX10) (N := 9) (ci := 10) (ty := tyX10 6) (v := .int (jI 0)) hx hb hts inX10_init_X10 tyX10 tyX10_ok nmX10 hown hK.1.1 hP hD hS 0 rfl rfl 6 (by decide) (hts (.fieldLink RX10 36 "PageTrie$Trie" "joined" "I") (by decide +kernel)) (fun _ h9 => h9) rfl (tyX10_ok 6 (by decide)) rfl rfl (Nat.le_of_ble_eq_true rfl) dX10_init_50 (fun H locs hP hD hS => ?_)
  have hP : va_P D vwCl ([(h0, .inr (10, [.ref q_1, .int (jI 4), .int (jI 4), .ref q_3, .ref q_5, .int (jI 0), .int (jI 0), .int 0, .int 0]))] ++ cW cA cl_6) H := hP
  have hD : va_D (aw h0 s.heap.size) ([(h0, .inr (10, [.ref q_1, .int (jI 4), .int (jI 4), .ref q_3, .ref q_5, .int (jI 0), .int (jI 0), .int 0, .int 0]))] ++ cW cA cl_6) := hD
  refine lv_aload_n hx hb dX10_init_53 rfl (lv_at hl 0 rfl) ?_
  refine j_const hx hb dX10_init_54 ?_
  refine va_put (C := RX10) (T := TX10) (N := 9) (ci := 10) (ty := tyX10 7) (v := .int (jI 0)) hx hb hts inX10_init_X10 tyX10 tyX10_ok nmX10 hown hK.1.1 hP hD hS 0 rfl rfl 7 (by decide) (hts (.fieldLink RX10 39 "PageTrie$Trie" "made" "I") (by decide +kernel)) (fun _ h9 => h9) rfl (tyX10_ok 7 (by decide)) rfl rfl (Nat.le_of_ble_eq_true rfl) dX10_init_55 (fun H locs hP hD hS => ?_)
  have hP : va_P D vwCl ([(h0, .inr (10, [.ref q_1, .int (jI 4), .int (jI 4), .ref q_3, .ref q_5, .int (jI 0), .int (jI 0), .int (jI 0), .int 0]))] ++ cW cA cl_6) H := hP
  have hD : va_D (aw h0 s.heap.size) ([(h0, .inr (10, [.ref q_1, .int (jI 4), .int (jI 4), .ref q_3, .ref q_5, .int (jI 0), .int (jI 0), .int (jI 0), .int 0]))] ++ cW cA cl_6) := hD
  refine lv_aload_n hx hb dX10_init_58 rfl (lv_at hl 0 rfl) ?_
  refine j_const hx hb dX10_init_59 ?_
  refine va_put (C := RX10) (T := TX10) (N := 9) (ci := 10) (ty := tyX10 8) (v := .int (jI 0)) hx hb hts inX10_init_X10 tyX10 tyX10_ok nmX10 hown hK.1.1 hP hD hS 0 rfl rfl 8 (by decide) (hts (.fieldLink RX10 42 "PageTrie$Trie" "folded" "I") (by decide +kernel)) (fun _ h9 => h9) rfl (tyX10_ok 8 (by decide)) rfl rfl (Nat.le_of_ble_eq_true rfl) dX10_init_60 (fun H locs hP hD hS => ?_)
  have hP : va_P D vwCl ([(h0, .inr (10, [.ref q_1, .int (jI 4), .int (jI 4), .ref q_3, .ref q_5, .int (jI 0), .int (jI 0), .int (jI 0), .int (jI 0)]))] ++ cW cA cl_6) H := hP
  have hD : va_D (aw h0 s.heap.size) ([(h0, .inr (10, [.ref q_1, .int (jI 4), .int (jI 4), .ref q_3, .ref q_5, .int (jI 0), .int (jI 0), .int (jI 0), .int (jI 0)]))] ++ cW cA cl_6) := hD
  obtain ⟨cl9, hok, hm, k_h0, hP, hD⟩ := n_finO (X := []) (cl := cl_6) (h0 := h0) (ci := 10) (fs := [.ref q_1, .int (jI 4), .int (jI 4), .ref q_3, .ref q_5, .int (jI 0), .int (jI 0), .int (jI 0), .int (jI 0)]) (E := noE) 11 (fun k => [q_1, 0, 0, q_3, q_5, 0, 0, 0, 0].getD k 0) rfl rfl hP hD hok (fun k t h => match k, h with | 0, h => by cases h; exact Or.inr k_q_1 | 1, h => by cases h | 2, h => by cases h | 3, h => by cases h; exact Or.inr k_q_3 | 4, h => by cases h; exact Or.inr k_q_5 | 5, h => by cases h | 6, h => by cases h | 7, h => by cases h | 8, h => by cases h | k + 9, h => by simp at h)
  refine W.widen (k := 6) (n := 4204) (Nat.le_of_ble_eq_true rfl) (Nat.le_of_ble_eq_true rfl) ?_
  exact W.vret hx hb hr (fun t ht hW => ⟨⟨cl9, rfl, ⟨hok, k_h0⟩, by rw [ht]; exact hP, hD⟩, hS.F ht⟩) hS.2.2 dX10_init_63
theorem inX6_init_X6 : ∀ w ∈ u_ws RX6 TX6 4, w ∈ wsX6_init := mem_r _ [19, 20, 21, 22] rfl
theorem inX6_init_X2 : ∀ w ∈ u_ws RX2 TX2 2, w ∈ wsX6_init := mem_r _ [23, 24] rfl
set_option maxHeartbeats 4000000 in
set_option maxRecDepth 100000 in
theorem kX6_init (l : Launch) {D : va_G} {cA : Nat → ClassId} {h0 sz : Nat} : Met l yX6_init wsX6_init ({ frames := 2, cells := 19, slots := 232, locals := 32 }) (nP D cA h0 sz 6 [.null, .null, .null, .int 0] []) (nQ D cA h0 sz (nOK noE h0 7)) 19 232 (aw h0 sz) := by
  refine Met.ofW (cc := cX6_init) (maxL := 2) (ret := none) (by decide +kernel) rfl ?_
  intro p e s m args below meth c s₁ B hml hv
  obtain ⟨rfl, hsz, hP, hK⟩ := hv
  have hx := B.exec
  have hb := B.bytes
  have hr := B.returns
  have hts := atoms_spec (ws := wsX6_init) B.pre
  have hown : s.vm.findClass RX6 = some m.cls := findClass_of_methodNamed B.named
  have hlocks := B.notSynchronized
  have hin0 : meth.name = "<init>" := (name_of_methodNamed B.named B.method).1
  subst hsz
  have hA : ∀ q : Nat, s.heap.size ≤ q → aw h0 s.heap.size q := fun q h => Or.inr h
  have hS : va_S (aw h0 s.heap.size) s.heap s.heap [] := va_S.rf
  have hD : va_D (aw h0 s.heap.size) [(h0, (.inr (6, [.null, .null, .null, .int 0]) : va_E))] := D_iff.mpr ⟨List.nodup_cons.mpr ⟨List.not_mem_nil, List.nodup_nil⟩, fun q hq => by rw [List.mem_singleton.mp hq]; exact Or.inl rfl⟩
  have hok : okL noE [] := okL.nil
  have hl := lv_entry ([.ref h0]) (n := 2) (Nat.le_of_ble_eq_true rfl)
  rw [lg_entry_eq]
  generalize (lg_sl ([.ref h0]) ++ List.replicate (2 - (lg_sl ([.ref h0])).length) Slot.unset).toArray = ls at hl ⊢
  have hl : lv_has ls 2 [(0, .ref h0)] := hl
  have hP : va_P D vwCl ([(h0, .inr (6, [.null, .null, .null, .int 0]))] ++ cW cA []) s.heap := hP
  have hD : va_D (aw h0 s.heap.size) ([(h0, .inr (6, [.null, .null, .null, .int 0]))] ++ cW cA []) := hD
  refine lv_aload_n hx hb dX6_init_0 rfl (lv_at hl 0 rfl) ?_
  refine W.objInit hx hb hown (hts (.methodLink RX6 3 objectInit) (by decide +kernel)) (hts (.instanceMethod objectInit) (by decide +kernel)) (hts _ (List.mem_of_getElem? (i := 3) rfl)) rfl (by rw [hml]; exact hl.1) rfl dX6_init_1 (Nat.le_of_ble_eq_true rfl) (Nat.le_of_ble_eq_true rfl) ?_
  refine W.eq (g2 := F0 m 4 ls []) rfl ?_
  refine lv_aload_n hx hb dX6_init_4 rfl (lv_at hl 0 rfl) ?_
  refine j_bi hx hb dX6_init_5 (by decide) ?_
  refine n_arr (atype := .int) (ty := .int) (N' := 8) (ck := 1) (X := [(h0, .inr (6, [.null, .null, .null, .int 0]))]) (cl := []) hx hb (hts (.arrayClass .int) (by decide +kernel)) rfl hK hP hD hS hA hok 28 rfl rfl ⟨by decide, by decide⟩ (fun _ => rfl) (jI_nlt0 (by omega) (by omega)) ((jI_clamp (by omega)).trans rfl) (Nat.le_of_ble_eq_true rfl) (Nat.le_of_ble_eq_true rfl) (Nat.le_of_ble_eq_true rfl) dX6_init_7 (fun q_1 cl_2 H hok hm k_q_1 hP hD hS => ?_)
  refine va_putF (C := RX6) (T := TX6) (N := 4) (ci := 6) (ty := tyX6 0) (v := .ref q_1) hx hb hts inX6_init_X6 tyX6 tyX6_ok nmX6 hown hK.1.1 hP hD hS 0 rfl rfl 0 (by decide) (hts (.fieldLink RX6 9 "PageTrie$Query" "kinds" "[I") (by decide +kernel)) (fun _ h9 => h9) rfl hin0 rfl (tyX6_ok 0 (by decide)) rfl rfl (Nat.le_of_ble_eq_true rfl) dX6_init_9 (fun H locs hP hD hS => ?_)
  have hP : va_P D vwCl ([(h0, .inr (6, [.ref q_1, .null, .null, .int 0]))] ++ cW cA cl_2) H := hP
  have hD : va_D (aw h0 s.heap.size) ([(h0, .inr (6, [.ref q_1, .null, .null, .int 0]))] ++ cW cA cl_2) := hD
  refine lv_aload_n hx hb dX6_init_12 rfl (lv_at hl 0 rfl) ?_
  refine j_bi hx hb dX6_init_13 (by decide) ?_
  refine n_arr (atype := .int) (ty := .int) (N' := 8) (ck := 1) (X := [(h0, .inr (6, [.ref q_1, .null, .null, .int 0]))]) (cl := cl_2) hx hb (hts (.arrayClass .int) (by decide +kernel)) rfl hK hP hD hS hA hok 28 rfl rfl ⟨by decide, by decide⟩ (fun _ => rfl) (jI_nlt0 (by omega) (by omega)) ((jI_clamp (by omega)).trans rfl) (Nat.le_of_ble_eq_true rfl) (Nat.le_of_ble_eq_true rfl) (Nat.le_of_ble_eq_true rfl) dX6_init_15 (fun q_3 cl_4 H hok hm k_q_3 hP hD hS => ?_)
  have k_q_1 := hm _ _ k_q_1
  refine va_putF (C := RX6) (T := TX6) (N := 4) (ci := 6) (ty := tyX6 1) (v := .ref q_3) hx hb hts inX6_init_X6 tyX6 tyX6_ok nmX6 hown hK.1.1 hP hD hS 0 rfl rfl 1 (by decide) (hts (.fieldLink RX6 15 "PageTrie$Query" "numbers" "[I") (by decide +kernel)) (fun _ h9 => h9) rfl hin0 rfl (tyX6_ok 1 (by decide)) rfl rfl (Nat.le_of_ble_eq_true rfl) dX6_init_17 (fun H locs hP hD hS => ?_)
  have hP : va_P D vwCl ([(h0, .inr (6, [.ref q_1, .ref q_3, .null, .int 0]))] ++ cW cA cl_4) H := hP
  have hD : va_D (aw h0 s.heap.size) ([(h0, .inr (6, [.ref q_1, .ref q_3, .null, .int 0]))] ++ cW cA cl_4) := hD
  refine lv_aload_n hx hb dX6_init_20 rfl (lv_at hl 0 rfl) ?_
  refine j_bi hx hb dX6_init_21 (by decide) ?_
  refine n_arrR (C := RX2) (N' := 8) hx hb hown (hts (.classLink RX6 18 RX2) (by decide +kernel)) hK.2.1 hK hP hD hS hA 3 rfl (jI_nlt0 (by omega) (by omega)) ((jI_clamp (by omega)).trans rfl) (Nat.le_of_ble_eq_true rfl) (Nat.le_of_ble_eq_true rfl) (Nat.le_of_ble_eq_true rfl) dX6_init_23 (fun q_5 H hP hD hS => ?_)
  have hP : va_P D vwCl ([(q_5, .inl (cA 3, 8, .inr (.inr (.inr (.inr (fun _ => none)))))), (h0, .inr (6, [.ref q_1, .ref q_3, .null, .int 0]))] ++ cW cA cl_4) H := hP
  have hD : va_D (aw h0 s.heap.size) ([(q_5, .inl (cA 3, 8, .inr (.inr (.inr (.inr (fun _ => none)))))), (h0, .inr (6, [.ref q_1, .ref q_3, .null, .int 0]))] ++ cW cA cl_4) := hD
  refine va_putF (C := RX6) (T := TX6) (N := 4) (ci := 6) (ty := tyX6 2) (v := .ref q_5) hx hb hts inX6_init_X6 tyX6 tyX6_ok nmX6 hown hK.1.1 hP hD hS 1 rfl rfl 2 (by decide) (hts (.fieldLink RX6 20 "PageTrie$Query" "beginnings" "[LPageTrie$Key;") (by decide +kernel)) (fun _ h9 => h9) rfl hin0 rfl (tyX6_ok 2 (by decide)) rfl rfl (Nat.le_of_ble_eq_true rfl) dX6_init_26 (fun H locs hP hD hS => ?_)
  have hP : va_P D vwCl ([(q_5, .inl (cA 3, 8, .inr (.inr (.inr (.inr (fun _ => none)))))), (h0, .inr (6, [.ref q_1, .ref q_3, .ref q_5, .int 0]))] ++ cW cA cl_4) H := hP
  have hD : va_D (aw h0 s.heap.size) ([(q_5, .inl (cA 3, 8, .inr (.inr (.inr (.inr (fun _ => none)))))), (h0, .inr (6, [.ref q_1, .ref q_3, .ref q_5, .int 0]))] ++ cW cA cl_4) := hD
  refine j_const hx hb dX6_init_29 ?_
  refine lv_istore_n (lv' := [(1, .int (jI 0)), (0, .ref h0)]) hx hb dX6_init_30 rfl hl (by decide) rfl (fun ls hl => ?_)
  have hloop : ∀ (z i : Nat), i + z = 8 → ∀ (cl : List cC) (f0 : Nat → Option Nat) (H : Heap) (locs : List Loc) (ls : Array Slot), okL noE cl → hasK cl q_1 28 → hasK cl q_3 28 → (∀ j, j < i → ∃ a, f0 j = some a ∧ hasK cl a 3) → va_P D vwCl ([(q_5, .inl (cA 3, 8, .inr (.inr (.inr (.inr f0))))), (h0, .inr (6, [.ref q_1, .ref q_3, .ref q_5, .int 0]))] ++ cW cA cl) H → va_D (aw h0 s.heap.size) ([(q_5, .inl (cA 3, 8, .inr (.inr (.inr (.inr f0))))), (h0, .inr (6, [.ref q_1, .ref q_3, .ref q_5, .int 0]))] ++ cW cA cl) → va_S (aw h0 s.heap.size) s.heap H locs → lv_has ls 2 [(1, .int (jI (i : Int))), (0, .ref h0)] → W p l e (headSpec wsX6_init ({ frames := 2, cells := 19, slots := 232, locals := 32 })).room s m (Value.ref h0 :: []).toArray below meth c H locs (3 + 2 * i) (24 + 26 * i) (MQ below (nQ D cA h0 s.heap.size (nOK noE h0 7)) (Value.ref h0 :: []).toArray s 19 232 (aw h0 s.heap.size)) (F0 m 31 ls []) := by
    intro z
    induction z with
    | zero =>
      intro i hiz cl f0 H locs ls hok k_q_1 k_q_3 hf0 hP hD hS hl
      refine lv_iload_n hx hb dX6_init_31 rfl (lv_at hl 0 rfl) ?_
      refine j_bi hx hb dX6_init_32 (by decide) ?_
      obtain rfl : i = 8 := by omega
      refine j_icmp_ge (tgt := 56) hx hb (by omega) (by omega) dX6_init_34 (by decide) (fun h9 => ?_) (fun h9 => by exfalso; omega)
      have hpp : ([(q_5, .inl (cA 3, 8, .inr (.inr (.inr (.inr f0))))), (h0, .inr (6, [.ref q_1, .ref q_3, .ref q_5, .int 0]))] ++ cW cA cl : va_W).Perm ((q_5, .inl (cA 3, 8, .inr (.inr (.inr (.inr f0))))) :: ([(h0, .inr (6, [.ref q_1, .ref q_3, .ref q_5, .int 0]))] ++ cW cA cl)) := by first | exact List.Perm.refl _ | exact List.Perm.swap _ _ _ | exact List.perm_middle (l₁ := [_, _])
      obtain ⟨cl_6, hok, hm, k_q_5, hP, hD⟩ := n_finR (X := [(h0, .inr (6, [.ref q_1, .ref q_3, .ref q_5, .int 0]))]) (cl := cl) 31 rfl (P_perm hP hpp) (D_perm hD hpp) hok hf0
      have k_q_1 := hm _ _ k_q_1
      have k_q_3 := hm _ _ k_q_3
      have hP : va_P D vwCl ([(h0, .inr (6, [.ref q_1, .ref q_3, .ref q_5, .int 0]))] ++ cW cA cl_6) H := hP
      have hD : va_D (aw h0 s.heap.size) ([(h0, .inr (6, [.ref q_1, .ref q_3, .ref q_5, .int 0]))] ++ cW cA cl_6) := hD
      refine lv_aload_n hx hb dX6_init_56 rfl (lv_at hl 1 rfl) ?_
      refine j_const hx hb dX6_init_57 ?_
      refine va_put (C := RX6) (T := TX6) (N := 4) (ci := 6) (ty := tyX6 3) (v := .int (jI 0)) hx hb hts inX6_init_X6 tyX6 tyX6_ok nmX6 hown hK.1.1 hP hD hS 0 rfl rfl 3 (by decide) (hts (.fieldLink RX6 25 "PageTrie$Query" "size" "I") (by decide +kernel)) (fun _ h9 => h9) rfl (tyX6_ok 3 (by decide)) rfl rfl (Nat.le_of_ble_eq_true rfl) dX6_init_58 (fun H locs hP hD hS => ?_)
      have hP : va_P D vwCl ([(h0, .inr (6, [.ref q_1, .ref q_3, .ref q_5, .int (jI 0)]))] ++ cW cA cl_6) H := hP
      have hD : va_D (aw h0 s.heap.size) ([(h0, .inr (6, [.ref q_1, .ref q_3, .ref q_5, .int (jI 0)]))] ++ cW cA cl_6) := hD
      obtain ⟨cl9, hok, hm, k_h0, hP, hD⟩ := n_finO (X := []) (cl := cl_6) (h0 := h0) (ci := 6) (fs := [.ref q_1, .ref q_3, .ref q_5, .int (jI 0)]) (E := noE) 7 (fun k => [q_1, q_3, q_5, 0].getD k 0) rfl rfl hP hD hok (fun k t h => match k, h with | 0, h => by cases h; exact Or.inr k_q_1 | 1, h => by cases h; exact Or.inr k_q_3 | 2, h => by cases h; exact Or.inr k_q_5 | 3, h => by cases h | k + 4, h => by simp at h)
      refine W.widen (k := 19) (n := 232) (Nat.le_of_ble_eq_true rfl) (Nat.le_of_ble_eq_true rfl) ?_
      exact W.vret hx hb hr (fun t ht hW => ⟨⟨cl9, rfl, ⟨hok, k_h0⟩, by rw [ht]; exact hP, hD⟩, hS.F ht⟩) hS.2.2 dX6_init_61
    | succ z ih =>
      intro i hiz cl f0 H locs ls hok k_q_1 k_q_3 hf0 hP hD hS hl
      refine lv_iload_n hx hb dX6_init_31 rfl (lv_at hl 0 rfl) ?_
      refine j_bi hx hb dX6_init_32 (by decide) ?_
      refine j_icmp_ge (tgt := 56) hx hb (by omega) (by omega) dX6_init_34 (by decide) (fun h9 => by exfalso; omega) (fun h9 => ?_)
      have hmm : ∀ a t, hasK cl a t → hasK cl a t := fun _ _ h => h
      refine lv_aload_n hx hb dX6_init_37 rfl (lv_at hl 1 rfl) ?_
      refine va_get (C := RX6) (T := TX6) (N := 4) (ci := 6) (v := .ref q_5) hx hb hts inX6_init_X6 hown hK.1.1 hP 1 rfl rfl 2 (by decide) (hts (.fieldLink RX6 20 "PageTrie$Query" "beginnings" "[LPageTrie$Key;") (by decide +kernel)) (fun _ h9 => h9) rfl dX6_init_38 ?_
      refine lv_iload_n hx hb dX6_init_41 rfl (lv_at hl 0 rfl) ?_
      refine n_new (C := RX2) (T := TX2) (N := 2) (ci := 2) (fs := [.null, .int 0]) hx hb hts inX6_init_X2 tyX2 tyX2_ok hown (hts (.classLink RX6 18 RX2) (by decide +kernel)) (hts (.instantiable RX2 2) (by decide +kernel)) (hts (.initialized RX2) (by decide +kernel)) hK hP hD hS hA rfl (fun j hj => by rcases (show j = 0 ∨ j = 1 by omega) with rfl | rfl <;> rfl) (Nat.le_trans (m := 19) (by omega) (Nat.le_refl _)) (Nat.le_trans (m := 232) (by omega) (Nat.le_refl _)) dX6_init_42 (fun q_7 H hP hD hS => ?_)
      have hP : va_P D vwCl ([(q_7, .inr (2, [.null, .int 0])), (q_5, .inl (cA 3, 8, .inr (.inr (.inr (.inr f0))))), (h0, .inr (6, [.ref q_1, .ref q_3, .ref q_5, .int 0]))] ++ cW cA cl) H := hP
      have hD : va_D (aw h0 s.heap.size) ([(q_7, .inr (2, [.null, .int 0])), (q_5, .inl (cA 3, 8, .inr (.inr (.inr (.inr f0))))), (h0, .inr (6, [.ref q_1, .ref q_3, .ref q_5, .int 0]))] ++ cW cA cl) := hD
      refine lv_dup hx hb dX6_init_45 rfl ?_
      refine n_init (q := q_7) (t := 3) (ci := 2) (X := [(q_5, .inl (cA 3, 8, .inr (.inr (.inr (.inr f0))))), (h0, .inr (6, [.ref q_1, .ref q_3, .ref q_5, .int 0]))]) (cl := cl) (rest := [.ref q_7, .int (jI (i : Int)), .ref q_5]) (As := []) hx hb hml hown hts hK hP hD hS hA hok (kX2_init l) 0 gX6_init_X2_init rfl (hts (.initialized RX2) (by decide +kernel)) (hts (.methodLink RX6 24 yX2_init) (by decide +kernel)) (hts (.instanceMethod yX2_init) (by decide +kernel)) rfl (by decide +kernel) ⟨Nat.le_of_ble_eq_true rfl, Nat.le_of_ble_eq_true rfl⟩ rfl rfl rfl hl.1 rfl (Nat.le_of_ble_eq_true rfl) dX6_init_46 ⟨(Nat.le_trans (m := 19) (by omega) (Nat.le_refl _)), (Nat.le_trans (m := 232) (by omega) (Nat.le_refl _))⟩ (fun _ _ h => False.elim h) (fun cl_8 H locs hok hm k_q_7 hP hD hS => ?_)
      have hmm : ∀ a t, hasK cl a t → hasK cl_8 a t := fun a t h => hm a t (hmm a t h)
      have k_q_1 := hm _ _ k_q_1
      have k_q_3 := hm _ _ k_q_3
      refine n_astq (cl := cl_8) (r := (RX2, TX2, 2)) (i := i) (N := 8) hx hb hK hP hD hS 0 3 rfl rfl k_q_7 (fun z hz => List.mem_append_right _ hz) rfl rfl (by omega) (by omega) dX6_init_49 (fun H locs hP hD hS => ?_)
      have hP : va_P D vwCl ([(q_5, .inl (cA 3, 8, .inr (.inr (.inr (.inr (va_up f0 i (some q_7))))))), (h0, .inr (6, [.ref q_1, .ref q_3, .ref q_5, .int 0]))] ++ cW cA cl_8) H := hP
      have hD : va_D (aw h0 s.heap.size) ([(q_5, .inl (cA 3, 8, .inr (.inr (.inr (.inr (va_up f0 i (some q_7))))))), (h0, .inr (6, [.ref q_1, .ref q_3, .ref q_5, .int 0]))] ++ cW cA cl_8) := hD
      refine j_iinc (lv' := [(1, .int (jI ((i : Int) + 1))), (0, .ref h0)]) hx hb dX6_init_50 hl (k := 0) rfl (by decide) rfl (fun ls hl => ?_)
      refine lv_goto (tgt := 31) hx hb dX6_init_53 (by decide) ?_
      have hf0 : ∀ j, j < i + 1 → ∃ a, va_up f0 i (some q_7) j = some a ∧ hasK cl_8 a 3 := fun j hj => by
        by_cases e : j = i
        · exact ⟨q_7, by rw [e]; exact va_up_self _ _ _, k_q_7⟩
        · obtain ⟨a, e1, e2⟩ := hf0 j (by omega)
          exact ⟨a, by rw [va_up_ne _ _ e]; exact e1, hmm _ _ e2⟩
      have hl : lv_has ls 2 [(1, .int (jI ((i + 1 : Nat) : Int))), (0, .ref h0)] := hl
      refine W.widen (k := 3 + 2 * (i + 1)) (n := 24 + 26 * (i + 1)) (by omega) (by omega) ?_
      exact ih (i + 1) (by omega) cl_8 (va_up f0 i (some q_7)) H locs ls hok k_q_1 k_q_3 hf0 hP hD hS hl
  refine W.widen (k := 3 + 2 * 0) (n := 24 + 26 * 0) (by omega) (by omega) ?_
  exact hloop 8 0 rfl cl_4 (fun _ => none) H locs ls hok k_q_1 k_q_3 (fun j hj => absurd hj (by omega)) hP hD hS hl
theorem inX5_init_X5 : ∀ w ∈ u_ws RX5 TX5 5, w ∈ wsX5_init := mem_r _ [20, 21, 22, 23, 24] rfl
theorem inX5_init_X2 : ∀ w ∈ u_ws RX2 TX2 2, w ∈ wsX5_init := mem_r _ [25, 26] rfl
set_option maxHeartbeats 4000000 in
set_option maxRecDepth 100000 in
theorem kX5_init (l : Launch) {D : va_G} {cA : Nat → ClassId} {h0 sz : Nat} : Met l yX5_init wsX5_init ({ frames := 2, cells := 84, slots := 1120, locals := 32 }) (nP D cA h0 sz 5 [.null, .null, .null, .null, .int 0] []) (nQ D cA h0 sz (nOK noE h0 6)) 84 1120 (aw h0 sz) := by
  refine Met.ofW (cc := cX5_init) (maxL := 2) (ret := none) (by decide +kernel) rfl ?_
  intro p e s m args below meth c s₁ B hml hv
  obtain ⟨rfl, hsz, hP, hK⟩ := hv
  have hx := B.exec
  have hb := B.bytes
  have hr := B.returns
  have hts := atoms_spec (ws := wsX5_init) B.pre
  have hown : s.vm.findClass RX5 = some m.cls := findClass_of_methodNamed B.named
  have hlocks := B.notSynchronized
  have hin0 : meth.name = "<init>" := (name_of_methodNamed B.named B.method).1
  subst hsz
  have hA : ∀ q : Nat, s.heap.size ≤ q → aw h0 s.heap.size q := fun q h => Or.inr h
  have hS : va_S (aw h0 s.heap.size) s.heap s.heap [] := va_S.rf
  have hD : va_D (aw h0 s.heap.size) [(h0, (.inr (5, [.null, .null, .null, .null, .int 0]) : va_E))] := D_iff.mpr ⟨List.nodup_cons.mpr ⟨List.not_mem_nil, List.nodup_nil⟩, fun q hq => by rw [List.mem_singleton.mp hq]; exact Or.inl rfl⟩
  have hok : okL noE [] := okL.nil
  have hl := lv_entry ([.ref h0]) (n := 2) (Nat.le_of_ble_eq_true rfl)
  rw [lg_entry_eq]
  generalize (lg_sl ([.ref h0]) ++ List.replicate (2 - (lg_sl ([.ref h0])).length) Slot.unset).toArray = ls at hl ⊢
  have hl : lv_has ls 2 [(0, .ref h0)] := hl
  have hP : va_P D vwCl ([(h0, .inr (5, [.null, .null, .null, .null, .int 0]))] ++ cW cA []) s.heap := hP
  have hD : va_D (aw h0 s.heap.size) ([(h0, .inr (5, [.null, .null, .null, .null, .int 0]))] ++ cW cA []) := hD
  refine lv_aload_n hx hb dX5_init_0 rfl (lv_at hl 0 rfl) ?_
  refine W.objInit hx hb hown (hts (.methodLink RX5 3 objectInit) (by decide +kernel)) (hts (.instanceMethod objectInit) (by decide +kernel)) (hts _ (List.mem_of_getElem? (i := 3) rfl)) rfl (by rw [hml]; exact hl.1) rfl dX5_init_1 (Nat.le_of_ble_eq_true rfl) (Nat.le_of_ble_eq_true rfl) ?_
  refine W.eq (g2 := F0 m 4 ls []) rfl ?_
  refine lv_aload_n hx hb dX5_init_4 rfl (lv_at hl 0 rfl) ?_
  refine j_bi hx hb dX5_init_5 (by decide) ?_
  refine n_arr (atype := .int) (ty := .int) (N' := 20) (ck := 1) (X := [(h0, .inr (5, [.null, .null, .null, .null, .int 0]))]) (cl := []) hx hb (hts (.arrayClass .int) (by decide +kernel)) rfl hK hP hD hS hA hok 27 rfl rfl ⟨by decide, by decide⟩ (fun _ => rfl) (jI_nlt0 (by omega) (by omega)) ((jI_clamp (by omega)).trans rfl) (Nat.le_of_ble_eq_true rfl) (Nat.le_of_ble_eq_true rfl) (Nat.le_of_ble_eq_true rfl) dX5_init_7 (fun q_1 cl_2 H hok hm k_q_1 hP hD hS => ?_)
  refine va_putF (C := RX5) (T := TX5) (N := 5) (ci := 5) (ty := tyX5 0) (v := .ref q_1) hx hb hts inX5_init_X5 tyX5 tyX5_ok nmX5 hown hK.1.1 hP hD hS 0 rfl rfl 0 (by decide) (hts (.fieldLink RX5 9 "PageTrie$Orders" "kinds" "[I") (by decide +kernel)) (fun _ h9 => h9) rfl hin0 rfl (tyX5_ok 0 (by decide)) rfl rfl (Nat.le_of_ble_eq_true rfl) dX5_init_9 (fun H locs hP hD hS => ?_)
  have hP : va_P D vwCl ([(h0, .inr (5, [.ref q_1, .null, .null, .null, .int 0]))] ++ cW cA cl_2) H := hP
  have hD : va_D (aw h0 s.heap.size) ([(h0, .inr (5, [.ref q_1, .null, .null, .null, .int 0]))] ++ cW cA cl_2) := hD
  refine lv_aload_n hx hb dX5_init_12 rfl (lv_at hl 0 rfl) ?_
  refine j_bi hx hb dX5_init_13 (by decide) ?_
  refine n_arr (atype := .int) (ty := .int) (N' := 20) (ck := 1) (X := [(h0, .inr (5, [.ref q_1, .null, .null, .null, .int 0]))]) (cl := cl_2) hx hb (hts (.arrayClass .int) (by decide +kernel)) rfl hK hP hD hS hA hok 27 rfl rfl ⟨by decide, by decide⟩ (fun _ => rfl) (jI_nlt0 (by omega) (by omega)) ((jI_clamp (by omega)).trans rfl) (Nat.le_of_ble_eq_true rfl) (Nat.le_of_ble_eq_true rfl) (Nat.le_of_ble_eq_true rfl) dX5_init_15 (fun q_3 cl_4 H hok hm k_q_3 hP hD hS => ?_)
  have k_q_1 := hm _ _ k_q_1
  refine va_putF (C := RX5) (T := TX5) (N := 5) (ci := 5) (ty := tyX5 1) (v := .ref q_3) hx hb hts inX5_init_X5 tyX5 tyX5_ok nmX5 hown hK.1.1 hP hD hS 0 rfl rfl 1 (by decide) (hts (.fieldLink RX5 15 "PageTrie$Orders" "numbers" "[I") (by decide +kernel)) (fun _ h9 => h9) rfl hin0 rfl (tyX5_ok 1 (by decide)) rfl rfl (Nat.le_of_ble_eq_true rfl) dX5_init_17 (fun H locs hP hD hS => ?_)
  have hP : va_P D vwCl ([(h0, .inr (5, [.ref q_1, .ref q_3, .null, .null, .int 0]))] ++ cW cA cl_4) H := hP
  have hD : va_D (aw h0 s.heap.size) ([(h0, .inr (5, [.ref q_1, .ref q_3, .null, .null, .int 0]))] ++ cW cA cl_4) := hD
  refine lv_aload_n hx hb dX5_init_20 rfl (lv_at hl 0 rfl) ?_
  refine j_bi hx hb dX5_init_21 (by decide) ?_
  refine n_arrR (C := RX2) (N' := 20) hx hb hown (hts (.classLink RX5 18 RX2) (by decide +kernel)) hK.2.1 hK hP hD hS hA 3 rfl (jI_nlt0 (by omega) (by omega)) ((jI_clamp (by omega)).trans rfl) (Nat.le_of_ble_eq_true rfl) (Nat.le_of_ble_eq_true rfl) (Nat.le_of_ble_eq_true rfl) dX5_init_23 (fun q_5 H hP hD hS => ?_)
  have hP : va_P D vwCl ([(q_5, .inl (cA 3, 20, .inr (.inr (.inr (.inr (fun _ => none)))))), (h0, .inr (5, [.ref q_1, .ref q_3, .null, .null, .int 0]))] ++ cW cA cl_4) H := hP
  have hD : va_D (aw h0 s.heap.size) ([(q_5, .inl (cA 3, 20, .inr (.inr (.inr (.inr (fun _ => none)))))), (h0, .inr (5, [.ref q_1, .ref q_3, .null, .null, .int 0]))] ++ cW cA cl_4) := hD
  refine va_putF (C := RX5) (T := TX5) (N := 5) (ci := 5) (ty := tyX5 2) (v := .ref q_5) hx hb hts inX5_init_X5 tyX5 tyX5_ok nmX5 hown hK.1.1 hP hD hS 1 rfl rfl 2 (by decide) (hts (.fieldLink RX5 20 "PageTrie$Orders" "firsts" "[LPageTrie$Key;") (by decide +kernel)) (fun _ h9 => h9) rfl hin0 rfl (tyX5_ok 2 (by decide)) rfl rfl (Nat.le_of_ble_eq_true rfl) dX5_init_26 (fun H locs hP hD hS => ?_)
  have hP : va_P D vwCl ([(q_5, .inl (cA 3, 20, .inr (.inr (.inr (.inr (fun _ => none)))))), (h0, .inr (5, [.ref q_1, .ref q_3, .ref q_5, .null, .int 0]))] ++ cW cA cl_4) H := hP
  have hD : va_D (aw h0 s.heap.size) ([(q_5, .inl (cA 3, 20, .inr (.inr (.inr (.inr (fun _ => none)))))), (h0, .inr (5, [.ref q_1, .ref q_3, .ref q_5, .null, .int 0]))] ++ cW cA cl_4) := hD
  refine lv_aload_n hx hb dX5_init_29 rfl (lv_at hl 0 rfl) ?_
  refine j_bi hx hb dX5_init_30 (by decide) ?_
  refine n_arrR (C := RX2) (N' := 20) hx hb hown (hts (.classLink RX5 18 RX2) (by decide +kernel)) hK.2.1 hK hP hD hS hA 3 rfl (jI_nlt0 (by omega) (by omega)) ((jI_clamp (by omega)).trans rfl) (Nat.le_of_ble_eq_true rfl) (Nat.le_of_ble_eq_true rfl) (Nat.le_of_ble_eq_true rfl) dX5_init_32 (fun q_6 H hP hD hS => ?_)
  have hP : va_P D vwCl ([(q_6, .inl (cA 3, 20, .inr (.inr (.inr (.inr (fun _ => none)))))), (q_5, .inl (cA 3, 20, .inr (.inr (.inr (.inr (fun _ => none)))))), (h0, .inr (5, [.ref q_1, .ref q_3, .ref q_5, .null, .int 0]))] ++ cW cA cl_4) H := hP
  have hD : va_D (aw h0 s.heap.size) ([(q_6, .inl (cA 3, 20, .inr (.inr (.inr (.inr (fun _ => none)))))), (q_5, .inl (cA 3, 20, .inr (.inr (.inr (.inr (fun _ => none)))))), (h0, .inr (5, [.ref q_1, .ref q_3, .ref q_5, .null, .int 0]))] ++ cW cA cl_4) := hD
  refine va_putF (C := RX5) (T := TX5) (N := 5) (ci := 5) (ty := tyX5 3) (v := .ref q_6) hx hb hts inX5_init_X5 tyX5 tyX5_ok nmX5 hown hK.1.1 hP hD hS 2 rfl rfl 3 (by decide) (hts (.fieldLink RX5 24 "PageTrie$Orders" "lasts" "[LPageTrie$Key;") (by decide +kernel)) (fun _ h9 => h9) rfl hin0 rfl (tyX5_ok 3 (by decide)) rfl rfl (Nat.le_of_ble_eq_true rfl) dX5_init_35 (fun H locs hP hD hS => ?_)
  have hP : va_P D vwCl ([(q_6, .inl (cA 3, 20, .inr (.inr (.inr (.inr (fun _ => none)))))), (q_5, .inl (cA 3, 20, .inr (.inr (.inr (.inr (fun _ => none)))))), (h0, .inr (5, [.ref q_1, .ref q_3, .ref q_5, .ref q_6, .int 0]))] ++ cW cA cl_4) H := hP
  have hD : va_D (aw h0 s.heap.size) ([(q_6, .inl (cA 3, 20, .inr (.inr (.inr (.inr (fun _ => none)))))), (q_5, .inl (cA 3, 20, .inr (.inr (.inr (.inr (fun _ => none)))))), (h0, .inr (5, [.ref q_1, .ref q_3, .ref q_5, .ref q_6, .int 0]))] ++ cW cA cl_4) := hD
  refine j_const hx hb dX5_init_38 ?_
  refine lv_istore_n (lv' := [(1, .int (jI 0)), (0, .ref h0)]) hx hb dX5_init_39 rfl hl (by decide) rfl (fun ls hl => ?_)
  have hloop : ∀ (z i : Nat), i + z = 20 → ∀ (cl : List cC) (f0 f1 : Nat → Option Nat) (H : Heap) (locs : List Loc) (ls : Array Slot), okL noE cl → hasK cl q_1 27 → hasK cl q_3 27 → (∀ j, j < i → ∃ a, f0 j = some a ∧ hasK cl a 3) → (∀ j, j < i → ∃ a, f1 j = some a ∧ hasK cl a 3) → va_P D vwCl ([(q_6, .inl (cA 3, 20, .inr (.inr (.inr (.inr f1))))), (q_5, .inl (cA 3, 20, .inr (.inr (.inr (.inr f0))))), (h0, .inr (5, [.ref q_1, .ref q_3, .ref q_5, .ref q_6, .int 0]))] ++ cW cA cl) H → va_D (aw h0 s.heap.size) ([(q_6, .inl (cA 3, 20, .inr (.inr (.inr (.inr f1))))), (q_5, .inl (cA 3, 20, .inr (.inr (.inr (.inr f0))))), (h0, .inr (5, [.ref q_1, .ref q_3, .ref q_5, .ref q_6, .int 0]))] ++ cW cA cl) → va_S (aw h0 s.heap.size) s.heap H locs → lv_has ls 2 [(1, .int (jI (i : Int))), (0, .ref h0)] → W p l e (headSpec wsX5_init ({ frames := 2, cells := 84, slots := 1120, locals := 32 })).room s m (Value.ref h0 :: []).toArray below meth c H locs (4 + 4 * i) (80 + 52 * i) (MQ below (nQ D cA h0 s.heap.size (nOK noE h0 6)) (Value.ref h0 :: []).toArray s 84 1120 (aw h0 s.heap.size)) (F0 m 40 ls []) := by
    intro z
    induction z with
    | zero =>
      intro i hiz cl f0 f1 H locs ls hok k_q_1 k_q_3 hf0 hf1 hP hD hS hl
      refine lv_iload_n hx hb dX5_init_40 rfl (lv_at hl 0 rfl) ?_
      refine j_bi hx hb dX5_init_41 (by decide) ?_
      obtain rfl : i = 20 := by omega
      refine j_icmp_ge (tgt := 78) hx hb (by omega) (by omega) dX5_init_43 (by decide) (fun h9 => ?_) (fun h9 => by exfalso; omega)
      have hpp : ([(q_6, .inl (cA 3, 20, .inr (.inr (.inr (.inr f1))))), (q_5, .inl (cA 3, 20, .inr (.inr (.inr (.inr f0))))), (h0, .inr (5, [.ref q_1, .ref q_3, .ref q_5, .ref q_6, .int 0]))] ++ cW cA cl : va_W).Perm ((q_5, .inl (cA 3, 20, .inr (.inr (.inr (.inr f0))))) :: ([(q_6, .inl (cA 3, 20, .inr (.inr (.inr (.inr f1))))), (h0, .inr (5, [.ref q_1, .ref q_3, .ref q_5, .ref q_6, .int 0]))] ++ cW cA cl)) := by first | exact List.Perm.refl _ | exact List.Perm.swap _ _ _ | exact List.perm_middle (l₁ := [_, _])
      obtain ⟨cl_7, hok, hm, k_q_5, hP, hD⟩ := n_finR (X := [(q_6, .inl (cA 3, 20, .inr (.inr (.inr (.inr f1))))), (h0, .inr (5, [.ref q_1, .ref q_3, .ref q_5, .ref q_6, .int 0]))]) (cl := cl) 30 rfl (P_perm hP hpp) (D_perm hD hpp) hok hf0
      have k_q_1 := hm _ _ k_q_1
      have k_q_3 := hm _ _ k_q_3
      have hf1 : ∀ j, j < 20 → ∃ a, f1 j = some a ∧ hasK cl_7 a 3 := fun j hj => (hf1 j hj).imp fun a q => ⟨q.1, hm _ _ q.2⟩
      have hP : va_P D vwCl ([(q_6, .inl (cA 3, 20, .inr (.inr (.inr (.inr f1))))), (h0, .inr (5, [.ref q_1, .ref q_3, .ref q_5, .ref q_6, .int 0]))] ++ cW cA cl_7) H := hP
      have hD : va_D (aw h0 s.heap.size) ([(q_6, .inl (cA 3, 20, .inr (.inr (.inr (.inr f1))))), (h0, .inr (5, [.ref q_1, .ref q_3, .ref q_5, .ref q_6, .int 0]))] ++ cW cA cl_7) := hD
      have hpp : ([(q_6, .inl (cA 3, 20, .inr (.inr (.inr (.inr f1))))), (h0, .inr (5, [.ref q_1, .ref q_3, .ref q_5, .ref q_6, .int 0]))] ++ cW cA cl_7 : va_W).Perm ((q_6, .inl (cA 3, 20, .inr (.inr (.inr (.inr f1))))) :: ([(h0, .inr (5, [.ref q_1, .ref q_3, .ref q_5, .ref q_6, .int 0]))] ++ cW cA cl_7)) := by first | exact List.Perm.refl _ | exact List.Perm.swap _ _ _ | exact List.perm_middle (l₁ := [_, _])
      obtain ⟨cl_8, hok, hm, k_q_6, hP, hD⟩ := n_finR (X := [(h0, .inr (5, [.ref q_1, .ref q_3, .ref q_5, .ref q_6, .int 0]))]) (cl := cl_7) 30 rfl (P_perm hP hpp) (D_perm hD hpp) hok hf1
      have k_q_1 := hm _ _ k_q_1
      have k_q_3 := hm _ _ k_q_3
      have k_q_5 := hm _ _ k_q_5
      have hP : va_P D vwCl ([(h0, .inr (5, [.ref q_1, .ref q_3, .ref q_5, .ref q_6, .int 0]))] ++ cW cA cl_8) H := hP
      have hD : va_D (aw h0 s.heap.size) ([(h0, .inr (5, [.ref q_1, .ref q_3, .ref q_5, .ref q_6, .int 0]))] ++ cW cA cl_8) := hD
      refine lv_aload_n hx hb dX5_init_78 rfl (lv_at hl 1 rfl) ?_
      refine j_const hx hb dX5_init_79 ?_
      refine va_put (C := RX5) (T := TX5) (N := 5) (ci := 5) (ty := tyX5 4) (v := .int (jI 0)) hx hb hts inX5_init_X5 tyX5 tyX5_ok nmX5 hown hK.1.1 hP hD hS 0 rfl rfl 4 (by decide) (hts (.fieldLink RX5 28 "PageTrie$Orders" "size" "I") (by decide +kernel)) (fun _ h9 => h9) rfl (tyX5_ok 4 (by decide)) rfl rfl (Nat.le_of_ble_eq_true rfl) dX5_init_80 (fun H locs hP hD hS => ?_)
      have hP : va_P D vwCl ([(h0, .inr (5, [.ref q_1, .ref q_3, .ref q_5, .ref q_6, .int (jI 0)]))] ++ cW cA cl_8) H := hP
      have hD : va_D (aw h0 s.heap.size) ([(h0, .inr (5, [.ref q_1, .ref q_3, .ref q_5, .ref q_6, .int (jI 0)]))] ++ cW cA cl_8) := hD
      obtain ⟨cl9, hok, hm, k_h0, hP, hD⟩ := n_finO (X := []) (cl := cl_8) (h0 := h0) (ci := 5) (fs := [.ref q_1, .ref q_3, .ref q_5, .ref q_6, .int (jI 0)]) (E := noE) 6 (fun k => [q_1, q_3, q_5, q_6, 0].getD k 0) rfl rfl hP hD hok (fun k t h => match k, h with | 0, h => by cases h; exact Or.inr k_q_1 | 1, h => by cases h; exact Or.inr k_q_3 | 2, h => by cases h; exact Or.inr k_q_5 | 3, h => by cases h; exact Or.inr k_q_6 | 4, h => by cases h | k + 5, h => by simp at h)
      refine W.widen (k := 84) (n := 1120) (Nat.le_of_ble_eq_true rfl) (Nat.le_of_ble_eq_true rfl) ?_
      exact W.vret hx hb hr (fun t ht hW => ⟨⟨cl9, rfl, ⟨hok, k_h0⟩, by rw [ht]; exact hP, hD⟩, hS.F ht⟩) hS.2.2 dX5_init_83
    | succ z ih =>
      intro i hiz cl f0 f1 H locs ls hok k_q_1 k_q_3 hf0 hf1 hP hD hS hl
      refine lv_iload_n hx hb dX5_init_40 rfl (lv_at hl 0 rfl) ?_
      refine j_bi hx hb dX5_init_41 (by decide) ?_
      refine j_icmp_ge (tgt := 78) hx hb (by omega) (by omega) dX5_init_43 (by decide) (fun h9 => by exfalso; omega) (fun h9 => ?_)
      have hmm : ∀ a t, hasK cl a t → hasK cl a t := fun _ _ h => h
      refine lv_aload_n hx hb dX5_init_46 rfl (lv_at hl 1 rfl) ?_
      refine va_get (C := RX5) (T := TX5) (N := 5) (ci := 5) (v := .ref q_5) hx hb hts inX5_init_X5 hown hK.1.1 hP 2 rfl rfl 2 (by decide) (hts (.fieldLink RX5 20 "PageTrie$Orders" "firsts" "[LPageTrie$Key;") (by decide +kernel)) (fun _ h9 => h9) rfl dX5_init_47 ?_
      refine lv_iload_n hx hb dX5_init_50 rfl (lv_at hl 0 rfl) ?_
      refine n_new (C := RX2) (T := TX2) (N := 2) (ci := 2) (fs := [.null, .int 0]) hx hb hts inX5_init_X2 tyX2 tyX2_ok hown (hts (.classLink RX5 18 RX2) (by decide +kernel)) (hts (.instantiable RX2 2) (by decide +kernel)) (hts (.initialized RX2) (by decide +kernel)) hK hP hD hS hA rfl (fun j hj => by rcases (show j = 0 ∨ j = 1 by omega) with rfl | rfl <;> rfl) (Nat.le_trans (m := 84) (by omega) (Nat.le_refl _)) (Nat.le_trans (m := 1120) (by omega) (Nat.le_refl _)) dX5_init_51 (fun q_9 H hP hD hS => ?_)
      have hP : va_P D vwCl ([(q_9, .inr (2, [.null, .int 0])), (q_6, .inl (cA 3, 20, .inr (.inr (.inr (.inr f1))))), (q_5, .inl (cA 3, 20, .inr (.inr (.inr (.inr f0))))), (h0, .inr (5, [.ref q_1, .ref q_3, .ref q_5, .ref q_6, .int 0]))] ++ cW cA cl) H := hP
      have hD : va_D (aw h0 s.heap.size) ([(q_9, .inr (2, [.null, .int 0])), (q_6, .inl (cA 3, 20, .inr (.inr (.inr (.inr f1))))), (q_5, .inl (cA 3, 20, .inr (.inr (.inr (.inr f0))))), (h0, .inr (5, [.ref q_1, .ref q_3, .ref q_5, .ref q_6, .int 0]))] ++ cW cA cl) := hD
      refine lv_dup hx hb dX5_init_54 rfl ?_
      refine n_init (q := q_9) (t := 3) (ci := 2) (X := [(q_6, .inl (cA 3, 20, .inr (.inr (.inr (.inr f1))))), (q_5, .inl (cA 3, 20, .inr (.inr (.inr (.inr f0))))), (h0, .inr (5, [.ref q_1, .ref q_3, .ref q_5, .ref q_6, .int 0]))]) (cl := cl) (rest := [.ref q_9, .int (jI (i : Int)), .ref q_5]) (As := []) hx hb hml hown hts hK hP hD hS hA hok (kX2_init l) 0 gX5_init_X2_init rfl (hts (.initialized RX2) (by decide +kernel)) (hts (.methodLink RX5 27 yX2_init) (by decide +kernel)) (hts (.instanceMethod yX2_init) (by decide +kernel)) rfl (by decide +kernel) ⟨Nat.le_of_ble_eq_true rfl, Nat.le_of_ble_eq_true rfl⟩ rfl rfl rfl hl.1 rfl (Nat.le_of_ble_eq_true rfl) dX5_init_55 ⟨(Nat.le_trans (m := 84) (by omega) (Nat.le_refl _)), (Nat.le_trans (m := 1120) (by omega) (Nat.le_refl _))⟩ (fun _ _ h => False.elim h) (fun cl_10 H locs hok hm k_q_9 hP hD hS => ?_)
      have hmm : ∀ a t, hasK cl a t → hasK cl_10 a t := fun a t h => hm a t (hmm a t h)
      have k_q_1 := hm _ _ k_q_1
      have k_q_3 := hm _ _ k_q_3
      refine n_astq (cl := cl_10) (r := (RX2, TX2, 2)) (i := i) (N := 20) hx hb hK hP hD hS 1 3 rfl rfl k_q_9 (fun z hz => List.mem_append_right _ hz) rfl rfl (by omega) (by omega) dX5_init_58 (fun H locs hP hD hS => ?_)
      have hP : va_P D vwCl ([(q_6, .inl (cA 3, 20, .inr (.inr (.inr (.inr f1))))), (q_5, .inl (cA 3, 20, .inr (.inr (.inr (.inr (va_up f0 i (some q_9))))))), (h0, .inr (5, [.ref q_1, .ref q_3, .ref q_5, .ref q_6, .int 0]))] ++ cW cA cl_10) H := hP
      have hD : va_D (aw h0 s.heap.size) ([(q_6, .inl (cA 3, 20, .inr (.inr (.inr (.inr f1))))), (q_5, .inl (cA 3, 20, .inr (.inr (.inr (.inr (va_up f0 i (some q_9))))))), (h0, .inr (5, [.ref q_1, .ref q_3, .ref q_5, .ref q_6, .int 0]))] ++ cW cA cl_10) := hD
      refine lv_aload_n hx hb dX5_init_59 rfl (lv_at hl 1 rfl) ?_
      refine va_get (C := RX5) (T := TX5) (N := 5) (ci := 5) (v := .ref q_6) hx hb hts inX5_init_X5 hown hK.1.1 hP 2 rfl rfl 3 (by decide) (hts (.fieldLink RX5 24 "PageTrie$Orders" "lasts" "[LPageTrie$Key;") (by decide +kernel)) (fun _ h9 => h9) rfl dX5_init_60 ?_
      refine lv_iload_n hx hb dX5_init_63 rfl (lv_at hl 0 rfl) ?_
      refine n_new (C := RX2) (T := TX2) (N := 2) (ci := 2) (fs := [.null, .int 0]) hx hb hts inX5_init_X2 tyX2 tyX2_ok hown (hts (.classLink RX5 18 RX2) (by decide +kernel)) (hts (.instantiable RX2 2) (by decide +kernel)) (hts (.initialized RX2) (by decide +kernel)) hK hP hD hS hA rfl (fun j hj => by rcases (show j = 0 ∨ j = 1 by omega) with rfl | rfl <;> rfl) (Nat.le_trans (m := 84) (by omega) (Nat.le_refl _)) (Nat.le_trans (m := 1120) (by omega) (Nat.le_refl _)) dX5_init_64 (fun q_11 H hP hD hS => ?_)
      have hP : va_P D vwCl ([(q_11, .inr (2, [.null, .int 0])), (q_6, .inl (cA 3, 20, .inr (.inr (.inr (.inr f1))))), (q_5, .inl (cA 3, 20, .inr (.inr (.inr (.inr (va_up f0 i (some q_9))))))), (h0, .inr (5, [.ref q_1, .ref q_3, .ref q_5, .ref q_6, .int 0]))] ++ cW cA cl_10) H := hP
      have hD : va_D (aw h0 s.heap.size) ([(q_11, .inr (2, [.null, .int 0])), (q_6, .inl (cA 3, 20, .inr (.inr (.inr (.inr f1))))), (q_5, .inl (cA 3, 20, .inr (.inr (.inr (.inr (va_up f0 i (some q_9))))))), (h0, .inr (5, [.ref q_1, .ref q_3, .ref q_5, .ref q_6, .int 0]))] ++ cW cA cl_10) := hD
      refine lv_dup hx hb dX5_init_67 rfl ?_
      refine n_init (q := q_11) (t := 3) (ci := 2) (X := [(q_6, .inl (cA 3, 20, .inr (.inr (.inr (.inr f1))))), (q_5, .inl (cA 3, 20, .inr (.inr (.inr (.inr (va_up f0 i (some q_9))))))), (h0, .inr (5, [.ref q_1, .ref q_3, .ref q_5, .ref q_6, .int 0]))]) (cl := cl_10) (rest := [.ref q_11, .int (jI (i : Int)), .ref q_6]) (As := []) hx hb hml hown hts hK hP hD hS hA hok (kX2_init l) 0 gX5_init_X2_init rfl (hts (.initialized RX2) (by decide +kernel)) (hts (.methodLink RX5 27 yX2_init) (by decide +kernel)) (hts (.instanceMethod yX2_init) (by decide +kernel)) rfl (by decide +kernel) ⟨Nat.le_of_ble_eq_true rfl, Nat.le_of_ble_eq_true rfl⟩ rfl rfl rfl hl.1 rfl (Nat.le_of_ble_eq_true rfl) dX5_init_68 ⟨(Nat.le_trans (m := 84) (by omega) (Nat.le_refl _)), (Nat.le_trans (m := 1120) (by omega) (Nat.le_refl _))⟩ (fun _ _ h => False.elim h) (fun cl_12 H locs hok hm k_q_11 hP hD hS => ?_)
      have hmm : ∀ a t, hasK cl a t → hasK cl_12 a t := fun a t h => hm a t (hmm a t h)
      have k_q_1 := hm _ _ k_q_1
      have k_q_3 := hm _ _ k_q_3
      have k_q_9 := hm _ _ k_q_9
      refine n_astq (cl := cl_12) (r := (RX2, TX2, 2)) (i := i) (N := 20) hx hb hK hP hD hS 0 3 rfl rfl k_q_11 (fun z hz => List.mem_append_right _ hz) rfl rfl (by omega) (by omega) dX5_init_71 (fun H locs hP hD hS => ?_)
      have hP : va_P D vwCl ([(q_6, .inl (cA 3, 20, .inr (.inr (.inr (.inr (va_up f1 i (some q_11))))))), (q_5, .inl (cA 3, 20, .inr (.inr (.inr (.inr (va_up f0 i (some q_9))))))), (h0, .inr (5, [.ref q_1, .ref q_3, .ref q_5, .ref q_6, .int 0]))] ++ cW cA cl_12) H := hP
      have hD : va_D (aw h0 s.heap.size) ([(q_6, .inl (cA 3, 20, .inr (.inr (.inr (.inr (va_up f1 i (some q_11))))))), (q_5, .inl (cA 3, 20, .inr (.inr (.inr (.inr (va_up f0 i (some q_9))))))), (h0, .inr (5, [.ref q_1, .ref q_3, .ref q_5, .ref q_6, .int 0]))] ++ cW cA cl_12) := hD
      refine j_iinc (lv' := [(1, .int (jI ((i : Int) + 1))), (0, .ref h0)]) hx hb dX5_init_72 hl (k := 0) rfl (by decide) rfl (fun ls hl => ?_)
      refine lv_goto (tgt := 40) hx hb dX5_init_75 (by decide) ?_
      have hf0 : ∀ j, j < i + 1 → ∃ a, va_up f0 i (some q_9) j = some a ∧ hasK cl_12 a 3 := fun j hj => by
        by_cases e : j = i
        · exact ⟨q_9, by rw [e]; exact va_up_self _ _ _, k_q_9⟩
        · obtain ⟨a, e1, e2⟩ := hf0 j (by omega)
          exact ⟨a, by rw [va_up_ne _ _ e]; exact e1, hmm _ _ e2⟩
      have hf1 : ∀ j, j < i + 1 → ∃ a, va_up f1 i (some q_11) j = some a ∧ hasK cl_12 a 3 := fun j hj => by
        by_cases e : j = i
        · exact ⟨q_11, by rw [e]; exact va_up_self _ _ _, k_q_11⟩
        · obtain ⟨a, e1, e2⟩ := hf1 j (by omega)
          exact ⟨a, by rw [va_up_ne _ _ e]; exact e1, hmm _ _ e2⟩
      have hl : lv_has ls 2 [(1, .int (jI ((i + 1 : Nat) : Int))), (0, .ref h0)] := hl
      refine W.widen (k := 4 + 4 * (i + 1)) (n := 80 + 52 * (i + 1)) (by omega) (by omega) ?_
      exact ih (i + 1) (by omega) cl_12 (va_up f0 i (some q_9)) (va_up f1 i (some q_11)) H locs ls hok k_q_1 k_q_3 hf0 hf1 hP hD hS hl
  refine W.widen (k := 4 + 4 * 0) (n := 80 + 52 * 0) (by omega) (by omega) ?_
  exact hloop 20 0 rfl cl_4 (fun _ => none) (fun _ => none) H locs ls hok k_q_1 k_q_3 (fun j hj => absurd hj (by omega)) (fun j hj => absurd hj (by omega)) hP hD hS hl
theorem inX8_init_X10 : ∀ w ∈ u_ws RX10 TX10 9, w ∈ wsX8_init := mem_r _ [71, 72, 73, 74, 75, 76, 77, 78, 79] rfl
theorem inX8_init_X8 : ∀ w ∈ u_ws RX8 TX8 3, w ∈ wsX8_init := mem_r _ [80, 81, 82] rfl
theorem inX8_init_X6 : ∀ w ∈ u_ws RX6 TX6 4, w ∈ wsX8_init := mem_r _ [88, 89, 90, 91] rfl
theorem inX8_init_X0 : ∀ w ∈ u_ws RX0 TX0 5, w ∈ wsX8_init := mem_r _ [83, 84, 85, 86, 87] rfl
set_option maxHeartbeats 4000000 in
set_option maxRecDepth 100000 in
theorem kX8_init (l : Launch) {D : va_G} {cA : Nat → ClassId} {h0 sz : Nat} : Met l yX8_init wsX8_init ({ frames := 3, cells := 40, slots := 4577, locals := 53 }) (nP D cA h0 sz 8 [.null, .null, .null] []) (nQ D cA h0 sz (nOK noE h0 9)) 40 4577 (aw h0 sz) := by
  refine Met.ofW (cc := cX8_init) (maxL := 2) (ret := none) (by decide +kernel) rfl ?_
  intro p e s m args below meth c s₁ B hml hv
  obtain ⟨rfl, hsz, hP, hK⟩ := hv
  have hx := B.exec
  have hb := B.bytes
  have hr := B.returns
  have hts := atoms_spec (ws := wsX8_init) B.pre
  have hown : s.vm.findClass RX8 = some m.cls := findClass_of_methodNamed B.named
  have hlocks := B.notSynchronized
  have hin0 : meth.name = "<init>" := (name_of_methodNamed B.named B.method).1
  subst hsz
  have hA : ∀ q : Nat, s.heap.size ≤ q → aw h0 s.heap.size q := fun q h => Or.inr h
  have hS : va_S (aw h0 s.heap.size) s.heap s.heap [] := va_S.rf
  have hD : va_D (aw h0 s.heap.size) [(h0, (.inr (8, [.null, .null, .null]) : va_E))] := D_iff.mpr ⟨List.nodup_cons.mpr ⟨List.not_mem_nil, List.nodup_nil⟩, fun q hq => by rw [List.mem_singleton.mp hq]; exact Or.inl rfl⟩
  have hok : okL noE [] := okL.nil
  have hl := lv_entry ([.ref h0]) (n := 2) (Nat.le_of_ble_eq_true rfl)
  rw [lg_entry_eq]
  generalize (lg_sl ([.ref h0]) ++ List.replicate (2 - (lg_sl ([.ref h0])).length) Slot.unset).toArray = ls at hl ⊢
  have hl : lv_has ls 2 [(0, .ref h0)] := hl
  have hP : va_P D vwCl ([(h0, .inr (8, [.null, .null, .null]))] ++ cW cA []) s.heap := hP
  have hD : va_D (aw h0 s.heap.size) ([(h0, .inr (8, [.null, .null, .null]))] ++ cW cA []) := hD
  refine lv_aload_n hx hb dX8_init_0 rfl (lv_at hl 0 rfl) ?_
  refine W.objInit hx hb hown (hts (.methodLink RX8 3 objectInit) (by decide +kernel)) (hts (.instanceMethod objectInit) (by decide +kernel)) (hts _ (List.mem_of_getElem? (i := 3) rfl)) rfl (by rw [hml]; exact hl.1) rfl dX8_init_1 (Nat.le_of_ble_eq_true rfl) (Nat.le_of_ble_eq_true rfl) ?_
  refine W.eq (g2 := F0 m 4 ls []) rfl ?_
  refine lv_aload_n hx hb dX8_init_4 rfl (lv_at hl 0 rfl) ?_
  refine n_new (C := RX10) (T := TX10) (N := 9) (ci := 10) (fs := [.null, .int 0, .int 0, .null, .null, .int 0, .int 0, .int 0, .int 0]) hx hb hts inX8_init_X10 tyX10 tyX10_ok hown (hts (.classLink RX8 9 RX10) (by decide +kernel)) (hts (.instantiable RX10 9) (by decide +kernel)) (hts (.initialized RX10) (by decide +kernel)) hK hP hD hS hA rfl (fun j hj => by rcases (show j = 0 ∨ j = 1 ∨ j = 2 ∨ j = 3 ∨ j = 4 ∨ j = 5 ∨ j = 6 ∨ j = 7 ∨ j = 8 by omega) with rfl | rfl | rfl | rfl | rfl | rfl | rfl | rfl | rfl <;> rfl) (Nat.le_of_ble_eq_true rfl) (Nat.le_of_ble_eq_true rfl) dX8_init_5 (fun q_1 H hP hD hS => ?_)
  have hP : va_P D vwCl ([(q_1, .inr (10, [.null, .int 0, .int 0, .null, .null, .int 0, .int 0, .int 0, .int 0])), (h0, .inr (8, [.null, .null, .null]))] ++ cW cA []) H := hP
  have hD : va_D (aw h0 s.heap.size) ([(q_1, .inr (10, [.null, .int 0, .int 0, .null, .null, .int 0, .int 0, .int 0, .int 0])), (h0, .inr (8, [.null, .null, .null]))] ++ cW cA []) := hD
  refine lv_dup hx hb dX8_init_8 rfl ?_
  refine n_init (q := q_1) (t := 11) (ci := 10) (X := [(h0, .inr (8, [.null, .null, .null]))]) (cl := []) (rest := [.ref q_1, .ref h0]) (As := []) hx hb hml hown hts hK hP hD hS hA hok (kX10_init l) 0 gX8_init_X10_init rfl (hts (.initialized RX10) (by decide +kernel)) (hts (.methodLink RX8 11 yX10_init) (by decide +kernel)) (hts (.instanceMethod yX10_init) (by decide +kernel)) rfl (by decide +kernel) ⟨Nat.le_of_ble_eq_true rfl, Nat.le_of_ble_eq_true rfl⟩ rfl rfl rfl hl.1 rfl (Nat.le_of_ble_eq_true rfl) dX8_init_9 ⟨(Nat.le_of_ble_eq_true rfl), (Nat.le_of_ble_eq_true rfl)⟩ (fun _ _ h => False.elim h) (fun cl_2 H locs hok hm k_q_1 hP hD hS => ?_)
  refine va_putF (C := RX8) (T := TX8) (N := 3) (ci := 8) (ty := tyX8 0) (v := .ref q_1) hx hb hts inX8_init_X8 tyX8 tyX8_ok nmX8 hown hK.1.1 hP hD hS 0 rfl rfl 0 (by decide) (hts (.fieldLink RX8 12 "PageTrie$State" "trie" "LPageTrie$Trie;") (by decide +kernel)) (fun _ h9 => h9) rfl hin0 rfl (tyX8_ok 0 (by decide)) rfl rfl (Nat.le_of_ble_eq_true rfl) dX8_init_12 (fun H locs hP hD hS => ?_)
  have hP : va_P D vwCl ([(h0, .inr (8, [.ref q_1, .null, .null]))] ++ cW cA cl_2) H := hP
  have hD : va_D (aw h0 s.heap.size) ([(h0, .inr (8, [.ref q_1, .null, .null]))] ++ cW cA cl_2) := hD
  refine lv_aload_n hx hb dX8_init_15 rfl (lv_at hl 0 rfl) ?_
  refine j_const hx hb dX8_init_16 ?_
  refine n_arrR (C := RX0) (N' := 4) hx hb hown (hts (.classLink RX8 18 RX0) (by decide +kernel)) hK.2.2 hK hP hD hS hA 4 rfl (jI_nlt0 (by omega) (by omega)) ((jI_clamp (by omega)).trans rfl) (Nat.le_of_ble_eq_true rfl) (Nat.le_of_ble_eq_true rfl) (Nat.le_of_ble_eq_true rfl) dX8_init_17 (fun q_3 H hP hD hS => ?_)
  have hP : va_P D vwCl ([(q_3, .inl (cA 4, 4, .inr (.inr (.inr (.inr (fun _ => none)))))), (h0, .inr (8, [.ref q_1, .null, .null]))] ++ cW cA cl_2) H := hP
  have hD : va_D (aw h0 s.heap.size) ([(q_3, .inl (cA 4, 4, .inr (.inr (.inr (.inr (fun _ => none)))))), (h0, .inr (8, [.ref q_1, .null, .null]))] ++ cW cA cl_2) := hD
  refine va_putF (C := RX8) (T := TX8) (N := 3) (ci := 8) (ty := tyX8 1) (v := .ref q_3) hx hb hts inX8_init_X8 tyX8 tyX8_ok nmX8 hown hK.1.1 hP hD hS 1 rfl rfl 1 (by decide) (hts (.fieldLink RX8 20 "PageTrie$State" "cursors" "[LPageTrie$Cursor;") (by decide +kernel)) (fun _ h9 => h9) rfl hin0 rfl (tyX8_ok 1 (by decide)) rfl rfl (Nat.le_of_ble_eq_true rfl) dX8_init_20 (fun H locs hP hD hS => ?_)
  have hP : va_P D vwCl ([(q_3, .inl (cA 4, 4, .inr (.inr (.inr (.inr (fun _ => none)))))), (h0, .inr (8, [.ref q_1, .ref q_3, .null]))] ++ cW cA cl_2) H := hP
  have hD : va_D (aw h0 s.heap.size) ([(q_3, .inl (cA 4, 4, .inr (.inr (.inr (.inr (fun _ => none)))))), (h0, .inr (8, [.ref q_1, .ref q_3, .null]))] ++ cW cA cl_2) := hD
  refine j_const hx hb dX8_init_23 ?_
  refine lv_istore_n (lv' := [(1, .int (jI 0)), (0, .ref h0)]) hx hb dX8_init_24 rfl hl (by decide) rfl (fun ls hl => ?_)
  have hloop : ∀ (z i : Nat), i + z = 4 → ∀ (cl : List cC) (f0 : Nat → Option Nat) (H : Heap) (locs : List Loc) (ls : Array Slot), okL noE cl → hasK cl q_1 11 → (∀ j, j < i → ∃ a, f0 j = some a ∧ hasK cl a 1) → va_P D vwCl ([(q_3, .inl (cA 4, 4, .inr (.inr (.inr (.inr f0))))), (h0, .inr (8, [.ref q_1, .ref q_3, .null]))] ++ cW cA cl) H → va_D (aw h0 s.heap.size) ([(q_3, .inl (cA 4, 4, .inr (.inr (.inr (.inr f0))))), (h0, .inr (8, [.ref q_1, .ref q_3, .null]))] ++ cW cA cl) → va_S (aw h0 s.heap.size) s.heap H locs → lv_has ls 2 [(1, .int (jI (i : Int))), (0, .ref h0)] → W p l e (headSpec wsX8_init ({ frames := 3, cells := 40, slots := 4577, locals := 53 })).room s m (Value.ref h0 :: []).toArray below meth c H locs (8 + 3 * i) (4217 + 31 * i) (MQ below (nQ D cA h0 s.heap.size (nOK noE h0 9)) (Value.ref h0 :: []).toArray s 40 4577 (aw h0 s.heap.size)) (F0 m 25 ls []) := by
    intro z
    induction z with
    | zero =>
      intro i hiz cl f0 H locs ls hok k_q_1 hf0 hP hD hS hl
      refine lv_iload_n hx hb dX8_init_25 rfl (lv_at hl 0 rfl) ?_
      refine j_const hx hb dX8_init_26 ?_
      obtain rfl : i = 4 := by omega
      refine j_icmp_ge (tgt := 49) hx hb (by omega) (by omega) dX8_init_27 (by decide) (fun h9 => ?_) (fun h9 => by exfalso; omega)
      have hpp : ([(q_3, .inl (cA 4, 4, .inr (.inr (.inr (.inr f0))))), (h0, .inr (8, [.ref q_1, .ref q_3, .null]))] ++ cW cA cl : va_W).Perm ((q_3, .inl (cA 4, 4, .inr (.inr (.inr (.inr f0))))) :: ([(h0, .inr (8, [.ref q_1, .ref q_3, .null]))] ++ cW cA cl)) := by first | exact List.Perm.refl _ | exact List.Perm.swap _ _ _ | exact List.perm_middle (l₁ := [_, _])
      obtain ⟨cl_4, hok, hm, k_q_3, hP, hD⟩ := n_finR (X := [(h0, .inr (8, [.ref q_1, .ref q_3, .null]))]) (cl := cl) 32 rfl (P_perm hP hpp) (D_perm hD hpp) hok hf0
      have k_q_1 := hm _ _ k_q_1
      have hP : va_P D vwCl ([(h0, .inr (8, [.ref q_1, .ref q_3, .null]))] ++ cW cA cl_4) H := hP
      have hD : va_D (aw h0 s.heap.size) ([(h0, .inr (8, [.ref q_1, .ref q_3, .null]))] ++ cW cA cl_4) := hD
      refine lv_aload_n hx hb dX8_init_49 rfl (lv_at hl 1 rfl) ?_
      refine n_new (C := RX6) (T := TX6) (N := 4) (ci := 6) (fs := [.null, .null, .null, .int 0]) hx hb hts inX8_init_X6 tyX6 tyX6_ok hown (hts (.classLink RX8 25 RX6) (by decide +kernel)) (hts (.instantiable RX6 4) (by decide +kernel)) (hts (.initialized RX6) (by decide +kernel)) hK hP hD hS hA rfl (fun j hj => by rcases (show j = 0 ∨ j = 1 ∨ j = 2 ∨ j = 3 by omega) with rfl | rfl | rfl | rfl <;> rfl) (Nat.le_of_ble_eq_true rfl) (Nat.le_of_ble_eq_true rfl) dX8_init_50 (fun q_5 H hP hD hS => ?_)
      have hP : va_P D vwCl ([(q_5, .inr (6, [.null, .null, .null, .int 0])), (h0, .inr (8, [.ref q_1, .ref q_3, .null]))] ++ cW cA cl_4) H := hP
      have hD : va_D (aw h0 s.heap.size) ([(q_5, .inr (6, [.null, .null, .null, .int 0])), (h0, .inr (8, [.ref q_1, .ref q_3, .null]))] ++ cW cA cl_4) := hD
      refine lv_dup hx hb dX8_init_53 rfl ?_
      refine n_init (q := q_5) (t := 7) (ci := 6) (X := [(h0, .inr (8, [.ref q_1, .ref q_3, .null]))]) (cl := cl_4) (rest := [.ref q_5, .ref h0]) (As := []) hx hb hml hown hts hK hP hD hS hA hok (kX6_init l) 0 gX8_init_X6_init rfl (hts (.initialized RX6) (by decide +kernel)) (hts (.methodLink RX8 27 yX6_init) (by decide +kernel)) (hts (.instanceMethod yX6_init) (by decide +kernel)) rfl (by decide +kernel) ⟨Nat.le_of_ble_eq_true rfl, Nat.le_of_ble_eq_true rfl⟩ rfl rfl rfl hl.1 rfl (Nat.le_of_ble_eq_true rfl) dX8_init_54 ⟨(Nat.le_of_ble_eq_true rfl), (Nat.le_of_ble_eq_true rfl)⟩ (fun _ _ h => False.elim h) (fun cl_6 H locs hok hm k_q_5 hP hD hS => ?_)
      have k_q_1 := hm _ _ k_q_1
      have k_q_3 := hm _ _ k_q_3
      refine va_putF (C := RX8) (T := TX8) (N := 3) (ci := 8) (ty := tyX8 2) (v := .ref q_5) hx hb hts inX8_init_X8 tyX8 tyX8_ok nmX8 hown hK.1.1 hP hD hS 0 rfl rfl 2 (by decide) (hts (.fieldLink RX8 28 "PageTrie$State" "query" "LPageTrie$Query;") (by decide +kernel)) (fun _ h9 => h9) rfl hin0 rfl (tyX8_ok 2 (by decide)) rfl rfl (Nat.le_of_ble_eq_true rfl) dX8_init_57 (fun H locs hP hD hS => ?_)
      have hP : va_P D vwCl ([(h0, .inr (8, [.ref q_1, .ref q_3, .ref q_5]))] ++ cW cA cl_6) H := hP
      have hD : va_D (aw h0 s.heap.size) ([(h0, .inr (8, [.ref q_1, .ref q_3, .ref q_5]))] ++ cW cA cl_6) := hD
      obtain ⟨cl9, hok, hm, k_h0, hP, hD⟩ := n_finO (X := []) (cl := cl_6) (h0 := h0) (ci := 8) (fs := [.ref q_1, .ref q_3, .ref q_5]) (E := noE) 9 (fun k => [q_1, q_3, q_5].getD k 0) rfl rfl hP hD hok (fun k t h => match k, h with | 0, h => by cases h; exact Or.inr k_q_1 | 1, h => by cases h; exact Or.inr k_q_3 | 2, h => by cases h; exact Or.inr k_q_5 | k + 3, h => by simp at h)
      refine W.widen (k := 40) (n := 4577) (Nat.le_of_ble_eq_true rfl) (Nat.le_of_ble_eq_true rfl) ?_
      exact W.vret hx hb hr (fun t ht hW => ⟨⟨cl9, rfl, ⟨hok, k_h0⟩, by rw [ht]; exact hP, hD⟩, hS.F ht⟩) hS.2.2 dX8_init_60
    | succ z ih =>
      intro i hiz cl f0 H locs ls hok k_q_1 hf0 hP hD hS hl
      refine lv_iload_n hx hb dX8_init_25 rfl (lv_at hl 0 rfl) ?_
      refine j_const hx hb dX8_init_26 ?_
      refine j_icmp_ge (tgt := 49) hx hb (by omega) (by omega) dX8_init_27 (by decide) (fun h9 => by exfalso; omega) (fun h9 => ?_)
      have hmm : ∀ a t, hasK cl a t → hasK cl a t := fun _ _ h => h
      refine lv_aload_n hx hb dX8_init_30 rfl (lv_at hl 1 rfl) ?_
      refine va_get (C := RX8) (T := TX8) (N := 3) (ci := 8) (v := .ref q_3) hx hb hts inX8_init_X8 hown hK.1.1 hP 1 rfl rfl 1 (by decide) (hts (.fieldLink RX8 20 "PageTrie$State" "cursors" "[LPageTrie$Cursor;") (by decide +kernel)) (fun _ h9 => h9) rfl dX8_init_31 ?_
      refine lv_iload_n hx hb dX8_init_34 rfl (lv_at hl 0 rfl) ?_
      refine n_new (C := RX0) (T := TX0) (N := 5) (ci := 0) (fs := [.null, .int 0, .int 0, .int 0, .int 0]) hx hb hts inX8_init_X0 tyX0 tyX0_ok hown (hts (.classLink RX8 18 RX0) (by decide +kernel)) (hts (.instantiable RX0 5) (by decide +kernel)) (hts (.initialized RX0) (by decide +kernel)) hK hP hD hS hA rfl (fun j hj => by rcases (show j = 0 ∨ j = 1 ∨ j = 2 ∨ j = 3 ∨ j = 4 by omega) with rfl | rfl | rfl | rfl | rfl <;> rfl) (Nat.le_trans (m := 40) (by omega) (Nat.le_refl _)) (Nat.le_trans (m := 4577) (by omega) (Nat.le_refl _)) dX8_init_35 (fun q_7 H hP hD hS => ?_)
      have hP : va_P D vwCl ([(q_7, .inr (0, [.null, .int 0, .int 0, .int 0, .int 0])), (q_3, .inl (cA 4, 4, .inr (.inr (.inr (.inr f0))))), (h0, .inr (8, [.ref q_1, .ref q_3, .null]))] ++ cW cA cl) H := hP
      have hD : va_D (aw h0 s.heap.size) ([(q_7, .inr (0, [.null, .int 0, .int 0, .int 0, .int 0])), (q_3, .inl (cA 4, 4, .inr (.inr (.inr (.inr f0))))), (h0, .inr (8, [.ref q_1, .ref q_3, .null]))] ++ cW cA cl) := hD
      refine lv_dup hx hb dX8_init_38 rfl ?_
      refine n_init (q := q_7) (t := 1) (ci := 0) (X := [(q_3, .inl (cA 4, 4, .inr (.inr (.inr (.inr f0))))), (h0, .inr (8, [.ref q_1, .ref q_3, .null]))]) (cl := cl) (rest := [.ref q_7, .int (jI (i : Int)), .ref q_3]) (As := []) hx hb hml hown hts hK hP hD hS hA hok (kX0_init l) 0 gX8_init_X0_init rfl (hts (.initialized RX0) (by decide +kernel)) (hts (.methodLink RX8 24 yX0_init) (by decide +kernel)) (hts (.instanceMethod yX0_init) (by decide +kernel)) rfl (by decide +kernel) ⟨Nat.le_of_ble_eq_true rfl, Nat.le_of_ble_eq_true rfl⟩ rfl rfl rfl hl.1 rfl (Nat.le_of_ble_eq_true rfl) dX8_init_39 ⟨(Nat.le_trans (m := 40) (by omega) (Nat.le_refl _)), (Nat.le_trans (m := 4577) (by omega) (Nat.le_refl _))⟩ (fun _ _ h => False.elim h) (fun cl_8 H locs hok hm k_q_7 hP hD hS => ?_)
      have hmm : ∀ a t, hasK cl a t → hasK cl_8 a t := fun a t h => hm a t (hmm a t h)
      have k_q_1 := hm _ _ k_q_1
      refine n_astq (cl := cl_8) (r := (RX0, TX0, 5)) (i := i) (N := 4) hx hb hK hP hD hS 0 4 rfl rfl k_q_7 (fun z hz => List.mem_append_right _ hz) rfl rfl (by omega) (by omega) dX8_init_42 (fun H locs hP hD hS => ?_)
      have hP : va_P D vwCl ([(q_3, .inl (cA 4, 4, .inr (.inr (.inr (.inr (va_up f0 i (some q_7))))))), (h0, .inr (8, [.ref q_1, .ref q_3, .null]))] ++ cW cA cl_8) H := hP
      have hD : va_D (aw h0 s.heap.size) ([(q_3, .inl (cA 4, 4, .inr (.inr (.inr (.inr (va_up f0 i (some q_7))))))), (h0, .inr (8, [.ref q_1, .ref q_3, .null]))] ++ cW cA cl_8) := hD
      refine j_iinc (lv' := [(1, .int (jI ((i : Int) + 1))), (0, .ref h0)]) hx hb dX8_init_43 hl (k := 0) rfl (by decide) rfl (fun ls hl => ?_)
      refine lv_goto (tgt := 25) hx hb dX8_init_46 (by decide) ?_
      have hf0 : ∀ j, j < i + 1 → ∃ a, va_up f0 i (some q_7) j = some a ∧ hasK cl_8 a 1 := fun j hj => by
        by_cases e : j = i
        · exact ⟨q_7, by rw [e]; exact va_up_self _ _ _, k_q_7⟩
        · obtain ⟨a, e1, e2⟩ := hf0 j (by omega)
          exact ⟨a, by rw [va_up_ne _ _ e]; exact e1, hmm _ _ e2⟩
      have hl : lv_has ls 2 [(1, .int (jI ((i + 1 : Nat) : Int))), (0, .ref h0)] := hl
      refine W.widen (k := 8 + 3 * (i + 1)) (n := 4217 + 31 * (i + 1)) (by omega) (by omega) ?_
      exact ih (i + 1) (by omega) cl_8 (va_up f0 i (some q_7)) H locs ls hok k_q_1 hf0 hP hD hS hl
  refine W.widen (k := 8 + 3 * 0) (n := 4217 + 31 * 0) (by omega) (by omega) ?_
  exact hloop 4 0 rfl cl_2 (fun _ => none) H locs ls hok k_q_1 (fun j hj => absurd hj (by omega)) hP hD hS hl
theorem inX11_init_X9 : ∀ w ∈ u_ws RX9 TX9 2, w ∈ wsX11_init := mem_r _ [153, 154] rfl
theorem inX11_init_X11 : ∀ w ∈ u_ws RX11 TX11 12, w ∈ wsX11_init := mem_r _ [155, 156, 157, 158, 159, 160, 161, 162, 163, 164, 165, 166] rfl
theorem inX11_init_X7 : ∀ w ∈ u_ws RX7 TX7 4, w ∈ wsX11_init := mem_r _ [167, 168, 169, 170] rfl
theorem inX11_init_X2 : ∀ w ∈ u_ws RX2 TX2 2, w ∈ wsX11_init := mem_r _ [171, 172] rfl
theorem inX11_init_X8 : ∀ w ∈ u_ws RX8 TX8 3, w ∈ wsX11_init := mem_r _ [173, 174, 175] rfl
theorem inX11_init_X10 : ∀ w ∈ u_ws RX10 TX10 9, w ∈ wsX11_init := mem_r _ [176, 177, 178, 179, 180, 181, 182, 183, 184] rfl
theorem inX11_init_X4 : ∀ w ∈ u_ws RX4 TX4 4, w ∈ wsX11_init := mem_r _ [185, 186, 187, 188] rfl
theorem inX11_init_X5 : ∀ w ∈ u_ws RX5 TX5 5, w ∈ wsX11_init := mem_r _ [189, 190, 191, 192, 193] rfl
theorem inX11_init_X6 : ∀ w ∈ u_ws RX6 TX6 4, w ∈ wsX11_init := mem_r _ [194, 195, 196, 197] rfl
theorem inX11_init_X1 : ∀ w ∈ u_ws RX1 TX1 3, w ∈ wsX11_init := mem_r _ [198, 199, 200] rfl
set_option maxHeartbeats 4000000 in
set_option maxRecDepth 100000 in
theorem kX11_init (l : Launch) {D : va_G} {cA : Nat → ClassId} {h0 sz : Nat} : Met l yX11_init wsX11_init ({ frames := 4, cells := 209, slots := 19376, locals := 74 }) (nP D cA h0 sz 11 [.null, .null, .null, .null, .null, .int 0, .null, .null, .null, .null, .null, .null] []) (nQ D cA h0 sz (nOK noE h0 12)) 209 19376 (aw h0 sz) := by
  refine Met.ofW (cc := cX11_init) (maxL := 1) (ret := none) (by decide +kernel) rfl ?_
  intro p e s m args below meth c s₁ B hml hv
  obtain ⟨rfl, hsz, hP, hK⟩ := hv
  have hx := B.exec
  have hb := B.bytes
  have hr := B.returns
  have hts := atoms_spec (ws := wsX11_init) B.pre
  have hown : s.vm.findClass RX11 = some m.cls := findClass_of_methodNamed B.named
  have hlocks := B.notSynchronized
  have hin0 : meth.name = "<init>" := (name_of_methodNamed B.named B.method).1
  subst hsz
  have hA : ∀ q : Nat, s.heap.size ≤ q → aw h0 s.heap.size q := fun q h => Or.inr h
  have hS : va_S (aw h0 s.heap.size) s.heap s.heap [] := va_S.rf
  have hD : va_D (aw h0 s.heap.size) [(h0, (.inr (11, [.null, .null, .null, .null, .null, .int 0, .null, .null, .null, .null, .null, .null]) : va_E))] := D_iff.mpr ⟨List.nodup_cons.mpr ⟨List.not_mem_nil, List.nodup_nil⟩, fun q hq => by rw [List.mem_singleton.mp hq]; exact Or.inl rfl⟩
  have hok : okL noE [] := okL.nil
  have hl := lv_entry ([.ref h0]) (n := 1) (Nat.le_of_ble_eq_true rfl)
  rw [lg_entry_eq]
  generalize (lg_sl ([.ref h0]) ++ List.replicate (1 - (lg_sl ([.ref h0])).length) Slot.unset).toArray = ls at hl ⊢
  have hl : lv_has ls 1 [(0, .ref h0)] := hl
  have hP : va_P D vwCl ([(h0, .inr (11, [.null, .null, .null, .null, .null, .int 0, .null, .null, .null, .null, .null, .null]))] ++ cW cA []) s.heap := hP
  have hD : va_D (aw h0 s.heap.size) ([(h0, .inr (11, [.null, .null, .null, .null, .null, .int 0, .null, .null, .null, .null, .null, .null]))] ++ cW cA []) := hD
  refine lv_aload_n hx hb dX11_init_0 rfl (lv_at hl 0 rfl) ?_
  refine W.objInit hx hb hown (hts (.methodLink RX11 1 objectInit) (by decide +kernel)) (hts (.instanceMethod objectInit) (by decide +kernel)) (hts _ (List.mem_of_getElem? (i := 3) rfl)) rfl (by rw [hml]; exact hl.1) rfl dX11_init_1 (Nat.le_of_ble_eq_true rfl) (Nat.le_of_ble_eq_true rfl) ?_
  refine W.eq (g2 := F0 m 4 ls []) rfl ?_
  refine lv_aload_n hx hb dX11_init_4 rfl (lv_at hl 0 rfl) ?_
  refine n_new (C := RX9) (T := TX9) (N := 2) (ci := 9) (fs := [.null, .int 0]) hx hb hts inX11_init_X9 tyX9 tyX9_ok hown (hts (.classLink RX11 7 RX9) (by decide +kernel)) (hts (.instantiable RX9 2) (by decide +kernel)) (hts (.initialized RX9) (by decide +kernel)) hK hP hD hS hA rfl (fun j hj => by rcases (show j = 0 ∨ j = 1 by omega) with rfl | rfl <;> rfl) (Nat.le_of_ble_eq_true rfl) (Nat.le_of_ble_eq_true rfl) dX11_init_5 (fun q_1 H hP hD hS => ?_)
  have hP : va_P D vwCl ([(q_1, .inr (9, [.null, .int 0])), (h0, .inr (11, [.null, .null, .null, .null, .null, .int 0, .null, .null, .null, .null, .null, .null]))] ++ cW cA []) H := hP
  have hD : va_D (aw h0 s.heap.size) ([(q_1, .inr (9, [.null, .int 0])), (h0, .inr (11, [.null, .null, .null, .null, .null, .int 0, .null, .null, .null, .null, .null, .null]))] ++ cW cA []) := hD
  refine lv_dup hx hb dX11_init_8 rfl ?_
  refine n_init (q := q_1) (t := 10) (ci := 9) (X := [(h0, .inr (11, [.null, .null, .null, .null, .null, .int 0, .null, .null, .null, .null, .null, .null]))]) (cl := []) (rest := [.ref q_1, .ref h0]) (As := []) hx hb hml hown hts hK hP hD hS hA hok (kX9_init l) 0 gX11_init_X9_init rfl (hts (.initialized RX9) (by decide +kernel)) (hts (.methodLink RX11 9 yX9_init) (by decide +kernel)) (hts (.instanceMethod yX9_init) (by decide +kernel)) rfl (by decide +kernel) ⟨Nat.le_of_ble_eq_true rfl, Nat.le_of_ble_eq_true rfl⟩ rfl rfl rfl hl.1 rfl (Nat.le_of_ble_eq_true rfl) dX11_init_9 ⟨(Nat.le_of_ble_eq_true rfl), (Nat.le_of_ble_eq_true rfl)⟩ (fun _ _ h => False.elim h) (fun cl_2 H locs hok hm k_q_1 hP hD hS => ?_)
  refine va_putF (C := RX11) (T := TX11) (N := 12) (ci := 11) (ty := tyX11 0) (v := .ref q_1) hx hb hts inX11_init_X11 tyX11 tyX11_ok nmX11 hown hK.1.1 hP hD hS 0 rfl rfl 0 (by decide) (hts (.fieldLink RX11 10 "PageTrie" "tape" "LPageTrie$Tape;") (by decide +kernel)) (fun _ h9 => h9) rfl hin0 rfl (tyX11_ok 0 (by decide)) rfl rfl (Nat.le_of_ble_eq_true rfl) dX11_init_12 (fun H locs hP hD hS => ?_)
  have hP : va_P D vwCl ([(h0, .inr (11, [.ref q_1, .null, .null, .null, .null, .int 0, .null, .null, .null, .null, .null, .null]))] ++ cW cA cl_2) H := hP
  have hD : va_D (aw h0 s.heap.size) ([(h0, .inr (11, [.ref q_1, .null, .null, .null, .null, .int 0, .null, .null, .null, .null, .null, .null]))] ++ cW cA cl_2) := hD
  refine lv_aload_n hx hb dX11_init_15 rfl (lv_at hl 0 rfl) ?_
  refine n_new (C := RX7) (T := TX7) (N := 4) (ci := 7) (fs := [.null, .int 0, .int 0, .int 0]) hx hb hts inX11_init_X7 tyX7 tyX7_ok hown (hts (.classLink RX11 16 RX7) (by decide +kernel)) (hts (.instantiable RX7 4) (by decide +kernel)) (hts (.initialized RX7) (by decide +kernel)) hK hP hD hS hA rfl (fun j hj => by rcases (show j = 0 ∨ j = 1 ∨ j = 2 ∨ j = 3 by omega) with rfl | rfl | rfl | rfl <;> rfl) (Nat.le_of_ble_eq_true rfl) (Nat.le_of_ble_eq_true rfl) dX11_init_16 (fun q_3 H hP hD hS => ?_)
  have hP : va_P D vwCl ([(q_3, .inr (7, [.null, .int 0, .int 0, .int 0])), (h0, .inr (11, [.ref q_1, .null, .null, .null, .null, .int 0, .null, .null, .null, .null, .null, .null]))] ++ cW cA cl_2) H := hP
  have hD : va_D (aw h0 s.heap.size) ([(q_3, .inr (7, [.null, .int 0, .int 0, .int 0])), (h0, .inr (11, [.ref q_1, .null, .null, .null, .null, .int 0, .null, .null, .null, .null, .null, .null]))] ++ cW cA cl_2) := hD
  refine lv_dup hx hb dX11_init_19 rfl ?_
  refine lv_aload_n hx hb dX11_init_20 rfl (lv_at hl 0 rfl) ?_
  refine va_get (C := RX11) (T := TX11) (N := 12) (ci := 11) (v := .ref q_1) hx hb hts inX11_init_X11 hown hK.1.1 hP 1 rfl rfl 0 (by decide) (hts (.fieldLink RX11 10 "PageTrie" "tape" "LPageTrie$Tape;") (by decide +kernel)) (fun _ h9 => h9) rfl dX11_init_21 ?_
  refine n_init (q := q_3) (t := 8) (ci := 7) (X := [(h0, .inr (11, [.ref q_1, .null, .null, .null, .null, .int 0, .null, .null, .null, .null, .null, .null]))]) (cl := cl_2) (rest := [.ref q_3, .ref h0]) (As := [.ref q_1]) hx hb hml hown hts hK hP hD hS hA hok (kX7_init l q_1) 1 gX11_init_X7_init rfl (hts (.initialized RX7) (by decide +kernel)) (hts (.methodLink RX11 18 yX7_init) (by decide +kernel)) (hts (.instanceMethod yX7_init) (by decide +kernel)) rfl (by decide +kernel) ⟨Nat.le_of_ble_eq_true rfl, Nat.le_of_ble_eq_true rfl⟩ rfl rfl rfl hl.1 rfl (Nat.le_of_ble_eq_true rfl) dX11_init_24 ⟨(Nat.le_of_ble_eq_true rfl), (Nat.le_of_ble_eq_true rfl)⟩ (fun a t h => by obtain ⟨rfl, rfl⟩ := h; exact Or.inr k_q_1) (fun cl_4 H locs hok hm k_q_3 hP hD hS => ?_)
  have k_q_1 := hm _ _ k_q_1
  refine va_putF (C := RX11) (T := TX11) (N := 12) (ci := 11) (ty := tyX11 1) (v := .ref q_3) hx hb hts inX11_init_X11 tyX11 tyX11_ok nmX11 hown hK.1.1 hP hD hS 0 rfl rfl 1 (by decide) (hts (.fieldLink RX11 21 "PageTrie" "reader" "LPageTrie$Reader;") (by decide +kernel)) (fun _ h9 => h9) rfl hin0 rfl (tyX11_ok 1 (by decide)) rfl rfl (Nat.le_of_ble_eq_true rfl) dX11_init_27 (fun H locs hP hD hS => ?_)
  have hP : va_P D vwCl ([(h0, .inr (11, [.ref q_1, .ref q_3, .null, .null, .null, .int 0, .null, .null, .null, .null, .null, .null]))] ++ cW cA cl_4) H := hP
  have hD : va_D (aw h0 s.heap.size) ([(h0, .inr (11, [.ref q_1, .ref q_3, .null, .null, .null, .int 0, .null, .null, .null, .null, .null, .null]))] ++ cW cA cl_4) := hD
  refine lv_aload_n hx hb dX11_init_30 rfl (lv_at hl 0 rfl) ?_
  refine n_new (C := RX2) (T := TX2) (N := 2) (ci := 2) (fs := [.null, .int 0]) hx hb hts inX11_init_X2 tyX2 tyX2_ok hown (hts (.classLink RX11 25 RX2) (by decide +kernel)) (hts (.instantiable RX2 2) (by decide +kernel)) (hts (.initialized RX2) (by decide +kernel)) hK hP hD hS hA rfl (fun j hj => by rcases (show j = 0 ∨ j = 1 by omega) with rfl | rfl <;> rfl) (Nat.le_of_ble_eq_true rfl) (Nat.le_of_ble_eq_true rfl) dX11_init_31 (fun q_5 H hP hD hS => ?_)
  have hP : va_P D vwCl ([(q_5, .inr (2, [.null, .int 0])), (h0, .inr (11, [.ref q_1, .ref q_3, .null, .null, .null, .int 0, .null, .null, .null, .null, .null, .null]))] ++ cW cA cl_4) H := hP
  have hD : va_D (aw h0 s.heap.size) ([(q_5, .inr (2, [.null, .int 0])), (h0, .inr (11, [.ref q_1, .ref q_3, .null, .null, .null, .int 0, .null, .null, .null, .null, .null, .null]))] ++ cW cA cl_4) := hD
  refine lv_dup hx hb dX11_init_34 rfl ?_
  refine n_init (q := q_5) (t := 3) (ci := 2) (X := [(h0, .inr (11, [.ref q_1, .ref q_3, .null, .null, .null, .int 0, .null, .null, .null, .null, .null, .null]))]) (cl := cl_4) (rest := [.ref q_5, .ref h0]) (As := []) hx hb hml hown hts hK hP hD hS hA hok (kX2_init l) 0 gX11_init_X2_init rfl (hts (.initialized RX2) (by decide +kernel)) (hts (.methodLink RX11 27 yX2_init) (by decide +kernel)) (hts (.instanceMethod yX2_init) (by decide +kernel)) rfl (by decide +kernel) ⟨Nat.le_of_ble_eq_true rfl, Nat.le_of_ble_eq_true rfl⟩ rfl rfl rfl hl.1 rfl (Nat.le_of_ble_eq_true rfl) dX11_init_35 ⟨(Nat.le_of_ble_eq_true rfl), (Nat.le_of_ble_eq_true rfl)⟩ (fun _ _ h => False.elim h) (fun cl_6 H locs hok hm k_q_5 hP hD hS => ?_)
  have k_q_1 := hm _ _ k_q_1
  have k_q_3 := hm _ _ k_q_3
  refine va_putF (C := RX11) (T := TX11) (N := 12) (ci := 11) (ty := tyX11 2) (v := .ref q_5) hx hb hts inX11_init_X11 tyX11 tyX11_ok nmX11 hown hK.1.1 hP hD hS 0 rfl rfl 2 (by decide) (hts (.fieldLink RX11 28 "PageTrie" "told" "LPageTrie$Key;") (by decide +kernel)) (fun _ h9 => h9) rfl hin0 rfl (tyX11_ok 2 (by decide)) rfl rfl (Nat.le_of_ble_eq_true rfl) dX11_init_38 (fun H locs hP hD hS => ?_)
  have hP : va_P D vwCl ([(h0, .inr (11, [.ref q_1, .ref q_3, .ref q_5, .null, .null, .int 0, .null, .null, .null, .null, .null, .null]))] ++ cW cA cl_6) H := hP
  have hD : va_D (aw h0 s.heap.size) ([(h0, .inr (11, [.ref q_1, .ref q_3, .ref q_5, .null, .null, .int 0, .null, .null, .null, .null, .null, .null]))] ++ cW cA cl_6) := hD
  refine lv_aload_n hx hb dX11_init_41 rfl (lv_at hl 0 rfl) ?_
  refine n_new (C := RX8) (T := TX8) (N := 3) (ci := 8) (fs := [.null, .null, .null]) hx hb hts inX11_init_X8 tyX8 tyX8_ok hown (hts (.classLink RX11 32 RX8) (by decide +kernel)) (hts (.instantiable RX8 3) (by decide +kernel)) (hts (.initialized RX8) (by decide +kernel)) hK hP hD hS hA rfl (fun j hj => by rcases (show j = 0 ∨ j = 1 ∨ j = 2 by omega) with rfl | rfl | rfl <;> rfl) (Nat.le_of_ble_eq_true rfl) (Nat.le_of_ble_eq_true rfl) dX11_init_42 (fun q_7 H hP hD hS => ?_)
  have hP : va_P D vwCl ([(q_7, .inr (8, [.null, .null, .null])), (h0, .inr (11, [.ref q_1, .ref q_3, .ref q_5, .null, .null, .int 0, .null, .null, .null, .null, .null, .null]))] ++ cW cA cl_6) H := hP
  have hD : va_D (aw h0 s.heap.size) ([(q_7, .inr (8, [.null, .null, .null])), (h0, .inr (11, [.ref q_1, .ref q_3, .ref q_5, .null, .null, .int 0, .null, .null, .null, .null, .null, .null]))] ++ cW cA cl_6) := hD
  refine lv_dup hx hb dX11_init_45 rfl ?_
  refine n_init (q := q_7) (t := 9) (ci := 8) (X := [(h0, .inr (11, [.ref q_1, .ref q_3, .ref q_5, .null, .null, .int 0, .null, .null, .null, .null, .null, .null]))]) (cl := cl_6) (rest := [.ref q_7, .ref h0]) (As := []) hx hb hml hown hts hK hP hD hS hA hok (kX8_init l) 0 gX11_init_X8_init rfl (hts (.initialized RX8) (by decide +kernel)) (hts (.methodLink RX11 34 yX8_init) (by decide +kernel)) (hts (.instanceMethod yX8_init) (by decide +kernel)) rfl (by decide +kernel) ⟨Nat.le_of_ble_eq_true rfl, Nat.le_of_ble_eq_true rfl⟩ rfl rfl rfl hl.1 rfl (Nat.le_of_ble_eq_true rfl) dX11_init_46 ⟨(Nat.le_of_ble_eq_true rfl), (Nat.le_of_ble_eq_true rfl)⟩ (fun _ _ h => False.elim h) (fun cl_8 H locs hok hm k_q_7 hP hD hS => ?_)
  have k_q_1 := hm _ _ k_q_1
  have k_q_3 := hm _ _ k_q_3
  have k_q_5 := hm _ _ k_q_5
  refine va_putF (C := RX11) (T := TX11) (N := 12) (ci := 11) (ty := tyX11 3) (v := .ref q_7) hx hb hts inX11_init_X11 tyX11 tyX11_ok nmX11 hown hK.1.1 hP hD hS 0 rfl rfl 3 (by decide) (hts (.fieldLink RX11 35 "PageTrie" "now" "LPageTrie$State;") (by decide +kernel)) (fun _ h9 => h9) rfl hin0 rfl (tyX11_ok 3 (by decide)) rfl rfl (Nat.le_of_ble_eq_true rfl) dX11_init_49 (fun H locs hP hD hS => ?_)
  have hP : va_P D vwCl ([(h0, .inr (11, [.ref q_1, .ref q_3, .ref q_5, .ref q_7, .null, .int 0, .null, .null, .null, .null, .null, .null]))] ++ cW cA cl_8) H := hP
  have hD : va_D (aw h0 s.heap.size) ([(h0, .inr (11, [.ref q_1, .ref q_3, .ref q_5, .ref q_7, .null, .int 0, .null, .null, .null, .null, .null, .null]))] ++ cW cA cl_8) := hD
  refine lv_aload_n hx hb dX11_init_52 rfl (lv_at hl 0 rfl) ?_
  refine n_new (C := RX8) (T := TX8) (N := 3) (ci := 8) (fs := [.null, .null, .null]) hx hb hts inX11_init_X8 tyX8 tyX8_ok hown (hts (.classLink RX11 32 RX8) (by decide +kernel)) (hts (.instantiable RX8 3) (by decide +kernel)) (hts (.initialized RX8) (by decide +kernel)) hK hP hD hS hA rfl (fun j hj => by rcases (show j = 0 ∨ j = 1 ∨ j = 2 by omega) with rfl | rfl | rfl <;> rfl) (Nat.le_of_ble_eq_true rfl) (Nat.le_of_ble_eq_true rfl) dX11_init_53 (fun q_9 H hP hD hS => ?_)
  have hP : va_P D vwCl ([(q_9, .inr (8, [.null, .null, .null])), (h0, .inr (11, [.ref q_1, .ref q_3, .ref q_5, .ref q_7, .null, .int 0, .null, .null, .null, .null, .null, .null]))] ++ cW cA cl_8) H := hP
  have hD : va_D (aw h0 s.heap.size) ([(q_9, .inr (8, [.null, .null, .null])), (h0, .inr (11, [.ref q_1, .ref q_3, .ref q_5, .ref q_7, .null, .int 0, .null, .null, .null, .null, .null, .null]))] ++ cW cA cl_8) := hD
  refine lv_dup hx hb dX11_init_56 rfl ?_
  refine n_init (q := q_9) (t := 9) (ci := 8) (X := [(h0, .inr (11, [.ref q_1, .ref q_3, .ref q_5, .ref q_7, .null, .int 0, .null, .null, .null, .null, .null, .null]))]) (cl := cl_8) (rest := [.ref q_9, .ref h0]) (As := []) hx hb hml hown hts hK hP hD hS hA hok (kX8_init l) 0 gX11_init_X8_init rfl (hts (.initialized RX8) (by decide +kernel)) (hts (.methodLink RX11 34 yX8_init) (by decide +kernel)) (hts (.instanceMethod yX8_init) (by decide +kernel)) rfl (by decide +kernel) ⟨Nat.le_of_ble_eq_true rfl, Nat.le_of_ble_eq_true rfl⟩ rfl rfl rfl hl.1 rfl (Nat.le_of_ble_eq_true rfl) dX11_init_57 ⟨(Nat.le_of_ble_eq_true rfl), (Nat.le_of_ble_eq_true rfl)⟩ (fun _ _ h => False.elim h) (fun cl_10 H locs hok hm k_q_9 hP hD hS => ?_)
  have k_q_1 := hm _ _ k_q_1
  have k_q_3 := hm _ _ k_q_3
  have k_q_5 := hm _ _ k_q_5
  have k_q_7 := hm _ _ k_q_7
  refine va_putF (C := RX11) (T := TX11) (N := 12) (ci := 11) (ty := tyX11 4) (v := .ref q_9) hx hb hts inX11_init_X11 tyX11 tyX11_ok nmX11 hown hK.1.1 hP hD hS 0 rfl rfl 4 (by decide) (hts (.fieldLink RX11 39 "PageTrie" "kept" "LPageTrie$State;") (by decide +kernel)) (fun _ h9 => h9) rfl hin0 rfl (tyX11_ok 4 (by decide)) rfl rfl (Nat.le_of_ble_eq_true rfl) dX11_init_60 (fun H locs hP hD hS => ?_)
  have hP : va_P D vwCl ([(h0, .inr (11, [.ref q_1, .ref q_3, .ref q_5, .ref q_7, .ref q_9, .int 0, .null, .null, .null, .null, .null, .null]))] ++ cW cA cl_10) H := hP
  have hD : va_D (aw h0 s.heap.size) ([(h0, .inr (11, [.ref q_1, .ref q_3, .ref q_5, .ref q_7, .ref q_9, .int 0, .null, .null, .null, .null, .null, .null]))] ++ cW cA cl_10) := hD
  refine lv_aload_n hx hb dX11_init_63 rfl (lv_at hl 0 rfl) ?_
  refine j_const hx hb dX11_init_64 ?_
  refine va_put (C := RX11) (T := TX11) (N := 12) (ci := 11) (ty := tyX11 5) (v := .int (jI 0)) hx hb hts inX11_init_X11 tyX11 tyX11_ok nmX11 hown hK.1.1 hP hD hS 0 rfl rfl 5 (by decide) (hts (.fieldLink RX11 42 "PageTrie" "isKept" "Z") (by decide +kernel)) (fun _ h9 => h9) rfl (tyX11_ok 5 (by decide)) rfl rfl (Nat.le_of_ble_eq_true rfl) dX11_init_65 (fun H locs hP hD hS => ?_)
  have hP : va_P D vwCl ([(h0, .inr (11, [.ref q_1, .ref q_3, .ref q_5, .ref q_7, .ref q_9, .int (jI 0), .null, .null, .null, .null, .null, .null]))] ++ cW cA cl_10) H := hP
  have hD : va_D (aw h0 s.heap.size) ([(h0, .inr (11, [.ref q_1, .ref q_3, .ref q_5, .ref q_7, .ref q_9, .int (jI 0), .null, .null, .null, .null, .null, .null]))] ++ cW cA cl_10) := hD
  refine lv_aload_n hx hb dX11_init_68 rfl (lv_at hl 0 rfl) ?_
  refine n_new (C := RX10) (T := TX10) (N := 9) (ci := 10) (fs := [.null, .int 0, .int 0, .null, .null, .int 0, .int 0, .int 0, .int 0]) hx hb hts inX11_init_X10 tyX10 tyX10_ok hown (hts (.classLink RX11 46 RX10) (by decide +kernel)) (hts (.instantiable RX10 9) (by decide +kernel)) (hts (.initialized RX10) (by decide +kernel)) hK hP hD hS hA rfl (fun j hj => by rcases (show j = 0 ∨ j = 1 ∨ j = 2 ∨ j = 3 ∨ j = 4 ∨ j = 5 ∨ j = 6 ∨ j = 7 ∨ j = 8 by omega) with rfl | rfl | rfl | rfl | rfl | rfl | rfl | rfl | rfl <;> rfl) (Nat.le_of_ble_eq_true rfl) (Nat.le_of_ble_eq_true rfl) dX11_init_69 (fun q_11 H hP hD hS => ?_)
  have hP : va_P D vwCl ([(q_11, .inr (10, [.null, .int 0, .int 0, .null, .null, .int 0, .int 0, .int 0, .int 0])), (h0, .inr (11, [.ref q_1, .ref q_3, .ref q_5, .ref q_7, .ref q_9, .int (jI 0), .null, .null, .null, .null, .null, .null]))] ++ cW cA cl_10) H := hP
  have hD : va_D (aw h0 s.heap.size) ([(q_11, .inr (10, [.null, .int 0, .int 0, .null, .null, .int 0, .int 0, .int 0, .int 0])), (h0, .inr (11, [.ref q_1, .ref q_3, .ref q_5, .ref q_7, .ref q_9, .int (jI 0), .null, .null, .null, .null, .null, .null]))] ++ cW cA cl_10) := hD
  refine lv_dup hx hb dX11_init_72 rfl ?_
  refine n_init (q := q_11) (t := 11) (ci := 10) (X := [(h0, .inr (11, [.ref q_1, .ref q_3, .ref q_5, .ref q_7, .ref q_9, .int (jI 0), .null, .null, .null, .null, .null, .null]))]) (cl := cl_10) (rest := [.ref q_11, .ref h0]) (As := []) hx hb hml hown hts hK hP hD hS hA hok (kX10_init l) 0 gX11_init_X10_init rfl (hts (.initialized RX10) (by decide +kernel)) (hts (.methodLink RX11 48 yX10_init) (by decide +kernel)) (hts (.instanceMethod yX10_init) (by decide +kernel)) rfl (by decide +kernel) ⟨Nat.le_of_ble_eq_true rfl, Nat.le_of_ble_eq_true rfl⟩ rfl rfl rfl hl.1 rfl (Nat.le_of_ble_eq_true rfl) dX11_init_73 ⟨(Nat.le_of_ble_eq_true rfl), (Nat.le_of_ble_eq_true rfl)⟩ (fun _ _ h => False.elim h) (fun cl_12 H locs hok hm k_q_11 hP hD hS => ?_)
  have k_q_1 := hm _ _ k_q_1
  have k_q_3 := hm _ _ k_q_3
  have k_q_5 := hm _ _ k_q_5
  have k_q_7 := hm _ _ k_q_7
  have k_q_9 := hm _ _ k_q_9
  refine va_putF (C := RX11) (T := TX11) (N := 12) (ci := 11) (ty := tyX11 6) (v := .ref q_11) hx hb hts inX11_init_X11 tyX11 tyX11_ok nmX11 hown hK.1.1 hP hD hS 0 rfl rfl 6 (by decide) (hts (.fieldLink RX11 49 "PageTrie" "ahead" "LPageTrie$Trie;") (by decide +kernel)) (fun _ h9 => h9) rfl hin0 rfl (tyX11_ok 6 (by decide)) rfl rfl (Nat.le_of_ble_eq_true rfl) dX11_init_76 (fun H locs hP hD hS => ?_)
  have hP : va_P D vwCl ([(h0, .inr (11, [.ref q_1, .ref q_3, .ref q_5, .ref q_7, .ref q_9, .int (jI 0), .ref q_11, .null, .null, .null, .null, .null]))] ++ cW cA cl_12) H := hP
  have hD : va_D (aw h0 s.heap.size) ([(h0, .inr (11, [.ref q_1, .ref q_3, .ref q_5, .ref q_7, .ref q_9, .int (jI 0), .ref q_11, .null, .null, .null, .null, .null]))] ++ cW cA cl_12) := hD
  refine lv_aload_n hx hb dX11_init_79 rfl (lv_at hl 0 rfl) ?_
  refine n_new (C := RX10) (T := TX10) (N := 9) (ci := 10) (fs := [.null, .int 0, .int 0, .null, .null, .int 0, .int 0, .int 0, .int 0]) hx hb hts inX11_init_X10 tyX10 tyX10_ok hown (hts (.classLink RX11 46 RX10) (by decide +kernel)) (hts (.instantiable RX10 9) (by decide +kernel)) (hts (.initialized RX10) (by decide +kernel)) hK hP hD hS hA rfl (fun j hj => by rcases (show j = 0 ∨ j = 1 ∨ j = 2 ∨ j = 3 ∨ j = 4 ∨ j = 5 ∨ j = 6 ∨ j = 7 ∨ j = 8 by omega) with rfl | rfl | rfl | rfl | rfl | rfl | rfl | rfl | rfl <;> rfl) (Nat.le_of_ble_eq_true rfl) (Nat.le_of_ble_eq_true rfl) dX11_init_80 (fun q_13 H hP hD hS => ?_)
  have hP : va_P D vwCl ([(q_13, .inr (10, [.null, .int 0, .int 0, .null, .null, .int 0, .int 0, .int 0, .int 0])), (h0, .inr (11, [.ref q_1, .ref q_3, .ref q_5, .ref q_7, .ref q_9, .int (jI 0), .ref q_11, .null, .null, .null, .null, .null]))] ++ cW cA cl_12) H := hP
  have hD : va_D (aw h0 s.heap.size) ([(q_13, .inr (10, [.null, .int 0, .int 0, .null, .null, .int 0, .int 0, .int 0, .int 0])), (h0, .inr (11, [.ref q_1, .ref q_3, .ref q_5, .ref q_7, .ref q_9, .int (jI 0), .ref q_11, .null, .null, .null, .null, .null]))] ++ cW cA cl_12) := hD
  refine lv_dup hx hb dX11_init_83 rfl ?_
  refine n_init (q := q_13) (t := 11) (ci := 10) (X := [(h0, .inr (11, [.ref q_1, .ref q_3, .ref q_5, .ref q_7, .ref q_9, .int (jI 0), .ref q_11, .null, .null, .null, .null, .null]))]) (cl := cl_12) (rest := [.ref q_13, .ref h0]) (As := []) hx hb hml hown hts hK hP hD hS hA hok (kX10_init l) 0 gX11_init_X10_init rfl (hts (.initialized RX10) (by decide +kernel)) (hts (.methodLink RX11 48 yX10_init) (by decide +kernel)) (hts (.instanceMethod yX10_init) (by decide +kernel)) rfl (by decide +kernel) ⟨Nat.le_of_ble_eq_true rfl, Nat.le_of_ble_eq_true rfl⟩ rfl rfl rfl hl.1 rfl (Nat.le_of_ble_eq_true rfl) dX11_init_84 ⟨(Nat.le_of_ble_eq_true rfl), (Nat.le_of_ble_eq_true rfl)⟩ (fun _ _ h => False.elim h) (fun cl_14 H locs hok hm k_q_13 hP hD hS => ?_)
  have k_q_1 := hm _ _ k_q_1
  have k_q_3 := hm _ _ k_q_3
  have k_q_5 := hm _ _ k_q_5
  have k_q_7 := hm _ _ k_q_7
  have k_q_9 := hm _ _ k_q_9
  have k_q_11 := hm _ _ k_q_11
  refine va_putF (C := RX11) (T := TX11) (N := 12) (ci := 11) (ty := tyX11 7) (v := .ref q_13) hx hb hts inX11_init_X11 tyX11 tyX11_ok nmX11 hown hK.1.1 hP hD hS 0 rfl rfl 7 (by decide) (hts (.fieldLink RX11 53 "PageTrie" "aside" "LPageTrie$Trie;") (by decide +kernel)) (fun _ h9 => h9) rfl hin0 rfl (tyX11_ok 7 (by decide)) rfl rfl (Nat.le_of_ble_eq_true rfl) dX11_init_87 (fun H locs hP hD hS => ?_)
  have hP : va_P D vwCl ([(h0, .inr (11, [.ref q_1, .ref q_3, .ref q_5, .ref q_7, .ref q_9, .int (jI 0), .ref q_11, .ref q_13, .null, .null, .null, .null]))] ++ cW cA cl_14) H := hP
  have hD : va_D (aw h0 s.heap.size) ([(h0, .inr (11, [.ref q_1, .ref q_3, .ref q_5, .ref q_7, .ref q_9, .int (jI 0), .ref q_11, .ref q_13, .null, .null, .null, .null]))] ++ cW cA cl_14) := hD
  refine lv_aload_n hx hb dX11_init_90 rfl (lv_at hl 0 rfl) ?_
  refine n_new (C := RX4) (T := TX4) (N := 4) (ci := 4) (fs := [.null, .int 0, .int 0, .int 0]) hx hb hts inX11_init_X4 tyX4 tyX4_ok hown (hts (.classLink RX11 56 RX4) (by decide +kernel)) (hts (.instantiable RX4 4) (by decide +kernel)) (hts (.initialized RX4) (by decide +kernel)) hK hP hD hS hA rfl (fun j hj => by rcases (show j = 0 ∨ j = 1 ∨ j = 2 ∨ j = 3 by omega) with rfl | rfl | rfl | rfl <;> rfl) (Nat.le_of_ble_eq_true rfl) (Nat.le_of_ble_eq_true rfl) dX11_init_91 (fun q_15 H hP hD hS => ?_)
  have hP : va_P D vwCl ([(q_15, .inr (4, [.null, .int 0, .int 0, .int 0])), (h0, .inr (11, [.ref q_1, .ref q_3, .ref q_5, .ref q_7, .ref q_9, .int (jI 0), .ref q_11, .ref q_13, .null, .null, .null, .null]))] ++ cW cA cl_14) H := hP
  have hD : va_D (aw h0 s.heap.size) ([(q_15, .inr (4, [.null, .int 0, .int 0, .int 0])), (h0, .inr (11, [.ref q_1, .ref q_3, .ref q_5, .ref q_7, .ref q_9, .int (jI 0), .ref q_11, .ref q_13, .null, .null, .null, .null]))] ++ cW cA cl_14) := hD
  refine lv_dup hx hb dX11_init_94 rfl ?_
  refine lv_aload_n hx hb dX11_init_95 rfl (lv_at hl 0 rfl) ?_
  refine va_get (C := RX11) (T := TX11) (N := 12) (ci := 11) (v := .ref q_7) hx hb hts inX11_init_X11 hown hK.1.1 hP 1 rfl rfl 3 (by decide) (hts (.fieldLink RX11 35 "PageTrie" "now" "LPageTrie$State;") (by decide +kernel)) (fun _ h9 => h9) rfl dX11_init_96 ?_
  refine n_get (C := RX8) (T := TX8) (N := 3) (ci := 8) (cl := cl_14) hx hb hts inX11_init_X8 hown hK hP hok k_q_7 (fun z hz => List.mem_append_right _ hz) rfl 0 rfl rfl (by decide) (hts (.fieldLink RX11 58 "PageTrie$State" "trie" "LPageTrie$Trie;") (by decide +kernel)) dX11_init_99 (fun q_16 k_q_16 => ?_)
  have k_q_16 := k_q_16.elim (fun h => False.elim h) id
  refine n_init (q := q_15) (t := 5) (ci := 4) (X := [(h0, .inr (11, [.ref q_1, .ref q_3, .ref q_5, .ref q_7, .ref q_9, .int (jI 0), .ref q_11, .ref q_13, .null, .null, .null, .null]))]) (cl := cl_14) (rest := [.ref q_15, .ref h0]) (As := [.ref q_16]) hx hb hml hown hts hK hP hD hS hA hok (kX4_init l q_16) 1 gX11_init_X4_init rfl (hts (.initialized RX4) (by decide +kernel)) (hts (.methodLink RX11 61 yX4_init) (by decide +kernel)) (hts (.instanceMethod yX4_init) (by decide +kernel)) rfl (by decide +kernel) ⟨Nat.le_of_ble_eq_true rfl, Nat.le_of_ble_eq_true rfl⟩ rfl rfl rfl hl.1 rfl (Nat.le_of_ble_eq_true rfl) dX11_init_102 ⟨(Nat.le_of_ble_eq_true rfl), (Nat.le_of_ble_eq_true rfl)⟩ (fun a t h => by obtain ⟨rfl, rfl⟩ := h; exact Or.inr k_q_16) (fun cl_17 H locs hok hm k_q_15 hP hD hS => ?_)
  have k_q_1 := hm _ _ k_q_1
  have k_q_3 := hm _ _ k_q_3
  have k_q_5 := hm _ _ k_q_5
  have k_q_7 := hm _ _ k_q_7
  have k_q_9 := hm _ _ k_q_9
  have k_q_11 := hm _ _ k_q_11
  have k_q_13 := hm _ _ k_q_13
  have k_q_16 := hm _ _ k_q_16
  refine va_putF (C := RX11) (T := TX11) (N := 12) (ci := 11) (ty := tyX11 8) (v := .ref q_15) hx hb hts inX11_init_X11 tyX11 tyX11_ok nmX11 hown hK.1.1 hP hD hS 0 rfl rfl 8 (by decide) (hts (.fieldLink RX11 64 "PageTrie" "view" "LPageTrie$LayerView;") (by decide +kernel)) (fun _ h9 => h9) rfl hin0 rfl (tyX11_ok 8 (by decide)) rfl rfl (Nat.le_of_ble_eq_true rfl) dX11_init_105 (fun H locs hP hD hS => ?_)
  have hP : va_P D vwCl ([(h0, .inr (11, [.ref q_1, .ref q_3, .ref q_5, .ref q_7, .ref q_9, .int (jI 0), .ref q_11, .ref q_13, .ref q_15, .null, .null, .null]))] ++ cW cA cl_17) H := hP
  have hD : va_D (aw h0 s.heap.size) ([(h0, .inr (11, [.ref q_1, .ref q_3, .ref q_5, .ref q_7, .ref q_9, .int (jI 0), .ref q_11, .ref q_13, .ref q_15, .null, .null, .null]))] ++ cW cA cl_17) := hD
  refine lv_aload_n hx hb dX11_init_108 rfl (lv_at hl 0 rfl) ?_
  refine n_new (C := RX5) (T := TX5) (N := 5) (ci := 5) (fs := [.null, .null, .null, .null, .int 0]) hx hb hts inX11_init_X5 tyX5 tyX5_ok hown (hts (.classLink RX11 68 RX5) (by decide +kernel)) (hts (.instantiable RX5 5) (by decide +kernel)) (hts (.initialized RX5) (by decide +kernel)) hK hP hD hS hA rfl (fun j hj => by rcases (show j = 0 ∨ j = 1 ∨ j = 2 ∨ j = 3 ∨ j = 4 by omega) with rfl | rfl | rfl | rfl | rfl <;> rfl) (Nat.le_of_ble_eq_true rfl) (Nat.le_of_ble_eq_true rfl) dX11_init_109 (fun q_18 H hP hD hS => ?_)
  have hP : va_P D vwCl ([(q_18, .inr (5, [.null, .null, .null, .null, .int 0])), (h0, .inr (11, [.ref q_1, .ref q_3, .ref q_5, .ref q_7, .ref q_9, .int (jI 0), .ref q_11, .ref q_13, .ref q_15, .null, .null, .null]))] ++ cW cA cl_17) H := hP
  have hD : va_D (aw h0 s.heap.size) ([(q_18, .inr (5, [.null, .null, .null, .null, .int 0])), (h0, .inr (11, [.ref q_1, .ref q_3, .ref q_5, .ref q_7, .ref q_9, .int (jI 0), .ref q_11, .ref q_13, .ref q_15, .null, .null, .null]))] ++ cW cA cl_17) := hD
  refine lv_dup hx hb dX11_init_112 rfl ?_
  refine n_init (q := q_18) (t := 6) (ci := 5) (X := [(h0, .inr (11, [.ref q_1, .ref q_3, .ref q_5, .ref q_7, .ref q_9, .int (jI 0), .ref q_11, .ref q_13, .ref q_15, .null, .null, .null]))]) (cl := cl_17) (rest := [.ref q_18, .ref h0]) (As := []) hx hb hml hown hts hK hP hD hS hA hok (kX5_init l) 0 gX11_init_X5_init rfl (hts (.initialized RX5) (by decide +kernel)) (hts (.methodLink RX11 70 yX5_init) (by decide +kernel)) (hts (.instanceMethod yX5_init) (by decide +kernel)) rfl (by decide +kernel) ⟨Nat.le_of_ble_eq_true rfl, Nat.le_of_ble_eq_true rfl⟩ rfl rfl rfl hl.1 rfl (Nat.le_of_ble_eq_true rfl) dX11_init_113 ⟨(Nat.le_of_ble_eq_true rfl), (Nat.le_of_ble_eq_true rfl)⟩ (fun _ _ h => False.elim h) (fun cl_19 H locs hok hm k_q_18 hP hD hS => ?_)
  have k_q_1 := hm _ _ k_q_1
  have k_q_3 := hm _ _ k_q_3
  have k_q_5 := hm _ _ k_q_5
  have k_q_7 := hm _ _ k_q_7
  have k_q_9 := hm _ _ k_q_9
  have k_q_11 := hm _ _ k_q_11
  have k_q_13 := hm _ _ k_q_13
  have k_q_16 := hm _ _ k_q_16
  have k_q_15 := hm _ _ k_q_15
  refine va_putF (C := RX11) (T := TX11) (N := 12) (ci := 11) (ty := tyX11 9) (v := .ref q_18) hx hb hts inX11_init_X11 tyX11 tyX11_ok nmX11 hown hK.1.1 hP hD hS 0 rfl rfl 9 (by decide) (hts (.fieldLink RX11 71 "PageTrie" "items" "LPageTrie$Orders;") (by decide +kernel)) (fun _ h9 => h9) rfl hin0 rfl (tyX11_ok 9 (by decide)) rfl rfl (Nat.le_of_ble_eq_true rfl) dX11_init_116 (fun H locs hP hD hS => ?_)
  have hP : va_P D vwCl ([(h0, .inr (11, [.ref q_1, .ref q_3, .ref q_5, .ref q_7, .ref q_9, .int (jI 0), .ref q_11, .ref q_13, .ref q_15, .ref q_18, .null, .null]))] ++ cW cA cl_19) H := hP
  have hD : va_D (aw h0 s.heap.size) ([(h0, .inr (11, [.ref q_1, .ref q_3, .ref q_5, .ref q_7, .ref q_9, .int (jI 0), .ref q_11, .ref q_13, .ref q_15, .ref q_18, .null, .null]))] ++ cW cA cl_19) := hD
  refine lv_aload_n hx hb dX11_init_119 rfl (lv_at hl 0 rfl) ?_
  refine n_new (C := RX6) (T := TX6) (N := 4) (ci := 6) (fs := [.null, .null, .null, .int 0]) hx hb hts inX11_init_X6 tyX6 tyX6_ok hown (hts (.classLink RX11 75 RX6) (by decide +kernel)) (hts (.instantiable RX6 4) (by decide +kernel)) (hts (.initialized RX6) (by decide +kernel)) hK hP hD hS hA rfl (fun j hj => by rcases (show j = 0 ∨ j = 1 ∨ j = 2 ∨ j = 3 by omega) with rfl | rfl | rfl | rfl <;> rfl) (Nat.le_of_ble_eq_true rfl) (Nat.le_of_ble_eq_true rfl) dX11_init_120 (fun q_20 H hP hD hS => ?_)
  have hP : va_P D vwCl ([(q_20, .inr (6, [.null, .null, .null, .int 0])), (h0, .inr (11, [.ref q_1, .ref q_3, .ref q_5, .ref q_7, .ref q_9, .int (jI 0), .ref q_11, .ref q_13, .ref q_15, .ref q_18, .null, .null]))] ++ cW cA cl_19) H := hP
  have hD : va_D (aw h0 s.heap.size) ([(q_20, .inr (6, [.null, .null, .null, .int 0])), (h0, .inr (11, [.ref q_1, .ref q_3, .ref q_5, .ref q_7, .ref q_9, .int (jI 0), .ref q_11, .ref q_13, .ref q_15, .ref q_18, .null, .null]))] ++ cW cA cl_19) := hD
  refine lv_dup hx hb dX11_init_123 rfl ?_
  refine n_init (q := q_20) (t := 7) (ci := 6) (X := [(h0, .inr (11, [.ref q_1, .ref q_3, .ref q_5, .ref q_7, .ref q_9, .int (jI 0), .ref q_11, .ref q_13, .ref q_15, .ref q_18, .null, .null]))]) (cl := cl_19) (rest := [.ref q_20, .ref h0]) (As := []) hx hb hml hown hts hK hP hD hS hA hok (kX6_init l) 0 gX11_init_X6_init rfl (hts (.initialized RX6) (by decide +kernel)) (hts (.methodLink RX11 77 yX6_init) (by decide +kernel)) (hts (.instanceMethod yX6_init) (by decide +kernel)) rfl (by decide +kernel) ⟨Nat.le_of_ble_eq_true rfl, Nat.le_of_ble_eq_true rfl⟩ rfl rfl rfl hl.1 rfl (Nat.le_of_ble_eq_true rfl) dX11_init_124 ⟨(Nat.le_of_ble_eq_true rfl), (Nat.le_of_ble_eq_true rfl)⟩ (fun _ _ h => False.elim h) (fun cl_21 H locs hok hm k_q_20 hP hD hS => ?_)
  have k_q_1 := hm _ _ k_q_1
  have k_q_3 := hm _ _ k_q_3
  have k_q_5 := hm _ _ k_q_5
  have k_q_7 := hm _ _ k_q_7
  have k_q_9 := hm _ _ k_q_9
  have k_q_11 := hm _ _ k_q_11
  have k_q_13 := hm _ _ k_q_13
  have k_q_16 := hm _ _ k_q_16
  have k_q_15 := hm _ _ k_q_15
  have k_q_18 := hm _ _ k_q_18
  refine va_putF (C := RX11) (T := TX11) (N := 12) (ci := 11) (ty := tyX11 10) (v := .ref q_20) hx hb hts inX11_init_X11 tyX11 tyX11_ok nmX11 hown hK.1.1 hP hD hS 0 rfl rfl 10 (by decide) (hts (.fieldLink RX11 78 "PageTrie" "asked" "LPageTrie$Query;") (by decide +kernel)) (fun _ h9 => h9) rfl hin0 rfl (tyX11_ok 10 (by decide)) rfl rfl (Nat.le_of_ble_eq_true rfl) dX11_init_127 (fun H locs hP hD hS => ?_)
  have hP : va_P D vwCl ([(h0, .inr (11, [.ref q_1, .ref q_3, .ref q_5, .ref q_7, .ref q_9, .int (jI 0), .ref q_11, .ref q_13, .ref q_15, .ref q_18, .ref q_20, .null]))] ++ cW cA cl_21) H := hP
  have hD : va_D (aw h0 s.heap.size) ([(h0, .inr (11, [.ref q_1, .ref q_3, .ref q_5, .ref q_7, .ref q_9, .int (jI 0), .ref q_11, .ref q_13, .ref q_15, .ref q_18, .ref q_20, .null]))] ++ cW cA cl_21) := hD
  refine lv_aload_n hx hb dX11_init_130 rfl (lv_at hl 0 rfl) ?_
  refine n_new (C := RX1) (T := TX1) (N := 3) (ci := 1) (fs := [.null, .null, .int 0]) hx hb hts inX11_init_X1 tyX1 tyX1_ok hown (hts (.classLink RX11 82 RX1) (by decide +kernel)) (hts (.instantiable RX1 3) (by decide +kernel)) (hts (.initialized RX1) (by decide +kernel)) hK hP hD hS hA rfl (fun j hj => by rcases (show j = 0 ∨ j = 1 ∨ j = 2 by omega) with rfl | rfl | rfl <;> rfl) (Nat.le_of_ble_eq_true rfl) (Nat.le_of_ble_eq_true rfl) dX11_init_131 (fun q_22 H hP hD hS => ?_)
  have hP : va_P D vwCl ([(q_22, .inr (1, [.null, .null, .int 0])), (h0, .inr (11, [.ref q_1, .ref q_3, .ref q_5, .ref q_7, .ref q_9, .int (jI 0), .ref q_11, .ref q_13, .ref q_15, .ref q_18, .ref q_20, .null]))] ++ cW cA cl_21) H := hP
  have hD : va_D (aw h0 s.heap.size) ([(q_22, .inr (1, [.null, .null, .int 0])), (h0, .inr (11, [.ref q_1, .ref q_3, .ref q_5, .ref q_7, .ref q_9, .int (jI 0), .ref q_11, .ref q_13, .ref q_15, .ref q_18, .ref q_20, .null]))] ++ cW cA cl_21) := hD
  refine lv_dup hx hb dX11_init_134 rfl ?_
  refine lv_aload_n hx hb dX11_init_135 rfl (lv_at hl 0 rfl) ?_
  refine va_get (C := RX11) (T := TX11) (N := 12) (ci := 11) (v := .ref q_7) hx hb hts inX11_init_X11 hown hK.1.1 hP 1 rfl rfl 3 (by decide) (hts (.fieldLink RX11 35 "PageTrie" "now" "LPageTrie$State;") (by decide +kernel)) (fun _ h9 => h9) rfl dX11_init_136 ?_
  refine n_get (C := RX8) (T := TX8) (N := 3) (ci := 8) (cl := cl_21) hx hb hts inX11_init_X8 hown hK hP hok k_q_7 (fun z hz => List.mem_append_right _ hz) rfl 0 rfl rfl (by decide) (hts (.fieldLink RX11 58 "PageTrie$State" "trie" "LPageTrie$Trie;") (by decide +kernel)) dX11_init_139 (fun q_23 k_q_23 => ?_)
  have k_q_23 := k_q_23.elim (fun h => False.elim h) id
  refine n_get (C := RX10) (T := TX10) (N := 9) (ci := 10) (cl := cl_21) hx hb hts inX11_init_X10 hown hK hP hok k_q_23 (fun z hz => List.mem_append_right _ hz) rfl 0 rfl rfl (by decide) (hts (.fieldLink RX11 84 "PageTrie$Trie" "keys" "LPageTrie$Keys;") (by decide +kernel)) dX11_init_142 (fun q_24 k_q_24 => ?_)
  have k_q_24 := k_q_24.elim (fun h => False.elim h) id
  refine n_init (q := q_22) (t := 2) (ci := 1) (X := [(h0, .inr (11, [.ref q_1, .ref q_3, .ref q_5, .ref q_7, .ref q_9, .int (jI 0), .ref q_11, .ref q_13, .ref q_15, .ref q_18, .ref q_20, .null]))]) (cl := cl_21) (rest := [.ref q_22, .ref h0]) (As := [.ref q_24]) hx hb hml hown hts hK hP hD hS hA hok (kX1_init l q_24) 1 gX11_init_X1_init rfl (hts (.initialized RX1) (by decide +kernel)) (hts (.methodLink RX11 88 yX1_init) (by decide +kernel)) (hts (.instanceMethod yX1_init) (by decide +kernel)) rfl (by decide +kernel) ⟨Nat.le_of_ble_eq_true rfl, Nat.le_of_ble_eq_true rfl⟩ rfl rfl rfl hl.1 rfl (Nat.le_of_ble_eq_true rfl) dX11_init_145 ⟨(Nat.le_of_ble_eq_true rfl), (Nat.le_of_ble_eq_true rfl)⟩ (fun a t h => by obtain ⟨rfl, rfl⟩ := h; exact Or.inr k_q_24) (fun cl_25 H locs hok hm k_q_22 hP hD hS => ?_)
  have k_q_1 := hm _ _ k_q_1
  have k_q_3 := hm _ _ k_q_3
  have k_q_5 := hm _ _ k_q_5
  have k_q_7 := hm _ _ k_q_7
  have k_q_9 := hm _ _ k_q_9
  have k_q_11 := hm _ _ k_q_11
  have k_q_13 := hm _ _ k_q_13
  have k_q_16 := hm _ _ k_q_16
  have k_q_15 := hm _ _ k_q_15
  have k_q_18 := hm _ _ k_q_18
  have k_q_20 := hm _ _ k_q_20
  have k_q_23 := hm _ _ k_q_23
  have k_q_24 := hm _ _ k_q_24
  refine va_putF (C := RX11) (T := TX11) (N := 12) (ci := 11) (ty := tyX11 11) (v := .ref q_22) hx hb hts inX11_init_X11 tyX11 tyX11_ok nmX11 hown hK.1.1 hP hD hS 0 rfl rfl 11 (by decide) (hts (.fieldLink RX11 91 "PageTrie" "left" "LPageTrie$Found;") (by decide +kernel)) (fun _ h9 => h9) rfl hin0 rfl (tyX11_ok 11 (by decide)) rfl rfl (Nat.le_of_ble_eq_true rfl) dX11_init_148 (fun H locs hP hD hS => ?_)
  have hP : va_P D vwCl ([(h0, .inr (11, [.ref q_1, .ref q_3, .ref q_5, .ref q_7, .ref q_9, .int (jI 0), .ref q_11, .ref q_13, .ref q_15, .ref q_18, .ref q_20, .ref q_22]))] ++ cW cA cl_25) H := hP
  have hD : va_D (aw h0 s.heap.size) ([(h0, .inr (11, [.ref q_1, .ref q_3, .ref q_5, .ref q_7, .ref q_9, .int (jI 0), .ref q_11, .ref q_13, .ref q_15, .ref q_18, .ref q_20, .ref q_22]))] ++ cW cA cl_25) := hD
  obtain ⟨cl9, hok, hm, k_h0, hP, hD⟩ := n_finO (X := []) (cl := cl_25) (h0 := h0) (ci := 11) (fs := [.ref q_1, .ref q_3, .ref q_5, .ref q_7, .ref q_9, .int (jI 0), .ref q_11, .ref q_13, .ref q_15, .ref q_18, .ref q_20, .ref q_22]) (E := noE) 12 (fun k => [q_1, q_3, q_5, q_7, q_9, 0, q_11, q_13, q_15, q_18, q_20, q_22].getD k 0) rfl rfl hP hD hok (fun k t h => match k, h with | 0, h => by cases h; exact Or.inr k_q_1 | 1, h => by cases h; exact Or.inr k_q_3 | 2, h => by cases h; exact Or.inr k_q_5 | 3, h => by cases h; exact Or.inr k_q_7 | 4, h => by cases h; exact Or.inr k_q_9 | 5, h => by cases h | 6, h => by cases h; exact Or.inr k_q_11 | 7, h => by cases h; exact Or.inr k_q_13 | 8, h => by cases h; exact Or.inr k_q_15 | 9, h => by cases h; exact Or.inr k_q_18 | 10, h => by cases h; exact Or.inr k_q_20 | 11, h => by cases h; exact Or.inr k_q_22 | k + 12, h => by simp at h)
  refine W.widen (k := 209) (n := 19376) (Nat.le_of_ble_eq_true rfl) (Nat.le_of_ble_eq_true rfl) ?_
  exact W.vret hx hb hr (fun t ht hW => ⟨⟨cl9, rfl, ⟨hok, k_h0⟩, by rw [ht]; exact hP, hD⟩, hS.F ht⟩) hS.2.2 dX11_init_151
theorem inX12_init_X12 : ∀ w ∈ u_ws RX12 TX12 41, w ∈ wsX12_init := mem_r _ [19, 20, 21, 22, 23, 24, 25, 26, 27, 28, 29, 30, 31, 32, 33, 34, 35, 36, 37, 38, 39, 40, 41, 42, 43, 44, 45, 46, 47, 48, 49, 50, 51, 52, 53, 54, 55, 56, 57, 58, 59] rfl
set_option maxHeartbeats 4000000 in
set_option maxRecDepth 100000 in
theorem kX12_init (l : Launch) {D : va_G} {cA : Nat → ClassId} {h0 sz : Nat} : Met l yX12_init wsX12_init ({ frames := 1, cells := 13, slots := 18683, locals := 12 }) (nP D cA h0 sz 12 [.null, .int 0, .null, .int 0, .int 0, .int 0, .null, .null, .int 0, .int 0, .null, .int 0, .int 0, .int 0, .int 0, .int 0, .null, .null, .null, .null, .null, .null, .int 0, .int 0, .int 0, .int 0, .int 0, .int 0, .int 0, .int 0, .int 0, .int 0, .int 0, .int 0, .int 0, .int 0, .int 0, .null, .int 0, .null, .int 0] []) (nQ D cA h0 sz (nOK noE h0 13)) 13 18683 (aw h0 sz) := by
  refine Met.ofW (cc := cX12_init) (maxL := 1) (ret := none) (by decide +kernel) rfl ?_
  intro p e s m args below meth c s₁ B hml hv
  obtain ⟨rfl, hsz, hP, hK⟩ := hv
  have hx := B.exec
  have hb := B.bytes
  have hr := B.returns
  have hts := atoms_spec (ws := wsX12_init) B.pre
  have hown : s.vm.findClass RX12 = some m.cls := findClass_of_methodNamed B.named
  have hlocks := B.notSynchronized
  have hin0 : meth.name = "<init>" := (name_of_methodNamed B.named B.method).1
  subst hsz
  have hA : ∀ q : Nat, s.heap.size ≤ q → aw h0 s.heap.size q := fun q h => Or.inr h
  have hS : va_S (aw h0 s.heap.size) s.heap s.heap [] := va_S.rf
  have hD : va_D (aw h0 s.heap.size) [(h0, (.inr (12, [.null, .int 0, .null, .int 0, .int 0, .int 0, .null, .null, .int 0, .int 0, .null, .int 0, .int 0, .int 0, .int 0, .int 0, .null, .null, .null, .null, .null, .null, .int 0, .int 0, .int 0, .int 0, .int 0, .int 0, .int 0, .int 0, .int 0, .int 0, .int 0, .int 0, .int 0, .int 0, .int 0, .null, .int 0, .null, .int 0]) : va_E))] := D_iff.mpr ⟨List.nodup_cons.mpr ⟨List.not_mem_nil, List.nodup_nil⟩, fun q hq => by rw [List.mem_singleton.mp hq]; exact Or.inl rfl⟩
  have hok : okL noE [] := okL.nil
  have hl := lv_entry ([.ref h0]) (n := 1) (Nat.le_of_ble_eq_true rfl)
  rw [lg_entry_eq]
  generalize (lg_sl ([.ref h0]) ++ List.replicate (1 - (lg_sl ([.ref h0])).length) Slot.unset).toArray = ls at hl ⊢
  have hl : lv_has ls 1 [(0, .ref h0)] := hl
  have hP : va_P D vwCl ([(h0, .inr (12, [.null, .int 0, .null, .int 0, .int 0, .int 0, .null, .null, .int 0, .int 0, .null, .int 0, .int 0, .int 0, .int 0, .int 0, .null, .null, .null, .null, .null, .null, .int 0, .int 0, .int 0, .int 0, .int 0, .int 0, .int 0, .int 0, .int 0, .int 0, .int 0, .int 0, .int 0, .int 0, .int 0, .null, .int 0, .null, .int 0]))] ++ cW cA []) s.heap := hP
  have hD : va_D (aw h0 s.heap.size) ([(h0, .inr (12, [.null, .int 0, .null, .int 0, .int 0, .int 0, .null, .null, .int 0, .int 0, .null, .int 0, .int 0, .int 0, .int 0, .int 0, .null, .null, .null, .null, .null, .null, .int 0, .int 0, .int 0, .int 0, .int 0, .int 0, .int 0, .int 0, .int 0, .int 0, .int 0, .int 0, .int 0, .int 0, .int 0, .null, .int 0, .null, .int 0]))] ++ cW cA []) := hD
  refine lv_aload_n hx hb dX12_init_0 rfl (lv_at hl 0 rfl) ?_
  refine W.objInit hx hb hown (hts (.methodLink RX12 1 objectInit) (by decide +kernel)) (hts (.instanceMethod objectInit) (by decide +kernel)) (hts _ (List.mem_of_getElem? (i := 3) rfl)) rfl (by rw [hml]; exact hl.1) rfl dX12_init_1 (Nat.le_of_ble_eq_true rfl) (Nat.le_of_ble_eq_true rfl) ?_
  refine W.eq (g2 := F0 m 4 ls []) rfl ?_
  refine lv_aload_n hx hb dX12_init_4 rfl (lv_at hl 0 rfl) ?_
  refine j_si hx hb dX12_init_5 (by decide) ?_
  refine va_newa (atype := .int) (ty := .int) (N' := 17624) (a0 := (17624, .inl (fun _ => 0))) hx hb (hts (.arrayClass .int) (by decide +kernel)) rfl hK.1.1 hP hD hS hA (fun _ => rfl) (jI_nlt0 (by omega) (by omega)) ((jI_clamp (by omega)).trans rfl) (Nat.le_of_ble_eq_true rfl) (Nat.le_of_ble_eq_true rfl) (Nat.le_of_ble_eq_true rfl) dX12_init_8 (fun q_1 cA9 H hK9 hP hD hS => ?_)
  obtain rfl : cA9 = cA 1 := RA_inj (hK9.2 (tyL cA).length (cA9, .int) rfl).2 (hK.1.1.2 1 (cA 1, .int) rfl).2
  have hP := P_perm hP (List.perm_append_singleton ..)
  have hD := D_perm hD (List.perm_append_singleton ..)
  have hP : va_P D vwCl ([(q_1, .inl (cA 1, 17624, .inl (fun _ => 0))), (h0, .inr (12, [.null, .int 0, .null, .int 0, .int 0, .int 0, .null, .null, .int 0, .int 0, .null, .int 0, .int 0, .int 0, .int 0, .int 0, .null, .null, .null, .null, .null, .null, .int 0, .int 0, .int 0, .int 0, .int 0, .int 0, .int 0, .int 0, .int 0, .int 0, .int 0, .int 0, .int 0, .int 0, .int 0, .null, .int 0, .null, .int 0]))] ++ cW cA []) H := hP
  have hD : va_D (aw h0 s.heap.size) ([(q_1, .inl (cA 1, 17624, .inl (fun _ => 0))), (h0, .inr (12, [.null, .int 0, .null, .int 0, .int 0, .int 0, .null, .null, .int 0, .int 0, .null, .int 0, .int 0, .int 0, .int 0, .int 0, .null, .null, .null, .null, .null, .null, .int 0, .int 0, .int 0, .int 0, .int 0, .int 0, .int 0, .int 0, .int 0, .int 0, .int 0, .int 0, .int 0, .int 0, .int 0, .null, .int 0, .null, .int 0]))] ++ cW cA []) := hD
  refine va_putF (C := RX12) (T := TX12) (N := 41) (ci := 12) (ty := tyX12 0) (v := .ref q_1) hx hb hts inX12_init_X12 tyX12 tyX12_ok nmX12 hown hK.1.1 hP hD hS 1 rfl rfl 0 (by decide) (hts (.fieldLink RX12 7 "PageTrieModel" "file" "[I") (by decide +kernel)) (fun _ h9 => h9) rfl hin0 rfl (tyX12_ok 0 (by decide)) rfl rfl (Nat.le_of_ble_eq_true rfl) dX12_init_10 (fun H locs hP hD hS => ?_)
  have hP : va_P D vwCl ([(q_1, .inl (cA 1, 17624, .inl (fun _ => 0))), (h0, .inr (12, [.ref q_1, .int 0, .null, .int 0, .int 0, .int 0, .null, .null, .int 0, .int 0, .null, .int 0, .int 0, .int 0, .int 0, .int 0, .null, .null, .null, .null, .null, .null, .int 0, .int 0, .int 0, .int 0, .int 0, .int 0, .int 0, .int 0, .int 0, .int 0, .int 0, .int 0, .int 0, .int 0, .int 0, .null, .int 0, .null, .int 0]))] ++ cW cA []) H := hP
  have hD : va_D (aw h0 s.heap.size) ([(q_1, .inl (cA 1, 17624, .inl (fun _ => 0))), (h0, .inr (12, [.ref q_1, .int 0, .null, .int 0, .int 0, .int 0, .null, .null, .int 0, .int 0, .null, .int 0, .int 0, .int 0, .int 0, .int 0, .null, .null, .null, .null, .null, .null, .int 0, .int 0, .int 0, .int 0, .int 0, .int 0, .int 0, .int 0, .int 0, .int 0, .int 0, .int 0, .int 0, .int 0, .int 0, .null, .int 0, .null, .int 0]))] ++ cW cA []) := hD
  refine lv_aload_n hx hb dX12_init_13 rfl (lv_at hl 0 rfl) ?_
  refine j_bi hx hb dX12_init_14 (by decide) ?_
  refine n_arr (atype := .int) (ty := .int) (N' := 24) (ck := 1) (X := [(q_1, .inl (cA 1, 17624, .inl (fun _ => 0))), (h0, .inr (12, [.ref q_1, .int 0, .null, .int 0, .int 0, .int 0, .null, .null, .int 0, .int 0, .null, .int 0, .int 0, .int 0, .int 0, .int 0, .null, .null, .null, .null, .null, .null, .int 0, .int 0, .int 0, .int 0, .int 0, .int 0, .int 0, .int 0, .int 0, .int 0, .int 0, .int 0, .int 0, .int 0, .int 0, .null, .int 0, .null, .int 0]))]) (cl := []) hx hb (hts (.arrayClass .int) (by decide +kernel)) rfl hK hP hD hS hA hok 41 rfl rfl ⟨by decide, by decide⟩ (fun _ => rfl) (jI_nlt0 (by omega) (by omega)) ((jI_clamp (by omega)).trans rfl) (Nat.le_of_ble_eq_true rfl) (Nat.le_of_ble_eq_true rfl) (Nat.le_of_ble_eq_true rfl) dX12_init_16 (fun q_3 cl_4 H hok hm k_q_3 hP hD hS => ?_)
  refine va_putF (C := RX12) (T := TX12) (N := 41) (ci := 12) (ty := tyX12 2) (v := .ref q_3) hx hb hts inX12_init_X12 tyX12 tyX12_ok nmX12 hown hK.1.1 hP hD hS 1 rfl rfl 2 (by decide) (hts (.fieldLink RX12 13 "PageTrieModel" "hand" "[I") (by decide +kernel)) (fun _ h9 => h9) rfl hin0 rfl (tyX12_ok 2 (by decide)) rfl rfl (Nat.le_of_ble_eq_true rfl) dX12_init_18 (fun H locs hP hD hS => ?_)
  have hP : va_P D vwCl ([(q_1, .inl (cA 1, 17624, .inl (fun _ => 0))), (h0, .inr (12, [.ref q_1, .int 0, .ref q_3, .int 0, .int 0, .int 0, .null, .null, .int 0, .int 0, .null, .int 0, .int 0, .int 0, .int 0, .int 0, .null, .null, .null, .null, .null, .null, .int 0, .int 0, .int 0, .int 0, .int 0, .int 0, .int 0, .int 0, .int 0, .int 0, .int 0, .int 0, .int 0, .int 0, .int 0, .null, .int 0, .null, .int 0]))] ++ cW cA cl_4) H := hP
  have hD : va_D (aw h0 s.heap.size) ([(q_1, .inl (cA 1, 17624, .inl (fun _ => 0))), (h0, .inr (12, [.ref q_1, .int 0, .ref q_3, .int 0, .int 0, .int 0, .null, .null, .int 0, .int 0, .null, .int 0, .int 0, .int 0, .int 0, .int 0, .null, .null, .null, .null, .null, .null, .int 0, .int 0, .int 0, .int 0, .int 0, .int 0, .int 0, .int 0, .int 0, .int 0, .int 0, .int 0, .int 0, .int 0, .int 0, .null, .int 0, .null, .int 0]))] ++ cW cA cl_4) := hD
  refine lv_aload_n hx hb dX12_init_21 rfl (lv_at hl 0 rfl) ?_
  refine j_si hx hb dX12_init_22 (by decide) ?_
  refine n_arr (atype := .int) (ty := .int) (N' := 151) (ck := 1) (X := [(q_1, .inl (cA 1, 17624, .inl (fun _ => 0))), (h0, .inr (12, [.ref q_1, .int 0, .ref q_3, .int 0, .int 0, .int 0, .null, .null, .int 0, .int 0, .null, .int 0, .int 0, .int 0, .int 0, .int 0, .null, .null, .null, .null, .null, .null, .int 0, .int 0, .int 0, .int 0, .int 0, .int 0, .int 0, .int 0, .int 0, .int 0, .int 0, .int 0, .int 0, .int 0, .int 0, .null, .int 0, .null, .int 0]))]) (cl := cl_4) hx hb (hts (.arrayClass .int) (by decide +kernel)) rfl hK hP hD hS hA hok 42 rfl rfl ⟨by decide, by decide⟩ (fun _ => rfl) (jI_nlt0 (by omega) (by omega)) ((jI_clamp (by omega)).trans rfl) (Nat.le_of_ble_eq_true rfl) (Nat.le_of_ble_eq_true rfl) (Nat.le_of_ble_eq_true rfl) dX12_init_25 (fun q_5 cl_6 H hok hm k_q_5 hP hD hS => ?_)
  have k_q_3 := hm _ _ k_q_3
  refine va_putF (C := RX12) (T := TX12) (N := 41) (ci := 12) (ty := tyX12 6) (v := .ref q_5) hx hb hts inX12_init_X12 tyX12 tyX12_ok nmX12 hown hK.1.1 hP hD hS 1 rfl rfl 6 (by decide) (hts (.fieldLink RX12 16 "PageTrieModel" "entryAt" "[I") (by decide +kernel)) (fun _ h9 => h9) rfl hin0 rfl (tyX12_ok 6 (by decide)) rfl rfl (Nat.le_of_ble_eq_true rfl) dX12_init_27 (fun H locs hP hD hS => ?_)
  have hP : va_P D vwCl ([(q_1, .inl (cA 1, 17624, .inl (fun _ => 0))), (h0, .inr (12, [.ref q_1, .int 0, .ref q_3, .int 0, .int 0, .int 0, .ref q_5, .null, .int 0, .int 0, .null, .int 0, .int 0, .int 0, .int 0, .int 0, .null, .null, .null, .null, .null, .null, .int 0, .int 0, .int 0, .int 0, .int 0, .int 0, .int 0, .int 0, .int 0, .int 0, .int 0, .int 0, .int 0, .int 0, .int 0, .null, .int 0, .null, .int 0]))] ++ cW cA cl_6) H := hP
  have hD : va_D (aw h0 s.heap.size) ([(q_1, .inl (cA 1, 17624, .inl (fun _ => 0))), (h0, .inr (12, [.ref q_1, .int 0, .ref q_3, .int 0, .int 0, .int 0, .ref q_5, .null, .int 0, .int 0, .null, .int 0, .int 0, .int 0, .int 0, .int 0, .null, .null, .null, .null, .null, .null, .int 0, .int 0, .int 0, .int 0, .int 0, .int 0, .int 0, .int 0, .int 0, .int 0, .int 0, .int 0, .int 0, .int 0, .int 0, .null, .int 0, .null, .int 0]))] ++ cW cA cl_6) := hD
  refine lv_aload_n hx hb dX12_init_30 rfl (lv_at hl 0 rfl) ?_
  refine j_si hx hb dX12_init_31 (by decide) ?_
  refine n_arr (atype := .int) (ty := .int) (N' := 150) (ck := 1) (X := [(q_1, .inl (cA 1, 17624, .inl (fun _ => 0))), (h0, .inr (12, [.ref q_1, .int 0, .ref q_3, .int 0, .int 0, .int 0, .ref q_5, .null, .int 0, .int 0, .null, .int 0, .int 0, .int 0, .int 0, .int 0, .null, .null, .null, .null, .null, .null, .int 0, .int 0, .int 0, .int 0, .int 0, .int 0, .int 0, .int 0, .int 0, .int 0, .int 0, .int 0, .int 0, .int 0, .int 0, .null, .int 0, .null, .int 0]))]) (cl := cl_6) hx hb (hts (.arrayClass .int) (by decide +kernel)) rfl hK hP hD hS hA hok 43 rfl rfl ⟨by decide, by decide⟩ (fun _ => rfl) (jI_nlt0 (by omega) (by omega)) ((jI_clamp (by omega)).trans rfl) (Nat.le_of_ble_eq_true rfl) (Nat.le_of_ble_eq_true rfl) (Nat.le_of_ble_eq_true rfl) dX12_init_34 (fun q_7 cl_8 H hok hm k_q_7 hP hD hS => ?_)
  have k_q_3 := hm _ _ k_q_3
  have k_q_5 := hm _ _ k_q_5
  refine va_putF (C := RX12) (T := TX12) (N := 41) (ci := 12) (ty := tyX12 7) (v := .ref q_7) hx hb hts inX12_init_X12 tyX12 tyX12_ok nmX12 hown hK.1.1 hP hD hS 1 rfl rfl 7 (by decide) (hts (.fieldLink RX12 19 "PageTrieModel" "entryKind" "[I") (by decide +kernel)) (fun _ h9 => h9) rfl hin0 rfl (tyX12_ok 7 (by decide)) rfl rfl (Nat.le_of_ble_eq_true rfl) dX12_init_36 (fun H locs hP hD hS => ?_)
  have hP : va_P D vwCl ([(q_1, .inl (cA 1, 17624, .inl (fun _ => 0))), (h0, .inr (12, [.ref q_1, .int 0, .ref q_3, .int 0, .int 0, .int 0, .ref q_5, .ref q_7, .int 0, .int 0, .null, .int 0, .int 0, .int 0, .int 0, .int 0, .null, .null, .null, .null, .null, .null, .int 0, .int 0, .int 0, .int 0, .int 0, .int 0, .int 0, .int 0, .int 0, .int 0, .int 0, .int 0, .int 0, .int 0, .int 0, .null, .int 0, .null, .int 0]))] ++ cW cA cl_8) H := hP
  have hD : va_D (aw h0 s.heap.size) ([(q_1, .inl (cA 1, 17624, .inl (fun _ => 0))), (h0, .inr (12, [.ref q_1, .int 0, .ref q_3, .int 0, .int 0, .int 0, .ref q_5, .ref q_7, .int 0, .int 0, .null, .int 0, .int 0, .int 0, .int 0, .int 0, .null, .null, .null, .null, .null, .null, .int 0, .int 0, .int 0, .int 0, .int 0, .int 0, .int 0, .int 0, .int 0, .int 0, .int 0, .int 0, .int 0, .int 0, .int 0, .null, .int 0, .null, .int 0]))] ++ cW cA cl_8) := hD
  refine lv_aload_n hx hb dX12_init_39 rfl (lv_at hl 0 rfl) ?_
  refine j_si hx hb dX12_init_40 (by decide) ?_
  refine n_arr (atype := .byte) (ty := .byte) (N' := 240) (ck := 0) (X := [(q_1, .inl (cA 1, 17624, .inl (fun _ => 0))), (h0, .inr (12, [.ref q_1, .int 0, .ref q_3, .int 0, .int 0, .int 0, .ref q_5, .ref q_7, .int 0, .int 0, .null, .int 0, .int 0, .int 0, .int 0, .int 0, .null, .null, .null, .null, .null, .null, .int 0, .int 0, .int 0, .int 0, .int 0, .int 0, .int 0, .int 0, .int 0, .int 0, .int 0, .int 0, .int 0, .int 0, .int 0, .null, .int 0, .null, .int 0]))]) (cl := cl_8) hx hb (hts (.arrayClass .byte) (by decide +kernel)) rfl hK hP hD hS hA hok 44 rfl rfl ⟨by decide, by decide⟩ (fun _ => rfl) (jI_nlt0 (by omega) (by omega)) ((jI_clamp (by omega)).trans rfl) (Nat.le_of_ble_eq_true rfl) (Nat.le_of_ble_eq_true rfl) (Nat.le_of_ble_eq_true rfl) dX12_init_43 (fun q_9 cl_10 H hok hm k_q_9 hP hD hS => ?_)
  have k_q_3 := hm _ _ k_q_3
  have k_q_5 := hm _ _ k_q_5
  have k_q_7 := hm _ _ k_q_7
  refine va_putF (C := RX12) (T := TX12) (N := 41) (ci := 12) (ty := tyX12 10) (v := .ref q_9) hx hb hts inX12_init_X12 tyX12 tyX12_ok nmX12 hown hK.1.1 hP hD hS 1 rfl rfl 10 (by decide) (hts (.fieldLink RX12 22 "PageTrieModel" "tape" "[B") (by decide +kernel)) (fun _ h9 => h9) rfl hin0 rfl (tyX12_ok 10 (by decide)) rfl rfl (Nat.le_of_ble_eq_true rfl) dX12_init_45 (fun H locs hP hD hS => ?_)
  have hP : va_P D vwCl ([(q_1, .inl (cA 1, 17624, .inl (fun _ => 0))), (h0, .inr (12, [.ref q_1, .int 0, .ref q_3, .int 0, .int 0, .int 0, .ref q_5, .ref q_7, .int 0, .int 0, .ref q_9, .int 0, .int 0, .int 0, .int 0, .int 0, .null, .null, .null, .null, .null, .null, .int 0, .int 0, .int 0, .int 0, .int 0, .int 0, .int 0, .int 0, .int 0, .int 0, .int 0, .int 0, .int 0, .int 0, .int 0, .null, .int 0, .null, .int 0]))] ++ cW cA cl_10) H := hP
  have hD : va_D (aw h0 s.heap.size) ([(q_1, .inl (cA 1, 17624, .inl (fun _ => 0))), (h0, .inr (12, [.ref q_1, .int 0, .ref q_3, .int 0, .int 0, .int 0, .ref q_5, .ref q_7, .int 0, .int 0, .ref q_9, .int 0, .int 0, .int 0, .int 0, .int 0, .null, .null, .null, .null, .null, .null, .int 0, .int 0, .int 0, .int 0, .int 0, .int 0, .int 0, .int 0, .int 0, .int 0, .int 0, .int 0, .int 0, .int 0, .int 0, .null, .int 0, .null, .int 0]))] ++ cW cA cl_10) := hD
  refine lv_aload_n hx hb dX12_init_48 rfl (lv_at hl 0 rfl) ?_
  refine j_bi hx hb dX12_init_49 (by decide) ?_
  refine n_arr (atype := .int) (ty := .int) (N' := 20) (ck := 1) (X := [(q_1, .inl (cA 1, 17624, .inl (fun _ => 0))), (h0, .inr (12, [.ref q_1, .int 0, .ref q_3, .int 0, .int 0, .int 0, .ref q_5, .ref q_7, .int 0, .int 0, .ref q_9, .int 0, .int 0, .int 0, .int 0, .int 0, .null, .null, .null, .null, .null, .null, .int 0, .int 0, .int 0, .int 0, .int 0, .int 0, .int 0, .int 0, .int 0, .int 0, .int 0, .int 0, .int 0, .int 0, .int 0, .null, .int 0, .null, .int 0]))]) (cl := cl_10) hx hb (hts (.arrayClass .int) (by decide +kernel)) rfl hK hP hD hS hA hok 45 rfl rfl ⟨by decide, by decide⟩ (fun _ => rfl) (jI_nlt0 (by omega) (by omega)) ((jI_clamp (by omega)).trans rfl) (Nat.le_of_ble_eq_true rfl) (Nat.le_of_ble_eq_true rfl) (Nat.le_of_ble_eq_true rfl) dX12_init_51 (fun q_11 cl_12 H hok hm k_q_11 hP hD hS => ?_)
  have k_q_3 := hm _ _ k_q_3
  have k_q_5 := hm _ _ k_q_5
  have k_q_7 := hm _ _ k_q_7
  have k_q_9 := hm _ _ k_q_9
  refine va_putF (C := RX12) (T := TX12) (N := 41) (ci := 12) (ty := tyX12 16) (v := .ref q_11) hx hb hts inX12_init_X12 tyX12 tyX12_ok nmX12 hown hK.1.1 hP hD hS 1 rfl rfl 16 (by decide) (hts (.fieldLink RX12 26 "PageTrieModel" "itemOf" "[I") (by decide +kernel)) (fun _ h9 => h9) rfl hin0 rfl (tyX12_ok 16 (by decide)) rfl rfl (Nat.le_of_ble_eq_true rfl) dX12_init_53 (fun H locs hP hD hS => ?_)
  have hP : va_P D vwCl ([(q_1, .inl (cA 1, 17624, .inl (fun _ => 0))), (h0, .inr (12, [.ref q_1, .int 0, .ref q_3, .int 0, .int 0, .int 0, .ref q_5, .ref q_7, .int 0, .int 0, .ref q_9, .int 0, .int 0, .int 0, .int 0, .int 0, .ref q_11, .null, .null, .null, .null, .null, .int 0, .int 0, .int 0, .int 0, .int 0, .int 0, .int 0, .int 0, .int 0, .int 0, .int 0, .int 0, .int 0, .int 0, .int 0, .null, .int 0, .null, .int 0]))] ++ cW cA cl_12) H := hP
  have hD : va_D (aw h0 s.heap.size) ([(q_1, .inl (cA 1, 17624, .inl (fun _ => 0))), (h0, .inr (12, [.ref q_1, .int 0, .ref q_3, .int 0, .int 0, .int 0, .ref q_5, .ref q_7, .int 0, .int 0, .ref q_9, .int 0, .int 0, .int 0, .int 0, .int 0, .ref q_11, .null, .null, .null, .null, .null, .int 0, .int 0, .int 0, .int 0, .int 0, .int 0, .int 0, .int 0, .int 0, .int 0, .int 0, .int 0, .int 0, .int 0, .int 0, .null, .int 0, .null, .int 0]))] ++ cW cA cl_12) := hD
  refine lv_aload_n hx hb dX12_init_56 rfl (lv_at hl 0 rfl) ?_
  refine j_bi hx hb dX12_init_57 (by decide) ?_
  refine n_arr (atype := .int) (ty := .int) (N' := 20) (ck := 1) (X := [(q_1, .inl (cA 1, 17624, .inl (fun _ => 0))), (h0, .inr (12, [.ref q_1, .int 0, .ref q_3, .int 0, .int 0, .int 0, .ref q_5, .ref q_7, .int 0, .int 0, .ref q_9, .int 0, .int 0, .int 0, .int 0, .int 0, .ref q_11, .null, .null, .null, .null, .null, .int 0, .int 0, .int 0, .int 0, .int 0, .int 0, .int 0, .int 0, .int 0, .int 0, .int 0, .int 0, .int 0, .int 0, .int 0, .null, .int 0, .null, .int 0]))]) (cl := cl_12) hx hb (hts (.arrayClass .int) (by decide +kernel)) rfl hK hP hD hS hA hok 46 rfl rfl ⟨by decide, by decide⟩ (fun _ => rfl) (jI_nlt0 (by omega) (by omega)) ((jI_clamp (by omega)).trans rfl) (Nat.le_of_ble_eq_true rfl) (Nat.le_of_ble_eq_true rfl) (Nat.le_of_ble_eq_true rfl) dX12_init_59 (fun q_13 cl_14 H hok hm k_q_13 hP hD hS => ?_)
  have k_q_3 := hm _ _ k_q_3
  have k_q_5 := hm _ _ k_q_5
  have k_q_7 := hm _ _ k_q_7
  have k_q_9 := hm _ _ k_q_9
  have k_q_11 := hm _ _ k_q_11
  refine va_putF (C := RX12) (T := TX12) (N := 41) (ci := 12) (ty := tyX12 17) (v := .ref q_13) hx hb hts inX12_init_X12 tyX12 tyX12_ok nmX12 hown hK.1.1 hP hD hS 1 rfl rfl 17 (by decide) (hts (.fieldLink RX12 29 "PageTrieModel" "itemNumber" "[I") (by decide +kernel)) (fun _ h9 => h9) rfl hin0 rfl (tyX12_ok 17 (by decide)) rfl rfl (Nat.le_of_ble_eq_true rfl) dX12_init_61 (fun H locs hP hD hS => ?_)
  have hP : va_P D vwCl ([(q_1, .inl (cA 1, 17624, .inl (fun _ => 0))), (h0, .inr (12, [.ref q_1, .int 0, .ref q_3, .int 0, .int 0, .int 0, .ref q_5, .ref q_7, .int 0, .int 0, .ref q_9, .int 0, .int 0, .int 0, .int 0, .int 0, .ref q_11, .ref q_13, .null, .null, .null, .null, .int 0, .int 0, .int 0, .int 0, .int 0, .int 0, .int 0, .int 0, .int 0, .int 0, .int 0, .int 0, .int 0, .int 0, .int 0, .null, .int 0, .null, .int 0]))] ++ cW cA cl_14) H := hP
  have hD : va_D (aw h0 s.heap.size) ([(q_1, .inl (cA 1, 17624, .inl (fun _ => 0))), (h0, .inr (12, [.ref q_1, .int 0, .ref q_3, .int 0, .int 0, .int 0, .ref q_5, .ref q_7, .int 0, .int 0, .ref q_9, .int 0, .int 0, .int 0, .int 0, .int 0, .ref q_11, .ref q_13, .null, .null, .null, .null, .int 0, .int 0, .int 0, .int 0, .int 0, .int 0, .int 0, .int 0, .int 0, .int 0, .int 0, .int 0, .int 0, .int 0, .int 0, .null, .int 0, .null, .int 0]))] ++ cW cA cl_14) := hD
  refine lv_aload_n hx hb dX12_init_64 rfl (lv_at hl 0 rfl) ?_
  refine j_bi hx hb dX12_init_65 (by decide) ?_
  refine n_arr (atype := .int) (ty := .int) (N' := 20) (ck := 1) (X := [(q_1, .inl (cA 1, 17624, .inl (fun _ => 0))), (h0, .inr (12, [.ref q_1, .int 0, .ref q_3, .int 0, .int 0, .int 0, .ref q_5, .ref q_7, .int 0, .int 0, .ref q_9, .int 0, .int 0, .int 0, .int 0, .int 0, .ref q_11, .ref q_13, .null, .null, .null, .null, .int 0, .int 0, .int 0, .int 0, .int 0, .int 0, .int 0, .int 0, .int 0, .int 0, .int 0, .int 0, .int 0, .int 0, .int 0, .null, .int 0, .null, .int 0]))]) (cl := cl_14) hx hb (hts (.arrayClass .int) (by decide +kernel)) rfl hK hP hD hS hA hok 47 rfl rfl ⟨by decide, by decide⟩ (fun _ => rfl) (jI_nlt0 (by omega) (by omega)) ((jI_clamp (by omega)).trans rfl) (Nat.le_of_ble_eq_true rfl) (Nat.le_of_ble_eq_true rfl) (Nat.le_of_ble_eq_true rfl) dX12_init_67 (fun q_15 cl_16 H hok hm k_q_15 hP hD hS => ?_)
  have k_q_3 := hm _ _ k_q_3
  have k_q_5 := hm _ _ k_q_5
  have k_q_7 := hm _ _ k_q_7
  have k_q_9 := hm _ _ k_q_9
  have k_q_11 := hm _ _ k_q_11
  have k_q_13 := hm _ _ k_q_13
  refine va_putF (C := RX12) (T := TX12) (N := 41) (ci := 12) (ty := tyX12 18) (v := .ref q_15) hx hb hts inX12_init_X12 tyX12 tyX12_ok nmX12 hown hK.1.1 hP hD hS 1 rfl rfl 18 (by decide) (hts (.fieldLink RX12 32 "PageTrieModel" "itemAt" "[I") (by decide +kernel)) (fun _ h9 => h9) rfl hin0 rfl (tyX12_ok 18 (by decide)) rfl rfl (Nat.le_of_ble_eq_true rfl) dX12_init_69 (fun H locs hP hD hS => ?_)
  have hP : va_P D vwCl ([(q_1, .inl (cA 1, 17624, .inl (fun _ => 0))), (h0, .inr (12, [.ref q_1, .int 0, .ref q_3, .int 0, .int 0, .int 0, .ref q_5, .ref q_7, .int 0, .int 0, .ref q_9, .int 0, .int 0, .int 0, .int 0, .int 0, .ref q_11, .ref q_13, .ref q_15, .null, .null, .null, .int 0, .int 0, .int 0, .int 0, .int 0, .int 0, .int 0, .int 0, .int 0, .int 0, .int 0, .int 0, .int 0, .int 0, .int 0, .null, .int 0, .null, .int 0]))] ++ cW cA cl_16) H := hP
  have hD : va_D (aw h0 s.heap.size) ([(q_1, .inl (cA 1, 17624, .inl (fun _ => 0))), (h0, .inr (12, [.ref q_1, .int 0, .ref q_3, .int 0, .int 0, .int 0, .ref q_5, .ref q_7, .int 0, .int 0, .ref q_9, .int 0, .int 0, .int 0, .int 0, .int 0, .ref q_11, .ref q_13, .ref q_15, .null, .null, .null, .int 0, .int 0, .int 0, .int 0, .int 0, .int 0, .int 0, .int 0, .int 0, .int 0, .int 0, .int 0, .int 0, .int 0, .int 0, .null, .int 0, .null, .int 0]))] ++ cW cA cl_16) := hD
  refine lv_aload_n hx hb dX12_init_72 rfl (lv_at hl 0 rfl) ?_
  refine j_bi hx hb dX12_init_73 (by decide) ?_
  refine n_arr (atype := .int) (ty := .int) (N' := 20) (ck := 1) (X := [(q_1, .inl (cA 1, 17624, .inl (fun _ => 0))), (h0, .inr (12, [.ref q_1, .int 0, .ref q_3, .int 0, .int 0, .int 0, .ref q_5, .ref q_7, .int 0, .int 0, .ref q_9, .int 0, .int 0, .int 0, .int 0, .int 0, .ref q_11, .ref q_13, .ref q_15, .null, .null, .null, .int 0, .int 0, .int 0, .int 0, .int 0, .int 0, .int 0, .int 0, .int 0, .int 0, .int 0, .int 0, .int 0, .int 0, .int 0, .null, .int 0, .null, .int 0]))]) (cl := cl_16) hx hb (hts (.arrayClass .int) (by decide +kernel)) rfl hK hP hD hS hA hok 48 rfl rfl ⟨by decide, by decide⟩ (fun _ => rfl) (jI_nlt0 (by omega) (by omega)) ((jI_clamp (by omega)).trans rfl) (Nat.le_of_ble_eq_true rfl) (Nat.le_of_ble_eq_true rfl) (Nat.le_of_ble_eq_true rfl) dX12_init_75 (fun q_17 cl_18 H hok hm k_q_17 hP hD hS => ?_)
  have k_q_3 := hm _ _ k_q_3
  have k_q_5 := hm _ _ k_q_5
  have k_q_7 := hm _ _ k_q_7
  have k_q_9 := hm _ _ k_q_9
  have k_q_11 := hm _ _ k_q_11
  have k_q_13 := hm _ _ k_q_13
  have k_q_15 := hm _ _ k_q_15
  refine va_putF (C := RX12) (T := TX12) (N := 41) (ci := 12) (ty := tyX12 19) (v := .ref q_17) hx hb hts inX12_init_X12 tyX12 tyX12_ok nmX12 hown hK.1.1 hP hD hS 1 rfl rfl 19 (by decide) (hts (.fieldLink RX12 35 "PageTrieModel" "itemLong" "[I") (by decide +kernel)) (fun _ h9 => h9) rfl hin0 rfl (tyX12_ok 19 (by decide)) rfl rfl (Nat.le_of_ble_eq_true rfl) dX12_init_77 (fun H locs hP hD hS => ?_)
  have hP : va_P D vwCl ([(q_1, .inl (cA 1, 17624, .inl (fun _ => 0))), (h0, .inr (12, [.ref q_1, .int 0, .ref q_3, .int 0, .int 0, .int 0, .ref q_5, .ref q_7, .int 0, .int 0, .ref q_9, .int 0, .int 0, .int 0, .int 0, .int 0, .ref q_11, .ref q_13, .ref q_15, .ref q_17, .null, .null, .int 0, .int 0, .int 0, .int 0, .int 0, .int 0, .int 0, .int 0, .int 0, .int 0, .int 0, .int 0, .int 0, .int 0, .int 0, .null, .int 0, .null, .int 0]))] ++ cW cA cl_18) H := hP
  have hD : va_D (aw h0 s.heap.size) ([(q_1, .inl (cA 1, 17624, .inl (fun _ => 0))), (h0, .inr (12, [.ref q_1, .int 0, .ref q_3, .int 0, .int 0, .int 0, .ref q_5, .ref q_7, .int 0, .int 0, .ref q_9, .int 0, .int 0, .int 0, .int 0, .int 0, .ref q_11, .ref q_13, .ref q_15, .ref q_17, .null, .null, .int 0, .int 0, .int 0, .int 0, .int 0, .int 0, .int 0, .int 0, .int 0, .int 0, .int 0, .int 0, .int 0, .int 0, .int 0, .null, .int 0, .null, .int 0]))] ++ cW cA cl_18) := hD
  refine lv_aload_n hx hb dX12_init_80 rfl (lv_at hl 0 rfl) ?_
  refine j_bi hx hb dX12_init_81 (by decide) ?_
  refine n_arr (atype := .int) (ty := .int) (N' := 20) (ck := 1) (X := [(q_1, .inl (cA 1, 17624, .inl (fun _ => 0))), (h0, .inr (12, [.ref q_1, .int 0, .ref q_3, .int 0, .int 0, .int 0, .ref q_5, .ref q_7, .int 0, .int 0, .ref q_9, .int 0, .int 0, .int 0, .int 0, .int 0, .ref q_11, .ref q_13, .ref q_15, .ref q_17, .null, .null, .int 0, .int 0, .int 0, .int 0, .int 0, .int 0, .int 0, .int 0, .int 0, .int 0, .int 0, .int 0, .int 0, .int 0, .int 0, .null, .int 0, .null, .int 0]))]) (cl := cl_18) hx hb (hts (.arrayClass .int) (by decide +kernel)) rfl hK hP hD hS hA hok 49 rfl rfl ⟨by decide, by decide⟩ (fun _ => rfl) (jI_nlt0 (by omega) (by omega)) ((jI_clamp (by omega)).trans rfl) (Nat.le_of_ble_eq_true rfl) (Nat.le_of_ble_eq_true rfl) (Nat.le_of_ble_eq_true rfl) dX12_init_83 (fun q_19 cl_20 H hok hm k_q_19 hP hD hS => ?_)
  have k_q_3 := hm _ _ k_q_3
  have k_q_5 := hm _ _ k_q_5
  have k_q_7 := hm _ _ k_q_7
  have k_q_9 := hm _ _ k_q_9
  have k_q_11 := hm _ _ k_q_11
  have k_q_13 := hm _ _ k_q_13
  have k_q_15 := hm _ _ k_q_15
  have k_q_17 := hm _ _ k_q_17
  refine va_putF (C := RX12) (T := TX12) (N := 41) (ci := 12) (ty := tyX12 20) (v := .ref q_19) hx hb hts inX12_init_X12 tyX12 tyX12_ok nmX12 hown hK.1.1 hP hD hS 1 rfl rfl 20 (by decide) (hts (.fieldLink RX12 38 "PageTrieModel" "itemThen" "[I") (by decide +kernel)) (fun _ h9 => h9) rfl hin0 rfl (tyX12_ok 20 (by decide)) rfl rfl (Nat.le_of_ble_eq_true rfl) dX12_init_85 (fun H locs hP hD hS => ?_)
  have hP : va_P D vwCl ([(q_1, .inl (cA 1, 17624, .inl (fun _ => 0))), (h0, .inr (12, [.ref q_1, .int 0, .ref q_3, .int 0, .int 0, .int 0, .ref q_5, .ref q_7, .int 0, .int 0, .ref q_9, .int 0, .int 0, .int 0, .int 0, .int 0, .ref q_11, .ref q_13, .ref q_15, .ref q_17, .ref q_19, .null, .int 0, .int 0, .int 0, .int 0, .int 0, .int 0, .int 0, .int 0, .int 0, .int 0, .int 0, .int 0, .int 0, .int 0, .int 0, .null, .int 0, .null, .int 0]))] ++ cW cA cl_20) H := hP
  have hD : va_D (aw h0 s.heap.size) ([(q_1, .inl (cA 1, 17624, .inl (fun _ => 0))), (h0, .inr (12, [.ref q_1, .int 0, .ref q_3, .int 0, .int 0, .int 0, .ref q_5, .ref q_7, .int 0, .int 0, .ref q_9, .int 0, .int 0, .int 0, .int 0, .int 0, .ref q_11, .ref q_13, .ref q_15, .ref q_17, .ref q_19, .null, .int 0, .int 0, .int 0, .int 0, .int 0, .int 0, .int 0, .int 0, .int 0, .int 0, .int 0, .int 0, .int 0, .int 0, .int 0, .null, .int 0, .null, .int 0]))] ++ cW cA cl_20) := hD
  refine lv_aload_n hx hb dX12_init_88 rfl (lv_at hl 0 rfl) ?_
  refine j_bi hx hb dX12_init_89 (by decide) ?_
  refine n_arr (atype := .int) (ty := .int) (N' := 20) (ck := 1) (X := [(q_1, .inl (cA 1, 17624, .inl (fun _ => 0))), (h0, .inr (12, [.ref q_1, .int 0, .ref q_3, .int 0, .int 0, .int 0, .ref q_5, .ref q_7, .int 0, .int 0, .ref q_9, .int 0, .int 0, .int 0, .int 0, .int 0, .ref q_11, .ref q_13, .ref q_15, .ref q_17, .ref q_19, .null, .int 0, .int 0, .int 0, .int 0, .int 0, .int 0, .int 0, .int 0, .int 0, .int 0, .int 0, .int 0, .int 0, .int 0, .int 0, .null, .int 0, .null, .int 0]))]) (cl := cl_20) hx hb (hts (.arrayClass .int) (by decide +kernel)) rfl hK hP hD hS hA hok 50 rfl rfl ⟨by decide, by decide⟩ (fun _ => rfl) (jI_nlt0 (by omega) (by omega)) ((jI_clamp (by omega)).trans rfl) (Nat.le_of_ble_eq_true rfl) (Nat.le_of_ble_eq_true rfl) (Nat.le_of_ble_eq_true rfl) dX12_init_91 (fun q_21 cl_22 H hok hm k_q_21 hP hD hS => ?_)
  have k_q_3 := hm _ _ k_q_3
  have k_q_5 := hm _ _ k_q_5
  have k_q_7 := hm _ _ k_q_7
  have k_q_9 := hm _ _ k_q_9
  have k_q_11 := hm _ _ k_q_11
  have k_q_13 := hm _ _ k_q_13
  have k_q_15 := hm _ _ k_q_15
  have k_q_17 := hm _ _ k_q_17
  have k_q_19 := hm _ _ k_q_19
  refine va_putF (C := RX12) (T := TX12) (N := 41) (ci := 12) (ty := tyX12 21) (v := .ref q_21) hx hb hts inX12_init_X12 tyX12 tyX12_ok nmX12 hown hK.1.1 hP hD hS 1 rfl rfl 21 (by decide) (hts (.fieldLink RX12 41 "PageTrieModel" "itemThenLong" "[I") (by decide +kernel)) (fun _ h9 => h9) rfl hin0 rfl (tyX12_ok 21 (by decide)) rfl rfl (Nat.le_of_ble_eq_true rfl) dX12_init_93 (fun H locs hP hD hS => ?_)
  have hP : va_P D vwCl ([(q_1, .inl (cA 1, 17624, .inl (fun _ => 0))), (h0, .inr (12, [.ref q_1, .int 0, .ref q_3, .int 0, .int 0, .int 0, .ref q_5, .ref q_7, .int 0, .int 0, .ref q_9, .int 0, .int 0, .int 0, .int 0, .int 0, .ref q_11, .ref q_13, .ref q_15, .ref q_17, .ref q_19, .ref q_21, .int 0, .int 0, .int 0, .int 0, .int 0, .int 0, .int 0, .int 0, .int 0, .int 0, .int 0, .int 0, .int 0, .int 0, .int 0, .null, .int 0, .null, .int 0]))] ++ cW cA cl_22) H := hP
  have hD : va_D (aw h0 s.heap.size) ([(q_1, .inl (cA 1, 17624, .inl (fun _ => 0))), (h0, .inr (12, [.ref q_1, .int 0, .ref q_3, .int 0, .int 0, .int 0, .ref q_5, .ref q_7, .int 0, .int 0, .ref q_9, .int 0, .int 0, .int 0, .int 0, .int 0, .ref q_11, .ref q_13, .ref q_15, .ref q_17, .ref q_19, .ref q_21, .int 0, .int 0, .int 0, .int 0, .int 0, .int 0, .int 0, .int 0, .int 0, .int 0, .int 0, .int 0, .int 0, .int 0, .int 0, .null, .int 0, .null, .int 0]))] ++ cW cA cl_22) := hD
  refine lv_aload_n hx hb dX12_init_96 rfl (lv_at hl 0 rfl) ?_
  refine j_si hx hb dX12_init_97 (by decide) ?_
  refine n_arr (atype := .int) (ty := .int) (N' := 224) (ck := 1) (X := [(q_1, .inl (cA 1, 17624, .inl (fun _ => 0))), (h0, .inr (12, [.ref q_1, .int 0, .ref q_3, .int 0, .int 0, .int 0, .ref q_5, .ref q_7, .int 0, .int 0, .ref q_9, .int 0, .int 0, .int 0, .int 0, .int 0, .ref q_11, .ref q_13, .ref q_15, .ref q_17, .ref q_19, .ref q_21, .int 0, .int 0, .int 0, .int 0, .int 0, .int 0, .int 0, .int 0, .int 0, .int 0, .int 0, .int 0, .int 0, .int 0, .int 0, .null, .int 0, .null, .int 0]))]) (cl := cl_22) hx hb (hts (.arrayClass .int) (by decide +kernel)) rfl hK hP hD hS hA hok 51 rfl rfl ⟨by decide, by decide⟩ (fun _ => rfl) (jI_nlt0 (by omega) (by omega)) ((jI_clamp (by omega)).trans rfl) (Nat.le_of_ble_eq_true rfl) (Nat.le_of_ble_eq_true rfl) (Nat.le_of_ble_eq_true rfl) dX12_init_100 (fun q_23 cl_24 H hok hm k_q_23 hP hD hS => ?_)
  have k_q_3 := hm _ _ k_q_3
  have k_q_5 := hm _ _ k_q_5
  have k_q_7 := hm _ _ k_q_7
  have k_q_9 := hm _ _ k_q_9
  have k_q_11 := hm _ _ k_q_11
  have k_q_13 := hm _ _ k_q_13
  have k_q_15 := hm _ _ k_q_15
  have k_q_17 := hm _ _ k_q_17
  have k_q_19 := hm _ _ k_q_19
  have k_q_21 := hm _ _ k_q_21
  refine va_putF (C := RX12) (T := TX12) (N := 41) (ci := 12) (ty := tyX12 37) (v := .ref q_23) hx hb hts inX12_init_X12 tyX12 tyX12_ok nmX12 hown hK.1.1 hP hD hS 1 rfl rfl 37 (by decide) (hts (.fieldLink RX12 44 "PageTrieModel" "draft" "[I") (by decide +kernel)) (fun _ h9 => h9) rfl hin0 rfl (tyX12_ok 37 (by decide)) rfl rfl (Nat.le_of_ble_eq_true rfl) dX12_init_102 (fun H locs hP hD hS => ?_)
  have hP : va_P D vwCl ([(q_1, .inl (cA 1, 17624, .inl (fun _ => 0))), (h0, .inr (12, [.ref q_1, .int 0, .ref q_3, .int 0, .int 0, .int 0, .ref q_5, .ref q_7, .int 0, .int 0, .ref q_9, .int 0, .int 0, .int 0, .int 0, .int 0, .ref q_11, .ref q_13, .ref q_15, .ref q_17, .ref q_19, .ref q_21, .int 0, .int 0, .int 0, .int 0, .int 0, .int 0, .int 0, .int 0, .int 0, .int 0, .int 0, .int 0, .int 0, .int 0, .int 0, .ref q_23, .int 0, .null, .int 0]))] ++ cW cA cl_24) H := hP
  have hD : va_D (aw h0 s.heap.size) ([(q_1, .inl (cA 1, 17624, .inl (fun _ => 0))), (h0, .inr (12, [.ref q_1, .int 0, .ref q_3, .int 0, .int 0, .int 0, .ref q_5, .ref q_7, .int 0, .int 0, .ref q_9, .int 0, .int 0, .int 0, .int 0, .int 0, .ref q_11, .ref q_13, .ref q_15, .ref q_17, .ref q_19, .ref q_21, .int 0, .int 0, .int 0, .int 0, .int 0, .int 0, .int 0, .int 0, .int 0, .int 0, .int 0, .int 0, .int 0, .int 0, .int 0, .ref q_23, .int 0, .null, .int 0]))] ++ cW cA cl_24) := hD
  refine lv_aload_n hx hb dX12_init_105 rfl (lv_at hl 0 rfl) ?_
  refine j_si hx hb dX12_init_106 (by decide) ?_
  refine n_arr (atype := .int) (ty := .int) (N' := 150) (ck := 1) (X := [(q_1, .inl (cA 1, 17624, .inl (fun _ => 0))), (h0, .inr (12, [.ref q_1, .int 0, .ref q_3, .int 0, .int 0, .int 0, .ref q_5, .ref q_7, .int 0, .int 0, .ref q_9, .int 0, .int 0, .int 0, .int 0, .int 0, .ref q_11, .ref q_13, .ref q_15, .ref q_17, .ref q_19, .ref q_21, .int 0, .int 0, .int 0, .int 0, .int 0, .int 0, .int 0, .int 0, .int 0, .int 0, .int 0, .int 0, .int 0, .int 0, .int 0, .ref q_23, .int 0, .null, .int 0]))]) (cl := cl_24) hx hb (hts (.arrayClass .int) (by decide +kernel)) rfl hK hP hD hS hA hok 52 rfl rfl ⟨by decide, by decide⟩ (fun _ => rfl) (jI_nlt0 (by omega) (by omega)) ((jI_clamp (by omega)).trans rfl) (Nat.le_of_ble_eq_true rfl) (Nat.le_of_ble_eq_true rfl) (Nat.le_of_ble_eq_true rfl) dX12_init_109 (fun q_25 cl_26 H hok hm k_q_25 hP hD hS => ?_)
  have k_q_3 := hm _ _ k_q_3
  have k_q_5 := hm _ _ k_q_5
  have k_q_7 := hm _ _ k_q_7
  have k_q_9 := hm _ _ k_q_9
  have k_q_11 := hm _ _ k_q_11
  have k_q_13 := hm _ _ k_q_13
  have k_q_15 := hm _ _ k_q_15
  have k_q_17 := hm _ _ k_q_17
  have k_q_19 := hm _ _ k_q_19
  have k_q_21 := hm _ _ k_q_21
  have k_q_23 := hm _ _ k_q_23
  refine va_putF (C := RX12) (T := TX12) (N := 41) (ci := 12) (ty := tyX12 39) (v := .ref q_25) hx hb hts inX12_init_X12 tyX12 tyX12_ok nmX12 hown hK.1.1 hP hD hS 1 rfl rfl 39 (by decide) (hts (.fieldLink RX12 47 "PageTrieModel" "foundOf" "[I") (by decide +kernel)) (fun _ h9 => h9) rfl hin0 rfl (tyX12_ok 39 (by decide)) rfl rfl (Nat.le_of_ble_eq_true rfl) dX12_init_111 (fun H locs hP hD hS => ?_)
  have hP : va_P D vwCl ([(q_1, .inl (cA 1, 17624, .inl (fun _ => 0))), (h0, .inr (12, [.ref q_1, .int 0, .ref q_3, .int 0, .int 0, .int 0, .ref q_5, .ref q_7, .int 0, .int 0, .ref q_9, .int 0, .int 0, .int 0, .int 0, .int 0, .ref q_11, .ref q_13, .ref q_15, .ref q_17, .ref q_19, .ref q_21, .int 0, .int 0, .int 0, .int 0, .int 0, .int 0, .int 0, .int 0, .int 0, .int 0, .int 0, .int 0, .int 0, .int 0, .int 0, .ref q_23, .int 0, .ref q_25, .int 0]))] ++ cW cA cl_26) H := hP
  have hD : va_D (aw h0 s.heap.size) ([(q_1, .inl (cA 1, 17624, .inl (fun _ => 0))), (h0, .inr (12, [.ref q_1, .int 0, .ref q_3, .int 0, .int 0, .int 0, .ref q_5, .ref q_7, .int 0, .int 0, .ref q_9, .int 0, .int 0, .int 0, .int 0, .int 0, .ref q_11, .ref q_13, .ref q_15, .ref q_17, .ref q_19, .ref q_21, .int 0, .int 0, .int 0, .int 0, .int 0, .int 0, .int 0, .int 0, .int 0, .int 0, .int 0, .int 0, .int 0, .int 0, .int 0, .ref q_23, .int 0, .ref q_25, .int 0]))] ++ cW cA cl_26) := hD
  refine lv_aload_n hx hb dX12_init_114 rfl (lv_at hl 0 rfl) ?_
  refine va_get (C := RX12) (T := TX12) (N := 41) (ci := 12) (v := .ref q_1) hx hb hts inX12_init_X12 hown hK.1.1 hP 1 rfl rfl 0 (by decide) (hts (.fieldLink RX12 7 "PageTrieModel" "file" "[I") (by decide +kernel)) (fun _ h9 => h9) rfl dX12_init_115 ?_
  refine j_const hx hb dX12_init_118 ?_
  refine j_const hx hb dX12_init_119 ?_
  refine va_iast hx hb hK.1.1 hP hD hS 0 1 (f := (fun _ => 0)) rfl rfl (jI_in (by omega) (by omega) (by omega)) dX12_init_120 (fun H locs hP hD hS => ?_)
  have hP : va_P D vwCl ([(q_1, .inl (cA 1, 17624, .inl (va_up (fun _ => 0) (jI 1).toNatClampNeg (jI 4)))), (h0, .inr (12, [.ref q_1, .int 0, .ref q_3, .int 0, .int 0, .int 0, .ref q_5, .ref q_7, .int 0, .int 0, .ref q_9, .int 0, .int 0, .int 0, .int 0, .int 0, .ref q_11, .ref q_13, .ref q_15, .ref q_17, .ref q_19, .ref q_21, .int 0, .int 0, .int 0, .int 0, .int 0, .int 0, .int 0, .int 0, .int 0, .int 0, .int 0, .int 0, .int 0, .int 0, .int 0, .ref q_23, .int 0, .ref q_25, .int 0]))] ++ cW cA cl_26) H := hP
  have hD : va_D (aw h0 s.heap.size) ([(q_1, .inl (cA 1, 17624, .inl (va_up (fun _ => 0) (jI 1).toNatClampNeg (jI 4)))), (h0, .inr (12, [.ref q_1, .int 0, .ref q_3, .int 0, .int 0, .int 0, .ref q_5, .ref q_7, .int 0, .int 0, .ref q_9, .int 0, .int 0, .int 0, .int 0, .int 0, .ref q_11, .ref q_13, .ref q_15, .ref q_17, .ref q_19, .ref q_21, .int 0, .int 0, .int 0, .int 0, .int 0, .int 0, .int 0, .int 0, .int 0, .int 0, .int 0, .int 0, .int 0, .int 0, .int 0, .ref q_23, .int 0, .ref q_25, .int 0]))] ++ cW cA cl_26) := hD
  refine lv_aload_n hx hb dX12_init_121 rfl (lv_at hl 0 rfl) ?_
  refine va_get (C := RX12) (T := TX12) (N := 41) (ci := 12) (v := .ref q_1) hx hb hts inX12_init_X12 hown hK.1.1 hP 1 rfl rfl 0 (by decide) (hts (.fieldLink RX12 7 "PageTrieModel" "file" "[I") (by decide +kernel)) (fun _ h9 => h9) rfl dX12_init_122 ?_
  refine j_const hx hb dX12_init_125 ?_
  refine j_const hx hb dX12_init_126 ?_
  refine va_iast hx hb hK.1.1 hP hD hS 0 1 (f := (va_up (fun _ => 0) (jI 1).toNatClampNeg (jI 4))) rfl rfl (jI_in (by omega) (by omega) (by omega)) dX12_init_127 (fun H locs hP hD hS => ?_)
  have hP : va_P D vwCl ([(q_1, .inl (cA 1, 17624, .inl (va_up (va_up (fun _ => 0) (jI 1).toNatClampNeg (jI 4)) (jI 2).toNatClampNeg (jI 4)))), (h0, .inr (12, [.ref q_1, .int 0, .ref q_3, .int 0, .int 0, .int 0, .ref q_5, .ref q_7, .int 0, .int 0, .ref q_9, .int 0, .int 0, .int 0, .int 0, .int 0, .ref q_11, .ref q_13, .ref q_15, .ref q_17, .ref q_19, .ref q_21, .int 0, .int 0, .int 0, .int 0, .int 0, .int 0, .int 0, .int 0, .int 0, .int 0, .int 0, .int 0, .int 0, .int 0, .int 0, .ref q_23, .int 0, .ref q_25, .int 0]))] ++ cW cA cl_26) H := hP
  have hD : va_D (aw h0 s.heap.size) ([(q_1, .inl (cA 1, 17624, .inl (va_up (va_up (fun _ => 0) (jI 1).toNatClampNeg (jI 4)) (jI 2).toNatClampNeg (jI 4)))), (h0, .inr (12, [.ref q_1, .int 0, .ref q_3, .int 0, .int 0, .int 0, .ref q_5, .ref q_7, .int 0, .int 0, .ref q_9, .int 0, .int 0, .int 0, .int 0, .int 0, .ref q_11, .ref q_13, .ref q_15, .ref q_17, .ref q_19, .ref q_21, .int 0, .int 0, .int 0, .int 0, .int 0, .int 0, .int 0, .int 0, .int 0, .int 0, .int 0, .int 0, .int 0, .int 0, .int 0, .ref q_23, .int 0, .ref q_25, .int 0]))] ++ cW cA cl_26) := hD
  have ef : (va_up (va_up (fun _ => 0) (jI 1).toNatClampNeg (jI 4)) (jI 2).toNatClampNeg (jI 4)) = fun i => jI (z0 40 i) := by
    funext i
    have e1 : (jI 1).toNatClampNeg = 1 := (jI_clamp (by omega)).trans rfl
    have e2 : (jI 2).toNatClampNeg = 2 := (jI_clamp (by omega)).trans rfl
    rw [e1, e2]
    unfold z0
    by_cases h2 : i = 2
    · subst h2; rw [va_up_self]; rfl
    · rw [va_up_ne _ _ h2]
      by_cases h1 : i = 1
      · subst h1; rw [va_up_self]; rfl
      · rw [va_up_ne _ _ h1, if_neg (by omega)]; rfl
  rw [ef] at hP hD
  have hpp : ([(q_1, .inl (cA 1, 17624, .inl (fun i => jI (z0 40 i)))), (h0, .inr (12, [.ref q_1, .int 0, .ref q_3, .int 0, .int 0, .int 0, .ref q_5, .ref q_7, .int 0, .int 0, .ref q_9, .int 0, .int 0, .int 0, .int 0, .int 0, .ref q_11, .ref q_13, .ref q_15, .ref q_17, .ref q_19, .ref q_21, .int 0, .int 0, .int 0, .int 0, .int 0, .int 0, .int 0, .int 0, .int 0, .int 0, .int 0, .int 0, .int 0, .int 0, .int 0, .ref q_23, .int 0, .ref q_25, .int 0]))] ++ cW cA cl_26 : va_W).Perm ((q_1, .inl (cA 1, 17624, .inl (fun i => jI (z0 40 i)))) :: ([(h0, .inr (12, [.ref q_1, .int 0, .ref q_3, .int 0, .int 0, .int 0, .ref q_5, .ref q_7, .int 0, .int 0, .ref q_9, .int 0, .int 0, .int 0, .int 0, .int 0, .ref q_11, .ref q_13, .ref q_15, .ref q_17, .ref q_19, .ref q_21, .int 0, .int 0, .int 0, .int 0, .int 0, .int 0, .int 0, .int 0, .int 0, .int 0, .int 0, .int 0, .int 0, .int 0, .int 0, .ref q_23, .int 0, .ref q_25, .int 0]))] ++ cW cA cl_26)) := by first | exact List.Perm.refl _ | exact List.Perm.swap _ _ _
  obtain ⟨cl_27, hok, hm, k_q_1, hP, hD⟩ := n_finA (X := [(h0, .inr (12, [.ref q_1, .int 0, .ref q_3, .int 0, .int 0, .int 0, .ref q_5, .ref q_7, .int 0, .int 0, .ref q_9, .int 0, .int 0, .int 0, .int 0, .int 0, .ref q_11, .ref q_13, .ref q_15, .ref q_17, .ref q_19, .ref q_21, .int 0, .int 0, .int 0, .int 0, .int 0, .int 0, .int 0, .int 0, .int 0, .int 0, .int 0, .int 0, .int 0, .int 0, .int 0, .ref q_23, .int 0, .ref q_25, .int 0]))]) (cl := cl_26) 40 rfl (P_perm hP hpp) (D_perm hD hpp) hok
  have k_q_3 := hm _ _ k_q_3
  have k_q_5 := hm _ _ k_q_5
  have k_q_7 := hm _ _ k_q_7
  have k_q_9 := hm _ _ k_q_9
  have k_q_11 := hm _ _ k_q_11
  have k_q_13 := hm _ _ k_q_13
  have k_q_15 := hm _ _ k_q_15
  have k_q_17 := hm _ _ k_q_17
  have k_q_19 := hm _ _ k_q_19
  have k_q_21 := hm _ _ k_q_21
  have k_q_23 := hm _ _ k_q_23
  have k_q_25 := hm _ _ k_q_25
  have hP : va_P D vwCl ([(h0, .inr (12, [.ref q_1, .int 0, .ref q_3, .int 0, .int 0, .int 0, .ref q_5, .ref q_7, .int 0, .int 0, .ref q_9, .int 0, .int 0, .int 0, .int 0, .int 0, .ref q_11, .ref q_13, .ref q_15, .ref q_17, .ref q_19, .ref q_21, .int 0, .int 0, .int 0, .int 0, .int 0, .int 0, .int 0, .int 0, .int 0, .int 0, .int 0, .int 0, .int 0, .int 0, .int 0, .ref q_23, .int 0, .ref q_25, .int 0]))] ++ cW cA cl_27) H := hP
  have hD : va_D (aw h0 s.heap.size) ([(h0, .inr (12, [.ref q_1, .int 0, .ref q_3, .int 0, .int 0, .int 0, .ref q_5, .ref q_7, .int 0, .int 0, .ref q_9, .int 0, .int 0, .int 0, .int 0, .int 0, .ref q_11, .ref q_13, .ref q_15, .ref q_17, .ref q_19, .ref q_21, .int 0, .int 0, .int 0, .int 0, .int 0, .int 0, .int 0, .int 0, .int 0, .int 0, .int 0, .int 0, .int 0, .int 0, .int 0, .ref q_23, .int 0, .ref q_25, .int 0]))] ++ cW cA cl_27) := hD
  obtain ⟨cl9, hok, hm, k_h0, hP, hD⟩ := n_finO (X := []) (cl := cl_27) (h0 := h0) (ci := 12) (fs := [.ref q_1, .int 0, .ref q_3, .int 0, .int 0, .int 0, .ref q_5, .ref q_7, .int 0, .int 0, .ref q_9, .int 0, .int 0, .int 0, .int 0, .int 0, .ref q_11, .ref q_13, .ref q_15, .ref q_17, .ref q_19, .ref q_21, .int 0, .int 0, .int 0, .int 0, .int 0, .int 0, .int 0, .int 0, .int 0, .int 0, .int 0, .int 0, .int 0, .int 0, .int 0, .ref q_23, .int 0, .ref q_25, .int 0]) (E := noE) 13 (fun k => [q_1, 0, q_3, 0, 0, 0, q_5, q_7, 0, 0, q_9, 0, 0, 0, 0, 0, q_11, q_13, q_15, q_17, q_19, q_21, 0, 0, 0, 0, 0, 0, 0, 0, 0, 0, 0, 0, 0, 0, 0, q_23, 0, q_25, 0].getD k 0) rfl rfl hP hD hok (fun k t h => match k, h with | 0, h => by cases h; exact Or.inr k_q_1 | 1, h => by cases h | 2, h => by cases h; exact Or.inr k_q_3 | 3, h => by cases h | 4, h => by cases h | 5, h => by cases h | 6, h => by cases h; exact Or.inr k_q_5 | 7, h => by cases h; exact Or.inr k_q_7 | 8, h => by cases h | 9, h => by cases h | 10, h => by cases h; exact Or.inr k_q_9 | 11, h => by cases h | 12, h => by cases h | 13, h => by cases h | 14, h => by cases h | 15, h => by cases h | 16, h => by cases h; exact Or.inr k_q_11 | 17, h => by cases h; exact Or.inr k_q_13 | 18, h => by cases h; exact Or.inr k_q_15 | 19, h => by cases h; exact Or.inr k_q_17 | 20, h => by cases h; exact Or.inr k_q_19 | 21, h => by cases h; exact Or.inr k_q_21 | 22, h => by cases h | 23, h => by cases h | 24, h => by cases h | 25, h => by cases h | 26, h => by cases h | 27, h => by cases h | 28, h => by cases h | 29, h => by cases h | 30, h => by cases h | 31, h => by cases h | 32, h => by cases h | 33, h => by cases h | 34, h => by cases h | 35, h => by cases h | 36, h => by cases h | 37, h => by cases h; exact Or.inr k_q_23 | 38, h => by cases h | 39, h => by cases h; exact Or.inr k_q_25 | 40, h => by cases h | k + 41, h => by simp at h)
  refine W.widen (k := 13) (n := 18683) (Nat.le_of_ble_eq_true rfl) (Nat.le_of_ble_eq_true rfl) ?_
  exact W.vret hx hb hr (fun t ht hW => ⟨⟨cl9, rfl, ⟨hok, k_h0⟩, by rw [ht]; exact hP, hD⟩, hS.F ht⟩) hS.2.2 dX12_init_128
