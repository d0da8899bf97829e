set_option maxHeartbeats 4000000 in
set_option maxRecDepth 100000 in
theorem whole_start {p : Program} {e : Env} {s : State} {m : MethodId} {below : List Frame} {meth : Method} {c : Code} (l : Launch) (hflags : l.flags = flags0) {b L : Nat} {xs : Nat → Int32} (hL : L ≤ 3072) (C0 : lw_At p s m meth c b L xs) : W p l e room_1 s m #[Value.ref b] below meth c s.heap [] 0 0 (lw_Z below #[Value.ref b] s) (entryFrame m ([Value.ref b] : List Value).toArray 4) := by
  obtain ⟨hx, hb, hr, hml, hown, hts0, hX, hbl, hlocks, hgv⟩ := id C0
  have hown : s.vm.findClass RL = some m.cls := hown
  have hts : ∀ w ∈ wsLW, w.before #[Value.ref b] s = true := fun w h => hts0 w (wsLW_in w h)
  obtain ⟨c0, iS0, hKn0⟩ := u_known (C := RX0) (T := TX0) (N := 5) (n := 5) hts inlX0 (hts (.instantiable RX0 5) (by decide +kernel))
  obtain ⟨c1, iS1, hKn1⟩ := u_known (C := RX1) (T := TX1) (N := 3) (n := 3) hts inlX1 (hts (.instantiable RX1 3) (by decide +kernel))
  obtain ⟨c2, iS2, hKn2⟩ := u_known (C := RX2) (T := TX2) (N := 2) (n := 2) hts inlX2 (hts (.instantiable RX2 2) (by decide +kernel))
  obtain ⟨c3, iS3, hKn3⟩ := u_known (C := RX3) (T := TX3) (N := 4) (n := 4) hts inlX3 (hts (.instantiable RX3 4) (by decide +kernel))
  obtain ⟨c4, iS4, hKn4⟩ := u_known (C := RX4) (T := TX4) (N := 4) (n := 4) hts inlX4 (hts (.instantiable RX4 4) (by decide +kernel))
  obtain ⟨c5, iS5, hKn5⟩ := u_known (C := RX5) (T := TX5) (N := 5) (n := 5) hts inlX5 (hts (.instantiable RX5 5) (by decide +kernel))
  obtain ⟨c6, iS6, hKn6⟩ := u_known (C := RX6) (T := TX6) (N := 4) (n := 4) hts inlX6 (hts (.instantiable RX6 4) (by decide +kernel))
  obtain ⟨c7, iS7, hKn7⟩ := u_known (C := RX7) (T := TX7) (N := 4) (n := 4) hts inlX7 (hts (.instantiable RX7 4) (by decide +kernel))
  obtain ⟨c8, iS8, hKn8⟩ := u_known (C := RX8) (T := TX8) (N := 3) (n := 3) hts inlX8 (hts (.instantiable RX8 3) (by decide +kernel))
  obtain ⟨c9, iS9, hKn9⟩ := u_known (C := RX9) (T := TX9) (N := 2) (n := 2) hts inlX9 (hts (.instantiable RX9 2) (by decide +kernel))
  obtain ⟨c10, iS10, hKn10⟩ := u_known (C := RX10) (T := TX10) (N := 9) (n := 9) hts inlX10 (hts (.instantiable RX10 9) (by decide +kernel))
  obtain ⟨c11, iS11, hKn11⟩ := u_known (C := RX11) (T := TX11) (N := 12) (n := 12) hts inlX11 (hts (.instantiable RX11 12) (by decide +kernel))
  obtain ⟨c12, iS12, hKn12⟩ := u_known (C := RX12) (T := TX12) (N := 41) (n := 41) hts inlX12 (hts (.instantiable RX12 41) (by decide +kernel))
  obtain ⟨D, hKc⟩ : ∃ D : va_G, ∀ (k : Nat) (q : vw_C), vwCl[k]? = some q → u_Kn s q.1 q.2.1 q.2.2 (D.1 k) (D.2 k) := by
    refine ⟨(fun k => [c0, c1, c2, c3, c4, c5, c6, c7, c8, c9, c10, c11, c12].getD k c0, fun k => [iS0, iS1, iS2, iS3, iS4, iS5, iS6, iS7, iS8, iS9, iS10, iS11, iS12].getD k iS0), ?_⟩
    intro k q hq
    match k, hq with
    | 0, hq => cases hq; exact hKn0
    | 1, hq => cases hq; exact hKn1
    | 2, hq => cases hq; exact hKn2
    | 3, hq => cases hq; exact hKn3
    | 4, hq => cases hq; exact hKn4
    | 5, hq => cases hq; exact hKn5
    | 6, hq => cases hq; exact hKn6
    | 7, hq => cases hq; exact hKn7
    | 8, hq => cases hq; exact hKn8
    | 9, hq => cases hq; exact hKn9
    | 10, hq => cases hq; exact hKn10
    | 11, hq => cases hq; exact hKn11
    | 12, hq => cases hq; exact hKn12
    | k + 13, hq => simp [vwCl] at hq
  obtain ⟨a0, k0, m0, fa0, ka0, da0⟩ := Cond.arrayClass_spec (hts (.arrayClass .byte) (by decide +kernel))
  obtain ⟨a1, k1, m1, fa1, ka1, da1⟩ := Cond.arrayClass_spec (hts (.arrayClass .int) (by decide +kernel))
  obtain ⟨a2, k2, m2, fa2, ka2, da2⟩ := Cond.arrayClass_spec (hts (.arrayClass .boolean) (by decide +kernel))
  have ho3 := hts0 (.arrayOver (.object "PageTrie$Key")) (by decide +kernel)
  obtain ⟨m3, a3, k3, fc3, _, ka3, da3, fa3⟩ := Cond.arrayOver_spec ho3
  have ho4 := hts0 (.arrayOver (.object "PageTrie$Cursor")) (by decide +kernel)
  obtain ⟨m4, a4, k4, fc4, _, ka4, da4, fa4⟩ := Cond.arrayOver_spec ho4
  obtain ⟨cA, hcA⟩ : ∃ cA : Nat → ClassId, cA = fun k => [a0, a1, a2, a3, a4].getD k a0 := ⟨_, rfl⟩
  have hKa : va_K D vwCl (tyL cA) s := by
    refine ⟨hKc, fun k q hq => ?_⟩
    subst hcA
    match k, hq with
    | 0, hq => cases hq; exact ⟨fun n z => ⟨fun _ h => (by cases h), k0, ka0, m0, da0⟩, fa0⟩
    | 1, hq => cases hq; exact ⟨fun n z => ⟨fun _ h => (by cases h), k1, ka1, m1, da1⟩, fa1⟩
    | 2, hq => cases hq; exact ⟨fun n z => ⟨fun _ h => (by cases h), k2, ka2, m2, da2⟩, fa2⟩
    | 3, hq => cases hq; exact ⟨fun n z => ⟨fun _ h => (by cases h), k3, ka3, m3, da3⟩, k3, m3, ka3, da3, fc3, fa3⟩
    | 4, hq => cases hq; exact ⟨fun n z => ⟨fun _ h => (by cases h), k4, ka4, m4, da4⟩, k4, m4, ka4, da4, fc4, fa4⟩
    | k + 5, hq => simp [tyL] at hq
  have hK : NK D cA s := ⟨⟨hKa, va_Nw.of rfl (hts0 nest1 (by decide +kernel)), va_Nw.of rfl (hts0 nest2 (by decide +kernel))⟩, va_AO.of ho3, va_AO.of ho4⟩
  clear hcA hKa
  have hA : ∀ q : Nat, s.heap.size ≤ q → (fun q : Nat => s.heap.size ≤ q) q := fun _ h => h
  have hS : va_S (fun q : Nat => s.heap.size ≤ q) s.heap s.heap [] := va_S.rf
  have hok : okL noE [] := okL.nil
  have hP : va_P D vwCl ([] ++ cW cA []) s.heap := fun k q h => by cases h
  have hD : va_D (fun q : Nat => s.heap.size ≤ q) ([] ++ cW cA []) := D_iff.mpr ⟨List.nodup_nil, fun q hq => by cases hq⟩
  have hl := lv_entry ([.ref b]) (n := 4) (Nat.le_of_ble_eq_true rfl)
  rw [lg_entry_eq]
  generalize (lg_sl ([.ref b]) ++ List.replicate (4 - (lg_sl ([.ref b])).length) Slot.unset).toArray = ls at hl ⊢
  have hl : lv_has ls 4 [(0, .ref b)] := hl
  refine n_new (C := RX11) (T := TX11) (N := 12) (ci := 11) (fs := [.null, .null, .null, .null, .null, .int 0, .null, .null, .null, .null, .null, .null]) hx hb hts inlX11 tyX11 tyX11_ok hown (hts (.classLink RL 7 RX11) (by decide +kernel)) (hts (.instantiable RX11 12) (by decide +kernel)) (hts (.initialized RX11) (by decide +kernel)) hK hP hD hS hA rfl (fun j hj => by rcases (show j = 0 ∨ j = 1 ∨ j = 2 ∨ j = 3 ∨ j = 4 ∨ j = 5 ∨ j = 6 ∨ j = 7 ∨ j = 8 ∨ j = 9 ∨ j = 10 ∨ j = 11 by omega) with rfl | rfl | rfl | rfl | rfl | rfl | rfl | rfl | rfl | rfl | rfl | rfl <;> rfl) (Nat.le_of_ble_eq_true rfl) (Nat.le_of_ble_eq_true rfl) dL_law_0 (fun q1 H hP hD hS => ?_)
  have hP : va_P D vwCl ((q1, .inr (11, [.null, .null, .null, .null, .null, .int 0, .null, .null, .null, .null, .null, .null])) :: ([] ++ cW cA [])) H := hP
  have hD : va_D (fun q : Nat => s.heap.size ≤ q) ((q1, .inr (11, [.null, .null, .null, .null, .null, .int 0, .null, .null, .null, .null, .null, .null])) :: ([] ++ cW cA [])) := hD
  refine lv_dup hx hb dL_law_3 rfl ?_
  refine n_init (q := q1) (t := 12) (ci := 11) (X := []) (cl := []) (rest := [.ref q1]) (As := []) hx hb hml hown hts hK hP hD hS hA hok (kX11_init l) 0 gL_law_X11_init rfl (hts (.initialized RX11) (by decide +kernel)) (hts (.methodLink RL 9 yX11_init) (by decide +kernel)) (hts (.instanceMethod yX11_init) (by decide +kernel)) rfl (by decide +kernel) ⟨Nat.le_of_ble_eq_true rfl, Nat.le_of_ble_eq_true rfl⟩ rfl rfl rfl hl.1 rfl (Nat.le_of_ble_eq_true rfl) dL_law_4 ⟨Nat.le_of_ble_eq_true rfl, Nat.le_of_ble_eq_true rfl⟩ (fun _ _ h => False.elim h) (fun cl1 H locs hok hm k1 hP hD hS => ?_)
  refine lv_astore_n (lv' := [(1, .ref q1), (0, .ref b)]) hx hb dL_law_7 rfl hl (by decide) rfl (fun ls hl => ?_)
  refine n_new (C := RX12) (T := TX12) (N := 41) (ci := 12) (fs := [.null, .int 0, .null, .int 0, .int 0, .int 0, .null, .null, .int 0, .int 0, .null, .int 0, .int 0, .int 0, .int 0, .int 0, .null, .null, .null, .null, .null, .null, .int 0, .int 0, .int 0, .int 0, .int 0, .int 0, .int 0, .int 0, .int 0, .int 0, .int 0, .int 0, .int 0, .int 0, .int 0, .null, .int 0, .null, .int 0]) hx hb hts inlX12 tyX12 tyX12_ok hown (hts (.classLink RL 10 RX12) (by decide +kernel)) (hts (.instantiable RX12 41) (by decide +kernel)) (hts (.initialized RX12) (by decide +kernel)) hK hP hD hS hA rfl (fun j hj => by rcases (show j = 0 ∨ j = 1 ∨ j = 2 ∨ j = 3 ∨ j = 4 ∨ j = 5 ∨ j = 6 ∨ j = 7 ∨ j = 8 ∨ j = 9 ∨ j = 10 ∨ j = 11 ∨ j = 12 ∨ j = 13 ∨ j = 14 ∨ j = 15 ∨ j = 16 ∨ j = 17 ∨ j = 18 ∨ j = 19 ∨ j = 20 ∨ j = 21 ∨ j = 22 ∨ j = 23 ∨ j = 24 ∨ j = 25 ∨ j = 26 ∨ j = 27 ∨ j = 28 ∨ j = 29 ∨ j = 30 ∨ j = 31 ∨ j = 32 ∨ j = 33 ∨ j = 34 ∨ j = 35 ∨ j = 36 ∨ j = 37 ∨ j = 38 ∨ j = 39 ∨ j = 40 by omega) with rfl | rfl | rfl | rfl | rfl | rfl | rfl | rfl | rfl | rfl | rfl | rfl | rfl | rfl | rfl | rfl | rfl | rfl | rfl | rfl | rfl | rfl | rfl | rfl | rfl | rfl | rfl | rfl | rfl | rfl | rfl | rfl | rfl | rfl | rfl | rfl | rfl | rfl | rfl | rfl | rfl <;> rfl) (Nat.le_of_ble_eq_true rfl) (Nat.le_of_ble_eq_true rfl) dL_law_8 (fun q2 H hP hD hS => ?_)
  have hP : va_P D vwCl ((q2, .inr (12, [.null, .int 0, .null, .int 0, .int 0, .int 0, .null, .null, .int 0, .int 0, .null, .int 0, .int 0, .int 0, .int 0, .int 0, .null, .null, .null, .null, .null, .null, .int 0, .int 0, .int 0, .int 0, .int 0, .int 0, .int 0, .int 0, .int 0, .int 0, .int 0, .int 0, .int 0, .int 0, .int 0, .null, .int 0, .null, .int 0])) :: ([] ++ cW cA cl1)) H := hP
  have hD : va_D (fun q : Nat => s.heap.size ≤ q) ((q2, .inr (12, [.null, .int 0, .null, .int 0, .int 0, .int 0, .null, .null, .int 0, .int 0, .null, .int 0, .int 0, .int 0, .int 0, .int 0, .null, .null, .null, .null, .null, .null, .int 0, .int 0, .int 0, .int 0, .int 0, .int 0, .int 0, .int 0, .int 0, .int 0, .int 0, .int 0, .int 0, .int 0, .int 0, .null, .int 0, .null, .int 0])) :: ([] ++ cW cA cl1)) := hD
  refine lv_dup hx hb dL_law_11 rfl ?_
  refine n_init (q := q2) (t := 13) (ci := 12) (X := []) (cl := cl1) (rest := [.ref q2]) (As := []) hx hb hml hown hts hK hP hD hS hA hok (kX12_init l) 0 gL_law_X12_init rfl (hts (.initialized RX12) (by decide +kernel)) (hts (.methodLink RL 12 yX12_init) (by decide +kernel)) (hts (.instanceMethod yX12_init) (by decide +kernel)) rfl (by decide +kernel) ⟨Nat.le_of_ble_eq_true rfl, Nat.le_of_ble_eq_true rfl⟩ rfl rfl rfl hl.1 rfl (Nat.le_of_ble_eq_true rfl) dL_law_12 ⟨Nat.le_of_ble_eq_true rfl, Nat.le_of_ble_eq_true rfl⟩ (fun _ _ h => False.elim h) (fun cl2 H locs hok hm k2 hP hD hS => ?_)
  have k1 := hm _ _ k1
  refine lv_astore_n (lv' := [(2, .ref q2), (1, .ref q1), (0, .ref b)]) hx hb dL_law_15 rfl hl (by decide) rfl (fun ls hl => ?_)
  refine j_const hx hb dL_law_16 ?_
  refine lv_istore_n (lv' := [(3, .int (jI 0)), (2, .ref q2), (1, .ref q1), (0, .ref b)]) hx hb dL_law_17 rfl hl (by decide) rfl (fun ls hl => ?_)
  obtain ⟨τ, G, Lw, hSW, hW, hAL, ht⟩ := world_of hok hP hD
  have h1 := ht _ _ k1
  have h2 := ht _ _ k2
  have hf : τ (G q2 0) = 40 := gty hSW h2 (k := 0) rfl rfl
  have e40 : (fun k => z0 (τ (G q2 0)) k) = z0 40 := by rw [hf]
  have hI : FI G q2 (fun a k => z0 (τ a) k) := by
    refine ⟨?_, ?_, Or.inl ?_⟩
    · show FK (fun k => z0 (τ (G q2 0)) k); rw [e40]; exact FK_0
    · show FQ (fun k => z0 (τ (G q2 0)) k); rw [e40]; exact FQ_0
    · show z0 (τ q2) 1 = 0; rw [h2]; rfl
  have hM : FM ((fun a k => z0 (τ a) k) (G q2 0)) := by show FM (fun k => z0 (τ (G q2 0)) k); rw [e40]; exact FM_0
  have hE : (fun a k => z0 (τ a) k) q1 5 = (fun a k => z0 (τ a) k) q2 1 := by show z0 (τ q1) 5 = z0 (τ q2) 1; rw [h1, h2]; rfl
  refine W.widen (k := 224) (n := 38112) (Nat.le_of_ble_eq_true rfl) (Nat.le_of_ble_eq_true rfl) ?_
  exact law_loop l C0 hL hSW h1 h2 hK.1 hAL hr hlocks _ 0 _ H locs ls (by omega) (by omega) rfl hW hI hM hE hS hl
