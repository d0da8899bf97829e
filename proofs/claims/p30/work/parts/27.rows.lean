theorem st_row {σ1 σ2 : Nat → Nat → Int} {a : Nat} {X W v : Int} (e : σ2 = up2 σ1 a (240 + 27 * X + W).toNat v) (X0 : 0 ≤ X) (W0 : 0 ≤ W) (W1 : W < 27) : ∀ i w : Int, 0 ≤ i → 0 ≤ w → w < 27 → ¬ (i = X ∧ w = W) → kO (σ2 a) i w = kO (σ1 a) i w := fun i w i0 w0 w1 ne => by
  rw [e, up2_row]
  exact kO_up i0 X0 ⟨w0, w1⟩ ⟨W0, W1⟩ ne
theorem st_at {σ1 σ2 : Nat → Nat → Int} {a : Nat} {X W v : Int} (e : σ2 = up2 σ1 a (240 + 27 * X + W).toNat v) : kO (σ2 a) X W = v := by
  rw [e, up2_row]
  exact kO_up_at
theorem st_oth {σ1 σ2 : Nat → Nat → Int} {a : Nat} {X W v : Int} (e : σ2 = up2 σ1 a (240 + 27 * X + W).toNat v) (X0 : 0 ≤ X) (X1 : X < 150) (W0 : 0 ≤ W) (W1 : W < 27) : ∀ q : Nat, q < 240 ∨ 4290 ≤ q → σ2 a q = σ1 a q := fun q hq => by
  rw [e, up2_row]
  exact upF_ne _ _ (by omega)
/-- rows shifted up: those above i, of row i the first k places -/
def SH (F Fc : Nat → Int) (n i k : Int) : Prop := (∀ j w : Int, i < j → j ≤ n → 0 ≤ w → w < 27 → kO Fc j w = kO F (j - 1) w) ∧ (∀ w : Int, 0 ≤ w → w < k → w < 27 → kO Fc i w = kO F (i - 1) w) ∧ (∀ j w : Int, 0 ≤ j → j < i → 0 ≤ w → w < 27 → kO Fc j w = kO F j w) ∧ ∀ q : Nat, q < 240 ∨ 4290 ≤ q → Fc q = F q
theorem SH_0 {F : Nat → Int} {n : Int} : SH F F n n 0 := ⟨fun j w a b => by omega, fun w a b => by omega, fun j w _ _ _ _ => rfl, fun _ _ => rfl⟩
theorem SH_step {F Fc F' : Nat → Int} {n i k : Int} (h : SH F Fc n i k) (i0 : 0 < i) (k0 : 0 ≤ k) (hr : ∀ j w : Int, 0 ≤ j → 0 ≤ w → w < 27 → ¬ (j = i ∧ w = k) → kO F' j w = kO Fc j w) (ha : kO F' i k = kO Fc (i - 1) k) (k1 : k < 27) (ho : ∀ q : Nat, q < 240 ∨ 4290 ≤ q → F' q = Fc q) : SH F F' n i (k + 1) := by
  obtain ⟨h1, h2, h3, h4⟩ := h
  refine ⟨fun j w a b c d => ?_, fun w a b c => ?_, fun j w a b c d => ?_, fun q hq => (ho q hq).trans (h4 q hq)⟩
  · rw [hr j w (by omega) c d (by omega)]; exact h1 j w a b c d
  · rcases (show w < k ∨ w = k by omega) with e | e
    · rw [hr i w (by omega) a c (by omega)]; exact h2 w a e c
    · subst e; rw [ha]; exact h3 (i - 1) w (by omega) (by omega) a c
  · rw [hr j w a c d (by omega)]; exact h3 j w a b c d
theorem SH_next {F Fc : Nat → Int} {n i k : Int} (h : SH F Fc n i k) (hk : 27 ≤ k) : SH F Fc n (i - 1) 0 := by
  obtain ⟨h1, h2, h3, h4⟩ := h
  refine ⟨fun j w a b c d => ?_, fun w a b => by omega, fun j w a b c d => h3 j w a (by omega) c d, h4⟩
  rcases (show i < j ∨ j = i by omega) with e | e
  · exact h1 j w e b c d
  · subst e; exact h2 w c (by omega) d
/-- a row is free at t, the others stand around it -/
def FR (F Fc : Nat → Int) (n t : Int) : Prop := Fc 0 = n + 1 ∧ (∀ j w : Int, t < j → j ≤ n → 0 ≤ w → w < 27 → kO Fc j w = kO F (j - 1) w) ∧ (∀ j w : Int, 0 ≤ j → j < t → 0 ≤ w → w < 27 → kO Fc j w = kO F j w) ∧ ∀ q : Nat, (1 ≤ q ∧ q < 240) ∨ 4290 ≤ q → Fc q = F q
theorem FR_of {F Fc : Nat → Int} {σ1 σ2 : Nat → Nat → Int} {a : Nat} {n t v : Int} (h : SH F Fc n t 0) (e : σ2 = up2 σ1 a 0 v) (hc : σ1 a = Fc) (hv : v = n + 1) (t0 : 0 ≤ t) : FR F (σ2 a) n t := by
  obtain ⟨h1, h2, h3, h4⟩ := h
  have ek := kO_cnt e (by decide)
  rw [hc] at ek
  refine ⟨by rw [e, up2_at]; exact hv, fun j w a b c d => by rw [ek j w (by omega) c]; exact h1 j w a b c d, fun j w a b c d => by rw [ek j w a c]; exact h3 j w a b c d, fun q hq => ?_⟩
  rw [e, up2_ne _ _ (by omega), hc]
  exact h4 q (by omega)
theorem FR_set {F Fc F' : Nat → Int} {n t W : Int} (h : FR F Fc n t) (t0 : 0 ≤ t) (hr : ∀ j w : Int, 0 ≤ j → 0 ≤ w → w < 27 → ¬ (j = t ∧ w = W) → kO F' j w = kO Fc j w) (ho : ∀ q : Nat, q < 240 ∨ 4290 ≤ q → F' q = Fc q) : FR F F' n t := by
  obtain ⟨h1, h2, h3, h4⟩ := h
  exact ⟨(ho 0 (by omega)).trans h1, fun j w a b c d => by rw [hr j w (by omega) c d (by omega)]; exact h2 j w a b c d, fun j w a b c d => by rw [hr j w a c d (by omega)]; exact h3 j w a b c d, fun q hq => (ho q (by omega)).trans (h4 q hq)⟩
/-- rows shifted down behind t: those below i, of row i the first k places -/
def SD (F Fc : Nat → Int) (n t i k : Int) : Prop := Fc 0 = n - 1 ∧ (∀ j w : Int, t ≤ j → j < i → 0 ≤ w → w < 27 → kO Fc j w = kO F (j + 1) w) ∧ (∀ w : Int, 0 ≤ w → w < k → w < 27 → kO Fc i w = kO F (i + 1) w) ∧ (∀ j w : Int, 0 ≤ j → (j < t ∨ i < j) → 0 ≤ w → w < 27 → kO Fc j w = kO F j w) ∧ ∀ q : Nat, (1 ≤ q ∧ q < 240) ∨ 4290 ≤ q → Fc q = F q
theorem SD_0 {F : Nat → Int} {σ1 σ2 : Nat → Nat → Int} {a : Nat} {n t v : Int} (e : σ2 = up2 σ1 a 0 v) (hc : σ1 a = F) (hv : v = n - 1) : SD F (σ2 a) n t t 0 := by
  have ek := kO_cnt e (by decide)
  rw [hc] at ek
  refine ⟨by rw [e, up2_at]; exact hv, fun j w a b => by omega, fun w a b => by omega, fun j w a b c d => ek j w a c, fun q hq => ?_⟩
  rw [e, up2_ne _ _ (by omega), hc]
theorem SD_step {F Fc F' : Nat → Int} {n t i k : Int} (h : SD F Fc n t i k) (t0 : 0 ≤ t) (ti : t ≤ i) (k0 : 0 ≤ k) (hr : ∀ j w : Int, 0 ≤ j → 0 ≤ w → w < 27 → ¬ (j = i ∧ w = k) → kO F' j w = kO Fc j w) (ha : kO F' i k = kO Fc (i + 1) k) (k1 : k < 27) (ho : ∀ q : Nat, q < 240 ∨ 4290 ≤ q → F' q = Fc q) : SD F F' n t i (k + 1) := by
  obtain ⟨h0, h1, h2, h3, h4⟩ := h
  refine ⟨(ho 0 (by omega)).trans h0, fun j w a b c d => ?_, fun w a b c => ?_, fun j w a b c d => ?_, fun q hq => (ho q (by omega)).trans (h4 q hq)⟩
  · rw [hr j w (by omega) c d (by omega)]; exact h1 j w a b c d
  · rcases (show w < k ∨ w = k by omega) with e | e
    · rw [hr i w (by omega) a c (by omega)]; exact h2 w a e c
    · subst e; rw [ha]; exact h3 (i + 1) w (by omega) (by omega) a c
  · rw [hr j w a c d (by omega)]; exact h3 j w a b c d
theorem SD_next {F Fc : Nat → Int} {n t i k : Int} (h : SD F Fc n t i k) (hk : 27 ≤ k) : SD F Fc n t (i + 1) 0 := by
  obtain ⟨h0, h1, h2, h3, h4⟩ := h
  refine ⟨h0, fun j w a b c d => ?_, fun w a b => by omega, fun j w a b c d => h3 j w a (by omega) c d, h4⟩
  rcases (show j < i ∨ j = i by omega) with e | e
  · exact h1 j w a e c d
  · subst e; exact h2 w c (by omega) d
