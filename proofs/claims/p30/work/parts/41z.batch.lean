theorem FI_eq {G : Nat → Nat → Nat} {o : Nat} {σ σ1 : Nat → Nat → Int} (h : FI G o σ) (hm : FM (σ (G o 0))) (e : ∀ q : Nat, q < 8812 → σ1 (G o 0) q = σ (G o 0) q) (ek : σ1 o 1 = σ o 1) : FI G o σ1 ∧ FM (σ1 (G o 0)) := by
  have hb := h.1.1.2
  have hrow : ∀ i w : Int, 0 ≤ i → i < σ (G o 0) 0 → 0 ≤ w → w < 27 → kO (σ1 (G o 0)) i w = kO (σ (G o 0)) i w := fun i w i0 i1 w0 w1 => e _ (by omega)
  refine ⟨⟨FK_congr h.1 (e 0 (by omega)) (e 1 (by omega)) (e 2 (by omega)) (fun i w i0 i1 w0 w1 _ _ => hrow i w i0 i1 w0 w1), FQ_congr h.2.1 (fun j hj => e j (by omega)), ?_⟩, FM_congr h.1 hm (e 0 (by omega)) (e 1 (by omega)) (fun i w i0 i1 w0 w1 _ => hrow i w i0 i1 w0 w1)⟩
  rw [ek]
  rcases h.2.2 with z | ⟨z1, z2, z3⟩
  · exact Or.inl z
  · have hp : ∀ q : Nat, q < 4406 → pt 4406 (σ1 (G o 0)) q = pt 4406 (σ (G o 0)) q := fun q hq => e (4406 + q) (by omega)
    have hpb := z1.1.2
    have hr : ∀ i w : Int, 0 ≤ i → i < pt 4406 (σ (G o 0)) 0 → 0 ≤ w → w < 27 → kO (pt 4406 (σ1 (G o 0))) i w = kO (pt 4406 (σ (G o 0))) i w := fun i w i0 i1 w0 w1 => hp _ (by omega)
    exact Or.inr ⟨FK_congr z1 (hp 0 (by omega)) (hp 1 (by omega)) (hp 2 (by omega)) (fun i w i0 i1 w0 w1 _ _ => hr i w i0 i1 w0 w1), FQ_congr z2 (fun j hj => hp j (by omega)), FM_congr z1 z3 (hp 0 (by omega)) (hp 1 (by omega)) (fun i w i0 i1 w0 w1 _ => hr i w i0 i1 w0 w1)⟩
theorem CP_back {F F1 F2 F3 : Nat → Int} (h1 : CP F F1 0 3 4406) (h2 : ∀ q : Nat, 4290 ≤ q → F2 q = F1 q) (h3 : CP F2 F3 3 0 4406) : ∀ q : Nat, q < 8812 → F3 q = F q := fun q hq => by
  rcases (show q < 4406 ∨ 4406 ≤ q by omega) with z | z
  · have a := h3.1 q (by omega) (by omega)
    have b := h1.1 q (by omega) (by omega)
    rw [show (4406 * 0 + (q : Int)).toNat = q by omega] at a b
    rw [a, h2 _ (by omega), b]
  · rw [h3.2 q (by omega), h2 q (by omega), h1.2 q (by omega)]
