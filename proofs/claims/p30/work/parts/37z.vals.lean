theorem FI_val {G : Nat → Nat → Nat} {o : Nat} {σ σ1 : Nat → Nat → Int} {x v : Int} (h : FI G o σ) (hm : FM (σ (G o 0))) (e : σ1 = up2 σ (G o 0) (240 + 27 * x + 1).toNat v) (x0 : 0 ≤ x) (x1 : x < 150) (ek : σ1 o 1 = σ o 1) : FI G o σ1 ∧ FM (σ1 (G o 0)) := by
  have hr := st_row e x0 (by omega) (by omega)
  have ho := st_oth e x0 x1 (by omega) (by omega)
  have hrow : ∀ i w : Int, 0 ≤ i → i < σ (G o 0) 0 → 0 ≤ w → w < 27 → w ≠ 1 → kO (σ1 (G o 0)) i w = kO (σ (G o 0)) i w := fun i w i0 _ w0 w1 ne => hr i w i0 w0 w1 (fun z => ne z.2)
  refine ⟨⟨FK_congr h.1 (ho 0 (by omega)) (ho 1 (by omega)) (ho 2 (by omega)) (fun i w i0 i1 w0 w1 n1 _ => hrow i w i0 i1 w0 w1 n1), FQ_congr h.2.1 (fun j hj => ho j (by omega)), ?_⟩, FM_congr h.1 hm (ho 0 (by omega)) (ho 1 (by omega)) hrow⟩
  rw [ek, show pt 4406 (σ1 (G o 0)) = pt 4406 (σ (G o 0)) from funext fun j => ho (4406 + j) (by omega)]
  exact h.2.2
theorem FI_begin {G : Nat → Nat → Nat} {o : Nat} {σ σ1 : Nat → Nat → Int} (h : FI G o σ) (e0 : σ1 (G o 0) 0 = 0) (e1 : 1 ≤ σ1 (G o 0) 1 ∧ σ1 (G o 0) 1 ≤ 8) (e2 : 2 ≤ σ1 (G o 0) 2 ∧ σ1 (G o 0) 2 ≤ 8) (e : ∀ q : Nat, (7 ≤ q ∧ q < 240) ∨ 4406 ≤ q → σ1 (G o 0) q = σ (G o 0) q) (hz : ∀ q : Nat, 4290 ≤ q → q < 4406 → σ1 (G o 0) q = 0) (ek : σ1 o 1 = σ o 1) : FI G o σ1 ∧ FM (σ1 (G o 0)) := by
  obtain ⟨hk, ⟨a, b, c⟩, hp⟩ := h
  refine ⟨⟨⟨by omega, by omega, by omega, fun i i0 i1 => by omega, fun i k i0 i1 => by omega, fun i j i0 ij jn => by omega⟩, ⟨by rw [e 7 (by omega)]; exact a, fun s s0 s1 => ?_, fun c c0 c1 => ?_⟩, ?_⟩, fun i d i0 i1 => by omega⟩
  · obtain ⟨b1, b2, b3⟩ := b s s0 s1
    rw [e (16 + 28 * s + 2).toNat (by omega), e (16 + 28 * s + 1).toNat (by omega), e (16 + 28 * s).toNat (by omega), e 7 (by omega)]
    exact ⟨b1, b2, fun k k0 k1 => by rw [e (16 + 28 * s + 3 + k).toNat (by omega)]; exact b3 k k0 k1⟩
  · rw [hz (4290 + 29 * c + 4).toNat (by omega) (by omega)]
    exact ⟨by omega, fun k k0 k1 => by omega⟩
  · rw [ek, show pt 4406 (σ1 (G o 0)) = pt 4406 (σ (G o 0)) from funext fun j => e (4406 + j) (by omega)]
    exact hp
/-- a part of the file laid over another, as far as k -/
def CP (F F' : Nat → Int) (a b k : Int) : Prop := (∀ q : Int, 0 ≤ q → q < k → F' (4406 * b + q).toNat = F (4406 * a + q).toNat) ∧ ∀ q : Nat, ((q : Int) < 4406 * b ∨ 4406 * b + k ≤ q) → F' q = F q
theorem CP_0 {F : Nat → Int} {a b : Int} : CP F F a b 0 := ⟨fun q q0 q1 => by omega, fun _ _ => rfl⟩
theorem CP_s {F Fc : Nat → Int} {σ1 σ2 : Nat → Nat → Int} {f : Nat} {a b k v : Int} (h : CP F Fc a b k) (e : σ2 = up2 σ1 f (4406 * b + k).toNat v) (hc : σ1 f = Fc) (hv : v = Fc (4406 * a + k).toNat) (a0 : 0 ≤ a) (b0 : 0 ≤ b) (ne : a ≠ b) (k0 : 0 ≤ k) (k1 : k < 4406) : CP F (σ2 f) a b (k + 1) := by
  have hs : ∀ q : Nat, q ≠ (4406 * b + k).toNat → σ2 f q = Fc q := fun q hq => by rw [e, up2_row, upF_ne _ _ hq, hc]
  refine ⟨fun q q0 q1 => ?_, fun q hq => (hs q (by omega)).trans (h.2 q (by omega))⟩
  rcases (show q < k ∨ q = k by omega) with z | z
  · rw [hs _ (by omega)]; exact h.1 q q0 z
  · rw [z, e, up2_row, upF_at, hv]
    exact h.2 _ (by omega)
/-- the sign at the place -/
def hrP (p l : Int) (T : Nat → Int) (h : Int) : Prop := (p < l ∧ h = T p.toNat % 256) ∨ (¬ p < l ∧ h = -1)
theorem hrP_u {p l h h' : Int} {T : Nat → Int} (a : hrP p l T h) (b : hrP p l T h') : h = h' := by
  rcases a with ⟨a1, a2⟩ | ⟨a1, a2⟩ <;> rcases b with ⟨b1, b2⟩ | ⟨b1, b2⟩ <;> omega
theorem IL_s {σ1 σ2 : Nat → Nat → Int} {f : Nat} {n v : Int} (h : ∀ s : Int, 0 ≤ s → s < n → 1 ≤ σ1 f s.toNat) (e : σ2 = up2 σ1 f n.toNat v) (n0 : 0 ≤ n) (hv : 1 ≤ v) : ∀ s : Int, 0 ≤ s → s < n + 1 → 1 ≤ σ2 f s.toNat := fun s s0 s1 => by
  rcases (show s < n ∨ s = n by omega) with q | q
  · rw [e, up2_ne _ _ (by omega)]; exact h s s0 q
  · rw [q, e, up2_at]; exact hv
