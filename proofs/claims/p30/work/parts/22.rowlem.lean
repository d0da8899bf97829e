theorem row_up {τ : Nat → Nat} {σ1 σ2 : Nat → Nat → Int} {a k t b t' : Nat} {v : Int} (e : σ2 = up2 σ1 a k v) (ha : τ a = t) (hb : τ b = t') (h : t ≠ t') : σ2 b = σ1 b := by
  funext j
  rw [e, up2_ne σ1 v (fun q => h (by rw [← ha, ← hb, q.1]))]
theorem fld_up {τ : Nat → Nat} {σ1 σ2 : Nat → Nat → Int} {a k t b j t' : Nat} {v : Int} (e : σ2 = up2 σ1 a k v) (ha : τ a = t) (hb : τ b = t') (h : ¬ (t = t' ∧ k = j)) : σ2 b j = σ1 b j := by
  rw [e, up2_ne σ1 v (fun q => h ⟨by rw [← ha, ← hb, q.1], q.2.symm⟩)]
theorem row_fr {ws : List Nat} {τ : Nat → Nat} {σ1 σ2 : Nat → Nat → Int} (h : fr ws τ σ1 σ2) {b t : Nat} (hb : τ b = t) (c : Nat) (h20 : 20 ≤ t) (hd : ¬ t * 1000 ∈ ws) : σ2 b = σ1 b := funext fun k => h b k (by rw [hb, cdA t h20 k]; exact hd)
theorem FI_bd {G : Nat → Nat → Nat} {o : Nat} {σ : Nat → Nat → Int} (h : FI G o σ) : (0 ≤ σ (G o 0) 0 ∧ σ (G o 0) 0 ≤ 150) ∧ (1 ≤ σ (G o 0) 1 ∧ σ (G o 0) 1 ≤ 8) ∧ (2 ≤ σ (G o 0) 2 ∧ σ (G o 0) 2 ≤ 8) ∧ (0 ≤ σ (G o 0) 7 ∧ σ (G o 0) 7 ≤ 8) := ⟨h.1.1, h.1.2.1, h.1.2.2.1, h.2.1.1⟩
theorem FI_len {G : Nat → Nat → Nat} {o : Nat} {σ : Nat → Nat → Int} (h : FI G o σ) {i : Int} (i0 : 0 ≤ i) (i1 : i < σ (G o 0) 0) : 1 ≤ kO (σ (G o 0)) i 0 ∧ kO (σ (G o 0)) i 0 ≤ 24 := h.1.2.2.2.1 i i0 i1
theorem FI_byte {G : Nat → Nat → Nat} {o : Nat} {σ : Nat → Nat → Int} (h : FI G o σ) {i k : Int} (i0 : 0 ≤ i) (i1 : i < σ (G o 0) 0) (k0 : 0 ≤ k) (k1 : k < kO (σ (G o 0)) i 0) : 0 ≤ kO (σ (G o 0)) i (3 + k) ∧ kO (σ (G o 0)) i (3 + k) ≤ 255 := h.1.2.2.2.2.1 i k i0 i1 k0 k1
