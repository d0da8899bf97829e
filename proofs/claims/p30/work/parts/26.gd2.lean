theorem PL_ne {n t j : Int} {L : Int → Int} {B : Int → Int → Int} {lh : Int} {fh : Int → Int} (hp : PL n t L B lh fh) (j0 : 0 ≤ j) (j1 : j < n) : ¬ keq (L j) (B j) lh fh := fun q => by
  rcases (show j < t ∨ t ≤ j by omega) with z | z
  · exact klt_keq (hp.2.2.1 j j0 z) q
  · exact klt_keq' (hp.2.2.2 j z j1) q
theorem cmp_lt {n t j r : Int} {L : Int → Int} {B : Int → Int → Int} {lh : Int} {fh : Int → Int} (hp : PL n t L B lh fh) (j0 : 0 ≤ j) (j1 : j < n) (h : cmpP r (L j) (B j) lh fh) (hr : r ≤ 0) : klt (L j) (B j) lh fh := by
  rcases (show r < 0 ∨ r = 0 by omega) with z | z
  · exact h.1 z
  · exact absurd (h.2.2 z) (PL_ne hp j0 j1)
theorem kO_cnt {σ1 σ2 : Nat → Nat → Int} {a j : Nat} {v : Int} (e : σ2 = up2 σ1 a j v) (h : j < 240) : ∀ i w : Int, 0 ≤ i → 0 ≤ w → kO (σ2 a) i w = kO (σ1 a) i w := fun i w i0 w0 => by
  rw [e, up2_row]
  unfold kO
  exact upF_ne _ _ (by omega)
