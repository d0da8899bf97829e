theorem del_rows {F F2 F3 : Nat → Int} {n t : Int} (hc : FC F F2) (hr : SD F2 F3 n t (n - 1) 0) (t0 : 0 ≤ t) (tn : t < n) (hn : n ≤ 150) (hL : ∀ i : Int, 0 ≤ i → i < n → 1 ≤ kO F i 0 ∧ kO F i 0 ≤ 24) :
    same (n - 1) (delI t (fun i => kO F i 0)) (fun i => kO F3 i 0) (delB t (fun i => kB F i)) (fun i => kB F3 i) ∧ ∀ i : Int, 0 ≤ i → i < n - 1 → delI t (fun i => kO F2 i 2) i = kO F3 i 2 := by
  obtain ⟨-, r1, -, r2, -⟩ := hr
  refine ⟨fun i i0 i1 => ?_, fun i i0 i1 => ?_⟩
  · rcases (show i < t ∨ t ≤ i by omega) with q | q
    · rw [delI_lt q, delB_lt q]
      refine ⟨?_, fun k k0 k1 => ?_⟩
      · dsimp only
        rw [r2 i 0 i0 (Or.inl q) (by omega) (by omega), hc.1 i 0 i0 (by omega) (by omega) (by omega) (by omega)]
      · have := (hL i i0 (by omega)).2
        have k1 : k < kO F i 0 := k1
        show kO F i (3 + k) = kO F3 i (3 + k)
        rw [r2 i (3 + k) i0 (Or.inl q) (by omega) (by omega), hc.1 i (3 + k) i0 (by omega) (by omega) (by omega) (by omega)]
    · rw [delI_ge q, delB_ge q]
      refine ⟨?_, fun k k0 k1 => ?_⟩
      · dsimp only
        rw [r1 i 0 q i1 (by omega) (by omega), hc.1 (i + 1) 0 (by omega) (by omega) (by omega) (by omega) (by omega)]
      · have := (hL (i + 1) (by omega) (by omega)).2
        have k1 : k < kO F (i + 1) 0 := k1
        show kO F (i + 1) (3 + k) = kO F3 i (3 + k)
        rw [r1 i (3 + k) q i1 (by omega) (by omega), hc.1 (i + 1) (3 + k) (by omega) (by omega) (by omega) (by omega) (by omega)]
  · rcases (show i < t ∨ t ≤ i by omega) with q | q
    · rw [delI_lt q]; exact (r2 i 2 i0 (Or.inl q) (by omega) (by omega)).symm
    · rw [delI_ge q]; exact (r1 i 2 q i1 (by omega) (by omega)).symm
theorem FI_goes {G : Nat → Nat → Nat} {o : Nat} {σ σ3 : Nat → Nat → Int} {F2 : Nat → Int} {t : Int} (h : FI G o σ) (hc : FC (σ (G o 0)) F2) (hr : SD F2 (σ3 (G o 0)) (σ (G o 0) 0) t (σ (G o 0) 0 - 1) 0) (t0 : 0 ≤ t) (tn : t < σ (G o 0) 0) (ek : σ3 o 1 = σ o 1) : FI G o σ3 := by
  obtain ⟨⟨k1, k2, k3, k4, k5, k6⟩, hq, hk⟩ := h
  obtain ⟨sm, -⟩ := del_rows hc hr t0 tn k1.2 k4
  have e : ∀ q : Nat, (1 ≤ q ∧ q < 3) ∨ (7 ≤ q ∧ q < 240) ∨ 4290 ≤ q → σ3 (G o 0) q = σ (G o 0) q := fun q hq => (hr.2.2.2.2 q (by omega)).trans (hc.2 q (by omega))
  have e0 := hr.1
  have e1 := e 1 (by omega)
  have e2 := e 2 (by omega)
  refine ⟨⟨by omega, by omega, by omega, fun i i0 i1 => ?_, fun i k i0 i1 q0 q1 => ?_, ?_⟩, FQ_congr hq (fun j hj => e j (by omega)), ?_⟩
  · rw [e0] at i1
    have z := (sm i i0 i1).1
    dsimp only at z
    rw [← z]
    rcases (show i < t ∨ t ≤ i by omega) with q | q
    · rw [delI_lt q]; exact k4 i i0 (by omega)
    · rw [delI_ge q]; exact k4 (i + 1) (by omega) (by omega)
  · rw [e0] at i1
    have z := (sm i i0 i1).1
    have y := (sm i i0 i1).2 k q0 (by rw [z]; exact q1)
    dsimp only at z y
    rw [← z] at q1
    rw [show kO (σ3 (G o 0)) i (3 + k) = kB (σ3 (G o 0)) i k from rfl, ← y]
    rcases (show i < t ∨ t ≤ i by omega) with q | q
    · rw [delI_lt q] at q1; rw [delB_lt q]; exact k5 i k i0 (by omega) q0 q1
    · rw [delI_ge q] at q1; rw [delB_ge q]; exact k5 (i + 1) k (by omega) (by omega) q0 q1
  · rw [e0]
    exact srt_same sm (srt_del k6 t0)
  · rw [ek]
    have ep : pt 4406 (σ3 (G o 0)) = pt 4406 (σ (G o 0)) := funext fun j => e (4406 + j) (by omega)
    rw [ep]
    exact hk
theorem FM_goes {F F2 F3 : Nat → Int} {n w t : Int} (hc : FC F F2) (hr : SD F2 F3 n t (n - 1) 0) (t0 : 0 ≤ t) (tn : t < n) (hn : n ≤ 150) (hL : ∀ i : Int, 0 ≤ i → i < n → 1 ≤ kO F i 0 ∧ kO F i 0 ≤ 24) (hw : F3 1 = w)
    (hM : MI (n - 1) w (delI t (fun i => kO F i 0)) (delB t (fun i => kB F i)) (delI t (fun i => kO F2 i 2))) : FM F3 := by
  obtain ⟨sm, hm⟩ := del_rows hc hr t0 tn hn hL
  unfold FM
  rw [hr.1, hw]
  exact MI_same sm hm hM
/-- what went of the keys, pages' marks and values aside -/
def KD (F F' : Nat → Int) (t : Int) : Prop := F' 0 = F 0 - 1 ∧ (∀ j w : Int, 0 ≤ j → j < t → 0 ≤ w → w < 27 → w ≠ 2 → kO F' j w = kO F j w) ∧ (∀ j w : Int, t ≤ j → j < F 0 - 1 → 0 ≤ w → w < 27 → w ≠ 2 → kO F' j w = kO F (j + 1) w) ∧ ∀ q : Nat, (1 ≤ q ∧ q < 3) ∨ (7 ≤ q ∧ q < 240) ∨ 4290 ≤ q → F' q = F q
theorem KD_of {F F2 F3 F4 : Nat → Int} {t : Int} (hc : FC F F2) (hr : SD F2 F3 (F 0) t (F 0 - 1) 0) (t0 : 0 ≤ t) (tn : t < F 0) (hn : F 0 ≤ 150) (h4 : FC F3 F4) : KD F F4 t := by
  refine ⟨(h4.2 0 (by omega)).trans hr.1, fun j w a b c d e => ?_, fun j w a b c d e => ?_, fun q hq => ?_⟩
  · rw [h4.1 j w a (by omega) c d e, hr.2.2.2.1 j w a (Or.inl b) c d, hc.1 j w a (by omega) c d e]
  · rw [h4.1 j w (by omega) (by omega) c d e, hr.2.1 j w a b c d, hc.1 (j + 1) w (by omega) (by omega) c d e]
  · rw [h4.2 q (by omega), hr.2.2.2.2 q (by omega), hc.2 q (by omega)]
theorem ENI_mono {lo t beh ne : Int} {ea : Int → Int} {L : Int → Int} {B : Int → Int → Int} (h : ENI lo t beh ne ea L B) (he : ea ne = t) : ∀ (k : Nat) (a : Int), 0 ≤ a → a + k + 1 ≤ ne → ea a < ea (a + k + 1) := by
  obtain ⟨-, -, -, -, h5, h6, -⟩ := h
  have hs : ∀ a : Int, 0 ≤ a → a + 1 ≤ ne → ea a < ea (a + 1) := fun a a0 a1 => by
    rcases (show a + 1 < ne ∨ a + 1 = ne by omega) with q | q
    · exact h6 a a0 q
    · rw [q, he]; exact (h5 a a0 (by omega)).2
  intro k
  induction k with
  | zero => intro a a0 a1; have := hs a a0 (by omega); rw [show a + ((0 : Nat) : Int) + 1 = a + 1 by omega]; exact this
  | succ k ih => intro a a0 a1; have h1 := ih a a0 (by omega); have h2 := hs (a + k + 1) (by omega) (by omega); rw [show a + ((k + 1 : Nat) : Int) + 1 = a + k + 1 + 1 by omega]; omega
theorem ENI_lt {lo t beh ne a b : Int} {ea : Int → Int} {L : Int → Int} {B : Int → Int → Int} (h : ENI lo t beh ne ea L B) (he : ea ne = t) (a0 : 0 ≤ a) (ab : a < b) (b1 : b ≤ ne) : ea a < ea b := by
  have := ENI_mono h he (b - a - 1).toNat a a0 (by omega)
  rw [show a + ((b - a - 1).toNat : Int) + 1 = b by omega] at this
  exact this
/-- an entry of one key -/
theorem EN_at {lo hi beh ne x e : Int} {ea : Int → Int} {L : Int → Int} {B : Int → Int → Int} (h : ENI lo hi beh ne ea L B) (he : ea ne = hi) (x0 : lo ≤ x) (x1 : x < hi) (al : ∀ j : Int, lo ≤ j → j < hi → shr L B j x beh → j = x) (e0 : 0 ≤ e) (e1 : e < ne) (e2 : e = 0 ∨ ea e ≤ x) (e3 : x < ea (e + 1)) : ea e = x ∧ ea (e + 1) = x + 1 := by
  have hmo := fun a b (a0 : 0 ≤ a) (ab : a < b) (b1 : b ≤ ne) => ENI_lt h he (a := a) (b := b) a0 ab b1
  have h4 := h.2.2.2.1 (by omega)
  have h7 := h.2.2.2.2.2.2.1
  have hle : ea e ≤ x := by
    rcases e2 with q | q
    · rw [q]; omega
    · exact q
  have hx : ∃ k : Int, 0 ≤ k ∧ k < ne ∧ ea k = x := by
    rcases (show x = lo ∨ lo < x by omega) with q | q
    · exact ⟨0, by omega, by omega, by omega⟩
    · exact h7 x q x1 (fun s => by have := al (x - 1) (by omega) (by omega) s; omega)
  obtain ⟨k, k0, k1, k2⟩ := hx
  have hk : k = e := by
    rcases (show k < e ∨ k = e ∨ e < k by omega) with q | q | q
    · have := hmo k e k0 q (by omega); omega
    · exact q
    · rcases (show k = e + 1 ∨ e + 1 < k by omega) with z | z
      · rw [z] at k2; omega
      · have := hmo (e + 1) k (by omega) z (by omega); omega
  subst hk
  refine ⟨k2, ?_⟩
  have hy : ∃ q : Int, 0 ≤ q ∧ q ≤ ne ∧ ea q = x + 1 := by
    rcases (show x + 1 = hi ∨ x + 1 < hi by omega) with q | q
    · exact ⟨ne, by omega, by omega, by omega⟩
    · obtain ⟨z, z0, z1, z2⟩ := h7 (x + 1) (by omega) q (fun s => by
        have := al (x + 1) (by omega) (by omega) (by rw [show x + 1 - 1 = x by omega] at s; exact ksh_symm s); omega)
      exact ⟨z, z0, by omega, z2⟩
  obtain ⟨q, q0, q1, q2⟩ := hy
  rcases (show q ≤ k ∨ q = k + 1 ∨ k + 1 < q by omega) with z | z | z
  · rcases (show q < k ∨ q = k by omega) with y | y
    · have := hmo q k q0 y (by omega); omega
    · rw [y] at q2; omega
  · rw [← z]; exact q2
  · have := hmo (k + 1) q (by omega) z q1; omega
/-- only the lowest of a layer is its lowest -/
theorem LC_lo {n w lo hi x d : Int} {L : Int → Int} {B : Int → Int → Int} (hh : ∀ j : Int, 0 ≤ j → j < n → (shr L B j x (d * w) ↔ lo ≤ j ∧ j < hi)) (x0 : lo ≤ x) (x1 : x < hi) (hn : hi ≤ n) (l0 : 0 ≤ lo) {p : Int} (p0 : lo ≤ p) (p1 : p < hi) (h : LC n w L B p d) : p = lo := by
  rcases h with ⟨-, q⟩ | ⟨-, -, -, q⟩
  · omega
  · rcases (show p = lo ∨ lo < p by omega) with z | z
    · exact z
    · rcases q with y | y
      · omega
      · exact absurd (ksh_trans ((hh (p - 1) (by omega) (by omega)).mpr ⟨by omega, by omega⟩) (ksh_symm ((hh p (by omega) (by omega)).mpr ⟨p0, p1⟩))) y
