theorem FI_mid {G : Nat → Nat → Nat} {o : Nat} {σ σ1 : Nat → Nat → Int} (h : FI G o σ) (hm : FM (σ (G o 0))) (e : ∀ q : Nat, q < 7 ∨ (240 ≤ q ∧ q < 4290) ∨ (4406 ≤ q ∧ q < 8812) → σ1 (G o 0) q = σ (G o 0) q) (hq : FQ (σ1 (G o 0))) (ek : σ1 o 1 = σ o 1) : FI G o σ1 ∧ FM (σ1 (G o 0)) := by
  have hb := h.1.1.2
  have hrow : ∀ i w : Int, 0 ≤ i → i < σ (G o 0) 0 → 0 ≤ w → w < 27 → kO (σ1 (G o 0)) i w = kO (σ (G o 0)) i w := fun i w i0 i1 w0 w1 => e _ (by omega)
  refine ⟨⟨FK_congr h.1 (e 0 (by omega)) (e 1 (by omega)) (e 2 (by omega)) (fun i w i0 i1 w0 w1 _ _ => hrow i w i0 i1 w0 w1), hq, ?_⟩, FM_congr h.1 hm (e 0 (by omega)) (e 1 (by omega)) (fun i w i0 i1 w0 w1 _ => hrow i w i0 i1 w0 w1)⟩
  rw [ek]
  rcases h.2.2 with z | ⟨z1, z2, z3⟩
  · exact Or.inl z
  · have hp : ∀ q : Nat, q < 4406 → pt 4406 (σ1 (G o 0)) q = pt 4406 (σ (G o 0)) q := fun q hq => e (4406 + q) (by omega)
    have hpb := z1.1.2
    have hr : ∀ i w : Int, 0 ≤ i → i < pt 4406 (σ (G o 0)) 0 → 0 ≤ w → w < 27 → kO (pt 4406 (σ1 (G o 0))) i w = kO (pt 4406 (σ (G o 0))) i w := fun i w i0 i1 w0 w1 => hp _ (by omega)
    exact Or.inr ⟨FK_congr z1 (hp 0 (by omega)) (hp 1 (by omega)) (hp 2 (by omega)) (fun i w i0 i1 w0 w1 _ _ => hr i w i0 i1 w0 w1), FQ_congr z2 (fun j hj => hp j (by omega)), FM_congr z1 z3 (hp 0 (by omega)) (hp 1 (by omega)) (fun i w i0 i1 w0 w1 _ => hr i w i0 i1 w0 w1)⟩
/-- the cursor c told anew: its key is l bytes long, k of them laid -/
def CU (F F' : Nat → Int) (c l k : Int) : Prop := (∀ q : Nat, ((q : Int) < 4290 + 29 * c ∨ 4290 + 29 * c + 29 ≤ (q : Int)) → F' q = F q) ∧ F' (4290 + 29 * c + 4).toNat = l ∧ ∀ j : Int, 0 ≤ j → j < k → 0 ≤ F' (4290 + 29 * c + 5 + j).toNat ∧ F' (4290 + 29 * c + 5 + j).toNat ≤ 255
theorem CU_2 {F : Nat → Int} {σ0 σ1 σ2 : Nat → Nat → Int} {f : Nat} {c i1 i2 v l : Int} (e1 : σ1 = up2 σ0 f i1.toNat v) (hF : σ0 f = F) (h1 : i1 = 4290 + 29 * c) (e2 : σ2 = up2 σ1 f i2.toNat l) (h2 : i2 = i1 + 4) (c0 : 0 ≤ c) : CU F (σ2 f) c l 0 := by
  refine ⟨fun q hq => ?_, ?_, fun j j0 j1 => by omega⟩
  · rw [e2, up2_ne _ _ (by omega), e1, up2_ne _ _ (by omega), hF]
  · rw [e2, show (4290 + 29 * c + 4).toNat = i2.toNat by omega]; exact up2_at _ _ _ _
theorem CU_s {F Fc : Nat → Int} {σ1 σ2 : Nat → Nat → Int} {f : Nat} {c l k i v : Int} (h : CU F Fc c l k) (e : σ2 = up2 σ1 f i.toNat v) (hF : σ1 f = Fc) (hi : i = 4290 + 29 * c + 5 + k) (c0 : 0 ≤ c) (k0 : 0 ≤ k) (k1 : k < 24) (v0 : 0 ≤ v) (v1 : v ≤ 255) : CU F (σ2 f) c l (k + 1) := by
  obtain ⟨h1, h2, h3⟩ := h
  refine ⟨fun q hq => ?_, ?_, fun j j0 j1 => ?_⟩
  · rw [e, up2_ne _ _ (by omega), hF]; exact h1 q hq
  · rw [e, up2_ne _ _ (by omega), hF]; exact h2
  · rcases (show j = k ∨ j < k by omega) with z | z
    · rw [e, show (4290 + 29 * c + 5 + j).toNat = i.toNat by omega, up2_at]; exact ⟨v0, v1⟩
    · rw [e, up2_ne _ _ (by omega), hF]; exact h3 j j0 z
theorem FQ_cu {F F' : Nat → Int} {c l k : Int} (h : FQ F) (hc : CU F F' c l k) (c0 : 0 ≤ c) (c1 : c < 4) (l0 : 0 ≤ l) (l1 : l ≤ 24) (k1 : 24 ≤ k) : FQ F' := by
  obtain ⟨h1, h2, h3⟩ := h
  obtain ⟨u1, u2, u3⟩ := hc
  have e7 := u1 7 (by omega)
  refine ⟨by omega, fun s s0 s1 => ?_, fun d d0 d1 => ?_⟩
  · obtain ⟨q1, q2, q3⟩ := h2 s s0 s1
    have a0 := u1 (16 + 28 * s).toNat (by omega)
    have a1 := u1 (16 + 28 * s + 1).toNat (by omega)
    have a2 := u1 (16 + 28 * s + 2).toNat (by omega)
    refine ⟨by omega, fun g1 g2 => ?_, fun k k0 k1 => ?_⟩
    · rw [a1]; exact q2 (by omega) (by omega)
    · rw [u1 (16 + 28 * s + 3 + k).toNat (by omega)]; exact q3 k k0 (by omega)
  · rcases (show d = c ∨ d ≠ c by omega) with z | z
    · rw [z, u2]; exact ⟨⟨l0, l1⟩, fun k k0 k1 => u3 k k0 (by omega)⟩
    · obtain ⟨q1, q2⟩ := h3 d d0 d1
      have a2 := u1 (4290 + 29 * d + 4).toNat (by omega)
      refine ⟨by omega, fun k k0 k1 => ?_⟩
      rw [u1 (4290 + 29 * d + 5 + k).toNat (by omega)]; exact q2 k k0 (by omega)
theorem FI_cu {G : Nat → Nat → Nat} {o : Nat} {σ σ1 : Nat → Nat → Int} {c l k : Int} (h : FI G o σ) (hm : FM (σ (G o 0))) (hc : CU (σ (G o 0)) (σ1 (G o 0)) c l k) (c0 : 0 ≤ c) (c1 : c < 4) (l0 : 0 ≤ l) (l1 : l ≤ 24) (k1 : 24 ≤ k) (ek : σ1 o 1 = σ o 1) : FI G o σ1 ∧ FM (σ1 (G o 0)) :=
  FI_mid h hm (fun q hq => hc.1 q (by omega)) (FQ_cu h.2.1 hc c0 c1 l0 l1 k1) ek
theorem FI_cm {G : Nat → Nat → Nat} {o : Nat} {σ σ1 : Nat → Nat → Int} {c i v : Int} (h : FI G o σ) (hm : FM (σ (G o 0))) (e : σ1 = up2 σ (G o 0) i.toNat v) (c0 : 0 ≤ c) (c1 : c < 4) (i0 : 4290 + 29 * c ≤ i) (i1 : i < 4290 + 29 * c + 4) (ek : σ1 o 1 = σ o 1) : FI G o σ1 ∧ FM (σ1 (G o 0)) := by
  have u1 : ∀ q : Nat, q ≠ i.toNat → σ1 (G o 0) q = σ (G o 0) q := fun q hq => by rw [e, up2_ne _ _ (by omega)]
  refine FI_mid h hm (fun q hq => u1 q (by omega)) ?_ ek
  obtain ⟨h1, h2, h3⟩ := h.2.1
  have e7 := u1 7 (by omega)
  refine ⟨by omega, fun s s0 s1 => ?_, fun d d0 d1 => ?_⟩
  · obtain ⟨q1, q2, q3⟩ := h2 s s0 s1
    have a0 := u1 (16 + 28 * s).toNat (by omega)
    have a1 := u1 (16 + 28 * s + 1).toNat (by omega)
    have a2 := u1 (16 + 28 * s + 2).toNat (by omega)
    refine ⟨by omega, fun g1 g2 => ?_, fun k k0 k1 => ?_⟩
    · rw [a1]; exact q2 (by omega) (by omega)
    · rw [u1 (16 + 28 * s + 3 + k).toNat (by omega)]; exact q3 k k0 (by omega)
  · obtain ⟨q1, q2⟩ := h3 d d0 d1
    have a2 := u1 (4290 + 29 * d + 4).toNat (by omega)
    refine ⟨by omega, fun k k0 k1 => ?_⟩
    rw [u1 (4290 + 29 * d + 5 + k).toNat (by omega)]; exact q2 k k0 (by omega)
/-- the query's draft: steps of 28 -/
def DR (D : Nat → Int) (n : Int) : Prop := ∀ s : Int, 0 ≤ s → s < n → (0 ≤ D (28 * s + 2).toNat ∧ D (28 * s + 2).toNat ≤ 24) ∧ (D (28 * s).toNat = 107 → ¬ D (28 * s + 1).toNat = 0) ∧ ∀ k : Int, 0 ≤ k → k < D (28 * s + 2).toNat → 0 ≤ D (28 * s + 3 + k).toNat ∧ D (28 * s + 3 + k).toNat ≤ 255
theorem DR_s {D D' : Nat → Int} {n : Int} (n0 : 0 ≤ n) (h : DR D n) (e : ∀ q : Nat, (q : Int) < 28 * n → D' q = D q) (hl : 0 ≤ D' (28 * n + 2).toNat ∧ D' (28 * n + 2).toNat ≤ 24) (hz : D' (28 * n).toNat = 107 → ¬ D' (28 * n + 1).toNat = 0) (hb : ∀ k : Int, 0 ≤ k → k < D' (28 * n + 2).toNat → 0 ≤ D' (28 * n + 3 + k).toNat ∧ D' (28 * n + 3 + k).toNat ≤ 255) : DR D' (n + 1) := fun s s0 s1 => by
  rcases (show s = n ∨ s < n by omega) with z | z
  · subst z; exact ⟨hl, hz, hb⟩
  · obtain ⟨q1, q2, q3⟩ := h s s0 z
    have a0 := e (28 * s).toNat (by omega)
    have a1 := e (28 * s + 1).toNat (by omega)
    have a2 := e (28 * s + 2).toNat (by omega)
    refine ⟨by omega, fun g => ?_, fun k k0 k1 => ?_⟩
    · rw [a1]; exact q2 (by omega)
    · rw [e (28 * s + 3 + k).toNat (by omega)]; exact q3 k k0 (by omega)
theorem FQ_query {F F' D : Nat → Int} {n k : Int} (h : FQ F) (hD : DR D n) (n0 : 0 ≤ n) (n8 : n ≤ 8) (e7 : F' 7 = n) (eD : ∀ j : Int, 0 ≤ j → j < k → F' (16 + j).toNat = D j.toNat) (k0 : 28 * n ≤ k) (k1 : k ≤ 28 * n) (eo : ∀ q : Nat, 16 + k ≤ (q : Int) → F' q = F q) : FQ F' := by
  obtain ⟨h1, h2, h3⟩ := h
  refine ⟨by omega, fun s s0 s1 => ?_, fun c c0 c1 => ?_⟩
  · rcases (show s < n ∨ n ≤ s by omega) with z | z
    · obtain ⟨q1, q2, q3⟩ := hD s s0 z
      have a0 := eD (28 * s) (by omega) (by omega)
      have a1 := eD (28 * s + 1) (by omega) (by omega)
      have a2 := eD (28 * s + 2) (by omega) (by omega)
      rw [show 16 + (28 * s + 1) = 16 + 28 * s + 1 by omega] at a1
      rw [show 16 + (28 * s + 2) = 16 + 28 * s + 2 by omega] at a2
      refine ⟨by omega, fun g1 g2 => ?_, fun j j0 j1 => ?_⟩
      · rw [a1]; exact q2 (by omega)
      · have a3 := eD (28 * s + 3 + j) (by omega) (by omega)
        rw [show 16 + (28 * s + 3 + j) = 16 + 28 * s + 3 + j by omega] at a3
        rw [a3]; exact q3 j j0 (by omega)
    · obtain ⟨q1, q2, q3⟩ := h2 s s0 s1
      have a2 := eo (16 + 28 * s + 2).toNat (by omega)
      refine ⟨by omega, fun g1 g2 => (by exfalso; omega), fun j j0 j1 => ?_⟩
      rw [eo (16 + 28 * s + 3 + j).toNat (by omega)]; exact q3 j j0 (by omega)
  · obtain ⟨q1, q2⟩ := h3 c c0 c1
    have a2 := eo (4290 + 29 * c + 4).toNat (by omega)
    refine ⟨by omega, fun j j0 j1 => ?_⟩
    rw [eo (4290 + 29 * c + 5 + j).toNat (by omega)]; exact q2 j j0 (by omega)
/-- the found keys: places of keys, none twice -/
def FO (f : Nat → Int) (lo n N : Int) : Prop := (∀ i : Int, lo ≤ i → i < n → 0 ≤ f i.toNat ∧ f i.toNat < N) ∧ ∀ i j : Int, lo ≤ i → i < j → j < n → f i.toNat ≠ f j.toNat
def FOC (f : Nat → Int) (a b n N : Int) : Prop := (∀ i : Int, 0 ≤ i → i < n → (i < a ∨ b ≤ i) → 0 ≤ f i.toNat ∧ f i.toNat < N) ∧ ∀ i j : Int, 0 ≤ i → i < j → j < n → (i < a ∨ b ≤ i) → (j < a ∨ b ≤ j) → f i.toNat ≠ f j.toNat
theorem FOC_0 {f : Nat → Int} {n N : Int} (h : FO f 0 n N) : FOC f 0 0 n N := ⟨fun i i0 i1 _ => h.1 i i0 i1, fun i j i0 ij j1 _ _ => h.2 i j i0 ij j1⟩
theorem FOC_drop {f : Nat → Int} {a b n N : Int} (h : FOC f a b n N) : FOC f a (b + 1) n N := ⟨fun i i0 i1 z => h.1 i i0 i1 (by omega), fun i j i0 ij j1 z y => h.2 i j i0 ij j1 (by omega) (by omega)⟩
theorem FOC_end {f : Nat → Int} {a b n N : Int} (h : FOC f a b n N) (hb : a ≤ n) : FO f 0 a N := ⟨fun i i0 i1 => h.1 i i0 (by omega) (by omega), fun i j i0 ij j1 => h.2 i j i0 ij (by omega) (by omega) (by omega)⟩
theorem FOC_keep {Fc : Nat → Int} {σ1 σ2 : Nat → Nat → Int} {f : Nat} {a b n N v : Int} (h : FOC Fc a b n N) (e : σ2 = up2 σ1 f a.toNat v) (hF : σ1 f = Fc) (hv : v = Fc b.toNat) (a0 : 0 ≤ a) (ab : a ≤ b) (bn : b < n) : FOC (σ2 f) (a + 1) (b + 1) n N := by
  have hat : σ2 f a.toNat = Fc b.toNat := by rw [e, up2_at, hv]
  have hne : ∀ i : Int, 0 ≤ i → i ≠ a → σ2 f i.toNat = Fc i.toNat := fun i i0 ne => by rw [e, up2_ne _ _ (by omega), hF]
  refine ⟨fun i i0 i1 z => ?_, fun i j i0 ij j1 z y => ?_⟩
  · rcases (show i = a ∨ i ≠ a by omega) with q | q
    · rw [q, hat]; exact h.1 b (by omega) bn (by omega)
    · rw [hne i i0 q]; exact h.1 i i0 i1 (by omega)
  · rcases (show i = a ∨ i ≠ a by omega) with q | q
    · rw [q, hat, hne j (by omega) (by omega)]
      rcases (show j = b ∨ b < j by omega) with p | p
      · omega
      · exact h.2 b j (by omega) p j1 (by omega) (by omega)
    · rw [hne i i0 q]
      rcases (show j = a ∨ j ≠ a by omega) with p | p
      · rw [p, hat]; exact h.2 i b i0 (by omega) bn (by omega) (by omega)
      · rw [hne j (by omega) p]; exact h.2 i j i0 ij j1 (by omega) (by omega)
theorem FO_swap {F : Nat → Int} {σ1 σ2 σ3 : Nat → Nat → Int} {f : Nat} {n N x y v w : Int} (h : FO F 0 n N) (hF : σ1 f = F) (e2 : σ2 = up2 σ1 f x.toNat v) (e3 : σ3 = up2 σ2 f y.toNat w) (hv : v = F y.toNat) (hw : w = F x.toNat) (x0 : 0 ≤ x) (xy : x < y) (yn : y < n) : FO (σ3 f) 0 n N := by
  have hx : σ3 f x.toNat = F y.toNat := by rw [e3, up2_ne _ _ (by omega), e2, up2_at, hv]
  have hy : σ3 f y.toNat = F x.toNat := by rw [e3, up2_at, hw]
  have ho : ∀ i : Int, 0 ≤ i → i ≠ x → i ≠ y → σ3 f i.toNat = F i.toNat := fun i i0 a b => by rw [e3, up2_ne _ _ (by omega), e2, up2_ne _ _ (by omega), hF]
  have hb : ∀ i : Int, 0 ≤ i → i < n → ∃ i' : Int, 0 ≤ i' ∧ i' < n ∧ σ3 f i.toNat = F i'.toNat ∧ ((i = x ∧ i' = y) ∨ (i = y ∧ i' = x) ∨ (i ≠ x ∧ i ≠ y ∧ i' = i)) := fun i i0 i1 => by
    rcases (show i = x ∨ i = y ∨ (i ≠ x ∧ i ≠ y) by omega) with q | q | q
    · exact ⟨y, by omega, yn, by rw [q]; exact hx, by omega⟩
    · exact ⟨x, by omega, by omega, by rw [q]; exact hy, by omega⟩
    · exact ⟨i, i0, i1, ho i i0 q.1 q.2, by omega⟩
  refine ⟨fun i i0 i1 => ?_, fun i j i0 ij j1 => ?_⟩
  · obtain ⟨i', a, b, c, _⟩ := hb i i0 i1
    rw [c]; exact h.1 i' a b
  · obtain ⟨i', a, b, c, d⟩ := hb i i0 (by omega)
    obtain ⟨j', a', b', c', d'⟩ := hb j (by omega) j1
    rw [c, c']
    rcases (show i' < j' ∨ j' < i' by omega) with q | q
    · exact h.2 i' j' a q b'
    · exact fun z => h.2 j' i' a' q b z.symm
theorem FO_dec {f f0 : Nat → Int} {i n N x : Int} (h : FO f0 i n N) (hx : x = f0 i.toNat) (in_ : i < n) (hd : ∀ j : Int, i + 1 ≤ j → j < n → f j.toNat = if x < f0 j.toNat then f0 j.toNat - 1 else f0 j.toNat) : FO f (i + 1) n (N - 1) := by
  have hi := h.1 i (by omega) in_
  refine ⟨fun j j0 j1 => ?_, fun j k j0 jk k1 => ?_⟩
  · have := h.1 j (by omega) j1
    have ne := h.2 i j (by omega) (by omega) j1
    rw [hd j j0 j1]; split <;> omega
  · have h1 := h.1 j (by omega) (by omega)
    have h2 := h.1 k (by omega) (by omega)
    have n1 := h.2 i j (by omega) (by omega) (by omega)
    have n2 := h.2 i k (by omega) (by omega) (by omega)
    have n3 := h.2 j k (by omega) jk k1
    rw [hd j j0 (by omega), hd k (by omega) k1]
    split <;> split <;> omega
theorem FO_id {f : Nat → Int} {n k : Int} (h : ∀ i : Int, 0 ≤ i → i < k → f i.toNat = i) (hk : n ≤ k) : FO f 0 n n := ⟨fun i i0 i1 => by rw [h i i0 (by omega)]; exact ⟨i0, i1⟩, fun i j i0 ij j1 => by rw [h i i0 (by omega), h j (by omega) (by omega)]; omega⟩
theorem id_s {σ1 σ2 : Nat → Nat → Int} {f : Nat} {k : Int} (h : ∀ i : Int, 0 ≤ i → i < k → σ1 f i.toNat = i) (e : σ2 = up2 σ1 f k.toNat k) (k0 : 0 ≤ k) : ∀ i : Int, 0 ≤ i → i < k + 1 → σ2 f i.toNat = i := fun i i0 i1 => by
  rcases (show i = k ∨ i < k by omega) with z | z
  · rw [z, e]; exact up2_at _ _ _ _
  · rw [e, up2_ne _ _ (by omega)]; exact h i i0 z
theorem DEC_skip {f f0 : Nat → Int} {b x k n : Int} (h1 : ∀ i : Int, b ≤ i → i < k → f i.toNat = if x < f0 i.toNat then f0 i.toNat - 1 else f0 i.toNat) (h2 : ∀ i : Int, k ≤ i → i < n → f i.toNat = f0 i.toNat) (kn : k < n) (hc : ¬ x < f k.toNat) : ∀ i : Int, b ≤ i → i < k + 1 → f i.toNat = if x < f0 i.toNat then f0 i.toNat - 1 else f0 i.toNat := fun i i0 i1 => by
  rcases (show i = k ∨ i < k by omega) with z | z
  · have := h2 k (by omega) kn
    rw [z, if_neg (by omega)]; exact this
  · exact h1 i i0 z
theorem DEC_do {f0 : Nat → Int} {σ1 σ2 : Nat → Nat → Int} {f : Nat} {b x k n v : Int} (h1 : ∀ i : Int, b ≤ i → i < k → σ1 f i.toNat = if x < f0 i.toNat then f0 i.toNat - 1 else f0 i.toNat) (h2 : ∀ i : Int, k ≤ i → i < n → σ1 f i.toNat = f0 i.toNat) (b0 : 0 ≤ b) (bk : b ≤ k) (kn : k < n) (hc : x < σ1 f k.toNat) (e : σ2 = up2 σ1 f k.toNat v) (hv : v = σ1 f k.toNat - 1) : (∀ i : Int, b ≤ i → i < k + 1 → σ2 f i.toNat = if x < f0 i.toNat then f0 i.toNat - 1 else f0 i.toNat) ∧ ∀ i : Int, k + 1 ≤ i → i < n → σ2 f i.toNat = f0 i.toNat := by
  refine ⟨fun i i0 i1 => ?_, fun i i0 i1 => ?_⟩
  · rcases (show i = k ∨ i < k by omega) with z | z
    · have := h2 k (by omega) kn
      rw [z, if_pos (by omega), e, up2_at, hv, this]
    · rw [e, up2_ne _ _ (by omega)]; exact h1 i i0 z
  · rw [e, up2_ne _ _ (by omega)]; exact h2 i (by omega) i1
theorem by_s {F : Nat → Int} {σ1 σ2 : Nat → Nat → Int} {f : Nat} {b n i v : Int} (h : ∀ k : Int, 0 ≤ k → k < n → 0 ≤ F (b + k).toNat ∧ F (b + k).toNat ≤ 255) (e : σ2 = up2 σ1 f i.toNat v) (hF : σ1 f = F) (hi : i = b + n) (b0 : 0 ≤ b) (n0 : 0 ≤ n) (v0 : 0 ≤ v ∧ v ≤ 255) : ∀ k : Int, 0 ≤ k → k < n + 1 → 0 ≤ σ2 f (b + k).toNat ∧ σ2 f (b + k).toNat ≤ 255 := fun k k0 k1 => by
  rcases (show k = n ∨ k < n by omega) with z | z
  · rw [e, show (b + k).toNat = i.toNat by omega, up2_at]; exact v0
  · rw [e, up2_ne _ _ (by omega), hF]; exact h k k0 z
theorem FI_anew {G : Nat → Nat → Nat} {o : Nat} {σ σ1 : Nat → Nat → Int} (h : FI G o σ) (e0 : σ1 (G o 0) 0 = 0) (e1 : 1 ≤ σ1 (G o 0) 1 ∧ σ1 (G o 0) 1 ≤ 8) (e2 : 2 ≤ σ1 (G o 0) 2 ∧ σ1 (G o 0) 2 ≤ 8) (e : ∀ q : Nat, 7 ≤ q → q < 8812 → σ1 (G o 0) q = σ (G o 0) q) (ek : σ1 o 1 = σ o 1) : FI G o σ1 ∧ FM (σ1 (G o 0)) := by
  refine ⟨⟨⟨by omega, e1, e2, fun i i0 i1 => by omega, fun i k i0 i1 => by omega, fun i j i0 ij jn => by omega⟩, FQ_congr h.2.1 (fun j hj => e j (by omega) (by omega)), ?_⟩, fun i d i0 i1 => by omega⟩
  rw [ek]
  rcases h.2.2 with z | ⟨z1, z2, z3⟩
  · exact Or.inl z
  · have hp : ∀ q : Nat, q < 4406 → pt 4406 (σ1 (G o 0)) q = pt 4406 (σ (G o 0)) q := fun q hq => e (4406 + q) (by omega) (by omega)
    have hpb := z1.1.2
    have hr : ∀ i w : Int, 0 ≤ i → i < pt 4406 (σ (G o 0)) 0 → 0 ≤ w → w < 27 → kO (pt 4406 (σ1 (G o 0))) i w = kO (pt 4406 (σ (G o 0))) i w := fun i w i0 i1 w0 w1 => hp _ (by omega)
    exact Or.inr ⟨FK_congr z1 (hp 0 (by omega)) (hp 1 (by omega)) (hp 2 (by omega)) (fun i w i0 i1 w0 w1 _ _ => hr i w i0 i1 w0 w1), FQ_congr z2 (fun j hj => hp j (by omega)), FM_congr z1 z3 (hp 0 (by omega)) (hp 1 (by omega)) (fun i w i0 i1 w0 w1 _ => hr i w i0 i1 w0 w1)⟩
theorem R2 {F F' : Nat → Int} (h : ∀ q : Nat, q < 4406 → F' (8812 + q) = F q) {i w : Int} (i0 : 0 ≤ i) (i1 : i < 150) (w0 : 0 ≤ w) (w1 : w < 27) : F' (9052 + 27 * i + w).toNat = kO F i w := by
  have := h (240 + 27 * i + w).toNat (by omega)
  unfold kO
  rw [← this]
  congr 1
  omega
theorem R2b {F F' : Nat → Int} (h : ∀ q : Nat, q < 4406 → F' (8812 + q) = F q) {i k : Int} (i0 : 0 ≤ i) (i1 : i < 150) (k0 : 0 ≤ k) (k1 : k < 24) : F' (9052 + 27 * i + 3 + k).toNat = kO F i (3 + k) := by
  rw [← R2 h i0 i1 (w := 3 + k) (by omega) (by omega), show 9052 + 27 * i + (3 + k) = 9052 + 27 * i + 3 + k by omega]
abbrev AN (F F' : Nat → Int) (i : Int) : Prop := same i (fun j => kO F j 0) (fun j => kO F' j 0) (fun j => kB F j) (fun j => kB F' j)
theorem AN_0 {F F' : Nat → Int} : AN F F' 0 := fun i i0 i1 => by omega
theorem PL_an {n i lh : Int} {L L' : Int → Int} {B B' : Int → Int → Int} {fh : Int → Int} (hs : srt n L B) (h : same i L L' B B') (i0 : 0 ≤ i) (i1 : i < n) (e : lh = L i) (eb : ∀ k : Int, 0 ≤ k → k < lh → fh k = B i k) : PL i i L' B' lh fh := by
  refine ⟨i0, Int.le_refl _, fun j j0 j1 => ?_, fun j j0 j1 => by omega⟩
  have hj := h j j0 j1
  rw [← hj.1, e]
  exact klt_congr hj.2 (fun k k0 k1 => (eb k k0 (by omega)).symm) (hs j i j0 j1 i1)
theorem AN_s {F F1 F2 : Nat → Int} {i lh : Int} {fh : Int → Int} (h : AN F F1 i) (hk : KI F1 F2 i lh fh) (hL : ∀ j : Int, 0 ≤ j → j < i + 1 → 1 ≤ kO F j 0 ∧ kO F j 0 ≤ 24) (e : lh = kO F i 0) (eb : ∀ k : Int, 0 ≤ k → k < lh → fh k = kO F i (3 + k)) : AN F F2 (i + 1) := fun j j0 j1 => by
  have hl := hL j j0 j1
  obtain ⟨_, k1, _, k3, k4, _⟩ := hk
  rcases (show j = i ∨ j < i by omega) with z | z
  · subst z
    exact ⟨by show kO F j 0 = kO F2 j 0; omega, fun k q0 q1 => by
      have q2 : k < kO F j 0 := q1
      exact (eb k q0 (by omega)).symm.trans (k4 k q0 (by omega)).symm⟩
  · have hj := h j j0 z
    refine ⟨?_, fun k q0 q1 => ?_⟩
    · show kO F j 0 = kO F2 j 0
      rw [k1 j 0 j0 z (by omega) (by omega) (by omega)]; exact hj.1
    · have q2 : k < kO F j 0 := q1
      exact (hj.2 k q0 q1).trans (k1 j (3 + k) j0 z (by omega) (by omega) (by omega)).symm
theorem AN_back {F F2 F3 : Nat → Int} (h1 : ∀ q : Nat, 4406 ≤ q → q < 8812 → F2 q = F q) (h2 : ∀ q : Nat, q < 4406 → F2 (8812 + q) = F q) (h3 : CP F2 F3 2 0 4406) : ∀ q : Nat, q < 8812 → F3 q = F q := fun q hq => by
  rcases (show q < 4406 ∨ 4406 ≤ q by omega) with z | z
  · have a := h3.1 q (by omega) (by omega)
    rw [show (4406 * 0 + (q : Int)).toNat = q by omega, show (4406 * 2 + (q : Int)).toNat = 8812 + q by omega] at a
    rw [a, h2 q z]
  · rw [h3.2 q (by omega), h1 q z hq]
theorem CP_02 {F F1 : Nat → Int} (h : CP F F1 0 2 4406) : (∀ q : Nat, q < 8812 → F1 q = F q) ∧ ∀ q : Nat, q < 4406 → F1 (8812 + q) = F q := by
  refine ⟨fun q hq => h.2 q (by omega), fun q hq => ?_⟩
  have a := h.1 q (by omega) (by omega)
  rw [show (4406 * 0 + (q : Int)).toNat = q by omega, show (4406 * 2 + (q : Int)).toNat = 8812 + q by omega] at a
  exact a
theorem FI_keep {G : Nat → Nat → Nat} {o : Nat} {σ σ1 : Nat → Nat → Int} (h : FI G o σ) (hm : FM (σ (G o 0))) (hc : CP (σ (G o 0)) (σ1 (G o 0)) 0 1 4406) : FI G o σ1 ∧ FM (σ1 (G o 0)) := by
  have hb := h.1.1.2
  have e : ∀ q : Nat, q < 4406 → σ1 (G o 0) q = σ (G o 0) q := fun q hq => hc.2 q (by omega)
  have hp : ∀ q : Nat, q < 4406 → pt 4406 (σ1 (G o 0)) q = σ (G o 0) q := fun q hq => by
    have a := hc.1 q (by omega) (by omega)
    rw [show (4406 * 0 + (q : Int)).toNat = q by omega, show (4406 * 1 + (q : Int)).toNat = 4406 + q by omega] at a
    exact a
  have hrow : ∀ i w : Int, 0 ≤ i → i < σ (G o 0) 0 → 0 ≤ w → w < 27 → kO (σ1 (G o 0)) i w = kO (σ (G o 0)) i w := fun i w i0 i1 w0 w1 => e _ (by omega)
  have hr : ∀ i w : Int, 0 ≤ i → i < σ (G o 0) 0 → 0 ≤ w → w < 27 → kO (pt 4406 (σ1 (G o 0))) i w = kO (σ (G o 0)) i w := fun i w i0 i1 w0 w1 => hp _ (by omega)
  exact ⟨⟨FK_congr h.1 (e 0 (by omega)) (e 1 (by omega)) (e 2 (by omega)) (fun i w i0 i1 w0 w1 _ _ => hrow i w i0 i1 w0 w1), FQ_congr h.2.1 (fun j hj => e j (by omega)), Or.inr ⟨FK_congr h.1 (hp 0 (by omega)) (hp 1 (by omega)) (hp 2 (by omega)) (fun i w i0 i1 w0 w1 _ _ => hr i w i0 i1 w0 w1), FQ_congr h.2.1 (fun j hj => hp j (by omega)), FM_congr h.1 hm (hp 0 (by omega)) (hp 1 (by omega)) (fun i w i0 i1 w0 w1 _ => hr i w i0 i1 w0 w1)⟩⟩, FM_congr h.1 hm (e 0 (by omega)) (e 1 (by omega)) (fun i w i0 i1 w0 w1 _ => hrow i w i0 i1 w0 w1)⟩
theorem FI_undo {G : Nat → Nat → Nat} {o : Nat} {σ σ1 : Nat → Nat → Int} (h : FI G o σ) (hk : ¬ σ o 1 = 0) (hc : CP (σ (G o 0)) (σ1 (G o 0)) 1 0 4406) (ek : σ1 o 1 = σ o 1) : FI G o σ1 ∧ FM (σ1 (G o 0)) := by
  rcases h.2.2 with z | ⟨z1, z2, z3⟩
  · exact absurd z hk
  have hb := z1.1.2
  have e : ∀ q : Nat, q < 4406 → σ1 (G o 0) q = pt 4406 (σ (G o 0)) q := fun q hq => by
    have a := hc.1 q (by omega) (by omega)
    rw [show (4406 * 0 + (q : Int)).toNat = q by omega, show (4406 * 1 + (q : Int)).toNat = 4406 + q by omega] at a
    exact a
  have ep : pt 4406 (σ1 (G o 0)) = pt 4406 (σ (G o 0)) := funext fun q => hc.2 (4406 + q) (by omega)
  have hrow : ∀ i w : Int, 0 ≤ i → i < pt 4406 (σ (G o 0)) 0 → 0 ≤ w → w < 27 → kO (σ1 (G o 0)) i w = kO (pt 4406 (σ (G o 0))) i w := fun i w i0 i1 w0 w1 => e _ (by omega)
  refine ⟨⟨FK_congr z1 (e 0 (by omega)) (e 1 (by omega)) (e 2 (by omega)) (fun i w i0 i1 w0 w1 _ _ => hrow i w i0 i1 w0 w1), FQ_congr z2 (fun j hj => e j (by omega)), ?_⟩, FM_congr z1 z3 (e 0 (by omega)) (e 1 (by omega)) (fun i w i0 i1 w0 w1 _ => hrow i w i0 i1 w0 w1)⟩
  rw [ek, ep]
  exact Or.inr ⟨z1, z2, z3⟩
theorem qy_s {D : Nat → Int} {σ1 σ2 : Nat → Nat → Int} {f : Nat} {k v : Int} (h : ∀ j : Int, 0 ≤ j → j < k → σ1 f (16 + j).toNat = D j.toNat) (e : σ2 = up2 σ1 f (16 + k).toNat v) (k0 : 0 ≤ k) (hv : v = D k.toNat) : ∀ j : Int, 0 ≤ j → j < k + 1 → σ2 f (16 + j).toNat = D j.toNat := fun j j0 j1 => by
  rcases (show j = k ∨ j < k by omega) with z | z
  · rw [z, e, up2_at]; exact hv
  · rw [e, up2_ne _ _ (by omega)]; exact h j j0 z
theorem FI_kn {G : Nat → Nat → Nat} {o : Nat} {σ : Nat → Nat → Int} (h : FI G o σ) (hk : ¬ σ o 1 = 0) : 0 ≤ σ (G o 0) 4406 ∧ σ (G o 0) 4406 ≤ 150 := by
  rcases h.2.2 with z | ⟨z1, _, _⟩
  · exact absurd z hk
  · exact z1.1
def DS0 (D D0 : Nat → Int) (b h : Int) : Prop := (∀ q : Nat, (q : Int) < b → D q = D0 q) ∧ D (b + 2).toNat = 0 ∧ D b.toNat = h
def DS1 (D D0 : Nat → Int) (b : Int) : Prop := (∀ q : Nat, (q : Int) < b → D q = D0 q) ∧ D (b + 2).toNat = 0 ∧ (D b.toNat = 107 → ¬ D (b + 1).toNat = 0)
def DS2 (D D0 : Nat → Int) (b l k : Int) : Prop := (∀ q : Nat, (q : Int) < b → D q = D0 q) ∧ D (b + 2).toNat = l ∧ (D b.toNat = 107 → ¬ D (b + 1).toNat = 0) ∧ ∀ j : Int, 0 ≤ j → j < k → 0 ≤ D (b + 3 + j).toNat ∧ D (b + 3 + j).toNat ≤ 255
def DSF (D D0 : Nat → Int) (b : Int) : Prop := ∃ l : Int, 0 ≤ l ∧ l ≤ 24 ∧ DS2 D D0 b l l
theorem DS0_i {D0 : Nat → Int} {σ0 σ1 σ2 σ3 : Nat → Nat → Int} {f : Nat} {b h : Int} (h0 : σ0 f = D0) (e1 : σ1 = up2 σ0 f b.toNat h) (e2 : σ2 = up2 σ1 f (b + 1).toNat 0) (e3 : σ3 = up2 σ2 f (b + 2).toNat 0) (b0 : 0 ≤ b) : DS0 (σ3 f) D0 b h := by
  refine ⟨fun q hq => ?_, ?_, ?_⟩
  · rw [e3, up2_ne _ _ (by omega), e2, up2_ne _ _ (by omega), e1, up2_ne _ _ (by omega), h0]
  · rw [e3]; exact up2_at _ _ _ _
  · rw [e3, up2_ne _ _ (by omega), e2, up2_ne _ _ (by omega), e1]; exact up2_at _ _ _ _
theorem DS1_a {D D0 : Nat → Int} {b h : Int} (H : DS0 D D0 b h) (hh : ¬ h = 107) : DS1 D D0 b := ⟨H.1, H.2.1, fun z => absurd (H.2.2.symm.trans z) hh⟩
theorem DS1_b {D D0 : Nat → Int} {σ1 σ2 : Nat → Nat → Int} {f : Nat} {b h n : Int} (H : DS0 D D0 b h) (hF : σ1 f = D) (e : σ2 = up2 σ1 f (b + 1).toNat n) (b0 : 0 ≤ b) (hh : ¬ h = 107 ∨ ¬ n = 0) : DS1 (σ2 f) D0 b := by
  refine ⟨fun q hq => ?_, ?_, fun z => ?_⟩
  · rw [e, up2_ne _ _ (by omega), hF]; exact H.1 q hq
  · rw [e, up2_ne _ _ (by omega), hF]; exact H.2.1
  · rw [e, up2_ne _ _ (by omega), hF, H.2.2] at z
    rw [e, up2_at]
    rcases hh with y | y
    · exact absurd z y
    · exact y
theorem DS2_0 {D D0 : Nat → Int} {σ1 σ2 : Nat → Nat → Int} {f : Nat} {b l : Int} (H : DS1 D D0 b) (hF : σ1 f = D) (e : σ2 = up2 σ1 f (b + 2).toNat l) (b0 : 0 ≤ b) : DS2 (σ2 f) D0 b l 0 := by
  refine ⟨fun q hq => ?_, ?_, fun z => ?_, fun j j0 j1 => by omega⟩
  · rw [e, up2_ne _ _ (by omega), hF]; exact H.1 q hq
  · rw [e]; exact up2_at _ _ _ _
  · rw [e, up2_ne _ _ (by omega), hF] at z
    rw [e, up2_ne _ _ (by omega), hF]; exact H.2.2 z
theorem DS2_s {D D0 : Nat → Int} {σ1 σ2 : Nat → Nat → Int} {f : Nat} {b l k v : Int} (H : DS2 D D0 b l k) (hF : σ1 f = D) (e : σ2 = up2 σ1 f (b + 3 + k).toNat v) (b0 : 0 ≤ b) (k0 : 0 ≤ k) (hv : 0 ≤ v ∧ v ≤ 255) : DS2 (σ2 f) D0 b l (k + 1) := by
  obtain ⟨h1, h2, h3, h4⟩ := H
  refine ⟨fun q hq => ?_, ?_, fun z => ?_, fun j j0 j1 => ?_⟩
  · rw [e, up2_ne _ _ (by omega), hF]; exact h1 q hq
  · rw [e, up2_ne _ _ (by omega), hF]; exact h2
  · rw [e, up2_ne _ _ (by omega), hF] at z
    rw [e, up2_ne _ _ (by omega), hF]; exact h3 z
  · rcases (show j = k ∨ j < k by omega) with z | z
    · rw [z, e, up2_at]; exact hv
    · rw [e, up2_ne _ _ (by omega), hF]; exact h4 j j0 z
theorem DSF_a {D D0 : Nat → Int} {b : Int} (H : DS1 D D0 b) : DSF D D0 b := ⟨0, by omega, by omega, H.1, H.2.1, H.2.2, fun j j0 j1 => by omega⟩
theorem DSF_b {D D0 : Nat → Int} {b l k : Int} (H : DS2 D D0 b l k) (l0 : 0 ≤ l) (l1 : l ≤ 24) (hk : l ≤ k) : DSF D D0 b := ⟨l, l0, l1, H.1, H.2.1, H.2.2.1, fun j j0 j1 => H.2.2.2 j j0 (by omega)⟩
theorem DR_f {D D' : Nat → Int} {n m : Int} (n0 : 0 ≤ n) (h : DR D n) (H : DSF D' D (28 * n)) (hm : m = n + 1) : DR D' m := by
  obtain ⟨l, l0, l1, h1, h2, h3, h4⟩ := H
  rw [hm]
  exact DR_s n0 h h1 (by omega) h3 (fun k k0 k1 => h4 k k0 (by omega))
