theorem RK_FC {F F' : Nat → Int} {n k lh : Int} {fh : Int → Int} (hc : FC F F') (hn : n ≤ 150) (hl : ∀ i : Int, 0 ≤ i → i < n → 1 ≤ kO F i 0 ∧ kO F i 0 ≤ 24) (h : RK n k (fun i => kO F' i 0) (fun i => kB F' i) lh fh) : RK n k (fun i => kO F i 0) (fun i => kB F i) lh fh := by
  obtain ⟨h1, h2, h3, h4⟩ := h
  have e0 : ∀ j : Int, 0 ≤ j → j < n → kO F' j 0 = kO F j 0 := fun j j0 j1 => hc.1 j 0 j0 (by omega) (by omega) (by omega) (by omega)
  have eb : ∀ j : Int, 0 ≤ j → j < n → ∀ q : Int, 0 ≤ q → q < kO F j 0 → kB F' j q = kB F j q := fun j j0 j1 q q0 q1 => hc.1 j (3 + q) j0 (by omega) (by omega) (by have := (hl j j0 j1).2; omega) (by omega)
  refine ⟨h1, h2, fun j j0 j1 => ?_, fun q z => h4 q ?_⟩
  · have z := h3 j j0 j1
    dsimp only at z ⊢
    rw [e0 j j0 (by omega)] at z
    exact klt_congr (eb j j0 (by omega)) (fun _ _ _ => rfl) z
  · dsimp only at z ⊢
    rw [e0 k h1 q]
    exact klt_congr (fun a a0 a1 => (eb k h1 q a a0 a1).symm) (fun _ _ _ => rfl) z
/-- the lowest of a key's layer -/
theorem RG_LC {n w d lo hi x : Int} {L : Int → Int} {B : Int → Int → Int} {lh : Int} {fh : Int → Int} (hs : srt n L B) (hL : ∀ i : Int, 0 ≤ i → i < n → 1 ≤ L i ∧ L i ≤ 24) (h : RG n (d * w) lo hi L B lh fh) (hne : lo < n → lo < hi) (x0 : 0 ≤ x) (x1 : x < n) (e : lh = L x) (ag : ∀ j : Int, 0 ≤ j → j < L x → fh j = B x j) (hm : d * w < L x) (d0 : 0 ≤ d) (hd : d = 0 ∨ ∃ j : Int, 0 ≤ j ∧ j < n ∧ j ≠ x ∧ shr L B j x (d * w)) : LC n w L B lo d := by
  obtain ⟨⟨a, b⟩, hh⟩ := RG_own hs h hne x0 x1 e ag hm
  have hl := h.1
  have hn := h.2.2.1
  rcases (show d = 0 ∨ 0 < d by omega) with q | q
  · subst q
    refine Or.inl ⟨rfl, ?_⟩
    have := (hh 0 (by omega) (by omega)).mp ⟨by rw [Int.zero_mul]; have := (hL 0 (by omega) (by omega)).1; omega, hm, fun j j0 j1 => by rw [Int.zero_mul] at j1; omega⟩
    omega
  · rcases hd with z | ⟨j, j0, j1, jne, sj⟩
    · omega
    · have hj := (hh j j0 j1).mp sj
      have s1 := (hh lo hl (by omega)).mpr ⟨by omega, by omega⟩
      have s2 := (hh (lo + 1) (by omega) (by omega)).mpr ⟨by omega, by omega⟩
      refine Or.inr ⟨q, by omega, ksh_trans s1 (ksh_symm s2), ?_⟩
      rcases (show lo = 0 ∨ 0 < lo by omega) with z | z
      · exact Or.inl z
      · refine Or.inr fun s3 => ?_
        have := (hh (lo - 1) (by omega) (by omega)).mp (ksh_trans s3 s1)
        omega
theorem GD_end {n w t D nb nb2 lh : Int} {L : Int → Int} {B : Int → Int → Int} {M M1 M2 : Int → Int} {fh : Int → Int} (h : GDI n w t D L B M M1 nb lh fh) (hs : srt n L B) (hw : 0 < w) (hp : PL n t L B lh fh) (hM : MI n w L B M) (hdeep : ∀ j : Int, 0 ≤ j → j < n → ¬ ksh ((D + 1) * w) (L j) (B j) lh fh)
    (hM2 : ∀ i d : Int, 0 ≤ i → i < n → 0 ≤ d → d < 32 → bit (M1 i) d → bit (M2 i) d ∨ (t ≤ i ∧ d = D ∧ ksh (D * w) (L i) (B i) lh fh)) (hnb : ∀ d : Int, 0 ≤ d → d < 32 → bit nb d → bit nb2 d) (hD : bit nb2 D ∨ ∃ j : Int, 0 ≤ j ∧ j < t ∧ ksh (D * w) (L j) (B j) lh fh) (D32 : D < 32) : MI (n + 1) w (insI t L lh) (insB t B fh) (insI t M2 nb2) := by
  obtain ⟨h1, h2, h4, h5, h6, h7⟩ := h
  have hle : ∀ j d : Int, 0 ≤ j → j < n → ksh (d * w) (L j) (B j) lh fh → d ≤ D := fun j d j0 j1 s => by
    rcases (show d ≤ D ∨ D + 1 ≤ d by omega) with q | q
    · exact q
    · exact absurd (ksh_le s (mul_mono q (by omega))) (hdeep j j0 j1)
  refine MI_ins hs hw hp.1 hp.2.1 h1.1 hp.2.2.1 hp.2.2.2 hM (fun j d j0 j1 hd s => ?_) (fun i d i0 i1 d0 hb => ?_) (fun i d i0 i1 d0 s1 s2 => ?_) (fun d d0 d1 hno => ?_)
  · have := hle j d j0 j1 s; omega
  · rcases h4 i d i0 i1 d0 hb with z | ⟨z1, z2, z3⟩
    · rcases hM2 i d i0 i1 d0 (bit_lt hb d0) z with y | ⟨y1, y2, y3⟩
      · exact Or.inl y
      · subst y2; exact Or.inr ⟨y1, by omega, y3⟩
    · exact Or.inr ⟨z1, by omega, ksh_le z3 (mul_mono (by omega) (by omega))⟩
  · have hi := hp.2.1
    have hd := hle i d i0 (by omega) s1
    have z := h5 i d i0 i1 d0 hd s1 s2
    rcases hM2 i d i0 (by omega) (by omega) (by omega) z with y | ⟨y1, -, -⟩
    · exact y
    · omega
  · rcases (show d < D ∨ d = D by omega) with q | q
    · exact hnb d d0 (by omega) (h6 d d0 q hno)
    · subst q
      rcases hD with y | ⟨j, j0, j1, s⟩
      · exact y
      · exact absurd s (hno j j0 j1)
theorem ins_rows {F F2 F3 : Nat → Int} {n t lh nb : Int} {fh : Int → Int} (hc : FC F F2) (hr : FR F2 F3 n t) (t0 : 0 ≤ t) (tn : t ≤ n) (hn : n < 150) (hL : ∀ i : Int, 0 ≤ i → i < n → 1 ≤ kO F i 0 ∧ kO F i 0 ≤ 24) (h0 : kO F3 t 0 = lh) (hl24 : lh ≤ 24) (hb : ∀ k : Int, 0 ≤ k → k < lh → kO F3 t (3 + k) = fh k) (h2 : kO F3 t 2 = nb) :
    same (n + 1) (insI t (fun i => kO F i 0) lh) (fun i => kO F3 i 0) (insB t (fun i => kB F i) fh) (fun i => kB F3 i) ∧ ∀ i : Int, 0 ≤ i → i < n + 1 → insI t (fun i => kO F2 i 2) nb i = kO F3 i 2 := by
  obtain ⟨-, r1, r2, -⟩ := hr
  refine ⟨fun i i0 i1 => ?_, fun i i0 i1 => ?_⟩
  · rcases (show i < t ∨ i = t ∨ t < i by omega) with q | q | q
    · rw [insI_lt q, insB_lt q]
      refine ⟨?_, fun k k0 k1 => ?_⟩
      · dsimp only
        rw [r2 i 0 i0 q (by omega) (by omega), hc.1 i 0 i0 (by omega) (by omega) (by omega) (by omega)]
      · have := (hL i i0 (by omega)).2
        have k1 : k < kO F i 0 := k1
        show kO F i (3 + k) = kO F3 i (3 + k)
        rw [r2 i (3 + k) i0 q (by omega) (by omega), hc.1 i (3 + k) i0 (by omega) (by omega) (by omega) (by omega)]
    · subst q
      rw [insI_eq, insB_eq]
      exact ⟨h0.symm, fun k k0 k1 => (hb k k0 k1).symm⟩
    · rw [insI_gt q, insB_gt q]
      refine ⟨?_, fun k k0 k1 => ?_⟩
      · dsimp only
        rw [r1 i 0 q (by omega) (by omega) (by omega), hc.1 (i - 1) 0 (by omega) (by omega) (by omega) (by omega) (by omega)]
      · have := (hL (i - 1) (by omega) (by omega)).2
        have k1 : k < kO F (i - 1) 0 := k1
        show kO F (i - 1) (3 + k) = kO F3 i (3 + k)
        rw [r1 i (3 + k) q (by omega) (by omega) (by omega), hc.1 (i - 1) (3 + k) (by omega) (by omega) (by omega) (by omega) (by omega)]
  · rcases (show i < t ∨ i = t ∨ t < i by omega) with q | q | q
    · rw [insI_lt q]; exact (r2 i 2 i0 q (by omega) (by omega)).symm
    · subst q; rw [insI_eq]; exact h2.symm
    · rw [insI_gt q]; exact (r1 i 2 q (by omega) (by omega) (by omega)).symm
theorem FI_comes {G : Nat → Nat → Nat} {o : Nat} {σ σ3 : Nat → Nat → Int} {F2 : Nat → Int} {t lh nb : Int} {fh : Int → Int} (h : FI G o σ) (hc : FC (σ (G o 0)) F2) (hr : FR F2 (σ3 (G o 0)) (σ (G o 0) 0) t) (hn : σ (G o 0) 0 < 150) (h0 : kO (σ3 (G o 0)) t 0 = lh) (hl1 : 1 ≤ lh) (hl24 : lh ≤ 24) (hb : ∀ k : Int, 0 ≤ k → k < lh → kO (σ3 (G o 0)) t (3 + k) = fh k) (h2 : kO (σ3 (G o 0)) t 2 = nb) (hfh : ∀ k : Int, 0 ≤ k → k < lh → 0 ≤ fh k ∧ fh k ≤ 255)
    (hp : PL (σ (G o 0) 0) t (fun i => kO (σ (G o 0)) i 0) (fun i => kB (σ (G o 0)) i) lh fh) (ek : σ3 o 1 = σ o 1) : FI G o σ3 := by
  obtain ⟨⟨k1, k2, k3, k4, k5, k6⟩, hq, hk⟩ := h
  obtain ⟨sm, -⟩ := ins_rows hc hr hp.1 hp.2.1 hn k4 h0 hl24 hb h2
  have e : ∀ q : Nat, (1 ≤ q ∧ q < 3) ∨ (7 ≤ q ∧ q < 240) ∨ 4290 ≤ q → σ3 (G o 0) q = σ (G o 0) q := fun q hq => (hr.2.2.2 q (by omega)).trans (hc.2 q (by omega))
  have e0 := hr.1
  have e1 := e 1 (by omega)
  have e2 := e 2 (by omega)
  have ht0 := hp.1
  have htn := hp.2.1
  refine ⟨⟨by omega, by omega, by omega, fun i i0 i1 => ?_, fun i k i0 i1 q0 q1 => ?_, ?_⟩, FQ_congr hq (fun j hj => e j (by omega)), ?_⟩
  · rw [e0] at i1
    have z := (sm i i0 i1).1
    dsimp only at z
    rw [← z]
    rcases (show i < t ∨ i = t ∨ t < i by omega) with q | q | q
    · rw [insI_lt q]; exact k4 i i0 (by omega)
    · subst q; rw [insI_eq]; exact ⟨hl1, hl24⟩
    · rw [insI_gt q]; exact k4 (i - 1) (by omega) (by omega)
  · rw [e0] at i1
    have z := (sm i i0 i1).1
    have y := (sm i i0 i1).2 k q0 (by rw [z]; exact q1)
    dsimp only at z y
    rw [← z] at q1
    rw [show kO (σ3 (G o 0)) i (3 + k) = kB (σ3 (G o 0)) i k from rfl, ← y]
    rcases (show i < t ∨ i = t ∨ t < i by omega) with q | q | q
    · rw [insI_lt q] at q1; rw [insB_lt q]; exact k5 i k i0 (by omega) q0 q1
    · subst q; rw [insI_eq] at q1; rw [insB_eq]; exact hfh k q0 q1
    · rw [insI_gt q] at q1; rw [insB_gt q]; exact k5 (i - 1) k (by omega) (by omega) q0 q1
  · rw [e0]
    exact srt_same sm (srt_ins k6 ht0 htn hp.2.2.1 hp.2.2.2)
  · rw [ek]
    have ep : pt 4406 (σ3 (G o 0)) = pt 4406 (σ (G o 0)) := funext fun j => e (4406 + j) (by omega)
    rw [ep]
    exact hk
theorem FM_comes {F F2 F3 : Nat → Int} {n w t lh nb : Int} {fh : Int → Int} (hc : FC F F2) (hr : FR F2 F3 n t) (t0 : 0 ≤ t) (tn : t ≤ n) (hn : n < 150) (hL : ∀ i : Int, 0 ≤ i → i < n → 1 ≤ kO F i 0 ∧ kO F i 0 ≤ 24) (h0 : kO F3 t 0 = lh) (hl24 : lh ≤ 24) (hb : ∀ k : Int, 0 ≤ k → k < lh → kO F3 t (3 + k) = fh k) (h2 : kO F3 t 2 = nb) (hw : F3 1 = w)
    (hM : MI (n + 1) w (insI t (fun i => kO F i 0) lh) (insB t (fun i => kB F i) fh) (insI t (fun i => kO F2 i 2) nb)) : FM F3 := by
  obtain ⟨sm, hm⟩ := ins_rows hc hr t0 tn hn hL h0 hl24 hb h2
  unfold FM
  rw [hr.1, hw]
  exact MI_same sm hm hM
/-- marks that only come -/
theorem FM_more {F F' : Nat → Int} (hk : FK F) (h : FM F) (hc : FC F F') (hb : ∀ i d : Int, 0 ≤ i → i < F 0 → 0 ≤ d → d < 32 → bit (kO F i 2) d → bit (kO F' i 2) d) : FM F' := by
  intro i d i0 i1 d0 hL
  have e0 := hc.2 0 (by omega)
  have e1 := hc.2 1 (by omega)
  rw [e0] at i1
  have sm := same_F hk (fun i w a b c d _ e => hc.1 i w a (by have := hk.1.2; omega) c d e)
  have z := h i d i0 i1 d0 (by
    rw [e0, e1] at hL
    rcases hL with q | ⟨d1, n1, s1, s2⟩
    · exact Or.inl q
    · refine Or.inr ⟨d1, n1, shr_same (same_symm sm) i0 i1 (by omega) n1 s1, ?_⟩
      rcases s2 with q | q
      · exact Or.inl q
      · rcases (show i = 0 ∨ i ≠ 0 by omega) with y | y
        · exact Or.inl y
        · exact Or.inr fun s => q (shr_same sm (by omega) (by omega) i0 i1 s))
  exact hb i d i0 i1 d0 (bit_lt z d0) z
/-- what came of the keys, pages' marks and values aside -/
def KI (F F' : Nat → Int) (t lh : Int) (fh : Int → Int) : Prop := F' 0 = F 0 + 1 ∧ (∀ j w : Int, 0 ≤ j → j < t → 0 ≤ w → w < 27 → w ≠ 2 → kO F' j w = kO F j w) ∧ (∀ j w : Int, t < j → j ≤ F 0 → 0 ≤ w → w < 27 → w ≠ 2 → kO F' j w = kO F (j - 1) w) ∧ kO F' t 0 = lh ∧ (∀ k : Int, 0 ≤ k → k < lh → kO F' t (3 + k) = fh k) ∧ ∀ q : Nat, (1 ≤ q ∧ q < 3) ∨ (7 ≤ q ∧ q < 240) ∨ 4290 ≤ q → F' q = F q
theorem KI_of {F F2 F3 F4 : Nat → Int} {t lh : Int} {fh : Int → Int} (hc : FC F F2) (hr : FR F2 F3 (F 0) t) (t0 : 0 ≤ t) (tn : t ≤ F 0) (hn : F 0 < 150) (h0 : kO F3 t 0 = lh) (hl24 : lh ≤ 24) (hb : ∀ k : Int, 0 ≤ k → k < lh → kO F3 t (3 + k) = fh k) (h4 : FC F3 F4) : KI F F4 t lh fh := by
  refine ⟨(h4.2 0 (by omega)).trans hr.1, fun j w a b c d e => ?_, fun j w a b c d e => ?_, ?_, fun k k0 k1 => ?_, fun q hq => ?_⟩
  · rw [h4.1 j w a (by omega) c d e, hr.2.2.1 j w a b c d, hc.1 j w a (by omega) c d e]
  · rw [h4.1 j w (by omega) (by omega) c d e, hr.2.1 j w a b c d, hc.1 (j - 1) w (by omega) (by omega) c d e]
  · rw [h4.1 t 0 t0 (by omega) (by omega) (by omega) (by omega)]; exact h0
  · rw [h4.1 t (3 + k) t0 (by omega) (by omega) (by omega) (by omega)]; exact hb k k0 k1
  · rw [h4.2 q (by omega), hr.2.2.2 q (by omega), hc.2 q (by omega)]
