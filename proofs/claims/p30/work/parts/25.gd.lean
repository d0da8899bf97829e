theorem bit_lt {x d : Int} (h : bit x d) (h0 : 0 ≤ d) : d < 32 := by
  unfold bit at h
  rcases (show d < 32 ∨ 32 ≤ d by omega) with q | q
  · exact q
  · rw [BitVec.getLsbD_of_ge _ _ (by omega)] at h
    cases h
theorem first_diff (fa fb : Int → Int) (m : Nat) : (∀ j : Int, 0 ≤ j → j < m → fa j = fb j) ∨ ∃ k : Int, 0 ≤ k ∧ k < m ∧ (∀ j : Int, 0 ≤ j → j < k → fa j = fb j) ∧ fa k ≠ fb k := by
  induction m with
  | zero => exact Or.inl fun j j0 j1 => by omega
  | succ m ih =>
    rcases ih with h | ⟨k, k0, k1, h1, h2⟩
    · by_cases e : fa m = fb m
      · refine Or.inl fun j j0 j1 => ?_
        rcases (show j < m ∨ j = m by omega) with q | q
        · exact h j j0 q
        · rw [q]; exact e
      · exact Or.inr ⟨m, by omega, by omega, h, e⟩
    · exact Or.inr ⟨k, k0, by omega, h1, h2⟩
theorem klt_total {la lb : Int} {fa fb : Int → Int} (ha : 0 ≤ la) (hb : 0 ≤ lb) : klt la fa lb fb ∨ klt lb fb la fa ∨ keq la fa lb fb := by
  rcases first_diff fa fb (min la lb).toNat with h | ⟨k, k0, k1, h1, h2⟩
  · rcases (show la < lb ∨ lb < la ∨ la = lb by omega) with q | q | q
    · exact Or.inl ⟨la, ha, fun j j0 j1 => h j j0 (by omega), Or.inl ⟨rfl, q⟩⟩
    · exact Or.inr (Or.inl ⟨lb, hb, fun j j0 j1 => (h j j0 (by omega)).symm, Or.inl ⟨rfl, q⟩⟩)
    · exact Or.inr (Or.inr ⟨q, fun j j0 j1 => h j j0 (by omega)⟩)
  · rcases (show fa k < fb k ∨ fb k < fa k by omega) with q | q
    · exact Or.inl ⟨k, k0, h1, Or.inr ⟨by omega, by omega, q⟩⟩
    · exact Or.inr (Or.inl ⟨k, k0, fun j j0 j1 => (h1 j j0 j1).symm, Or.inr ⟨by omega, by omega, q⟩⟩)
/-- the place of a key that isn't there -/
def PL (n t : Int) (L : Int → Int) (B : Int → Int → Int) (lh : Int) (fh : Int → Int) : Prop := 0 ≤ t ∧ t ≤ n ∧ (∀ j : Int, 0 ≤ j → j < t → klt (L j) (B j) lh fh) ∧ ∀ j : Int, t ≤ j → j < n → klt lh fh (L j) (B j)
theorem PL_of {n k : Int} {L : Int → Int} {B : Int → Int → Int} {lh : Int} {fh : Int → Int} (hs : srt n L B) (hl : ∀ i : Int, 0 ≤ i → i < n → 1 ≤ L i ∧ L i ≤ 24) (h0 : 0 ≤ lh) (hk : RK n k L B lh fh) (hx : ¬ TH n L B lh fh) : PL n k L B lh fh := ⟨hk.1, hk.2.1, hk.2.2.1, RK_new hs hk hx (fun i i0 i1 => klt_total (by have := (hl i i0 i1).1; omega) h0)⟩
theorem RK_ex (n : Nat) (L : Int → Int) (B : Int → Int → Int) (lh : Int) (fh : Int → Int) : ∃ k : Int, RK n k L B lh fh := by
  have key : ∀ m : Nat, m ≤ n → (∀ j : Int, 0 ≤ j → j < m → klt (L j) (B j) lh fh) ∨ ∃ k : Int, RK n k L B lh fh := by
    intro m
    induction m with
    | zero => exact fun _ => Or.inl fun j j0 j1 => by omega
    | succ m ih =>
      intro hm
      rcases ih (by omega) with h | h
      · by_cases e : klt (L m) (B m) lh fh
        · refine Or.inl fun j j0 j1 => ?_
          rcases (show j < m ∨ j = m by omega) with q | q
          · exact h j j0 q
          · rw [q]; exact e
        · exact Or.inr ⟨m, by omega, by omega, h, fun _ => e⟩
      · exact Or.inr h
  rcases key n (Nat.le_refl n) with h | h
  · exact ⟨n, by omega, by omega, h, fun q => by omega⟩
  · exact h
theorem PL_ex {n : Int} {L : Int → Int} {B : Int → Int → Int} {lh : Int} {fh : Int → Int} (hn : 0 ≤ n) (hs : srt n L B) (hl : ∀ i : Int, 0 ≤ i → i < n → 1 ≤ L i ∧ L i ≤ 24) (h0 : 0 ≤ lh) (hx : ¬ TH n L B lh fh) : ∃ t : Int, PL n t L B lh fh := by
  obtain ⟨k, hk⟩ := RK_ex n.toNat L B lh fh
  rw [show ((n.toNat : Nat) : Int) = n by omega] at hk
  exact ⟨k, PL_of hs hl h0 hk hx⟩
theorem PL_rank {n t k : Int} {L : Int → Int} {B : Int → Int → Int} {lh : Int} {fh : Int → Int} (hp : PL n t L B lh fh) (hk : RK n k L B lh fh) : k = t := by
  obtain ⟨h1, h2, h3, h4⟩ := hp
  obtain ⟨g1, g2, g3, g4⟩ := hk
  rcases (show k < t ∨ k = t ∨ t < k by omega) with q | q | q
  · exact absurd (h3 k g1 q) (g4 (by omega))
  · exact q
  · exact absurd (h4 t (Int.le_refl t) (by omega)) (fun z => klt_asymm z (g3 t h1 q))
/-- going down: at depth r; M the marks at first, M1 now -/
def GDI (n w t r : Int) (L : Int → Int) (B : Int → Int → Int) (M M1 : Int → Int) (nb lh : Int) (fh : Int → Int) : Prop :=
  (0 ≤ r ∧ r * w < lh) ∧ (∀ d : Int, 0 < d → d ≤ r → ∃ j : Int, 0 ≤ j ∧ j < n ∧ ksh (d * w) (L j) (B j) lh fh) ∧
  (∀ i d : Int, 0 ≤ i → i < n → 0 ≤ d → bit (M i) d → bit (M1 i) d ∨ (t ≤ i ∧ d < r ∧ ksh ((d + 1) * w) (L i) (B i) lh fh)) ∧
  (∀ i d : Int, 0 ≤ i → i < t → 0 < d → d ≤ r → ksh (d * w) (L i) (B i) lh fh → (∀ j : Int, 0 ≤ j → j < n → ksh (d * w) (L j) (B j) lh fh → j = i) → bit (M1 i) d) ∧
  (∀ d : Int, 0 ≤ d → d < r → (∀ j : Int, 0 ≤ j → j < t → ¬ ksh (d * w) (L j) (B j) lh fh) → bit nb d) ∧
  (0 < r → ∀ i : Int, 0 ≤ i → i < n → ksh (r * w) (L i) (B i) lh fh → (∀ j : Int, 0 ≤ j → j < n → ksh (r * w) (L j) (B j) lh fh → j = i) → bit (M1 i) r)
theorem GDI_0 {n w t : Int} {L : Int → Int} {B : Int → Int → Int} {M : Int → Int} {nb lh : Int} {fh : Int → Int} (h : 0 < lh) : GDI n w t 0 L B M M nb lh fh :=
  ⟨⟨by omega, by rw [Int.zero_mul]; exact h⟩, fun d d0 d1 => by omega, fun i d i0 i1 d0 hb => Or.inl hb, fun i d i0 i1 d0 d1 => by omega, fun d d0 d1 => by omega, fun q => by omega⟩
/-- behind the mark of a key that was alone -/
def GDA (n w t r : Int) (L : Int → Int) (B : Int → Int → Int) (M M1 : Int → Int) (nb lh : Int) (fh : Int → Int) : Prop :=
  GDI n w t r L B M M1 nb lh fh ∧ (∀ i : Int, 0 ≤ i → i < n → ksh ((r + 1) * w) (L i) (B i) lh fh → (∀ j : Int, 0 ≤ j → j < n → ksh ((r + 1) * w) (L j) (B j) lh fh → j = i) → bit (M1 i) (r + 1))
theorem GDI_more {n w t r : Int} {L : Int → Int} {B : Int → Int → Int} {M M1 M2 : Int → Int} {nb lh : Int} {fh : Int → Int} (h : GDI n w t r L B M M1 nb lh fh) (hm : ∀ i d : Int, 0 ≤ i → i < n → 0 ≤ d → d < 32 → bit (M1 i) d → bit (M2 i) d) (ht : t ≤ n) : GDI n w t r L B M M2 nb lh fh := by
  obtain ⟨h1, h2, h4, h5, h6, h7⟩ := h
  refine ⟨h1, h2, fun i d i0 i1 d0 hb => ?_, fun i d i0 i1 d0 d1 s1 s2 => ?_, h6, fun q i i0 i1 s1 s2 => ?_⟩
  · rcases h4 i d i0 i1 d0 hb with z | z
    · exact Or.inl (hm i d i0 i1 d0 (bit_lt hb d0) z)
    · exact Or.inr z
  · have z := h5 i d i0 i1 d0 d1 s1 s2
    exact hm i d i0 (by omega) (by omega) (bit_lt z (by omega)) z
  · have z := h7 q i i0 i1 s1 s2
    exact hm i r i0 i1 h1.1 (bit_lt z h1.1) z
/-- the range of what isn't there -/
theorem RG_new {n m lo hi : Int} {L : Int → Int} {B : Int → Int → Int} {lh : Int} {fh : Int → Int} (hs : srt n L B) (h : RG n m lo hi L B lh fh) (hne : lo < n → lo < hi) (hm : m < lh) {j : Int} (j0 : 0 ≤ j) (j1 : j < n) : ksh m (L j) (B j) lh fh ↔ lo ≤ j ∧ j < hi := by
  rw [← RG_iff hs h hne j0 j1]
  exact ⟨fun z => ⟨z.1, by have := z.2.1; omega, z.2.2⟩, fun z => ⟨z.1, hm, z.2.2⟩⟩
theorem GDA_1 {n w t r lo hi : Int} {L : Int → Int} {B : Int → Int → Int} {M M1 M2 : Int → Int} {nb lh : Int} {fh : Int → Int} (h : GDI n w t r L B M M1 nb lh fh) (hs : srt n L B) (ht : t ≤ n) (hr : RG n ((r + 1) * w) lo hi L B lh fh) (hne : lo < n → lo < hi) (hm : (r + 1) * w < lh) (h1 : hi - lo = 1) (r31 : r + 1 < 32) (hM : ∀ i : Int, 0 ≤ i → i < n → i ≠ lo → M2 i = M1 i) (hb : ∀ k : Int, 0 ≤ k → k < 32 → (bit (M2 lo) k ↔ bit (M1 lo) k ∨ k = r + 1)) : GDA n w t r L B M M2 nb lh fh := by
  have r0 := h.1.1
  refine ⟨GDI_more h (fun i d i0 i1 d0 d1 hb1 => ?_) ht, fun i i0 i1 s1 s2 => ?_⟩
  · rcases (show i = lo ∨ i ≠ lo by omega) with e | e
    · rw [e] at hb1 ⊢
      exact (hb d d0 d1).mpr (Or.inl hb1)
    · rw [hM i i0 i1 e]; exact hb1
  · have z := (RG_new hs hr hne hm i0 i1).mp s1
    have e : i = lo := by omega
    rw [e]
    exact (hb (r + 1) (by omega) r31).mpr (Or.inr rfl)
theorem GDA_2 {n w t r lo hi : Int} {L : Int → Int} {B : Int → Int → Int} {M M1 : Int → Int} {nb lh : Int} {fh : Int → Int} (h : GDI n w t r L B M M1 nb lh fh) (hs : srt n L B) (hr : RG n ((r + 1) * w) lo hi L B lh fh) (hne : lo < n → lo < hi) (hm : (r + 1) * w < lh) (h1 : ¬ hi - lo = 1) : GDA n w t r L B M M1 nb lh fh := by
  refine ⟨h, fun i i0 i1 s1 s2 => ?_⟩
  exfalso
  have z := (RG_new hs hr hne hm i0 i1).mp s1
  have hn := hr.2.2.1
  have hl := hr.1
  rcases (show i = lo ∨ i ≠ lo by omega) with e | e
  · have := s2 (lo + 1) (by omega) (by omega) ((RG_new hs hr hne hm (by omega) (by omega)).mpr ⟨by omega, by omega⟩)
    omega
  · have := s2 lo hl (by omega) ((RG_new hs hr hne hm hl (by omega)).mpr ⟨by omega, by omega⟩)
    omega
/-- the lowest that goes on so far stands ahead of the new one: nothing moves -/
theorem GDB_2 {n w t r lo hi : Int} {L : Int → Int} {B : Int → Int → Int} {M M1 : Int → Int} {nb lh : Int} {fh : Int → Int} (h : GDA n w t r L B M M1 nb lh fh) (hs : srt n L B) (hw : 0 ≤ w) (hp : PL n t L B lh fh) (hr : RG n ((r + 1) * w) lo hi L B lh fh) (hne : lo < n → lo < hi) (hm : (r + 1) * w < lh) (hlh : lo < hi) (hc : klt (L lo) (B lo) lh fh) : GDI n w t (r + 1) L B M M1 nb lh fh := by
  obtain ⟨⟨h1, h2, h4, h5, h6, h7⟩, h8⟩ := h
  have hn := hr.2.2.1
  have hl := hr.1
  have slo : ksh ((r + 1) * w) (L lo) (B lo) lh fh := (RG_new hs hr hne hm hl (by omega)).mpr ⟨by omega, hlh⟩
  have hlt : lo < t := by
    rcases (show lo < t ∨ t ≤ lo by omega) with z | z
    · exact z
    · exact absurd hc (fun q => klt_asymm q (hp.2.2.2 lo z (by omega)))
  refine ⟨⟨by omega, hm⟩, fun d d0 d1 => ?_, fun i d i0 i1 d0 hb => ?_, fun i d i0 i1 d0 d1 s1 s2 => ?_, fun d d0 d1 hno => ?_, fun _ i i0 i1 s1 s2 => h8 i i0 i1 s1 s2⟩
  · rcases (show d ≤ r ∨ d = r + 1 by omega) with q | q
    · exact h2 d d0 q
    · rw [q]; exact ⟨lo, hl, by omega, slo⟩
  · rcases h4 i d i0 i1 d0 hb with z | ⟨z1, z2, z3⟩
    · exact Or.inl z
    · exact Or.inr ⟨z1, by omega, z3⟩
  · rcases (show d ≤ r ∨ d = r + 1 by omega) with q | q
    · exact h5 i d i0 i1 d0 q s1 s2
    · subst q; exact h8 i i0 (by have := hp.2.1; omega) s1 s2
  · rcases (show d < r ∨ d = r by omega) with q | q
    · exact h6 d d0 q hno
    · subst q
      exact absurd (ksh_le slo (mul_mono (by omega) hw)) (hno lo hl hlt)
/-- it stands behind the new one: its mark goes over -/
theorem GDB_1 {n w t r lo hi nb2 : Int} {L : Int → Int} {B : Int → Int → Int} {M M1 M2 : Int → Int} {nb lh : Int} {fh : Int → Int} (h : GDA n w t r L B M M1 nb lh fh) (hs : srt n L B) (hw : 0 < w) (hL : ∀ i : Int, 0 ≤ i → i < n → 1 ≤ L i ∧ L i ≤ 24) (hMI : MI n w L B M) (hp : PL n t L B lh fh) (hr : RG n ((r + 1) * w) lo hi L B lh fh) (hne : lo < n → lo < hi) (hm : (r + 1) * w < lh) (hlh : lo < hi) (hc : klt lh fh (L lo) (B lo)) (r31 : r + 1 < 32)
    (hM : ∀ i : Int, 0 ≤ i → i < n → i ≠ lo → M2 i = M1 i) (hb : ∀ k : Int, 0 ≤ k → k < 32 → (bit (M2 lo) k ↔ bit (M1 lo) k ∧ ¬ k = r)) (hnb : ∀ k : Int, 0 ≤ k → k < 32 → (bit nb2 k ↔ bit nb k ∨ (bit (M1 lo) k ∧ k = r))) : GDI n w t (r + 1) L B M M2 nb2 lh fh := by
  obtain ⟨⟨h1, h2, h4, h5, h6, h7⟩, h8⟩ := h
  have hn := hr.2.2.1
  have hl := hr.1
  have slo : ksh ((r + 1) * w) (L lo) (B lo) lh fh := (RG_new hs hr hne hm hl (by omega)).mpr ⟨by omega, hlh⟩
  have hge : t ≤ lo := by
    rcases (show lo < t ∨ t ≤ lo by omega) with z | z
    · exact absurd hc (fun q => klt_asymm q (hp.2.2.1 lo hl z))
    · exact z
  have htn := hp.2.1
  have ht0 := hp.1
  have stay : ∀ i d : Int, 0 ≤ i → i < n → 0 ≤ d → d < 32 → bit (M1 i) d → (i ≠ lo ∨ d ≠ r) → bit (M2 i) d := fun i d i0 i1 d0 d1 z q => by
    rcases (show i = lo ∨ i ≠ lo by omega) with e | e
    · rw [e] at z ⊢
      exact (hb d d0 d1).mpr ⟨z, by omega⟩
    · rw [hM i i0 i1 e]; exact z
  refine ⟨⟨by omega, hm⟩, fun d d0 d1 => ?_, fun i d i0 i1 d0 hbb => ?_, fun i d i0 i1 d0 d1 s1 s2 => ?_, fun d d0 d1 hno => ?_, fun _ i i0 i1 s1 s2 => ?_⟩
  · rcases (show d ≤ r ∨ d = r + 1 by omega) with q | q
    · exact h2 d d0 q
    · rw [q]; exact ⟨lo, hl, by omega, slo⟩
  · rcases h4 i d i0 i1 d0 hbb with z | ⟨z1, z2, z3⟩
    · rcases (show (i = lo ∧ d = r) ∨ (i ≠ lo ∨ d ≠ r) by omega) with ⟨q1, q2⟩ | q
      · subst q1; subst q2
        exact Or.inr ⟨hge, by omega, slo⟩
      · exact Or.inl (stay i d i0 i1 d0 (bit_lt hbb d0) z q)
    · exact Or.inr ⟨z1, by omega, z3⟩
  · rcases (show d ≤ r ∨ d = r + 1 by omega) with q | q
    · have z := h5 i d i0 i1 d0 q s1 s2
      exact stay i d i0 (by omega) (by omega) (bit_lt z (by omega)) z (Or.inl (by omega))
    · subst q
      have z := h8 i i0 (by omega) s1 s2
      exact stay i (r + 1) i0 (by omega) (by omega) r31 z (Or.inl (by omega))
  · rcases (show d < r ∨ d = r by omega) with q | q
    · exact (hnb d d0 (by omega)).mpr (Or.inl (h6 d d0 q hno))
    · subst q
      refine (hnb d d0 (by omega)).mpr (Or.inr ⟨?_, rfl⟩)
      have slow : ksh (d * w) (L lo) (B lo) lh fh := ksh_le slo (mul_mono (by omega) (by omega))
      have elo : lo = t := by
        rcases (show t = lo ∨ t < lo by omega) with e | e
        · exact e.symm
        · have st : ksh ((d + 1) * w) (L t) (B t) lh fh := ksh_symm (ksh_mid (hp.2.2.2 t (Int.le_refl t) (by omega)) (hs t lo ht0 e (by omega)) (ksh_symm slo))
          have := ((RG_new hs hr hne hm ht0 (by omega)).mp st).1
          omega
      have old : LC n w L B lo d → bit (M1 lo) d := fun hLC => by
        rcases h4 lo d hl (by omega) d0 (hMI lo d hl (by omega) d0 hLC) with z | ⟨-, z, -⟩
        · exact z
        · omega
      rcases (show d = 0 ∨ 0 < d by omega) with e | e
      · subst e
        refine old (Or.inl ⟨rfl, ?_⟩)
        rcases (show lo = 0 ∨ 0 < lo by omega) with z | z
        · exact z
        · refine absurd ?_ (hno 0 (by omega) (by omega))
          rw [Int.zero_mul]
          have := (hL 0 (by omega) (by omega)).1
          have h3 := h1.2
          rw [Int.zero_mul] at h3
          exact ⟨by omega, h3, fun j j0 j1 => by omega⟩
      · by_cases hx : ∀ j : Int, 0 ≤ j → j < n → ksh (d * w) (L j) (B j) lh fh → j = lo
        · exact h7 e lo hl (by omega) slow hx
        · have : ∃ j : Int, 0 ≤ j ∧ j < n ∧ ksh (d * w) (L j) (B j) lh fh ∧ j ≠ lo := by
            by_cases q : ∃ j : Int, 0 ≤ j ∧ j < n ∧ ksh (d * w) (L j) (B j) lh fh ∧ j ≠ lo
            · exact q
            · exact absurd (fun j j0 j1 sj => by
                rcases (show j = lo ∨ j ≠ lo by omega) with z | z
                · exact z
                · exact absurd ⟨j, j0, j1, sj, z⟩ q) hx
          obtain ⟨j, j0, j1, sj, jne⟩ := this
          have hj : lo < j := by
            rcases (show j < t ∨ t ≤ j by omega) with z | z
            · exact absurd sj (hno j j0 z)
            · omega
          have sjl : shr L B lo j (d * w) := ksh_trans slow (ksh_symm sj)
          refine old (Or.inr ⟨e, by omega, (shr_mid hs hl (by omega) (by omega) j1 sjl).1, ?_⟩)
          rcases (show lo = 0 ∨ 0 < lo by omega) with z | z
          · exact Or.inl z
          · exact Or.inr fun q => hno (lo - 1) (by omega) (by omega) (ksh_trans q slow)
  · have z := h8 i i0 i1 s1 s2
    exact stay i (r + 1) i0 i1 (by omega) r31 z (Or.inr (by omega))
/-- rows of two files that are alike -/
theorem RG_FC {F F' : Nat → Int} {n m lo hi lh : Int} {fh : Int → Int} (hc : FC F F') (hl : lh ≤ 24) (hn : n ≤ 150) (h : RG n m lo hi (fun i => kO F' i 0) (fun i => kB F' i) lh fh) : RG n m lo hi (fun i => kO F i 0) (fun i => kB F i) lh fh := by
  have ek : ∀ j : Int, 0 ≤ j → j < 150 → (kgo m (kO F' j 0) (kB F' j) lh fh ↔ kgo m (kO F j 0) (kB F j) lh fh) := fun j j0 j1 => by
    rw [hc.1 j 0 j0 j1 (by omega) (by omega) (by omega)]
    constructor
    · rintro ⟨a, b, c⟩
      exact ⟨a, b, fun q q0 q1 => by rw [← c q q0 q1]; exact (hc.1 j (3 + q) j0 j1 (by omega) (by omega) (by omega)).symm⟩
    · rintro ⟨a, b, c⟩
      exact ⟨a, b, fun q q0 q1 => by rw [← c q q0 q1]; exact hc.1 j (3 + q) j0 j1 (by omega) (by omega) (by omega)⟩
  obtain ⟨h1, h2, h3, h4, h5, h6⟩ := h
  exact ⟨h1, h2, h3, fun j j0 j1 z => h4 j j0 j1 ((ek j j0 (by omega)).mpr z), fun j j0 j1 => (ek j (by omega) (by omega)).mp (h5 j j0 j1), fun q z => h6 q ((ek hi (by omega) (by omega)).mpr z)⟩
theorem cmp_FC {F F' : Nat → Int} {r j lh : Int} {fh : Int → Int} (hc : FC F F') (j0 : 0 ≤ j) (j1 : j < 150) (hl : kO F j 0 ≤ 24) (h : cmpP r (kO F' j 0) (kB F' j) lh fh) : cmpP r (kO F j 0) (kB F j) lh fh := by
  rw [hc.1 j 0 j0 j1 (by omega) (by omega) (by omega)] at h
  have e : ∀ q : Int, 0 ≤ q → q < kO F j 0 → kB F' j q = kB F j q := fun q q0 q1 => hc.1 j (3 + q) j0 j1 (by omega) (by omega) (by omega)
  exact ⟨fun z => klt_congr e (fun _ _ _ => rfl) (h.1 z), fun z => klt_congr (fun _ _ _ => rfl) e (h.2.1 z), fun z => ⟨(h.2.2 z).1, fun q q0 q1 => (e q q0 q1).symm.trans ((h.2.2 z).2 q q0 q1)⟩⟩
