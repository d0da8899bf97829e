theorem LC_next {n w x d : Int} {L : Int → Int} {B : Int → Int → Int} (hL : ∀ i : Int, 0 ≤ i → i < n → 1 ≤ L i ∧ L i ≤ 24) (x0 : 0 ≤ x) (xn : x + 1 < n) (h : LC n w L B x d) : shr L B (x + 1) x (d * w) := by
  rcases h with ⟨q, -⟩ | ⟨-, -, s, -⟩
  · subst q
    rw [Int.zero_mul]
    exact ⟨by have := (hL (x + 1) (by omega) xn).1; omega, by have := (hL x x0 (by omega)).1; omega, fun j j0 j1 => by omega⟩
  · exact ksh_symm s
theorem LV_lo {n w lo hi beh ne x e D : Int} {ea : Int → Int} {L : Int → Int} {B : Int → Int → Int} (hen : ENI lo hi beh ne ea L B) (he : ea ne = hi) (hh : ∀ j : Int, 0 ≤ j → j < n → (shr L B j x (D * w) ↔ lo ≤ j ∧ j < hi)) (x0 : lo ≤ x) (x1 : x < hi) (hn : hi ≤ n) (l0 : 0 ≤ lo) (hx : ea e = x) (e0 : 0 ≤ e) (e1 : e < ne) (z : LC n w L B x D) : e = 0 := by
  have h1 := LC_lo hh x0 x1 hn l0 x0 x1 z
  have h4 := hen.2.2.2.1 (by omega)
  rcases (show e = 0 ∨ 0 < e by omega) with q | q
  · exact q
  · have := ENI_lt hen he (a := 0) (b := e) (by omega) q (by omega); omega
theorem LV_end {n w lo hi beh ne x e D : Int} {ea M : Int → Int} {L : Int → Int} {B : Int → Int → Int} (he : ea ne = hi) (hL : ∀ i : Int, 0 ≤ i → i < n → 1 ≤ L i ∧ L i ≤ 24) (hh : ∀ j : Int, 0 ≤ j → j < n → (shr L B j x (D * w) ↔ lo ≤ j ∧ j < hi)) (x0 : 0 ≤ x) (hx : ea (e + 1) = x + 1) (e1 : e < ne) (hb : e + 1 < ne → bit (M (ea (e + 1))) D) (z : LC n w L B x D) (xn : x + 1 < n) : bit (M (x + 1)) D := by
  have h1 := (hh (x + 1) (by omega) xn).mp (LC_next hL x0 xn z)
  rcases (show e + 1 = ne ∨ e + 1 < ne by omega) with q | q
  · rw [q, he] at hx; omega
  · have := hb q; rw [hx] at this; exact this
/-- a mark cleared takes only its own away -/
theorem com_off {F F' : Nat → Int} {X D mv : Int} {c : Prop} [Decidable c] (hr : ∀ i w : Int, 0 ≤ i → 0 ≤ w → w < 27 → ¬ (i = X ∧ w = 2) → kO F' i w = kO F i w) (ha : kO F' X 2 = mv) (hv : ∀ k : Int, 0 ≤ k → k < 32 → (bit mv k ↔ if c then (bit (kO F X 2) k ∧ ¬ k = D) else (bit (kO F X 2) k ∨ k = D))) (hc : c) : ∀ i d : Int, 0 ≤ i → 0 ≤ d → d < 32 → bit (kO F i 2) d → bit (kO F' i 2) d ∨ (d = D ∧ i = X) := fun i d i0 d0 d1 b => by
  rcases (show i = X ∨ i ≠ X by omega) with q | q
  · subst q
    rcases (show d = D ∨ ¬ d = D by omega) with z | z
    · exact Or.inr ⟨z, rfl⟩
    · left; rw [ha, hv d d0 d1, if_pos hc]; exact ⟨b, z⟩
  · left; rw [hr i 2 i0 (by omega) (by omega) (fun z => q z.1)]; exact b
theorem com_at {F F' : Nat → Int} {X D mv : Int} {c : Prop} [Decidable c] (ha : kO F' X 2 = mv) (hv : ∀ k : Int, 0 ≤ k → k < 32 → (bit mv k ↔ if c then (bit (kO F X 2) k ∧ ¬ k = D) else (bit (kO F X 2) k ∨ k = D))) (hc : ¬ c) (D0 : 0 ≤ D) (D1 : D < 32) : bit (kO F' X 2) D := by
  rw [ha, hv D D0 D1, if_neg hc]; exact Or.inr rfl
theorem LV_p {F F1 F2 F' : Nat → Int} {n w D X : Int} {L : Int → Int} {B : Int → Int → Int} (h1 : ∀ p d : Int, 0 ≤ p → 0 ≤ d → d < 32 → bit (kO F p 2) d → bit (kO F1 p 2) d) (ho : ∀ p d : Int, 0 ≤ p → 0 ≤ d → d < 32 → bit (kO F1 p 2) d → bit (kO F2 p 2) d ∨ (d = D ∧ p = X)) (hcn : ∀ i w : Int, 0 ≤ i → 0 ≤ w → kO F' i w = kO F2 i w) (hX : ¬ LC n w L B X D) : ∀ p d : Int, 0 ≤ p → p < n → 0 ≤ d → d < 32 → bit (kO F p 2) d → bit (kO F' p 2) d ∨ (d = D ∧ ¬ LC n w L B p D) := fun p d p0 _ d0 d1 b => by
  rw [hcn p 2 p0 (by omega)]
  rcases ho p d p0 d0 d1 (h1 p d p0 d0 d1 b) with q | ⟨q, z⟩
  · exact Or.inl q
  · exact Or.inr ⟨q, by rw [z]; exact hX⟩
theorem LV_q {F1 F2 F' : Nat → Int} {n x D X : Int} {c : Prop} (h1 : c → x + 1 < n → bit (kO F1 (x + 1) 2) D) (ho : ∀ p d : Int, 0 ≤ p → 0 ≤ d → d < 32 → bit (kO F1 p 2) d → bit (kO F2 p 2) d ∨ (d = D ∧ p = X)) (hcn : ∀ i w : Int, 0 ≤ i → 0 ≤ w → kO F' i w = kO F2 i w) (hX : c → ¬ X = x + 1) (x0 : 0 ≤ x) (D0 : 0 ≤ D) (D1 : D < 32) : c → x + 1 < n → bit (kO F' (x + 1) 2) D := fun z y => by
  rw [hcn (x + 1) 2 (by omega) (by omega)]
  rcases ho (x + 1) D (by omega) D0 D1 (h1 z y) with q | ⟨-, q⟩
  · exact q
  · exact absurd q.symm (hX z)
theorem LC_dn {n w lo hi x d : Int} {L : Int → Int} {B : Int → Int → Int} (hh : ∀ j : Int, 0 ≤ j → j < n → (shr L B j x ((d + 1) * w) ↔ lo ≤ j ∧ j < hi)) (w0 : 0 ≤ w) (x0 : lo ≤ x) (xn : x < n) (l0 : 0 ≤ lo) (x1 : x < hi) (h : LC n w L B x d) : x = lo := by
  rcases h with ⟨-, q⟩ | ⟨-, -, -, q⟩
  · omega
  · rcases (show x = lo ∨ lo < x by omega) with z | z
    · exact z
    · rcases q with y | y
      · omega
      · exact absurd (ksh_le ((hh (x - 1) (by omega) (by omega)).mpr ⟨by omega, by omega⟩) (mul_mono (by omega) w0)) y
theorem same_FC {F F' : Nat → Int} {n : Int} (hc : FC F F') (hn : n ≤ 150) (hL : ∀ i : Int, 0 ≤ i → i < n → 1 ≤ kO F i 0 ∧ kO F i 0 ≤ 24) : same n (fun i => kO F i 0) (fun i => kO F' i 0) (fun i => kB F i) (fun i => kB F' i) := fun i i0 i1 =>
  ⟨(hc.1 i 0 i0 (by omega) (by omega) (by omega) (by omega)).symm, fun k k0 k1 => (hc.1 i (3 + k) i0 (by omega) (by omega) (by have := (hL i i0 i1).2; have k1 : k < kO F i 0 := k1; omega) (by omega)).symm⟩
theorem LC_same {n w p d : Int} {L L' : Int → Int} {B B' : Int → Int → Int} (hs : same n L L' B B') (p0 : 0 ≤ p) (p1 : p < n) (h : LC n w L B p d) : LC n w L' B' p d := by
  rcases h with q | ⟨d1, n1, s1, s2⟩
  · exact Or.inl q
  · refine Or.inr ⟨d1, n1, shr_same hs p0 p1 (by omega) n1 s1, ?_⟩
    rcases s2 with q | q
    · exact Or.inl q
    · rcases (show p = 0 ∨ p ≠ 0 by omega) with y | y
      · exact Or.inl y
      · exact Or.inr fun s => q (shr_same (same_symm hs) (by omega) (by omega) p0 p1 s)
theorem com_tr {F F1 F2 : Nat → Int} (h1 : ∀ p d : Int, 0 ≤ p → 0 ≤ d → d < 32 → bit (kO F p 2) d → bit (kO F1 p 2) d) (h2 : ∀ p d : Int, 0 ≤ p → 0 ≤ d → d < 32 → bit (kO F1 p 2) d → bit (kO F2 p 2) d) : ∀ p d : Int, 0 ≤ p → 0 ≤ d → d < 32 → bit (kO F p 2) d → bit (kO F2 p 2) d := fun p d a b c z => h2 p d a b c (h1 p d a b c z)
theorem GO_del {F F1 F2 : Nat → Int} {n w x D : Int} (hs : srt n (fun i => kO F i 0) (fun i => kB F i)) (hL : ∀ i : Int, 0 ≤ i → i < n → 1 ≤ kO F i 0 ∧ kO F i 0 ≤ 24) (hn : n ≤ 150) (hc : FC F F1) (hM : MI n w (fun i => kO F i 0) (fun i => kB F i) (fun i => kO F i 2)) (x0 : 0 ≤ x) (x1 : x < n) (hw : 0 ≤ w) (D0 : 0 ≤ D) (D1 : D < 32)
    (h3 : ∀ p d : Int, 0 ≤ p → 0 ≤ d → d < 32 → bit (kO F p 2) d → bit (kO F1 p 2) d)
    (h4 : ∀ d : Int, 0 ≤ d → d < D → LC n w (fun i => kO F i 0) (fun i => kB F i) x d → bit (kO F1 (x + 1) 2) d)
    (ha : ∀ p d : Int, 0 ≤ p → p < n → 0 ≤ d → d < 32 → bit (kO F1 p 2) d → bit (kO F2 p 2) d ∨ (d = D ∧ ¬ LC n w (fun i => kO F1 i 0) (fun i => kB F1 i) p D))
    (hb : LC n w (fun i => kO F1 i 0) (fun i => kB F1 i) x D → x + 1 < n → bit (kO F2 (x + 1) 2) D)
    (hal : ∀ j : Int, 0 ≤ j → j < n → shr (fun i => kO F i 0) (fun i => kB F i) j x ((D + 1) * w) → j = x) :
    MI (n - 1) w (delI x (fun i => kO F i 0)) (delB x (fun i => kB F i)) (delI x (fun i => kO F2 i 2)) := by
  have sm := same_FC hc hn hL
  refine MI_del (M := fun i => kO F i 2) hs x0 x1 hM (fun i d i0 i1 ne d0 hLC hbit => ?_) (fun d d0 xn hLC => ?_)
  · left
    have hd := bit_lt hbit d0
    rcases ha i d i0 i1 d0 hd (h3 i d i0 d0 hd hbit) with q | ⟨q, z⟩
    · exact q
    · rw [q] at hLC; exact absurd (LC_same sm i0 i1 hLC) z
  · left
    rcases (show d < D ∨ d = D ∨ D < d by omega) with q | q | q
    · rcases ha (x + 1) d (by omega) xn d0 (by omega) (h4 d d0 q hLC) with y | ⟨y, -⟩
      · exact y
      · omega
    · rw [q] at hLC ⊢; exact hb (LC_same sm x0 x1 hLC) xn
    · have := hal (x + 1) (by omega) xn (ksh_le (LC_next hL x0 xn hLC) (mul_mono (by omega) hw))
      omega
theorem LC_one {n w d lo hi lh : Int} {L : Int → Int} {B : Int → Int → Int} {fh : Int → Int} (hs : srt n L B) (h : RG n (d * w) lo hi L B lh fh) (hne : lo < n → lo < hi) (h1 : hi - lo = 1) (d0 : 0 < d) : ¬ LC n w L B lo d := fun z => by
  have l0 := h.1
  have hn := h.2.2.1
  rcases z with ⟨q, -⟩ | ⟨-, xn, s, -⟩
  · omega
  · have a := (RG_iff hs h hne l0 (by omega)).mpr ⟨by omega, by omega⟩
    have := (RG_iff hs h hne (j := lo + 1) (by omega) xn).mp (kgo_sh2 a (ksh_symm s))
    omega
theorem FM_off {F0 F Fm F' : Nat → Int} {X D : Int} (hk : FK F0) (hc0 : FC F0 F) (h : FM F) (hc : FC F0 F') (ho : ∀ p d : Int, 0 ≤ p → 0 ≤ d → d < 32 → bit (kO F p 2) d → bit (kO Fm p 2) d ∨ (d = D ∧ p = X)) (hcn : ∀ i w : Int, 0 ≤ i → 0 ≤ w → kO F' i w = kO Fm i w) (hX : ¬ LC (F0 0) (F0 1) (fun i => kO F0 i 0) (fun i => kB F0 i) X D) : FM F' := by
  have s0 := same_FC hc0 hk.1.2 hk.2.2.2.1
  have s1 := same_FC hc hk.1.2 hk.2.2.2.1
  have e0 := hc.2 0 (by omega)
  have e1 := hc.2 1 (by omega)
  have g0 := hc0.2 0 (by omega)
  have g1 := hc0.2 1 (by omega)
  intro i d i0 i1 d0 hL
  rw [e0] at i1
  rw [e0, e1] at hL
  have hL0 := LC_same (same_symm s1) i0 i1 hL
  have b := h i d i0 (by rw [g0]; exact i1) d0 (by rw [g0, g1]; exact LC_same s0 i0 i1 hL0)
  show bit (kO F' i 2) d
  rw [hcn i 2 i0 (by omega)]
  rcases ho i d i0 d0 (bit_lt b d0) b with q | ⟨q, z⟩
  · exact q
  · rw [q, z] at hL0; exact absurd hL0 hX
