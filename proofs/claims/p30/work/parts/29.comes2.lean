theorem PL_side {n t j lh : Int} {L : Int → Int} {B : Int → Int → Int} {fh : Int → Int} (hp : PL n t L B lh fh) (j1 : j < n) (h : klt (L j) (B j) lh fh) : j < t := by
  rcases (show j < t ∨ t ≤ j by omega) with q | q
  · exact q
  · exact absurd (hp.2.2.2 j q j1) (fun z => klt_asymm z h)
theorem PL_side' {n t j lh : Int} {L : Int → Int} {B : Int → Int → Int} {fh : Int → Int} (hp : PL n t L B lh fh) (j0 : 0 ≤ j) (h : klt lh fh (L j) (B j)) : t ≤ j := by
  rcases (show j < t ∨ t ≤ j by omega) with q | q
  · exact absurd (hp.2.2.1 j j0 q) (fun z => klt_asymm z h)
  · exact q
theorem GD_e0 {n w t D nb nb2 lh : Int} {L : Int → Int} {B : Int → Int → Int} {M M1 : Int → Int} {fh : Int → Int} (h : GDI n w t D L B M M1 nb lh fh) (hs : srt n L B) (hw : 0 < w) (hp : PL n t L B lh fh) (hM : MI n w L B M) (hdeep : ∀ j : Int, 0 ≤ j → j < n → ¬ ksh ((D + 1) * w) (L j) (B j) lh fh) (D32 : D < 32) (hnb : ∀ k : Int, 0 ≤ k → k < 32 → (bit nb2 k ↔ bit nb k ∨ k = D)) : MI (n + 1) w (insI t L lh) (insB t B fh) (insI t M1 nb2) :=
  GD_end h hs hw hp hM hdeep (fun i d _ _ _ _ b => Or.inl b) (fun d d0 d1 b => (hnb d d0 d1).mpr (Or.inl b)) (Or.inl ((hnb D h.1.1 D32).mpr (Or.inr rfl))) D32
theorem GD_e1 {n w t D nb lo lh : Int} {L : Int → Int} {B : Int → Int → Int} {M M1 : Int → Int} {fh : Int → Int} (h : GDI n w t D L B M M1 nb lh fh) (hs : srt n L B) (hw : 0 < w) (hp : PL n t L B lh fh) (hM : MI n w L B M) (hdeep : ∀ j : Int, 0 ≤ j → j < n → ¬ ksh ((D + 1) * w) (L j) (B j) lh fh) (D32 : D < 32) (l0 : 0 ≤ lo) (l1 : lo < n) (sh : ksh (D * w) (L lo) (B lo) lh fh) (hc : klt (L lo) (B lo) lh fh) : MI (n + 1) w (insI t L lh) (insB t B fh) (insI t M1 nb) :=
  GD_end h hs hw hp hM hdeep (fun i d _ _ _ _ b => Or.inl b) (fun d _ _ b => b) (Or.inr ⟨lo, l0, PL_side hp l1 hc, sh⟩) D32
theorem GD_e2 {n w t D nb nb2 lo lh : Int} {L : Int → Int} {B : Int → Int → Int} {M M1 M2 : Int → Int} {fh : Int → Int} (h : GDI n w t D L B M M1 nb lh fh) (hs : srt n L B) (hw : 0 < w) (hp : PL n t L B lh fh) (hM : MI n w L B M) (hdeep : ∀ j : Int, 0 ≤ j → j < n → ¬ ksh ((D + 1) * w) (L j) (B j) lh fh) (D32 : D < 32) (l0 : 0 ≤ lo) (l1 : lo < n) (sh : ksh (D * w) (L lo) (B lo) lh fh) (hc : klt lh fh (L lo) (B lo)) (hnb : ∀ k : Int, 0 ≤ k → k < 32 → (bit nb2 k ↔ bit nb k ∨ k = D)) (hM2 : ∀ i : Int, 0 ≤ i → i < n → i ≠ lo → M2 i = M1 i) (hM3 : ∀ k : Int, 0 ≤ k → k < 32 → (bit (M2 lo) k ↔ bit (M1 lo) k ∧ ¬ k = D)) : MI (n + 1) w (insI t L lh) (insB t B fh) (insI t M2 nb2) :=
  GD_end h hs hw hp hM hdeep (fun i d i0 i1 d0 d1 b => by
    rcases (show i = lo ∨ i ≠ lo by omega) with q | q
    · subst q
      rcases (show d = D ∨ ¬ d = D by omega) with z | z
      · exact Or.inr ⟨PL_side' hp l0 hc, z, sh⟩
      · exact Or.inl ((hM3 d d0 d1).mpr ⟨b, z⟩)
    · rw [hM2 i i0 i1 q]; exact Or.inl b) (fun d d0 d1 b => (hnb d d0 d1).mpr (Or.inl b)) (Or.inl ((hnb D h.1.1 D32).mpr (Or.inr rfl))) D32
theorem com_ex {n t m lh : Int} {L L3 : Int → Int} {B B3 : Int → Int → Int} {fh : Int → Int} (hs : same (n + 1) (insI t L lh) L3 (insB t B fh) B3) (t0 : 0 ≤ t) (tn : t ≤ n) (h : ∃ j : Int, 0 ≤ j ∧ j < n ∧ ksh m (L j) (B j) lh fh) : ∃ j : Int, 0 ≤ j ∧ j < n + 1 ∧ j ≠ t ∧ shr L3 B3 j t m := by
  obtain ⟨j, j0, j1, s⟩ := h
  rcases (show j < t ∨ t ≤ j by omega) with q | q
  · refine ⟨j, j0, by omega, by omega, shr_same hs j0 (by omega) t0 (by omega) ?_⟩
    show ksh m (insI t L lh j) (insB t B fh j) (insI t L lh t) (insB t B fh t)
    rw [insI_lt q, insB_lt q, insI_eq, insB_eq]; exact s
  · refine ⟨j + 1, by omega, by omega, by omega, shr_same hs (by omega) (by omega) t0 (by omega) ?_⟩
    show ksh m (insI t L lh (j + 1)) (insB t B fh (j + 1)) (insI t L lh t) (insB t B fh t)
    rw [insI_gt (by omega), insB_gt (by omega), insI_eq, insB_eq, show j + 1 - 1 = j by omega]; exact s
/-- a mark laid takes none away -/
theorem com_on {F F' : Nat → Int} {X D mv : Int} {c : Prop} [Decidable c] (hr : ∀ i w : Int, 0 ≤ i → 0 ≤ w → w < 27 → ¬ (i = X ∧ w = 2) → kO F' i w = kO F i w) (ha : kO F' X 2 = mv) (hv : ∀ k : Int, 0 ≤ k → k < 32 → (bit mv k ↔ if c then (bit (kO F X 2) k ∧ ¬ k = D) else (bit (kO F X 2) k ∨ k = D))) (hc : ¬ c) : ∀ i d : Int, 0 ≤ i → 0 ≤ d → d < 32 → bit (kO F i 2) d → bit (kO F' i 2) d := fun i d i0 d0 d1 b => by
  rcases (show i = X ∨ i ≠ X by omega) with q | q
  · subst q
    rw [ha, hv d d0 d1, if_neg hc]; exact Or.inl b
  · rw [hr i 2 i0 (by omega) (by omega) (fun z => q z.1)]; exact b
