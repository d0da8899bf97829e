theorem mul_bd {a b A B : Int} (h0 : 0 ≤ a) (h1 : a ≤ A) (h2 : 0 ≤ b) (h3 : b ≤ B) : 0 ≤ a * b ∧ a * b ≤ A * B := ⟨Int.mul_nonneg h0 h2, Int.mul_le_mul h1 h3 h2 (by omega)⟩
theorem mul_le {a w : Int} (h0 : 0 ≤ a) (h1 : 1 ≤ w) : a ≤ a * w := by
  have := Int.mul_le_mul_of_nonneg_left h1 h0
  omega
theorem mul_s {a w : Int} : (a + 1) * w = a * w + w := by rw [Int.add_mul, Int.one_mul]
theorem mul_mono {a b w : Int} (h : a ≤ b) (h1 : 0 ≤ w) : a * w ≤ b * w := Int.mul_le_mul_of_nonneg_right h h1
theorem kgo_sh {m la lh lx : Int} {fa fh fx : Int → Int} (e : lh = lx) (ag : ∀ j : Int, 0 ≤ j → j < lx → fh j = fx j) (hm : m < lx) : kgo m la fa lh fh ↔ ksh m la fa lx fx := by
  constructor
  · rintro ⟨h1, h2, h3⟩
    exact ⟨h1, hm, fun j j0 j1 => (h3 j j0 j1).trans (ag j j0 (by omega))⟩
  · rintro ⟨h1, h2, h3⟩
    exact ⟨h1, by omega, fun j j0 j1 => (h3 j j0 j1).trans (ag j j0 (by omega)).symm⟩
theorem kgo_two {m la lb lh : Int} {fa fb fh : Int → Int} (h1 : kgo m la fa lh fh) (h2 : kgo m lb fb lh fh) : ksh m la fa lb fb := ⟨h1.1, h2.1, fun j j0 j1 => (h1.2.2 j j0 j1).trans (h2.2.2 j j0 j1).symm⟩
theorem kgo_sh2 {m la lb lh : Int} {fa fb fh : Int → Int} (h1 : kgo m la fa lh fh) (h2 : ksh m lb fb la fa) : kgo m lb fb lh fh := ⟨h2.1, h1.2.1, fun j j0 j1 => (h2.2.2 j j0 j1).trans (h1.2.2 j j0 j1)⟩
theorem RG_iff {n m lo hi : Int} {L : Int → Int} {B : Int → Int → Int} {lh : Int} {fh : Int → Int} (hs : srt n L B) (h : RG n m lo hi L B lh fh) (hne : lo < n → lo < hi) {j : Int} (j0 : 0 ≤ j) (j1 : j < n) : kgo m (L j) (B j) lh fh ↔ lo ≤ j ∧ j < hi := by
  obtain ⟨h1, h2, h3, h4, h5, h6⟩ := h
  refine ⟨fun q => ⟨?_, ?_⟩, fun q => h5 j q.1 q.2⟩
  · rcases (show j < lo ∨ lo ≤ j by omega) with z | z
    · exact absurd q (h4 j j0 z)
    · exact z
  · rcases (show j < hi ∨ hi ≤ j by omega) with z | z
    · exact z
    · have hl := hne (by omega)
      have k1 := h5 lo (by omega) hl
      have s1 := (shr_mid hs h1 (by omega) z j1 (kgo_two k1 q)).1
      exact absurd (kgo_sh2 k1 (ksh_symm s1)) (h6 (by omega))
/-- key x lies in a layer at depth r, and in those above, with others -/
def DQ (n w x r : Int) (L : Int → Int) (B : Int → Int → Int) : Prop := r * w < L x ∧ ∀ d : Int, 0 < d → d ≤ r → ∃ j : Int, 0 ≤ j ∧ j < n ∧ j ≠ x ∧ shr L B j x (d * w)
theorem DQ_0 {n w x : Int} {L : Int → Int} {B : Int → Int → Int} (h : 0 < L x) : DQ n w x 0 L B := ⟨by rw [Int.zero_mul]; exact h, fun d d0 d1 => by omega⟩
/-- the range of key x itself -/
theorem RG_own {n m lo hi x : Int} {L : Int → Int} {B : Int → Int → Int} {lh : Int} {fh : Int → Int} (hs : srt n L B) (h : RG n m lo hi L B lh fh) (hne : lo < n → lo < hi) (x0 : 0 ≤ x) (x1 : x < n) (e : lh = L x) (ag : ∀ j : Int, 0 ≤ j → j < L x → fh j = B x j) (hm : m < L x) : (lo ≤ x ∧ x < hi) ∧ ∀ j : Int, 0 ≤ j → j < n → (shr L B j x m ↔ lo ≤ j ∧ j < hi) := by
  refine ⟨(RG_iff hs h hne x0 x1).mp ⟨hm, by omega, fun j j0 j1 => (ag j j0 (by omega)).symm⟩, fun j j0 j1 => ?_⟩
  rw [← RG_iff hs h hne j0 j1]
  exact (kgo_sh e ag hm).symm
theorem DQ_s {n w x r lo hi : Int} {L : Int → Int} {B : Int → Int → Int} {lh : Int} {fh : Int → Int} (hq : DQ n w x r L B) (hs : srt n L B) (h : RG n ((r + 1) * w) lo hi L B lh fh) (hne : lo < n → lo < hi) (x0 : 0 ≤ x) (x1 : x < n) (e : lh = L x) (ag : ∀ j : Int, 0 ≤ j → j < L x → fh j = B x j) (hm : (r + 1) * w < L x) (h1 : ¬ hi - lo = 1) : DQ n w x (r + 1) L B := by
  refine ⟨hm, fun d d0 d1 => ?_⟩
  rcases (show d ≤ r ∨ d = r + 1 by omega) with q | q
  · exact hq.2 d d0 q
  · subst q
    obtain ⟨⟨a, b⟩, hh⟩ := RG_own hs h hne x0 x1 e ag hm
    have hn := h.2.2.1
    have hl := h.1
    rcases (show x = lo ∨ x ≠ lo by omega) with z | z
    · exact ⟨lo + 1, by omega, by omega, by omega, (hh (lo + 1) (by omega) (by omega)).mpr ⟨by omega, by omega⟩⟩
    · exact ⟨lo, hl, by omega, by omega, (hh lo hl (by omega)).mpr ⟨by omega, by omega⟩⟩
theorem ENI_congr {lo t beh ne : Int} {ea ea' : Int → Int} {L : Int → Int} {B : Int → Int → Int} (h : ENI lo t beh ne ea L B) (he : ∀ k : Int, 0 ≤ k → k < ne → ea' k = ea k) : ENI lo t beh ne ea' L B := by
  obtain ⟨h1, h2, h3, h4, h5, h6, h7, h8⟩ := h
  refine ⟨h1, h2, h3, fun q => by rw [he 0 (by omega) q]; exact h4 q, fun k k0 k1 => by rw [he k k0 k1]; exact h5 k k0 k1, fun k k0 k1 => by rw [he k k0 (by omega), he (k + 1) (by omega) k1]; exact h6 k k0 k1, fun i i0 i1 hi => ?_, fun k k0 k1 => by rw [he k (by omega) k1]; exact h8 k k0 k1⟩
  obtain ⟨k, k0, k1, e⟩ := h7 i i0 i1 hi
  exact ⟨k, k0, k1, by rw [he k k0 k1]; exact e⟩
