theorem agree_succ {P : Int → Prop} {k : Int} (h : ∀ j : Int, 0 ≤ j → j < k → P j) (hk : P k) : ∀ j : Int, 0 ≤ j → j < k + 1 → P j := fun j j0 j1 => by
  rcases (show j < k ∨ j = k by omega) with q | q
  · exact h j j0 q
  · rw [q]; exact hk
theorem upto_succ {P : Int → Prop} {lo k b : Int} (h : ∀ j : Int, lo ≤ j → j < k → P j) (hk : P k) (e : b = k + 1) : ∀ j : Int, lo ≤ j → j < b → P j := fun j j0 j1 => by
  rcases (show j < k ∨ j = k by omega) with q | q
  · exact h j j0 q
  · rw [q]; exact hk
theorem row_succ {σ1 σ2 : Nat → Nat → Int} {a : Nat} {k v : Int} {f : Int → Int} (k0 : 0 ≤ k) (e : σ2 = up2 σ1 a k.toNat v) (h : ∀ j : Int, 0 ≤ j → j < k → σ1 a j.toNat = f j) (hv : v = f k) : ∀ j : Int, 0 ≤ j → j < k + 1 → σ2 a j.toNat = f j := fun j j0 j1 => by
  rcases (show j < k ∨ j = k by omega) with q | q
  · rw [e, up2_ne σ1 v (by omega)]; exact h j j0 q
  · rw [q, e, up2_at]; exact hv
/-- what a comparison of a key with another one tells -/
def cmpP (r la : Int) (fa : Int → Int) (lb : Int) (fb : Int → Int) : Prop := (r < 0 → klt la fa lb fb) ∧ (0 < r → klt lb fb la fa) ∧ (r = 0 → keq la fa lb fb)
theorem cmp_end {L hl k r fk hk : Int} {f h : Int → Int} (k0 : 0 ≤ k) (kL : k ≤ L) (kh : k ≤ hl) (ag : ∀ j : Int, 0 ≤ j → j < k → f j = h j) (ef : f k = fk) (eh : h k = hk) (hr : ((k = L ∨ k = hl) ∧ r = L - hl) ∨ (k < L ∧ k < hl ∧ r = fk - hk ∧ r ≠ 0)) : cmpP r L f hl h := by
  rcases hr with ⟨h1, h2⟩ | ⟨h1, h2, h3, h4⟩
  · exact ⟨fun q => ⟨k, k0, ag, Or.inl ⟨by omega, by omega⟩⟩, fun q => ⟨k, k0, fun j j0 j1 => (ag j j0 j1).symm, Or.inl ⟨by omega, by omega⟩⟩, fun q => ⟨by omega, fun j j0 j1 => ag j j0 (by omega)⟩⟩
  · exact ⟨fun q => ⟨k, k0, ag, Or.inr ⟨h1, h2, by omega⟩⟩, fun q => ⟨k, k0, fun j j0 j1 => (ag j j0 j1).symm, Or.inr ⟨h2, h1, by omega⟩⟩, fun q => absurd q h4⟩
theorem cmp_nlt {r la lb : Int} {fa fb : Int → Int} (h : cmpP r la fa lb fb) (h0 : 0 ≤ r) : ¬ klt la fa lb fb := fun q => by
  rcases (show r = 0 ∨ 0 < r by omega) with e | e
  · exact klt_keq q (h.2.2 e)
  · exact klt_asymm q (h.2.1 e)
/-- how many are ahead -/
def RK (n r : Int) (L : Int → Int) (B : Int → Int → Int) (lh : Int) (fh : Int → Int) : Prop := 0 ≤ r ∧ r ≤ n ∧ (∀ j : Int, 0 ≤ j → j < r → klt (L j) (B j) lh fh) ∧ (r < n → ¬ klt (L r) (B r) lh fh)
def TH (n : Int) (L : Int → Int) (B : Int → Int → Int) (lh : Int) (fh : Int → Int) : Prop := ∃ i : Int, 0 ≤ i ∧ i < n ∧ keq (L i) (B i) lh fh
theorem TH_no {n k r : Int} {L : Int → Int} {B : Int → Int → Int} {lh : Int} {fh : Int → Int} (hs : srt n L B) (hk : RK n k L B lh fh) (h : n ≤ k ∨ (cmpP r (L k) (B k) lh fh ∧ r ≠ 0)) : ¬ TH n L B lh fh := by
  rintro ⟨i, i0, i1, e⟩
  rcases (show i < k ∨ i = k ∨ k < i by omega) with q | q | q
  · exact klt_keq (hk.2.2.1 i i0 q) e
  · subst q
    rcases h with h | ⟨h1, h2⟩
    · omega
    · rcases (show r < 0 ∨ 0 < r by omega) with z | z
      · exact klt_keq (h1.1 z) e
      · exact klt_keq' (h1.2.1 z) e
  · rcases h with h | ⟨h1, h2⟩
    · omega
    · rcases (show r < 0 ∨ 0 < r by omega) with z | z
      · exact absurd (h1.1 z) (hk.2.2.2 (by omega))
      · exact klt_keq' (klt_trans (h1.2.1 z) (hs k i hk.1 q i1)) e
theorem TH_rank {n k : Int} {L : Int → Int} {B : Int → Int → Int} {lh : Int} {fh : Int → Int} (hk : RK n k L B lh fh) (h : TH n L B lh fh) : k < n := by
  obtain ⟨i, i0, i1, e⟩ := h
  rcases (show k ≤ i ∨ i < k by omega) with q | q
  · omega
  · exact absurd e (fun z => klt_keq (hk.2.2.1 i i0 q) z)
/-- a new key's place -/
theorem RK_new {n k : Int} {L : Int → Int} {B : Int → Int → Int} {lh : Int} {fh : Int → Int} (hs : srt n L B) (hk : RK n k L B lh fh) (hx : ¬ TH n L B lh fh) (htot : ∀ i : Int, 0 ≤ i → i < n → klt (L i) (B i) lh fh ∨ klt lh fh (L i) (B i) ∨ keq (L i) (B i) lh fh) : ∀ j : Int, k ≤ j → j < n → klt lh fh (L j) (B j) := by
  intro j j0 j1
  have hk0 := hk.1
  have hkk : klt lh fh (L k) (B k) := by
    rcases htot k hk0 (by omega) with q | q | q
    · exact absurd q (hk.2.2.2 (by omega))
    · exact q
    · exact absurd ⟨k, hk0, by omega, q⟩ hx
  rcases (show k = j ∨ k < j by omega) with q | q
  · rw [← q]; exact hkk
  · exact klt_trans hkk (hs k j hk0 q j1)
/-- the keys that go on behind so many bytes of the one at hand -/
def RG (n m lo hi : Int) (L : Int → Int) (B : Int → Int → Int) (lh : Int) (fh : Int → Int) : Prop := 0 ≤ lo ∧ lo ≤ hi ∧ hi ≤ n ∧ (∀ j : Int, 0 ≤ j → j < lo → ¬ kgo m (L j) (B j) lh fh) ∧ (∀ j : Int, lo ≤ j → j < hi → kgo m (L j) (B j) lh fh) ∧ (hi < n → ¬ kgo m (L hi) (B hi) lh fh)
/-- entries, so far -/
def ENI (lo t beh ne : Int) (ea : Int → Int) (L : Int → Int) (B : Int → Int → Int) : Prop := 0 ≤ ne ∧ ne ≤ t - lo ∧ (lo < t → 0 < ne) ∧ (0 < ne → ea 0 = lo) ∧ (∀ k : Int, 0 ≤ k → k < ne → lo ≤ ea k ∧ ea k < t) ∧ (∀ k : Int, 0 ≤ k → k + 1 < ne → ea k < ea (k + 1)) ∧ (∀ i : Int, lo < i → i < t → ¬ shr L B (i - 1) i beh → ∃ k : Int, 0 ≤ k ∧ k < ne ∧ ea k = i) ∧ (∀ k : Int, 0 < k → k < ne → ¬ shr L B (ea k - 1) (ea k) beh)
theorem ENI_0 {lo beh : Int} {ea : Int → Int} {L : Int → Int} {B : Int → Int → Int} : ENI lo lo beh 0 ea L B := ⟨by omega, by omega, by omega, by omega, fun k h0 h1 => by omega, fun k h0 h1 => by omega, fun i h0 h1 => by omega, fun k h0 h1 => by omega⟩
theorem ENI_skip {lo t beh ne : Int} {ea : Int → Int} {L : Int → Int} {B : Int → Int → Int} (h : ENI lo t beh ne ea L B) (hl : lo < t) (hs : shr L B (t - 1) t beh) : ENI lo (t + 1) beh ne ea L B := by
  obtain ⟨h1, h2, h3, h4, h5, h6, h7, h8⟩ := h
  refine ⟨h1, by omega, fun _ => h3 hl, h4, fun k k0 k1 => ?_, h6, fun i i0 i1 hi => ?_, h8⟩
  · have := h5 k k0 k1; omega
  · rcases (show i < t ∨ i = t by omega) with q | q
    · exact h7 i i0 q hi
    · subst q; exact absurd hs hi
theorem ENI_new {lo t beh ne : Int} {ea ea' : Int → Int} {L : Int → Int} {B : Int → Int → Int} (h : ENI lo t beh ne ea L B) (hlt : lo ≤ t) (hs : t = lo ∨ ¬ shr L B (t - 1) t beh) (he : ∀ k : Int, 0 ≤ k → k < ne → ea' k = ea k) (hn : ea' ne = t) : ENI lo (t + 1) beh (ne + 1) ea' L B := by
  obtain ⟨h1, h2, h3, h4, h5, h6, h7, h8⟩ := h
  refine ⟨by omega, by omega, fun _ => by omega, fun _ => ?_, fun k k0 k1 => ?_, fun k k0 k1 => ?_, fun i i0 i1 hi => ?_, fun k k0 k1 => ?_⟩
  · rcases (show 0 < ne ∨ ne = 0 by omega) with q | q
    · rw [he 0 (by omega) q]; exact h4 q
    · subst q; rw [hn]; omega
  · rcases (show k < ne ∨ k = ne by omega) with q | q
    · rw [he k k0 q]; have := h5 k k0 q; omega
    · subst q; rw [hn]; omega
  · rcases (show k + 1 < ne ∨ k + 1 = ne by omega) with q | q
    · rw [he k k0 (by omega), he (k + 1) (by omega) q]; exact h6 k k0 q
    · rw [he k k0 (by omega), q, hn]; exact (h5 k k0 (by omega)).2
  · rcases (show i < t ∨ i = t by omega) with q | q
    · obtain ⟨k, k0, k1, e⟩ := h7 i i0 q hi
      exact ⟨k, k0, by omega, by rw [he k k0 k1]; exact e⟩
    · exact ⟨ne, h1, by omega, by rw [hn, q]⟩
  · rcases (show k < ne ∨ k = ne by omega) with q | q
    · rw [he k (by omega) q]; exact h8 k k0 q
    · subst q
      rw [hn]
      rcases hs with z | z
      · have := h3; omega
      · exact z
