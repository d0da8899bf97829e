/-! ===== keys in order: a length and bytes ===== -/
def klt (la : Int) (fa : Int → Int) (lb : Int) (fb : Int → Int) : Prop := ∃ k : Int, 0 ≤ k ∧ (∀ j : Int, 0 ≤ j → j < k → fa j = fb j) ∧ ((k = la ∧ k < lb) ∨ (k < la ∧ k < lb ∧ fa k < fb k))
def keq (la : Int) (fa : Int → Int) (lb : Int) (fb : Int → Int) : Prop := la = lb ∧ ∀ j : Int, 0 ≤ j → j < la → fa j = fb j
/-- both go on behind m bytes that are alike -/
def ksh (m la : Int) (fa : Int → Int) (lb : Int) (fb : Int → Int) : Prop := m < la ∧ m < lb ∧ ∀ j : Int, 0 ≤ j → j < m → fa j = fb j
theorem klt_trans {la lb lc : Int} {fa fb fc : Int → Int} (h1 : klt la fa lb fb) (h2 : klt lb fb lc fc) : klt la fa lc fc := by
  obtain ⟨k, k0, ka, kc⟩ := h1
  obtain ⟨q, q0, qa, qc⟩ := h2
  by_cases h : k < q
  · refine ⟨k, k0, fun j j0 j1 => (ka j j0 j1).trans (qa j j0 (by omega)), ?_⟩
    rcases kc with ⟨c1, c2⟩ | ⟨c1, c2, c3⟩
    · exact Or.inl ⟨c1, by rcases qc with ⟨d1, d2⟩ | ⟨d1, d2, d3⟩ <;> omega⟩
    · exact Or.inr ⟨c1, by rcases qc with ⟨d1, d2⟩ | ⟨d1, d2, d3⟩ <;> omega, by rw [← qa k k0 h]; exact c3⟩
  · by_cases h' : q < k
    · refine ⟨q, q0, fun j j0 j1 => (ka j j0 (by omega)).trans (qa j j0 j1), ?_⟩
      rcases qc with ⟨d1, d2⟩ | ⟨d1, d2, d3⟩
      · rcases kc with ⟨c1, c2⟩ | ⟨c1, c2, c3⟩ <;> omega
      · exact Or.inr ⟨by rcases kc with ⟨c1, c2⟩ | ⟨c1, c2, c3⟩ <;> omega, d2, by rw [ka q q0 h']; exact d3⟩
    · have e : q = k := by omega
      subst e
      refine ⟨q, q0, fun j j0 j1 => (ka j j0 j1).trans (qa j j0 j1), ?_⟩
      rcases kc with ⟨c1, c2⟩ | ⟨c1, c2, c3⟩ <;> rcases qc with ⟨d1, d2⟩ | ⟨d1, d2, d3⟩
      · omega
      · exact Or.inl ⟨c1, d2⟩
      · omega
      · exact Or.inr ⟨c1, d2, by omega⟩
theorem klt_irrefl {la : Int} {fa : Int → Int} : ¬ klt la fa la fa := by
  rintro ⟨k, k0, ka, ⟨c1, c2⟩ | ⟨c1, c2, c3⟩⟩ <;> omega
theorem klt_asymm {la lb : Int} {fa fb : Int → Int} (h1 : klt la fa lb fb) (h2 : klt lb fb la fa) : False := klt_irrefl (klt_trans h1 h2)
theorem klt_keq {la lb : Int} {fa fb : Int → Int} (h1 : klt la fa lb fb) (h2 : keq la fa lb fb) : False := by
  obtain ⟨k, k0, ka, ⟨c1, c2⟩ | ⟨c1, c2, c3⟩⟩ := h1
  · have := h2.1; omega
  · have := h2.2 k k0 c1; omega
theorem klt_keq' {la lb : Int} {fa fb : Int → Int} (h1 : klt la fa lb fb) (h2 : keq lb fb la fa) : False := klt_keq h1 ⟨h2.1.symm, fun j j0 j1 => (h2.2 j j0 (by have := h2.1; omega)).symm⟩
theorem ksh_symm {m la lb : Int} {fa fb : Int → Int} (h : ksh m la fa lb fb) : ksh m lb fb la fa := ⟨h.2.1, h.1, fun j j0 j1 => (h.2.2 j j0 j1).symm⟩
theorem ksh_trans {m la lb lc : Int} {fa fb fc : Int → Int} (h1 : ksh m la fa lb fb) (h2 : ksh m lb fb lc fc) : ksh m la fa lc fc := ⟨h1.1, h2.2.1, fun j j0 j1 => (h1.2.2 j j0 j1).trans (h2.2.2 j j0 j1)⟩
theorem ksh_le {m q la lb : Int} {fa fb : Int → Int} (h : ksh m la fa lb fb) (hq : q ≤ m) : ksh q la fa lb fb := ⟨by have := h.1; omega, by have := h.2.1; omega, fun j j0 j1 => h.2.2 j j0 (by omega)⟩
theorem ksh_mid {m la lb lc : Int} {fa fb fc : Int → Int} (h1 : klt la fa lb fb) (h2 : klt lb fb lc fc) (h : ksh m la fa lc fc) : ksh m la fa lb fb := by
  obtain ⟨m1, m2, ma⟩ := h
  obtain ⟨k, k0, ka, kc⟩ := h1
  rcases kc with ⟨c1, c2⟩ | ⟨c1, c2, c3⟩
  · exact ⟨m1, by omega, fun j j0 j1 => ka j j0 (by omega)⟩
  · by_cases hk : m ≤ k
    · exact ⟨m1, by omega, fun j j0 j1 => ka j j0 (by omega)⟩
    · exfalso
      obtain ⟨q, q0, qa, qc⟩ := h2
      by_cases hq : k < q
      · have e1 := qa k k0 hq
        have e2 := ma k k0 (by omega)
        omega
      · rcases qc with ⟨d1, d2⟩ | ⟨d1, d2, d3⟩
        · omega
        · by_cases e : q = k
          · subst e
            have e2 := ma q q0 (by omega)
            omega
          · have e1 := ka q q0 (by omega)
            have e2 := ma q q0 (by omega)
            omega
theorem ksh_mid' {m la lb lc : Int} {fa fb fc : Int → Int} (h1 : klt la fa lb fb) (h2 : klt lb fb lc fc) (h : ksh m la fa lc fc) : ksh m lb fb lc fc := ksh_trans (ksh_symm (ksh_mid h1 h2 h)) h
/-! ===== bits of a word ===== -/
def bit (x d : Int) : Prop := (BitVec.ofInt 32 x).getLsbD d.toNat = true
/-! ===== the row of keys ===== -/
def srt (n : Int) (L : Int → Int) (B : Int → Int → Int) : Prop := ∀ i j : Int, 0 ≤ i → i < j → j < n → klt (L i) (B i) (L j) (B j)
abbrev shr (L : Int → Int) (B : Int → Int → Int) (i j m : Int) : Prop := ksh m (L i) (B i) (L j) (B j)
/-- key i is the lowest of a layer at depth d -/
def LC (n w : Int) (L : Int → Int) (B : Int → Int → Int) (i d : Int) : Prop := (d = 0 ∧ i = 0) ∨ (0 < d ∧ i + 1 < n ∧ shr L B i (i + 1) (d * w) ∧ (i = 0 ∨ ¬ shr L B (i - 1) i (d * w)))
/-- the lowest of each layer begins a page -/
def MI (n w : Int) (L : Int → Int) (B : Int → Int → Int) (M : Int → Int) : Prop := ∀ i d : Int, 0 ≤ i → i < n → 0 ≤ d → LC n w L B i d → bit (M i) d
/-- a new one at its place -/
def insI (at_ : Int) (f : Int → Int) (x : Int) : Int → Int := fun i => if i < at_ then f i else if i = at_ then x else f (i - 1)
def insB (at_ : Int) (f : Int → Int → Int) (x : Int → Int) : Int → Int → Int := fun i => if i < at_ then f i else if i = at_ then x else f (i - 1)
theorem insI_lt {at_ i : Int} {f : Int → Int} {x : Int} (h : i < at_) : insI at_ f x i = f i := by simp [insI, h]
theorem insI_eq {at_ : Int} {f : Int → Int} {x : Int} : insI at_ f x at_ = x := by simp [insI]
theorem insI_gt {at_ i : Int} {f : Int → Int} {x : Int} (h : at_ < i) : insI at_ f x i = f (i - 1) := by
  have h1 : ¬ i < at_ := by omega
  have h2 : ¬ i = at_ := by omega
  simp [insI, h1, h2]
theorem insB_lt {at_ i : Int} {f : Int → Int → Int} {x : Int → Int} (h : i < at_) : insB at_ f x i = f i := by simp [insB, h]
theorem insB_eq {at_ : Int} {f : Int → Int → Int} {x : Int → Int} : insB at_ f x at_ = x := by simp [insB]
theorem insB_gt {at_ i : Int} {f : Int → Int → Int} {x : Int → Int} (h : at_ < i) : insB at_ f x i = f (i - 1) := by
  have h1 : ¬ i < at_ := by omega
  have h2 : ¬ i = at_ := by omega
  simp [insB, h1, h2]
theorem srt_ins {n at_ : Int} {L : Int → Int} {B : Int → Int → Int} {lh : Int} {fh : Int → Int} (h : srt n L B) (h0 : 0 ≤ at_) (hn : at_ ≤ n) (hlo : ∀ j : Int, 0 ≤ j → j < at_ → klt (L j) (B j) lh fh) (hhi : ∀ j : Int, at_ ≤ j → j < n → klt lh fh (L j) (B j)) : srt (n + 1) (insI at_ L lh) (insB at_ B fh) := by
  intro i j i0 ij jn
  rcases (show i < at_ ∨ i = at_ ∨ at_ < i by omega) with hi | hi | hi <;> rcases (show j < at_ ∨ j = at_ ∨ at_ < j by omega) with hj | hj | hj
  · rw [insI_lt hi, insB_lt hi, insI_lt hj, insB_lt hj]; exact h i j i0 ij (by omega)
  · subst hj; rw [insI_lt hi, insB_lt hi, insI_eq, insB_eq]; exact hlo i i0 hi
  · rw [insI_lt hi, insB_lt hi, insI_gt hj, insB_gt hj]; exact h i (j - 1) i0 (by omega) (by omega)
  · omega
  · omega
  · subst hi; rw [insI_eq, insB_eq, insI_gt hj, insB_gt hj]; exact hhi (j - 1) (by omega) (by omega)
  · omega
  · omega
  · rw [insI_gt hi, insB_gt hi, insI_gt hj, insB_gt hj]; exact h (i - 1) (j - 1) (by omega) (by omega) (by omega)
/-- one goes -/
def delI (at_ : Int) (f : Int → Int) : Int → Int := fun i => if i < at_ then f i else f (i + 1)
def delB (at_ : Int) (f : Int → Int → Int) : Int → Int → Int := fun i => if i < at_ then f i else f (i + 1)
theorem delI_lt {at_ i : Int} {f : Int → Int} (h : i < at_) : delI at_ f i = f i := by simp [delI, h]
theorem delI_ge {at_ i : Int} {f : Int → Int} (h : at_ ≤ i) : delI at_ f i = f (i + 1) := by
  have h1 : ¬ i < at_ := by omega
  simp [delI, h1]
theorem delB_lt {at_ i : Int} {f : Int → Int → Int} (h : i < at_) : delB at_ f i = f i := by simp [delB, h]
theorem delB_ge {at_ i : Int} {f : Int → Int → Int} (h : at_ ≤ i) : delB at_ f i = f (i + 1) := by
  have h1 : ¬ i < at_ := by omega
  simp [delB, h1]
theorem srt_del {n at_ : Int} {L : Int → Int} {B : Int → Int → Int} (h : srt n L B) (h0 : 0 ≤ at_) : srt (n - 1) (delI at_ L) (delB at_ B) := by
  intro i j i0 ij jn
  rcases (show i < at_ ∨ at_ ≤ i by omega) with hi | hi <;> rcases (show j < at_ ∨ at_ ≤ j by omega) with hj | hj
  · rw [delI_lt hi, delB_lt hi, delI_lt hj, delB_lt hj]; exact h i j i0 ij (by omega)
  · rw [delI_lt hi, delB_lt hi, delI_ge hj, delB_ge hj]; exact h i (j + 1) i0 (by omega) (by omega)
  · omega
  · rw [delI_ge hi, delB_ge hi, delI_ge hj, delB_ge hj]; exact h (i + 1) (j + 1) (by omega) (by omega) (by omega)
/-- between two that go on alike all do -/
theorem shr_mid {n : Int} {L : Int → Int} {B : Int → Int → Int} (h : srt n L B) {i j k m : Int} (i0 : 0 ≤ i) (hij : i ≤ j) (hjk : j ≤ k) (hk : k < n) (hs : shr L B i k m) : shr L B i j m ∧ shr L B j k m := by
  rcases (show i = j ∨ i < j by omega) with rfl | hij'
  · exact ⟨⟨hs.1, hs.1, fun _ _ _ => rfl⟩, hs⟩
  · rcases (show j = k ∨ j < k by omega) with rfl | hjk'
    · exact ⟨hs, ⟨hs.2.1, hs.2.1, fun _ _ _ => rfl⟩⟩
    · have h1 := ksh_mid (h i j i0 hij' (by omega)) (h j k (by omega) hjk' hk) hs
      exact ⟨h1, ksh_trans (ksh_symm h1) hs⟩
/-- THE NEW KEY: what going down leaves of the pages' bits is enough -/
theorem MI_ins {n w at_ D nb : Int} {L M M1 : Int → Int} {B : Int → Int → Int} {lh : Int} {fh : Int → Int} (hs : srt n L B) (hw : 0 < w) (h0 : 0 ≤ at_) (hn : at_ ≤ n) (hD : 0 ≤ D)
    (hlo : ∀ j : Int, 0 ≤ j → j < at_ → klt (L j) (B j) lh fh) (hhi : ∀ j : Int, at_ ≤ j → j < n → klt lh fh (L j) (B j)) (hM : MI n w L B M)
    (hdeep : ∀ j d : Int, 0 ≤ j → j < n → D < d → ¬ ksh (d * w) (L j) (B j) lh fh)
    (hkeep : ∀ i d : Int, 0 ≤ i → i < n → 0 ≤ d → bit (M i) d → bit (M1 i) d ∨ (at_ ≤ i ∧ d ≤ D ∧ ksh (d * w) (L i) (B i) lh fh))
    (hone : ∀ i d : Int, 0 ≤ i → i < at_ → 0 < d → ksh (d * w) (L i) (B i) lh fh → (∀ j : Int, 0 ≤ j → j < n → ksh (d * w) (L j) (B j) lh fh → j = i) → bit (M1 i) d)
    (hnew : ∀ d : Int, 0 ≤ d → d ≤ D → (∀ j : Int, 0 ≤ j → j < at_ → ¬ ksh (d * w) (L j) (B j) lh fh) → bit nb d) :
    MI (n + 1) w (insI at_ L lh) (insB at_ B fh) (insI at_ M1 nb) := by
  intro i d i0 i1 d0 hc
  have hdw : 0 ≤ d * w := Int.mul_nonneg d0 (by omega)
  rcases (show i < at_ ∨ i = at_ ∨ at_ < i by omega) with hi | hi | hi
  · rw [insI_lt hi]
    rcases hc with ⟨rfl, rfl⟩ | ⟨d1, n1, s1, s2⟩
    · rcases hkeep 0 0 (by omega) (by omega) (by omega) (hM 0 0 (by omega) (by omega) (by omega) (Or.inl ⟨rfl, rfl⟩)) with h | ⟨h, -⟩
      · exact h
      · omega
    · have hprev : i = 0 ∨ ¬ shr L B (i - 1) i (d * w) := by
        rcases s2 with h | h
        · exact Or.inl h
        · refine Or.inr fun q => h ?_
          unfold shr
          rw [insI_lt (by omega), insB_lt (by omega), insI_lt hi, insB_lt hi]; exact q
      have old : LC n w L B i d → bit (M1 i) d := fun hL => by
        rcases hkeep i d i0 (by omega) d0 (hM i d i0 (by omega) d0 hL) with h | ⟨h, -⟩
        · exact h
        · omega
      by_cases hb : i + 1 < at_
      · unfold shr at s1
        rw [insI_lt hi, insB_lt hi, insI_lt hb, insB_lt hb] at s1
        exact old (Or.inr ⟨d1, by omega, s1, hprev⟩)
      · have e : i + 1 = at_ := by omega
        unfold shr at s1
        rw [insI_lt hi, insB_lt hi, e, insI_eq, insB_eq] at s1
        by_cases hx : i + 1 < n ∧ shr L B i (i + 1) (d * w)
        · exact old (Or.inr ⟨d1, hx.1, hx.2, hprev⟩)
        · refine hone i d i0 hi d1 s1 (fun j j0 j1 sj => ?_)
          have sij : shr L B i j (d * w) := ksh_trans s1 (ksh_symm sj)
          rcases (show j < i ∨ j = i ∨ i < j by omega) with q | q | q
          · exfalso
            rcases hprev with h | h
            · omega
            · exact h (shr_mid hs j0 (by omega) (by omega) (by omega) (ksh_symm sij)).2
          · exact q
          · exact absurd ⟨by omega, (shr_mid hs i0 (by omega) (by omega) j1 sij).1⟩ hx
  · subst hi
    rw [insI_eq]
    have hle : d ≤ D := by
      by_cases q : d ≤ D
      · exact q
      · exfalso
        rcases hc with ⟨rfl, -⟩ | ⟨d1, n1, s1, s2⟩
        · omega
        · unfold shr at s1
          rw [insI_eq, insB_eq, insI_gt (by omega), insB_gt (by omega), show i + 1 - 1 = i by omega] at s1
          exact hdeep i d i0 (by omega) (by omega) (ksh_symm s1)
    refine hnew d d0 hle (fun j j0 j1 sj => ?_)
    rcases hc with ⟨rfl, rfl⟩ | ⟨d1, n1, s1, s2⟩
    · omega
    · rcases s2 with h | h
      · omega
      · refine h ?_
        unfold shr
        rw [insI_lt (by omega), insB_lt (by omega), insI_eq, insB_eq]
        rcases (show j = i - 1 ∨ j < i - 1 by omega) with rfl | q
        · exact sj
        · exact ksh_mid' (hs j (i - 1) j0 q (by omega)) (hlo (i - 1) (by omega) (by omega)) sj
  · rw [insI_gt hi]
    rcases hc with ⟨rfl, rfl⟩ | ⟨d1, n1, s1, s2⟩
    · omega
    · unfold shr at s1
      rw [insI_gt hi, insB_gt hi, insI_gt (by omega), insB_gt (by omega), show i + 1 - 1 = i - 1 + 1 by omega] at s1
      have hnh : at_ ≤ i - 1 → ¬ ksh (d * w) (L (i - 1)) (B (i - 1)) lh fh := fun ha q => by
        rcases s2 with h | h
        · omega
        · refine h ?_
          unfold shr
          rw [insI_gt hi, insB_gt hi]
          rcases (show i - 1 = at_ ∨ at_ < i - 1 by omega) with e | e
          · rw [e, insI_eq, insB_eq]; rw [e] at q; exact ksh_symm q
          · rw [insI_gt e, insB_gt e]
            exact ksh_mid' (hhi (i - 1 - 1) (by omega) (by omega)) (hs (i - 1 - 1) (i - 1) (by omega) (by omega) (by omega)) (ksh_symm q)
      have hL : LC n w L B (i - 1) d := by
        refine Or.inr ⟨d1, by omega, s1, ?_⟩
        rcases (show i - 1 = 0 ∨ i - 1 ≠ 0 by omega) with e | e
        · exact Or.inl e
        · refine Or.inr fun q => ?_
          rcases s2 with h | h
          · omega
          · refine h ?_
            unfold shr
            rw [insI_gt hi, insB_gt hi]
            rcases (show i - 1 = at_ ∨ at_ < i - 1 by omega) with e' | e'
            · rw [e', insI_eq, insB_eq]
              rw [e'] at q
              exact ksh_mid' (hlo (at_ - 1) (by omega) (by omega)) (hhi at_ (by omega) (by omega)) q
            · rw [insI_gt e', insB_gt e']; exact q
      rcases hkeep (i - 1) d (by omega) (by omega) d0 (hM (i - 1) d (by omega) (by omega) d0 hL) with h | ⟨h1, h2, h3⟩
      · exact h
      · exact absurd h3 (hnh h1)
/-- A KEY GOES: bits that are enough -/
theorem MI_del {n w at_ : Int} {L M M1 : Int → Int} {B : Int → Int → Int} (hs : srt n L B) (h0 : 0 ≤ at_) (hn : at_ < n) (hM : MI n w L B M)
    (hkeep : ∀ i d : Int, 0 ≤ i → i < n → i ≠ at_ → 0 ≤ d → LC n w L B i d → bit (M i) d → bit (M1 i) d ∨ (d ≠ 0 ∧ ∀ j : Int, 0 ≤ j → j < n → shr L B j i (d * w) → j = i ∨ j = at_))
    (hnext : ∀ d : Int, 0 ≤ d → at_ + 1 < n → LC n w L B at_ d → bit (M1 (at_ + 1)) d ∨ (d ≠ 0 ∧ ∀ j : Int, 0 ≤ j → j < n → shr L B j (at_ + 1) (d * w) → j = at_ + 1 ∨ j = at_)) :
    MI (n - 1) w (delI at_ L) (delB at_ B) (delI at_ M1) := by
  intro i d i0 i1 d0 hc
  rcases (show i < at_ ∨ i = at_ ∨ at_ < i by omega) with hi | hi | hi
  · rw [delI_lt hi]
    have hL : LC n w L B i d := by
      rcases hc with h | ⟨d1, n1, s1, s2⟩
      · exact Or.inl h
      · refine Or.inr ⟨d1, by omega, ?_, ?_⟩
        · unfold shr at s1
          rw [delI_lt hi, delB_lt hi] at s1
          by_cases hb : i + 1 < at_
          · rw [delI_lt hb, delB_lt hb] at s1; exact s1
          · rw [delI_ge (by omega), delB_ge (by omega)] at s1
            exact (shr_mid hs i0 (by omega) (by omega) (by omega) s1).1
        · rcases s2 with h | h
          · exact Or.inl h
          · refine Or.inr fun q => h ?_
            unfold shr
            rw [delI_lt (by omega), delB_lt (by omega), delI_lt hi, delB_lt hi]; exact q
    rcases hkeep i d i0 (by omega) (by omega) d0 hL (hM i d i0 (by omega) d0 hL) with h | ⟨hz, h⟩
    · exact h
    · rcases hc with ⟨rfl, -⟩ | ⟨d1, n1, s1, s2⟩
      · exact absurd rfl hz
      · exfalso
        unfold shr at s1
        rw [delI_lt hi, delB_lt hi] at s1
        by_cases hb : i + 1 < at_
        · rw [delI_lt hb, delB_lt hb] at s1
          rcases h (i + 1) (by omega) (by omega) (ksh_symm s1) with q | q <;> omega
        · rw [delI_ge (by omega), delB_ge (by omega)] at s1
          rcases h (i + 1 + 1) (by omega) (by omega) (ksh_symm s1) with q | q <;> omega
  · subst hi
    rw [delI_ge (by omega)]
    rcases hc with ⟨rfl, rfl⟩ | ⟨d1, n1, s1, s2⟩
    · rcases hnext 0 (by omega) (by omega) (Or.inl ⟨rfl, rfl⟩) with h | ⟨h, -⟩
      · exact h
      · exact absurd rfl h
    · unfold shr at s1
      rw [delI_ge (by omega), delB_ge (by omega), delI_ge (by omega), delB_ge (by omega)] at s1
      by_cases hx : shr L B i (i + 1) (d * w)
      · have hL : LC n w L B i d := by
          refine Or.inr ⟨d1, by omega, hx, ?_⟩
          rcases s2 with h | h
          · exact Or.inl h
          · rcases (show i = 0 ∨ i ≠ 0 by omega) with e | e
            · exact Or.inl e
            · refine Or.inr fun q => h ?_
              unfold shr
              rw [delI_lt (by omega), delB_lt (by omega), delI_ge (by omega), delB_ge (by omega)]
              exact ksh_trans q hx
        rcases hnext d d0 (by omega) hL with h | ⟨-, h⟩
        · exact h
        · rcases h (i + 1 + 1) (by omega) (by omega) (ksh_symm s1) with q | q <;> omega
      · have hL : LC n w L B (i + 1) d := Or.inr ⟨d1, by omega, s1, Or.inr (by rw [show i + 1 - 1 = i by omega]; exact hx)⟩
        rcases hkeep (i + 1) d (by omega) (by omega) (by omega) d0 hL (hM (i + 1) d (by omega) (by omega) d0 hL) with h | ⟨-, h⟩
        · exact h
        · rcases h (i + 1 + 1) (by omega) (by omega) (ksh_symm s1) with q | q <;> omega
  · rw [delI_ge (by omega)]
    rcases hc with ⟨rfl, rfl⟩ | ⟨d1, n1, s1, s2⟩
    · omega
    · unfold shr at s1
      rw [delI_ge (by omega), delB_ge (by omega), delI_ge (by omega), delB_ge (by omega)] at s1
      have hL : LC n w L B (i + 1) d := by
        refine Or.inr ⟨d1, by omega, s1, Or.inr fun q => ?_⟩
        rcases s2 with h | h
        · omega
        · refine h ?_
          unfold shr
          rw [delI_ge (by omega), delB_ge (by omega), delI_ge (by omega), delB_ge (by omega), show i - 1 + 1 = i + 1 - 1 by omega]
          exact q
      rcases hkeep (i + 1) d (by omega) (by omega) (by omega) d0 hL (hM (i + 1) d (by omega) (by omega) d0 hL) with h | ⟨-, h⟩
      · exact h
      · rcases h (i + 1 + 1) (by omega) (by omega) (ksh_symm s1) with q | q <;> omega
