/-! ===== the reference's file: four equal parts of 4406, the keys' rows of 27 from 240 on ===== -/
def kO (F : Nat → Int) (i w : Int) : Int := F (240 + 27 * i + w).toNat
def upF (F : Nat → Int) (j : Nat) (v : Int) : Nat → Int := fun i => if i = j then v else F i
theorem upF_at (F : Nat → Int) (j : Nat) (v : Int) : upF F j v j = v := by simp [upF]
theorem upF_ne (F : Nat → Int) {j i : Nat} (v : Int) (h : i ≠ j) : upF F j v i = F i := by simp [upF, h]
theorem up2_row (σ : Nat → Nat → Int) (a k : Nat) (v : Int) : up2 σ a k v a = upF (σ a) k v := by
  funext i
  by_cases h : i = k
  · subst h; rw [up2_at, upF_at]
  · rw [up2_ne σ v (fun q => h q.2), upF_ne _ v h]
theorem kO_up {F : Nat → Int} {i w i' w' v : Int} (h0 : 0 ≤ i) (h0' : 0 ≤ i') (hw : 0 ≤ w ∧ w < 27) (hw' : 0 ≤ w' ∧ w' < 27) (h : ¬ (i = i' ∧ w = w')) : kO (upF F (240 + 27 * i' + w').toNat v) i w = kO F i w := by
  unfold kO
  exact upF_ne _ _ (by omega)
theorem kO_up_at {F : Nat → Int} {i w v : Int} : kO (upF F (240 + 27 * i + w).toNat v) i w = v := by
  unfold kO
  exact upF_at _ _ _
theorem klt_congr {la lb : Int} {fa fa' fb fb' : Int → Int} (ha : ∀ j, 0 ≤ j → j < la → fa j = fa' j) (hb : ∀ j, 0 ≤ j → j < lb → fb j = fb' j) (h : klt la fa lb fb) : klt la fa' lb fb' := by
  obtain ⟨k, k0, ka, kc⟩ := h
  refine ⟨k, k0, fun j j0 j1 => ?_, ?_⟩
  · rw [← ha j j0 (by rcases kc with ⟨c1, c2⟩ | ⟨c1, c2, c3⟩ <;> omega), ← hb j j0 (by rcases kc with ⟨c1, c2⟩ | ⟨c1, c2, c3⟩ <;> omega)]
    exact ka j j0 j1
  · rcases kc with h | ⟨c1, c2, c3⟩
    · exact Or.inl h
    · refine Or.inr ⟨c1, c2, ?_⟩
      rw [← ha k k0 c1, ← hb k k0 c2]
      exact c3
theorem ksh_congr {m la lb : Int} {fa fa' fb fb' : Int → Int} (ha : ∀ j, 0 ≤ j → j < la → fa j = fa' j) (hb : ∀ j, 0 ≤ j → j < lb → fb j = fb' j) (h : ksh m la fa lb fb) : ksh m la fa' lb fb' :=
  ⟨h.1, h.2.1, fun j j0 j1 => by rw [← ha j j0 (by have := h.1; omega), ← hb j j0 (by have := h.2.1; omega)]; exact h.2.2 j j0 j1⟩
/-- two rows that are the same, as far as they go -/
def same (n : Int) (L L' : Int → Int) (B B' : Int → Int → Int) : Prop := ∀ i, 0 ≤ i → i < n → L i = L' i ∧ ∀ k, 0 ≤ k → k < L i → B i k = B' i k
theorem same_symm {n : Int} {L L' : Int → Int} {B B' : Int → Int → Int} (h : same n L L' B B') : same n L' L B' B := fun i i0 i1 => ⟨(h i i0 i1).1.symm, fun k k0 k1 => ((h i i0 i1).2 k k0 (by rw [(h i i0 i1).1]; exact k1)).symm⟩
theorem srt_same {n : Int} {L L' : Int → Int} {B B' : Int → Int → Int} (h : same n L L' B B') (hs : srt n L B) : srt n L' B' := by
  intro i j i0 ij jn
  have h1 := h i i0 (by omega)
  have h2 := h j (by omega) jn
  rw [← h1.1, ← h2.1]
  exact klt_congr h1.2 h2.2 (hs i j i0 ij jn)
theorem shr_same {n : Int} {L L' : Int → Int} {B B' : Int → Int → Int} (h : same n L L' B B') {i j m : Int} (i0 : 0 ≤ i) (i1 : i < n) (j0 : 0 ≤ j) (j1 : j < n) (hs : shr L B i j m) : shr L' B' i j m := by
  have h1 := h i i0 i1
  have h2 := h j j0 j1
  unfold shr
  rw [← h1.1, ← h2.1]
  exact ksh_congr h1.2 h2.2 hs
theorem MI_same {n w : Int} {L L' M M' : Int → Int} {B B' : Int → Int → Int} (h : same n L L' B B') (hm : ∀ i, 0 ≤ i → i < n → M i = M' i) (hM : MI n w L B M) : MI n w L' B' M' := by
  intro i d i0 i1 d0 hc
  rw [← hm i i0 i1]
  refine hM i d i0 i1 d0 ?_
  rcases hc with q | ⟨d1, n1, s1, s2⟩
  · exact Or.inl q
  · refine Or.inr ⟨d1, n1, shr_same (same_symm h) i0 i1 (by omega) n1 s1, ?_⟩
    rcases s2 with q | q
    · exact Or.inl q
    · rcases (show i = 0 ∨ i ≠ 0 by omega) with e | e
      · exact Or.inl e
      · exact Or.inr fun z => q (shr_same h (by omega) (by omega) i0 i1 z)
/-- the keys of the first part -/
def FK (F : Nat → Int) : Prop := (0 ≤ F 0 ∧ F 0 ≤ 150) ∧ (1 ≤ F 1 ∧ F 1 ≤ 8) ∧ (2 ≤ F 2 ∧ F 2 ≤ 8) ∧ (∀ i, 0 ≤ i → i < F 0 → 1 ≤ kO F i 0 ∧ kO F i 0 ≤ 24) ∧ (∀ i k, 0 ≤ i → i < F 0 → 0 ≤ k → k < kO F i 0 → 0 ≤ kO F i (3 + k) ∧ kO F i (3 + k) ≤ 255) ∧ srt (F 0) (fun i => kO F i 0) (fun i k => kO F i (3 + k))
/-- the pages' marks of the first part -/
def FM (F : Nat → Int) : Prop := MI (F 0) (F 1) (fun i => kO F i 0) (fun i k => kO F i (3 + k)) (fun i => kO F i 2)
/-- the steps and the cursors of the first part -/
def FQ (F : Nat → Int) : Prop := (0 ≤ F 7 ∧ F 7 ≤ 8) ∧ (∀ s : Int, 0 ≤ s → s < 8 → (0 ≤ F (16 + 28 * s + 2).toNat ∧ F (16 + 28 * s + 2).toNat ≤ 24) ∧ (s < F 7 → F (16 + 28 * s).toNat = 107 → ¬ F (16 + 28 * s + 1).toNat = 0) ∧ ∀ k : Int, 0 ≤ k → k < F (16 + 28 * s + 2).toNat → 0 ≤ F (16 + 28 * s + 3 + k).toNat ∧ F (16 + 28 * s + 3 + k).toNat ≤ 255) ∧ ∀ c : Int, 0 ≤ c → c < 4 → (0 ≤ F (4290 + 29 * c + 4).toNat ∧ F (4290 + 29 * c + 4).toNat ≤ 24) ∧ ∀ k : Int, 0 ≤ k → k < F (4290 + 29 * c + 4).toNat → 0 ≤ F (4290 + 29 * c + 5 + k).toNat ∧ F (4290 + 29 * c + 5 + k).toNat ≤ 255
/-- a part of the file as if it were the first -/
def pt (b : Nat) (F : Nat → Int) : Nat → Int := fun i => F (b + i)
def FI (G : Nat → Nat → Nat) (o : Nat) (σ : Nat → Nat → Int) : Prop := FK (σ (G o 0)) ∧ FQ (σ (G o 0)) ∧ (σ o 1 = 0 ∨ (FK (pt 4406 (σ (G o 0))) ∧ FQ (pt 4406 (σ (G o 0))) ∧ FM (pt 4406 (σ (G o 0)))))
theorem FI_dep {τ : Nat → Nat} {G : Nat → Nat → Nat} {L : List Nat} {o : Nat} {σ σ1 : Nat → Nat → Int} (hS : SW τ G L) (h0 : τ o = 13) (h : FI G o σ) (hk : kp [40000, 13001] τ σ σ1) : FI G o σ1 := by
  have hf : τ (G o 0) = 40 := gty hS h0 (k := 0) rfl rfl
  have e : σ1 (G o 0) = σ (G o 0) := funext fun k => kp_at hk hf k 40000 (cdA 40 (by decide) k) (by decide)
  have e2 : σ1 o 1 = σ o 1 := kp_at hk h0 1 13001 rfl (by decide)
  unfold FI
  rw [e, e2]
  exact h
theorem same_F {F F' : Nat → Int} (h : FK F) (hk : ∀ i w, 0 ≤ i → i < F 0 → 0 ≤ w → w < 27 → w ≠ 1 → w ≠ 2 → kO F' i w = kO F i w) : same (F 0) (fun i => kO F i 0) (fun i => kO F' i 0) (fun i k => kO F i (3 + k)) (fun i k => kO F' i (3 + k)) := fun i i0 i1 => ⟨(hk i 0 i0 i1 (by omega) (by omega) (by omega) (by omega)).symm, fun k k0 k1 => (hk i (3 + k) i0 i1 (by omega) (by have := (h.2.2.2.1 i i0 i1).2; have k2 : k < kO F i 0 := k1; omega) (by omega) (by omega)).symm⟩
theorem FK_congr {F F' : Nat → Int} (h : FK F) (e0 : F' 0 = F 0) (e1 : F' 1 = F 1) (e2 : F' 2 = F 2) (hk : ∀ i w, 0 ≤ i → i < F 0 → 0 ≤ w → w < 27 → w ≠ 1 → w ≠ 2 → kO F' i w = kO F i w) : FK F' := by
  have sm := same_F h hk
  obtain ⟨h1, h2, h3, h4, h5, h6⟩ := h
  refine ⟨by omega, by omega, by omega, fun i i0 i1 => ?_, fun i k i0 i1 k0 k1 => ?_, ?_⟩
  · rw [e0] at i1
    rw [hk i 0 i0 i1 (by omega) (by omega) (by omega) (by omega)]; exact h4 i i0 i1
  · rw [e0] at i1
    rw [hk i 0 i0 i1 (by omega) (by omega) (by omega) (by omega)] at k1
    rw [hk i (3 + k) i0 i1 (by omega) (by have := (h4 i i0 i1).2; omega) (by omega) (by omega)]; exact h5 i k i0 i1 k0 k1
  · rw [e0]; exact srt_same sm h6
theorem FM_congr {F F' : Nat → Int} (h : FK F) (hm : FM F) (e0 : F' 0 = F 0) (e1 : F' 1 = F 1) (hk : ∀ i w, 0 ≤ i → i < F 0 → 0 ≤ w → w < 27 → w ≠ 1 → kO F' i w = kO F i w) : FM F' := by
  unfold FM
  rw [e0, e1]
  exact MI_same (same_F h (fun i w i0 i1 w0 w1 w2 _ => hk i w i0 i1 w0 w1 w2)) (fun i i0 i1 => (hk i 2 i0 i1 (by omega) (by omega) (by omega)).symm) hm
theorem FQ_congr {F F' : Nat → Int} (h : FQ F) (hf : ∀ j, (7 ≤ j ∧ j < 240) ∨ (4290 ≤ j ∧ j < 4406) → F' j = F j) : FQ F' := by
  obtain ⟨h1, h2, h3⟩ := h
  have e7 := hf 7 (by omega)
  refine ⟨by omega, fun s s0 s1 => ?_, fun c c0 c1 => ?_⟩
  · obtain ⟨q1, q2, q3⟩ := h2 s s0 s1
    have a0 := hf (16 + 28 * s).toNat (by omega)
    have a1 := hf (16 + 28 * s + 1).toNat (by omega)
    have a2 := hf (16 + 28 * s + 2).toNat (by omega)
    refine ⟨by omega, fun g1 g2 => ?_, fun k k0 k1 => ?_⟩
    · rw [a1]; exact q2 (by omega) (by omega)
    · rw [hf (16 + 28 * s + 3 + k).toNat (by omega)]; exact q3 k k0 (by omega)
  · obtain ⟨q1, q2⟩ := h3 c c0 c1
    have a2 := hf (4290 + 29 * c + 4).toNat (by omega)
    refine ⟨by omega, fun k k0 k1 => ?_⟩
    rw [hf (4290 + 29 * c + 5 + k).toNat (by omega)]; exact q2 k k0 (by omega)
/-- two files that are alike but for counters, the number of keys kept, and the pages' marks -/
def FC (F F' : Nat → Int) : Prop := (∀ i w : Int, 0 ≤ i → i < 150 → 0 ≤ w → w < 27 → w ≠ 2 → kO F' i w = kO F i w) ∧ ∀ j : Nat, (j < 3 ∨ (7 ≤ j ∧ j < 240) ∨ 4290 ≤ j) → F' j = F j
theorem FC_rf {F : Nat → Int} : FC F F := ⟨fun _ _ _ _ _ _ _ => rfl, fun _ _ => rfl⟩
theorem FC_tr {F F' F'' : Nat → Int} (h : FC F F') (h' : FC F' F'') : FC F F'' := ⟨fun i w a b c d e => (h'.1 i w a b c d e).trans (h.1 i w a b c d e), fun j hj => (h'.2 j hj).trans (h.2 j hj)⟩
theorem FC_cnt {F : Nat → Int} {σ1 σ2 : Nat → Nat → Int} {a j : Nat} {v : Int} (h : FC F (σ1 a)) (e : σ2 = up2 σ1 a j v) (h1 : 3 ≤ j) (h2 : j < 7) : FC F (σ2 a) := by
  refine ⟨fun i w i0 i1 w0 w1 w2 => ?_, fun q hq => ?_⟩
  · rw [← h.1 i w i0 i1 w0 w1 w2, e, up2_row]
    unfold kO
    exact upF_ne _ _ (by omega)
  · rw [← h.2 q hq, e, up2_row]
    exact upF_ne _ _ (by omega)
theorem FC_col {F : Nat → Int} {σ1 σ2 : Nat → Nat → Int} {a : Nat} {x v : Int} (h : FC F (σ1 a)) (e : σ2 = up2 σ1 a (240 + 27 * x + 2).toNat v) (x0 : 0 ≤ x) (x1 : x < 150) : FC F (σ2 a) := by
  refine ⟨fun i w i0 i1 w0 w1 w2 => ?_, fun q hq => ?_⟩
  · rw [← h.1 i w i0 i1 w0 w1 w2, e, up2_row]
    exact kO_up i0 x0 ⟨w0, w1⟩ ⟨by omega, by omega⟩ (fun z => w2 z.2)
  · rw [← h.2 q hq, e, up2_row]
    exact upF_ne _ _ (by omega)
theorem FI_FC {G : Nat → Nat → Nat} {o : Nat} {σ σ1 : Nat → Nat → Int} (h : FI G o σ) (hc : FC (σ (G o 0)) (σ1 (G o 0))) (e : σ1 o 1 = σ o 1) : FI G o σ1 := by
  obtain ⟨h1, h2, h3⟩ := h
  refine ⟨FK_congr h1 (hc.2 0 (by omega)) (hc.2 1 (by omega)) (hc.2 2 (by omega)) (fun i w i0 i1 w0 w1 _ w2 => hc.1 i w i0 (by have := h1.1.2; omega) w0 w1 w2), FQ_congr h2 (fun j hj => hc.2 j (by omega)), ?_⟩
  rw [e]
  have ep : pt 4406 (σ1 (G o 0)) = pt 4406 (σ (G o 0)) := funext fun j => hc.2 (4406 + j) (by omega)
  rw [ep]
  exact h3
