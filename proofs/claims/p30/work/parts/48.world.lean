/-! ===== the first world: from what the constructors made ===== -/
theorem jFl_congr {G G' : Nat → Nat → Nat} {σ σ' : Nat → Nat → Int} {a : Nat} (h1 : ∀ k, G a k = G' a k) (h2 : ∀ k, σ a k = σ' a k) (fds : List fdT) : ∀ j, jFl G σ a fds j = jFl G' σ' a fds j := by
  induction fds with
  | nil => intro j; rfl
  | cons q r ih =>
    intro j
    cases q
    · simp only [jFl, ih, h1]
    · simp only [jFl, ih, h2]
theorem cF_congr {cA : Nat → ClassId} {τ τ' : Nat → Nat} {G G' : Nat → Nat → Nat} {σ σ' : Nat → Nat → Int} {a : Nat} (h0 : τ a = τ' a) (h1 : ∀ k, G a k = G' a k) (h2 : ∀ k, σ a k = σ' a k) : cF cA τ G σ a = cF cA τ' G' σ' a := by
  unfold cF
  rw [h0]
  split
  · rename_i o _
    rw [jFl_congr h1 h2]
  · split
    · rw [show (fun i => jI (σ a i)) = (fun i => jI (σ' a i)) from funext fun i => by rw [h2]]
    · split
      · rw [show (fun i => some (G a i)) = (fun i => some (G' a i)) from funext fun i => by rw [h1]]
      · rfl
def fdB (z : Int) (f : fdT) : Bool := match f with
  | .inl _ => true
  | .inr b => decide (b.1 ≤ 0) && decide (z ≤ b.2)
theorem fdB_in {z v : Int} {fds : List fdT} (h : fds.all (fdB z) = true) {k : Nat} {b : Int × Int} (hk : fds[k]? = some (.inr b)) (h0 : 0 ≤ v) (h1 : v ≤ z) : b.1 ≤ v ∧ v ≤ b.2 := by
  have := List.all_eq_true.mp h _ (List.mem_of_getElem? hk)
  simp only [fdB, Bool.and_eq_true, decide_eq_true_eq] at this
  omega
theorem z0_O {t : Nat} {o : Nat × List fdT} (h : lyO t = some o) (k : Nat) (b : Int × Int) (hk : o.2[k]? = some (.inr b)) : b.1 ≤ z0 t k ∧ z0 t k ≤ b.2 := by
  by_cases e : t = 11
  · subst e
    cases h
    unfold z0
    match k, hk with
    | 0, hk => cases hk
    | 1, hk => cases hk; decide
    | 2, hk => cases hk; decide
    | 3, hk => cases hk
    | 4, hk => cases hk
    | 5, hk => cases hk; decide
    | 6, hk => cases hk; decide
    | 7, hk => cases hk; decide
    | 8, hk => cases hk; decide
    | k + 9, hk => simp at hk
  · by_cases e2 : t = 40
    · subst e2; cases h
    · rw [z0_0 ⟨e, e2⟩]
      have ha : o.2.all (fdB 0) = true := by
        unfold lyO at h
        split at h <;> first | (cases h; decide) | cases h
      exact fdB_in ha hk (by omega) (by omega)
theorem z0_A {t : Nat} {r : Nat × Nat × (Int × Int)} (h : lyA t = some r) (k : Nat) : r.2.2.1 ≤ z0 t k ∧ z0 t k ≤ r.2.2.2 := by
  by_cases e : t = 11
  · subst e; cases h
  · by_cases e2 : t = 40
    · subst e2
      cases h
      unfold z0
      split <;> decide
    · rw [z0_0 ⟨e, e2⟩]
      unfold lyA at h
      split at h <;> first | (cases h; exact ⟨by decide, by decide⟩) | cases h
theorem world_of {D : va_G} {cA : Nat → ClassId} {A : Nat → Prop} {cl : List cC} {H : Heap} (hok : okL noE cl) (hP : va_P D vwCl (cW cA cl) H) (hD : va_D A (cW cA cl)) : ∃ (τ : Nat → Nat) (G : Nat → Nat → Nat) (L : List Nat), SW τ G L ∧ PW D cA τ G L (fun a k => z0 (τ a) k) H ∧ (∀ q ∈ L, A q) ∧ ∀ a t, hasK cl a t → τ a = t := by
  have uq : ∀ c ∈ cl, ∀ c' ∈ cl, c.1 = c'.1 → c = c' := by
    intro c hc c' hc' e
    obtain ⟨i, hi⟩ := List.mem_iff_getElem?.mp hc
    obtain ⟨j, hj⟩ := List.mem_iff_getElem?.mp hc'
    have h1 : (cW cA cl)[i]? = some (cE cA c) := by unfold cW; rw [List.getElem?_map, hi]; rfl
    have h2 : (cW cA cl)[j]? = some (cE cA c') := by unfold cW; rw [List.getElem?_map, hj]; rfl
    have := hD.1 i j _ _ h1 h2 e
    subst this
    exact Option.some.inj (hi.symm.trans hj)
  obtain ⟨f, hf1, hf2⟩ : ∃ f : Nat → Nat × (Nat → Nat), (∀ c ∈ cl, f c.1 = c.2) ∧ ∀ a, (∀ c ∈ cl, c.1 ≠ a) → f a = (0, fun _ => 0) := by
    refine ⟨fun a => if h : ∃ c ∈ cl, c.1 = a then (Classical.choose h).2 else (0, fun _ => 0), fun c hc => ?_, fun a ha => ?_⟩
    · have h : ∃ c' ∈ cl, c'.1 = c.1 := ⟨c, hc, rfl⟩
      have hs := Classical.choose_spec h
      show (if h : ∃ c' ∈ cl, c'.1 = c.1 then (Classical.choose h).2 else (0, fun _ => 0)) = c.2
      rw [dif_pos h]
      exact congrArg Prod.snd (uq _ hs.1 c hc hs.2)
    · show (if h : ∃ c' ∈ cl, c'.1 = a then (Classical.choose h).2 else (0, fun _ => 0)) = _
      rw [dif_neg (fun ⟨c, hc, e⟩ => ha c hc e)]
  have ht : ∀ a t, hasK cl a t → (f a).1 = t := fun a t ⟨g, hg⟩ => by rw [hf1 _ hg]
  have hin : ∀ a, (f a).1 ≠ 0 → ∃ c ∈ cl, c.1 = a := fun a ha => by
    refine Classical.byContradiction fun h => ha ?_
    rw [hf2 a (fun c hc e => h ⟨c, hc, e⟩)]
  refine ⟨fun a => (f a).1, fun a => (f a).2, cl.map Prod.fst, ⟨?_, fun a ha => ?_, fun a o k t h1 h2 => ?_, fun a r h1 i hi => ?_⟩, ⟨?_, fun a o k b h1 h2 => z0_O h1 k b h2, fun a r h1 i _ => z0_A h1 i⟩, fun q hq => ?_, ht⟩
  · have := (D_iff.mp hD).1
    unfold cW at this
    rw [List.map_map] at this
    exact this
  · obtain ⟨c, hc, e⟩ := hin a ha
    exact e ▸ List.mem_map_of_mem hc
  · obtain ⟨c, hc, e⟩ := hin a (lyO_in h1).2.2
    have h1 : lyO (f a).1 = some o := h1
    rw [← e, hf1 c hc] at h1
    have hc2 := (hok c hc).2.1 o k t h1 h2
    have hk : hasK cl (c.2.2 k) t := hc2.elim (fun h => False.elim h) id
    show (f ((f a).2 k)).1 = t
    rw [← e, hf1 c hc]
    exact ht _ _ hk
  · obtain ⟨c, hc, e⟩ := hin a (lyR_in h1).2.2
    have h1 : lyR (f a).1 = some r := h1
    rw [← e, hf1 c hc] at h1
    have hc2 := (hok c hc).2.2 r h1 i hi
    have hk : hasK cl (c.2.2 i) r.2.2 := hc2.elim (fun h => False.elim h) id
    show (f ((f a).2 i)).1 = r.2.2
    rw [← e, hf1 c hc]
    exact ht _ _ hk
  · have e : ([] ++ va_pl (cl.map Prod.fst) (cF cA (fun a => (f a).1) (fun a => (f a).2) (fun a k => z0 (f a).1 k)) : va_W) = cW cA cl := by
      show List.map _ (List.map Prod.fst cl) = List.map _ cl
      rw [List.map_map]
      refine List.map_congr_left fun c hc => ?_
      show (c.1, cF cA _ _ _ c.1) = (c.1, cF cA _ _ _ c.1)
      rw [cF_congr (τ' := fun _ => c.2.1) (G' := fun _ => c.2.2) (σ' := fun _ => z0 c.2.1)]
      · show (f c.1).1 = c.2.1
        rw [hf1 c hc]
      · intro k
        show (f c.1).2 k = c.2.2 k
        rw [hf1 c hc]
      · intro k
        show z0 (f c.1).1 k = z0 c.2.1 k
        rw [hf1 c hc]
    rw [e]
    exact hP
  · obtain ⟨c, hc, rfl⟩ := List.mem_map.mp hq
    exact (D_iff.mp hD).2 (cE cA c) (List.mem_map_of_mem hc)
theorem z40 (k : Nat) (h : k ≠ 1) (h2 : k ≠ 2) : z0 40 k = 0 := by unfold z0; rw [if_neg (by omega)]
theorem FK_0 : FK (z0 40) := by
  have e0 : z0 40 0 = 0 := rfl
  refine ⟨by rw [e0]; omega, by decide, by decide, fun i h0 h1 => ?_, fun i k h0 h1 => ?_, fun i j h0 h1 h2 => ?_⟩ <;> (exfalso; rw [e0] at *; omega)
theorem FQ_0 : FQ (z0 40) := by
  have e7 : z0 40 7 = 0 := rfl
  refine ⟨by rw [e7]; omega, fun s s0 s1 => ⟨?_, fun h => ?_, fun k k0 k1 => ?_⟩, fun c c0 c1 => ⟨?_, fun k k0 k1 => ?_⟩⟩
  · rw [z40 _ (by omega) (by omega)]; omega
  · exfalso; rw [e7] at h; omega
  · rw [z40 _ (by omega) (by omega)]; omega
  · rw [z40 _ (by omega) (by omega)]; omega
  · rw [z40 _ (by omega) (by omega)]; omega
theorem FM_0 : FM (z0 40) := by
  have e0 : z0 40 0 = 0 := rfl
  intro i d h0 h1
  rw [e0] at h1
  omega
theorem FM_dep {τ : Nat → Nat} {G : Nat → Nat → Nat} {L : List Nat} {o : Nat} {σ σ1 : Nat → Nat → Int} (hS : SW τ G L) (h0 : τ o = 13) (h : FM (σ (G o 0))) (hk : kp [40000, 13001] τ σ σ1) : FM (σ1 (G o 0)) := by
  have hf : τ (G o 0) = 40 := gty hS h0 (k := 0) rfl rfl
  have e : σ1 (G o 0) = σ (G o 0) := funext fun k => kp_at hk hf k 40000 (cdA 40 (by decide) k) (by decide)
  rw [e]; exact h
theorem ofNat_jI {n : Nat} : Int32.ofNat n = jI (n : Int) := (Int32.ofInt_eq_ofNat (n := n)).symm
