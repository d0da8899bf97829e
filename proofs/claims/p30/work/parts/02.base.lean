theorem mem_r {big : List Cond} (ws : List Cond) (ps : List Nat) (hp : ws = ps.filterMap (fun i => big[i]?)) : ∀ w ∈ ws, w ∈ big := by
  intro w hw
  rw [hp] at hw
  obtain ⟨i, -, hi⟩ := List.mem_filterMap.mp hw
  exact List.mem_of_getElem? hi
/-! ===== ints by their numbers ===== -/
def jI (x : Int) : Int32 := Int32.ofInt x
abbrev rg (x : Int) : Prop := -2147483648 ≤ x ∧ x < 2147483648
theorem jI_toInt {x : Int} (h : rg x) : (jI x).toInt = x := Int32.toInt_ofInt_of_le (by have := h.1; omega) (by have := h.2; omega)
theorem toInt_jI (v : Int32) : jI v.toInt = v := Int32.ofInt_toInt v
theorem rg_toInt (v : Int32) : rg v.toInt := ⟨by have := Int32.le_toInt v; omega, by have := Int32.toInt_lt v; omega⟩
theorem jI_add (x y : Int) : jI x + jI y = jI (x + y) := (Int32.ofInt_add x y).symm
theorem jI_sub (x y : Int) : jI x - jI y = jI (x - y) := (Int32.ofInt_sub x y).symm
theorem jI_mul (x y : Int) : jI x * jI y = jI (x * y) := (Int32.ofInt_mul x y).symm
theorem jI_lt {x y : Int} (hx : rg x) (hy : rg y) : jI x < jI y ↔ x < y := by rw [Int32.lt_iff_toInt_lt, jI_toInt hx, jI_toInt hy]
theorem jI_le {x y : Int} (hx : rg x) (hy : rg y) : jI x ≤ jI y ↔ x ≤ y := by rw [Int32.le_iff_toInt_le, jI_toInt hx, jI_toInt hy]
theorem jI_eq {x y : Int} (hx : rg x) (hy : rg y) : jI x = jI y ↔ x = y := by
  refine ⟨fun h => ?_, fun h => by rw [h]⟩
  have h1 := congrArg Int32.toInt h
  rwa [jI_toInt hx, jI_toInt hy] at h1
theorem jI_0 : jI 0 = 0 := rfl
theorem rg_0 : rg 0 := by omega
theorem jI_clamp {x : Int} (h : rg x) : (jI x).toNatClampNeg = x.toNat := by rw [← Int32.toNat_toInt, jI_toInt h]
theorem jI_nlt0 {x : Int} (h0 : 0 ≤ x) (h : rg x) : ¬ jI x < 0 := by rw [← jI_0, jI_lt h rg_0]; omega
theorem jI_in {x : Int} {n : Nat} (h0 : 0 ≤ x) (h : x < n) (hn : n < 2147483648) : vp_in (jI x) n := by
  have hr : rg x := by omega
  rintro (q | q)
  · exact jI_nlt0 h0 hr q
  · rw [jI_clamp hr] at q; omega
/-! ===== kinds of cells: objects (class, fields: a ref's kind or an int's bounds), arrays of ints (class, length, bounds), arrays of refs ===== -/
abbrev fdT : Type := Nat ⊕ (Int × Int)
abbrev fA : fdT := .inr (-2147483648, 2147483647)
abbrev fZ : fdT := .inr (0, 1)
abbrev fB (lo hi : Int) : fdT := .inr (lo, hi)
abbrev fR (t : Nat) : fdT := .inl t
def lyO : Nat → Option (Nat × List fdT)
  | 1 => some (0, [fR 3, fZ, fA, fA, fA])
  | 2 => some (1, [fR 4, fR 29, fB 0 150])
  | 3 => some (2, [fR 20, fB 0 24])
  | 4 => some (3, [fR 22, fR 23, fR 24, fB 0 150])
  | 5 => some (4, [fR 11, fB 0 150, fA, fB 0 151])
  | 6 => some (5, [fR 27, fR 27, fR 30, fR 30, fA])
  | 7 => some (6, [fR 28, fR 28, fR 31, fA])
  | 8 => some (7, [fR 10, fA, fA, fA])
  | 9 => some (8, [fR 11, fR 32, fR 7])
  | 10 => some (9, [fR 21, fB 0 240])
  | 11 => some (10, [fR 4, fA, fA, fR 25, fR 26, fA, fA, fA, fA])
  | 12 => some (11, [fR 10, fR 8, fR 3, fR 9, fR 9, fZ, fR 11, fR 11, fR 5, fR 6, fR 7, fR 2])
  | 13 => some (12, [fR 40, fZ, fR 41, fB 0 24, fB 0 150, fB 0 150, fR 42, fR 43, fB 0 150, fA, fR 44, fB 0 240, fB 0 200, fB 0 200, fA, fA, fR 45, fR 46, fR 47, fR 48, fR 49, fR 50, fB 0 20, fB 0 200, fB 0 24, fA, fA, fA, fA, fA, fA, fA, fA, fA, fA, fA, fA, fR 51, fB 0 8, fR 52, fB 0 150])
  | _ => none
/-- arrays of ints: the class's number (0 byte, 1 int, 2 boolean), the length, the bounds -/
def lyA : Nat → Option (Nat × Nat × (Int × Int))
  | 20 => some (0, 24, (-128, 127))
  | 21 => some (0, 240, (-128, 127))
  | 22 => some (0, 3600, (-128, 127))
  | 23 => some (1, 150, (0, 24))
  | 24 => some (1, 150, (-2147483648, 2147483647))
  | 25 => some (1, 150, (-1, 24))
  | 26 => some (2, 150, (0, 1))
  | 27 => some (1, 20, (-2147483648, 2147483647))
  | 28 => some (1, 8, (-2147483648, 2147483647))
  | 29 => some (1, 150, (-2147483648, 2147483647))
  | 40 => some (1, 17624, (-2147483648, 2147483647))
  | 41 => some (1, 24, (0, 255))
  | 42 => some (1, 151, (0, 150))
  | 43 => some (1, 150, (-2147483648, 2147483647))
  | 44 => some (0, 240, (-128, 127))
  | 45 => some (1, 20, (-2147483648, 2147483647))
  | 46 => some (1, 20, (-2147483648, 2147483647))
  | 47 => some (1, 20, (0, 200))
  | 48 => some (1, 20, (0, 24))
  | 49 => some (1, 20, (0, 200))
  | 50 => some (1, 20, (0, 24))
  | 51 => some (1, 224, (-2147483648, 2147483647))
  | 52 => some (1, 150, (0, 149))
  | _ => none
/-- arrays of refs: the class's number (3 Key, 4 Cursor), the length, the kind of what is in it -/
def lyR : Nat → Option (Nat × Nat × Nat)
  | 30 => some (3, 20, 3)
  | 31 => some (3, 8, 3)
  | 32 => some (4, 4, 1)
  | _ => none
theorem lyO_in {t : Nat} {o : Nat × List fdT} (h : lyO t = some o) : lyA t = none ∧ lyR t = none ∧ t ≠ 0 := by
  unfold lyO at h
  split at h <;> first | exact ⟨rfl, rfl, by decide⟩ | cases h
theorem lyA_in {t : Nat} {o : Nat × Nat × (Int × Int)} (h : lyA t = some o) : lyO t = none ∧ lyR t = none ∧ t ≠ 0 ∧ rg o.2.2.1 ∧ rg o.2.2.2 := by
  unfold lyA at h
  split at h <;> first | (cases h; exact ⟨rfl, rfl, by decide, by decide, by decide⟩) | cases h
theorem lyR_in {t : Nat} {o : Nat × Nat × Nat} (h : lyR t = some o) : lyO t = none ∧ lyA t = none ∧ t ≠ 0 := by
  unfold lyR at h
  split at h <;> first | exact ⟨rfl, rfl, by decide⟩ | cases h
/-- the values of an object's fields -/
def jFl (G : Nat → Nat → Nat) (σ : Nat → Nat → Int) (a : Nat) : List fdT → Nat → List Value
  | [], _ => []
  | .inl _ :: r, k => .ref (G a k) :: jFl G σ a r (k + 1)
  | .inr _ :: r, k => .int (jI (σ a k)) :: jFl G σ a r (k + 1)
def jFv (G : Nat → Nat → Nat) (σ : Nat → Nat → Int) (a : Nat) (f : fdT) (k : Nat) : Value := match f with
  | .inl _ => .ref (G a k)
  | .inr _ => .int (jI (σ a k))
theorem jFl_get {G : Nat → Nat → Nat} {σ : Nat → Nat → Int} {a : Nat} (fds : List fdT) : ∀ (j k : Nat) (f : fdT), fds[k]? = some f → (jFl G σ a fds j)[k]? = some (jFv G σ a f (j + k)) := by
  induction fds with
  | nil => intro j k f h; simp at h
  | cons q r ih =>
    intro j k f h
    cases k with
    | zero =>
      simp at h
      subst h
      cases q <;> rfl
    | succ k =>
      have h' : r[k]? = some f := by simpa using h
      have := ih (j + 1) k f h'
      rw [show j + 1 + k = j + (k + 1) by omega] at this
      cases q <;> (simp only [jFl, List.getElem?_cons_succ]; exact this)
theorem jFl_len {G : Nat → Nat → Nat} {σ : Nat → Nat → Int} {a : Nat} (fds : List fdT) : ∀ j, (jFl G σ a fds j).length = fds.length := by
  induction fds with
  | nil => intro j; rfl
  | cons q r ih => intro j; cases q <;> simp [jFl, ih]
def up2 (σ : Nat → Nat → Int) (a k : Nat) (v : Int) : Nat → Nat → Int := fun a' k' => if a' = a ∧ k' = k then v else σ a' k'
theorem up2_at (σ : Nat → Nat → Int) (a k : Nat) (v : Int) : up2 σ a k v a k = v := by simp [up2]
theorem up2_ne (σ : Nat → Nat → Int) {a k a' k' : Nat} (v : Int) (h : ¬ (a' = a ∧ k' = k)) : up2 σ a k v a' k' = σ a' k' := by simp [up2, h]
theorem jFl_eq {G : Nat → Nat → Nat} {σ σ' : Nat → Nat → Int} {a : Nat} (fds : List fdT) : ∀ j, (∀ k, j ≤ k → σ a k = σ' a k) → jFl G σ a fds j = jFl G σ' a fds j := by
  induction fds with
  | nil => intro j _; rfl
  | cons q r ih =>
    intro j h
    have := ih (j + 1) (fun k hk => h k (by omega))
    cases q
    · simp only [jFl, this]
    · simp only [jFl, this, h j (Nat.le_refl _)]
theorem jFl_set {G : Nat → Nat → Nat} {σ : Nat → Nat → Int} {a : Nat} (fds : List fdT) (v : Int) : ∀ (j k : Nat) (b : Int × Int), fds[k]? = some (.inr b) → (jFl G σ a fds j).set k (.int (jI v)) = jFl G (up2 σ a (j + k) v) a fds j := by
  induction fds with
  | nil => intro j k b h; simp at h
  | cons q r ih =>
    intro j k b h
    cases k with
    | zero =>
      simp at h
      subst h
      have := jFl_eq (G := G) (σ := σ) (σ' := up2 σ a j v) (a := a) r (j + 1) (fun k hk => (up2_ne σ v (by omega)).symm)
      simp only [jFl, List.set_cons_zero, Nat.add_zero, up2_at, this]
    | succ k =>
      have h' : r[k]? = some (.inr b) := by simpa using h
      have := ih (j + 1) k b h'
      rw [show j + 1 + k = j + (k + 1) by omega] at this
      cases q
      · simp only [jFl, List.set_cons_succ, this]
      · simp only [jFl, List.set_cons_succ, this, up2_ne σ v (show ¬ (a = a ∧ j = j + (k + 1)) by omega)]
def cF (cA : Nat → ClassId) (τ : Nat → Nat) (G : Nat → Nat → Nat) (σ : Nat → Nat → Int) (a : Nat) : va_E :=
  match lyO (τ a) with
  | some o => .inr (o.1, jFl G σ a o.2 0)
  | none => match lyA (τ a) with
    | some r => .inl (cA r.1, r.2.1, .inl (fun i => jI (σ a i)))
    | none => match lyR (τ a) with
      | some r => .inl (cA r.1, r.2.1, .inr (.inr (.inr (.inr (fun i => some (G a i))))))
      | none => .inl (cA 0, 0, .inl (fun _ => 0))
theorem cF_O {cA : Nat → ClassId} {τ : Nat → Nat} {G : Nat → Nat → Nat} {σ : Nat → Nat → Int} {a t ci : Nat} {fds : List fdT} (ha : τ a = t) (h : lyO t = some (ci, fds)) : cF cA τ G σ a = .inr (ci, jFl G σ a fds 0) := by
  subst ha; simp [cF, h]
theorem cF_A {cA : Nat → ClassId} {τ : Nat → Nat} {G : Nat → Nat → Nat} {σ : Nat → Nat → Int} {a t ck n : Nat} {b : Int × Int} (ha : τ a = t) (h : lyA t = some (ck, n, b)) : cF cA τ G σ a = .inl (cA ck, n, .inl (fun i => jI (σ a i))) := by
  subst ha; simp [cF, h, (lyA_in h).1]
theorem cF_R {cA : Nat → ClassId} {τ : Nat → Nat} {G : Nat → Nat → Nat} {σ : Nat → Nat → Int} {a t ck n t' : Nat} (ha : τ a = t) (h : lyR t = some (ck, n, t')) : cF cA τ G σ a = .inl (cA ck, n, .inr (.inr (.inr (.inr (fun i => some (G a i)))))) := by
  subst ha; simp [cF, h, (lyR_in h).1, (lyR_in h).2.1]
/-- the ints are within their kinds' bounds -/
def TI (τ : Nat → Nat) (σ : Nat → Nat → Int) : Prop := (∀ (a : Nat) (o : Nat × List fdT) (k : Nat) (b : Int × Int), lyO (τ a) = some o → o.2[k]? = some (.inr b) → b.1 ≤ σ a k ∧ σ a k ≤ b.2) ∧ ∀ (a : Nat) (r : Nat × Nat × (Int × Int)), lyA (τ a) = some r → ∀ i, i < r.2.1 → r.2.2.1 ≤ σ a i ∧ σ a i ≤ r.2.2.2
/-- what the refs lead to -/
def TG (τ : Nat → Nat) (G : Nat → Nat → Nat) : Prop := (∀ (a : Nat) (o : Nat × List fdT) (k t : Nat), lyO (τ a) = some o → o.2[k]? = some (.inl t) → τ (G a k) = t) ∧ ∀ (a : Nat) (r : Nat × Nat × Nat), lyR (τ a) = some r → ∀ i, i < r.2.1 → τ (G a i) = r.2.2
def SW (τ : Nat → Nat) (G : Nat → Nat → Nat) (L : List Nat) : Prop := L.Nodup ∧ (∀ a, τ a ≠ 0 → a ∈ L) ∧ TG τ G
def PW (D : va_G) (cA : Nat → ClassId) (τ : Nat → Nat) (G : Nat → Nat → Nat) (L : List Nat) (σ : Nat → Nat → Int) (H : Heap) : Prop := va_P D vwCl ([] ++ va_pl L (cF cA τ G σ)) H ∧ TI τ σ
abbrev tyL (cA : Nat → ClassId) : List (ClassId × FieldType) := [(cA 0, .byte), (cA 1, .int), (cA 2, .boolean), (cA 3, .object "PageTrie$Key"), (cA 4, .object "PageTrie$Cursor")]
abbrev nest1 : Cond := .methodLinkNest RX7 48 yX11_isKeyByte RX11
abbrev nest2 : Cond := .methodLinkNest RX7 58 yX11_isDigit RX11
def XK (D : va_G) (cA : Nat → ClassId) (U : State) : Prop := va_K D vwCl (tyL cA) U ∧ va_Nw nest1 U ∧ va_Nw nest2 U
theorem XK.warm {D : va_G} {cA : Nat → ClassId} {s U : State} (hW : s.WarmedH U.vm) (h : XK D cA s) : XK D cA U := ⟨va_K.moved hW.alike h.1, va_Nw.warmM hW h.2.1, va_Nw.warmM hW h.2.2⟩
def jP (D : va_G) (cA : Nat → ClassId) (τ : Nat → Nat) (G : Nat → Nat → Nat) (L : List Nat) (σ : Nat → Nat → Int) (av : List Value) : Array Value → State → Prop := va_Pc av (fun U => PW D cA τ G L σ U.heap ∧ XK D cA U)
theorem jP_blind {D : va_G} {cA : Nat → ClassId} {τ : Nat → Nat} {G : Nat → Nat → Nat} {L : List Nat} {σ : Nat → Nat → Int} {av : List Value} : FrameBlind (jP D cA τ G L σ av) := by
  intro a U g mk q
  obtain ⟨q1, q2, q3, q4, q5⟩ := q
  exact ⟨q1, q2, va_K.moved (u := U) (U := U.calling g mk a) (Vm.Alike.refl U.vm) q3, q4, q5⟩
theorem gty {τ : Nat → Nat} {G : Nat → Nat → Nat} {L : List Nat} (hS : SW τ G L) {a t ci k t' : Nat} {fds : List fdT} (ha : τ a = t) (hl : lyO t = some (ci, fds)) (hf : fds[k]? = some (.inl t')) : τ (G a k) = t' := hS.2.2.1 a (ci, fds) k t' (by rw [ha]; exact hl) hf
theorem gtyR {τ : Nat → Nat} {G : Nat → Nat → Nat} {L : List Nat} (hS : SW τ G L) {a t ck n t' : Nat} (ha : τ a = t) (hl : lyR t = some (ck, n, t')) {i : Int} (h0 : 0 ≤ i) (hi : i < n) : τ (G a i.toNat) = t' := hS.2.2.2 a (ck, n, t') (by rw [ha]; exact hl) i.toNat (by show i.toNat < n; omega)
theorem fbd {D : va_G} {cA : Nat → ClassId} {τ : Nat → Nat} {G : Nat → Nat → Nat} {L : List Nat} {σ : Nat → Nat → Int} {H : Heap} (hW : PW D cA τ G L σ H) {a t ci k : Nat} {fds : List fdT} {lo hi : Int} (ha : τ a = t) (hl : lyO t = some (ci, fds)) (hf : fds[k]? = some (.inr (lo, hi))) : lo ≤ σ a k ∧ σ a k ≤ hi := hW.2.1 a (ci, fds) k (lo, hi) (by rw [ha]; exact hl) hf
theorem abd {D : va_G} {cA : Nat → ClassId} {τ : Nat → Nat} {G : Nat → Nat → Nat} {L : List Nat} {σ : Nat → Nat → Int} {H : Heap} (hW : PW D cA τ G L σ H) {a t ck n : Nat} {lo hi : Int} (ha : τ a = t) (hl : lyA t = some (ck, n, (lo, hi))) {i : Int} (h0 : 0 ≤ i) (hi' : i < n) : lo ≤ σ a i.toNat ∧ σ a i.toNat ≤ hi := hW.2.2 a (ck, n, (lo, hi)) (by rw [ha]; exact hl) i.toNat (by show i.toNat < n; omega)
theorem TI.put {τ : Nat → Nat} {σ : Nat → Nat → Int} (h : TI τ σ) {a t ci k : Nat} {fds : List fdT} {lo hi v : Int} (ha : τ a = t) (hl : lyO t = some (ci, fds)) (hf : fds[k]? = some (.inr (lo, hi))) (hv : lo ≤ v ∧ v ≤ hi) : TI τ (up2 σ a k v) := by
  subst ha
  refine ⟨fun a' o k' b ho hb => ?_, fun a' r hr i hi => ?_⟩
  · by_cases e : a' = a ∧ k' = k
    · obtain ⟨rfl, rfl⟩ := e
      rw [hl] at ho
      cases ho
      have hb : fds[k']? = some (.inr b) := hb
      rw [hf] at hb
      cases hb
      rw [up2_at]; exact hv
    · rw [up2_ne σ v e]; exact h.1 a' o k' b ho hb
  · have e : ¬ (a' = a ∧ i = k) := by
      rintro ⟨rfl, -⟩
      rw [(lyO_in hl).1] at hr
      cases hr
    rw [up2_ne σ v e]; exact h.2 a' r hr i hi
theorem TI.ast {τ : Nat → Nat} {σ : Nat → Nat → Int} (h : TI τ σ) {a t ck n : Nat} {lo hi v : Int} (ha : τ a = t) (hl : lyA t = some (ck, n, (lo, hi))) (j : Nat) (hv : lo ≤ v ∧ v ≤ hi) : TI τ (up2 σ a j v) := by
  subst ha
  refine ⟨fun a' o k' b ho hb => ?_, fun a' r hr i hi => ?_⟩
  · have e : ¬ (a' = a ∧ k' = j) := by
      rintro ⟨rfl, -⟩
      rw [(lyA_in hl).1] at ho
      cases ho
    rw [up2_ne σ v e]; exact h.1 a' o k' b ho hb
  · by_cases e : a' = a ∧ i = j
    · obtain ⟨rfl, rfl⟩ := e
      rw [hl] at hr
      cases hr
      rw [up2_at]; exact hv
    · rw [up2_ne σ v e]; exact h.2 a' r hr i hi
theorem pl_D {L : List Nat} {A : Nat → Prop} (hA : ∀ q ∈ L, A q) (hn : L.Nodup) (f : Nat → va_E) : va_D A ([] ++ va_pl L f) := by
  refine ⟨fun i j p q hp hq h => ?_, fun k q hk => ?_⟩
  · simp only [List.nil_append, va_pl, List.getElem?_map] at hp hq
    cases hi : L[i]? with
    | none => rw [hi] at hp; cases hp
    | some x =>
      cases hj : L[j]? with
      | none => rw [hj] at hq; cases hq
      | some y =>
        rw [hi] at hp; rw [hj] at hq
        cases hp; cases hq
        have h : x = y := h
        subst h
        exact (List.getElem?_inj (List.getElem?_eq_some_iff.mp hi).1 hn).mp (hi.trans hj.symm)
  · simp only [List.nil_append, va_pl, List.getElem?_map] at hk
    cases hi : L[k]? with
    | none => rw [hi] at hk; cases hk
    | some x =>
      rw [hi] at hk
      cases hk
      exact hA x (List.mem_of_getElem? hi)
/-- a place's code: of an object its kind and field, of an array its kind -/
def cdd (t k : Nat) : Nat := if t < 20 then t * 1000 + k else t * 1000
/-- what a method leaves as it was: all places but those of the codes told -/
def fr (ws : List Nat) (τ : Nat → Nat) (σ σ1 : Nat → Nat → Int) : Prop := ∀ a k, ¬ cdd (τ a) k ∈ ws → σ1 a k = σ a k
/-- what stays as it was: the places of the codes told -/
def kp (ds : List Nat) (τ : Nat → Nat) (σ σ1 : Nat → Nat → Int) : Prop := ∀ a k, cdd (τ a) k ∈ ds → σ1 a k = σ a k
theorem fr_rf {ws : List Nat} {τ : Nat → Nat} {σ : Nat → Nat → Int} : fr ws τ σ σ := fun _ _ _ => rfl
theorem fr_up {ws : List Nat} {τ : Nat → Nat} {σ σ1 σ2 : Nat → Nat → Int} {a k t : Nat} {v : Int} (h : fr ws τ σ σ1) (e : σ2 = up2 σ1 a k v) (ha : τ a = t) (c : Nat) (hc : cdd t k = c) (ht : c ∈ ws) : fr ws τ σ σ2 := by
  intro b j hb
  rw [e, up2_ne σ1 v (fun q => hb (by rw [q.1, q.2, ha, hc]; exact ht))]
  exact h b j hb
theorem fr_cp {ws : List Nat} {τ : Nat → Nat} {σ σ1 σ2 : Nat → Nat → Int} {a t : Nat} (h : fr ws τ σ σ1) (e : ∀ b k, ¬ b = a → σ2 b k = σ1 b k) (ha : τ a = t) (c : Nat) (hc : ∀ k, cdd t k = c) (ht : c ∈ ws) : fr ws τ σ σ2 := by
  intro b j hb
  rw [e b j (fun q => hb (by rw [q, ha, hc]; exact ht))]
  exact h b j hb
theorem fr_call {ws ws1 : List Nat} {τ : Nat → Nat} {σ σ1 σ2 : Nat → Nat → Int} (h : fr ws τ σ σ1) (h1 : fr ws1 τ σ1 σ2) (hs : ∀ t ∈ ws1, t ∈ ws) : fr ws τ σ σ2 := fun b j hb => (h1 b j (fun q => hb (hs _ q))).trans (h b j hb)
theorem kp_up {ds : List Nat} {τ : Nat → Nat} {σ1 σ2 : Nat → Nat → Int} {a k t : Nat} {v : Int} (e : σ2 = up2 σ1 a k v) (ha : τ a = t) (c : Nat) (hc : cdd t k = c) (ht : ¬ c ∈ ds) : kp ds τ σ1 σ2 := by
  intro b j hb
  rw [e, up2_ne σ1 v (fun q => ht (by rw [q.1, q.2, ha, hc] at hb; exact hb))]
theorem kp_cp {ds : List Nat} {τ : Nat → Nat} {σ1 σ2 : Nat → Nat → Int} {a t : Nat} (e : ∀ b k, ¬ b = a → σ2 b k = σ1 b k) (ha : τ a = t) (c : Nat) (hc : ∀ k, cdd t k = c) (ht : ¬ c ∈ ds) : kp ds τ σ1 σ2 := by
  intro b j hb
  exact e b j (fun q => ht (by rw [q, ha, hc] at hb; exact hb))
theorem kp_fr {ds ws : List Nat} {τ : Nat → Nat} {σ1 σ2 : Nat → Nat → Int} (h : fr ws τ σ1 σ2) (hd : ∀ t ∈ ds, ¬ t ∈ ws) : kp ds τ σ1 σ2 := fun b j hb => h b j (hd _ hb)
theorem kp_at {ds : List Nat} {τ : Nat → Nat} {σ1 σ2 : Nat → Nat → Int} (h : kp ds τ σ1 σ2) {a t : Nat} (ha : τ a = t) (k c : Nat) (hc : cdd t k = c) (hd : c ∈ ds) : σ2 a k = σ1 a k := h a k (by rw [ha, hc]; exact hd)
theorem fr_at {ws : List Nat} {τ : Nat → Nat} {σ1 σ2 : Nat → Nat → Int} (h : fr ws τ σ1 σ2) {a t : Nat} (ha : τ a = t) (k c : Nat) (hc : cdd t k = c) (hd : ¬ c ∈ ws) : σ2 a k = σ1 a k := h a k (by rw [ha, hc]; exact hd)
theorem cdA (t : Nat) (h : 20 ≤ t) (k : Nat) : cdd t k = t * 1000 := by unfold cdd; rw [if_neg (by omega)]
theorem cdO (t k : Nat) (h : t < 20) : cdd t k = t * 1000 + k := by unfold cdd; rw [if_pos h]
