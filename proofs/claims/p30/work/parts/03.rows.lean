section JR
variable {p : Program} {l : Launch} {e : Env} {R : Room} {s : State} {m : MethodId} {args : Array Value} {below : List Frame} {meth : Method} {c : Code} {H : Heap} {locs : List Loc} {cells slots : Nat} {Q : State → Prop}
variable {cc : ByteArray} {pc : Nat} {ls : Array Slot} {rest : List Value} {D : va_G} {cA : Nat → ClassId} {τ : Nat → Nat} {G : Nat → Nat → Nat} {L : List Nat} {σ : Nat → Nat → Int} {A : Nat → Prop} {a t : Nat} {H0 : Heap}
theorem SW.mem (hS : SW τ G L) (ha : τ a = t) (ht : t ≠ 0) : a ∈ L := hS.2.1 a (by rw [ha]; exact ht)
theorem j_get (hx : p.tables.exec = Jvm.exec) (hb : c.code = cc) {own C : String} {T : u_T} {N ci index : Nat} {Ts : List Cond} (hts : ∀ w ∈ Ts, w.before args s = true) (hin : ∀ w ∈ u_ws C T N, w ∈ Ts) (hown : s.vm.findClass own = some m.cls) (hK : XK D cA s) (hS : SW τ G L) (hW : PW D cA τ G L σ H) (ha : τ a = t) {fds : List fdT} (hl : lyO t = some (ci, fds)) (k : Nat) {f : fdT} (hf : fds[k]? = some f) (hc : vwCl[ci]? = some (C, T, N)) (hk : k < N) (hlink : (Cond.fieldLink own index (T k).1 (T k).2.1 (T k).2.2.1).before args s = true) (hdg : decode cc pc = .ok (.getfield index, 3))
    (kk : W p l e R s m args below meth c H locs cells slots Q (F0 m (pc + 3) ls (jFv G σ a f k :: rest))) : W p l e R s m args below meth c H locs cells slots Q (F0 m pc ls (.ref a :: rest)) := by
  obtain ⟨q0, hq⟩ := va_pl_get (X := []) (f := cF cA τ G σ) (hS.mem ha (lyO_in hl).2.2)
  rw [cF_O ha hl] at hq
  have hg := jFl_get (G := G) (σ := σ) (a := a) fds 0 k f hf
  rw [Nat.zero_add] at hg
  exact va_get hx hb hts hin hown hK.1 hW.1 q0 hq hc k hk hlink (fun _ h => h) hg hdg kk
theorem j_getI (hx : p.tables.exec = Jvm.exec) (hb : c.code = cc) {own C : String} {T : u_T} {N ci index : Nat} {Ts : List Cond} (hts : ∀ w ∈ Ts, w.before args s = true) (hin : ∀ w ∈ u_ws C T N, w ∈ Ts) (hown : s.vm.findClass own = some m.cls) (hK : XK D cA s) (hS : SW τ G L) (hW : PW D cA τ G L σ H) (ha : τ a = t) {fds : List fdT} (hl : lyO t = some (ci, fds)) (k : Nat) {b : Int × Int} (hf : fds[k]? = some (.inr b)) (hc : vwCl[ci]? = some (C, T, N)) (hk : k < N) (hlink : (Cond.fieldLink own index (T k).1 (T k).2.1 (T k).2.2.1).before args s = true) (hdg : decode cc pc = .ok (.getfield index, 3))
    (kk : W p l e R s m args below meth c H locs cells slots Q (F0 m (pc + 3) ls (.int (jI (σ a k)) :: rest))) : W p l e R s m args below meth c H locs cells slots Q (F0 m pc ls (.ref a :: rest)) := j_get hx hb hts hin hown hK hS hW ha hl k hf hc hk hlink hdg kk
theorem j_getR (hx : p.tables.exec = Jvm.exec) (hb : c.code = cc) {own C : String} {T : u_T} {N ci index : Nat} {Ts : List Cond} (hts : ∀ w ∈ Ts, w.before args s = true) (hin : ∀ w ∈ u_ws C T N, w ∈ Ts) (hown : s.vm.findClass own = some m.cls) (hK : XK D cA s) (hS : SW τ G L) (hW : PW D cA τ G L σ H) (ha : τ a = t) {fds : List fdT} (hl : lyO t = some (ci, fds)) (k : Nat) {t' : Nat} (hf : fds[k]? = some (.inl t')) (hc : vwCl[ci]? = some (C, T, N)) (hk : k < N) (hlink : (Cond.fieldLink own index (T k).1 (T k).2.1 (T k).2.2.1).before args s = true) (hdg : decode cc pc = .ok (.getfield index, 3))
    (kk : W p l e R s m args below meth c H locs cells slots Q (F0 m (pc + 3) ls (.ref (G a k) :: rest))) : W p l e R s m args below meth c H locs cells slots Q (F0 m pc ls (.ref a :: rest)) := j_get hx hb hts hin hown hK hS hW ha hl k hf hc hk hlink hdg kk
theorem PW.put (hS : SW τ G L) (hW : PW D cA τ G L σ H) (ha : τ a = t) {ci : Nat} {fds : List fdT} (hl : lyO t = some (ci, fds)) {k : Nat} {lo hi v : Int} (hf : fds[k]? = some (.inr (lo, hi))) (hv : lo ≤ v ∧ v ≤ hi) {q0 : Nat} (hq : ([] ++ va_pl L (cF cA τ G σ))[q0]? = some (a, cF cA τ G σ a)) {H1 : Heap} (hP : va_P D vwCl (([] ++ va_pl L (cF cA τ G σ)).set q0 (a, .inr (ci, (jFl G σ a fds 0).set k (.int (jI v))))) H1) : PW D cA τ G L (up2 σ a k v) H1 := by
  refine ⟨?_, hW.2.put ha hl hf hv⟩
  have hm := hS.mem ha (lyO_in hl).2.2
  rw [va_pl_set (A := fun _ => True) (pl_D (fun _ _ => trivial) hS.1 _) hm hq, jFl_set fds v 0 k (lo, hi) hf, Nat.zero_add] at hP
  rw [show va_pl L (cF cA τ G (up2 σ a k v)) = va_pl L (va_up (cF cA τ G σ) a (.inr (ci, jFl G (up2 σ a k v) a fds 0))) from va_pl_congr fun b => ?_]
  · exact hP
  · by_cases e : b = a
    · subst e
      rw [va_up_self, cF_O ha hl]
    · rw [va_up_ne _ _ e]
      have e2 : ∀ k', up2 σ a k v b k' = σ b k' := fun k' => up2_ne σ v (fun h => e h.1)
      unfold cF
      rw [show (fun i => jI (up2 σ a k v b i)) = (fun i => jI (σ b i)) from funext fun i => by rw [e2]]
      split
      · rename_i o _
        rw [jFl_eq (σ' := σ) o.2 0 (fun k' _ => e2 k')]
      · rfl
theorem j_putI (hx : p.tables.exec = Jvm.exec) (hb : c.code = cc) {own C : String} {T : u_T} {N ci index : Nat} {Ts : List Cond} (hts : ∀ w ∈ Ts, w.before args s = true) (hin : ∀ w ∈ u_ws C T N, w ∈ Ts) (ty0 : Nat → FieldType) (hty : ∀ k, k < N → parseFieldDescriptor (T k).2.2.1 = some (ty0 k)) (hnm : ∀ a, a < N → ∀ b, b < N → a ≠ b → (T a).2.1 ≠ (T b).2.1) (hown : s.vm.findClass own = some m.cls) (hK : XK D cA s) (hS : SW τ G L) (hA : ∀ q ∈ L, A q) (hW : PW D cA τ G L σ H) (hF : va_S A H0 H locs) (ha : τ a = t) {fds : List fdT} (hl : lyO t = some (ci, fds)) (k : Nat) {lo hi : Int} (hf : fds[k]? = some (.inr (lo, hi))) (hc : vwCl[ci]? = some (C, T, N)) (hk : k < N) (hlink : (Cond.fieldLink own index (T k).1 (T k).2.1 (T k).2.2.1).before args s = true) (hfin : (T k).2.2.2 = false) (ty : FieldType) (htk : ty0 k = ty) {v : Int} (hv : lo ≤ v ∧ v ≤ hi) (hn : narrow ty (.int (jI v)) = .int (jI v)) (hfit : fits ty (.int (jI v)) = true) (hdg : decode cc pc = .ok (.putfield index, 3))
    (kk : ∀ (σ1 : Nat → Nat → Int) (H1 : Heap) (locs1 : List Loc), σ1 = up2 σ a k v → PW D cA τ G L σ1 H1 → va_S A H0 H1 locs1 → W p l e R s m args below meth c H1 locs1 cells slots Q (F0 m (pc + 3) ls rest)) : W p l e R s m args below meth c H locs cells slots Q (F0 m pc ls (.int (jI v) :: .ref a :: rest)) := by
  obtain ⟨q0, hq⟩ := va_pl_get (X := []) (f := cF cA τ G σ) (hS.mem ha (lyO_in hl).2.2)
  have hq' := hq
  rw [cF_O ha hl] at hq'
  have hlen : k < (jFl G σ a fds 0).length := by rw [jFl_len]; exact (List.getElem?_eq_some_iff.mp hf).1
  exact va_put hx hb hts hin ty0 hty hnm hown hK.1 hW.1 (pl_D hA hS.1 _) hF q0 hq' hc k hk hlink (fun _ h => h) hfin (by rw [hty k hk, htk]) hn hfit hlen hdg (fun H1 locs1 hP _ hS1 => kk _ H1 locs1 rfl (hW.put hS ha hl hf hv hq hP) hS1)
theorem j_ald (hx : p.tables.exec = Jvm.exec) (hb : c.code = cc) (hK : XK D cA s) (hS : SW τ G L) (hW : PW D cA τ G L σ H) (ha : τ a = t) {n : Nat} {b : Int × Int} (hl : lyA t = some (1, n, b)) {x : Int} (h0 : 0 ≤ x) (h1 : x < n) (hn : n < 2147483648) (hdg : decode cc pc = .ok (.iaload, 1))
    (kk : W p l e R s m args below meth c H locs cells slots Q (F0 m (pc + 1) ls (.int (jI (σ a x.toNat)) :: rest))) : W p l e R s m args below meth c H locs cells slots Q (F0 m pc ls (.int (jI x) :: .ref a :: rest)) := by
  obtain ⟨q0, hq⟩ := va_pl_get (X := []) (f := cF cA τ G σ) (hS.mem ha (lyA_in hl).2.2.1)
  rw [cF_A ha hl] at hq
  refine va_iald hx hb hK.1 hW.1 q0 1 hq rfl (jI_in h0 h1 hn) hdg ?_
  rw [jI_clamp (by omega)]
  exact kk
theorem j_bald (hx : p.tables.exec = Jvm.exec) (hb : c.code = cc) (hK : XK D cA s) (hS : SW τ G L) (hW : PW D cA τ G L σ H) (ha : τ a = t) {n : Nat} {b : Int × Int} (hl : lyA t = some (0, n, b)) {x : Int} (h0 : 0 ≤ x) (h1 : x < n) (hn : n < 2147483648) (hdg : decode cc pc = .ok (.baload, 1))
    (kk : W p l e R s m args below meth c H locs cells slots Q (F0 m (pc + 1) ls (.int (jI (σ a x.toNat)) :: rest))) : W p l e R s m args below meth c H locs cells slots Q (F0 m pc ls (.int (jI x) :: .ref a :: rest)) := by
  obtain ⟨q0, hq⟩ := va_pl_get (X := []) (f := cF cA τ G σ) (hS.mem ha (lyA_in hl).2.2.1)
  rw [cF_A ha hl] at hq
  refine va_bald hx hb hK.1 hW.1 q0 0 hq rfl (jI_in h0 h1 hn) hdg ?_
  rw [jI_clamp (by omega)]
  exact kk
theorem j_zald (hx : p.tables.exec = Jvm.exec) (hb : c.code = cc) (hK : XK D cA s) (hS : SW τ G L) (hW : PW D cA τ G L σ H) (ha : τ a = t) {n : Nat} {b : Int × Int} (hl : lyA t = some (2, n, b)) {x : Int} (h0 : 0 ≤ x) (h1 : x < n) (hn : n < 2147483648) (hdg : decode cc pc = .ok (.baload, 1))
    (kk : W p l e R s m args below meth c H locs cells slots Q (F0 m (pc + 1) ls (.int (jI (σ a x.toNat)) :: rest))) : W p l e R s m args below meth c H locs cells slots Q (F0 m pc ls (.int (jI x) :: .ref a :: rest)) := by
  obtain ⟨q0, hq⟩ := va_pl_get (X := []) (f := cF cA τ G σ) (hS.mem ha (lyA_in hl).2.2.1)
  rw [cF_A ha hl] at hq
  refine va_zald hx hb hK.1 hW.1 q0 2 hq rfl (jI_in h0 h1 hn) hdg ?_
  rw [jI_clamp (by omega)]
  exact kk
theorem PW.ast (hS : SW τ G L) (hW : PW D cA τ G L σ H) (ha : τ a = t) {ck n : Nat} {lo hi : Int} (hl : lyA t = some (ck, n, (lo, hi))) (j : Nat) {v : Int} (hv : lo ≤ v ∧ v ≤ hi) {q0 : Nat} (hq : ([] ++ va_pl L (cF cA τ G σ))[q0]? = some (a, cF cA τ G σ a)) {f : Nat → Int32} (hf : ∀ i, f i = if i = j then jI v else jI (σ a i)) {H1 : Heap} (hP : va_P D vwCl (([] ++ va_pl L (cF cA τ G σ)).set q0 (a, .inl (cA ck, n, .inl f))) H1) : PW D cA τ G L (up2 σ a j v) H1 := by
  refine ⟨?_, hW.2.ast ha hl j hv⟩
  have hm := hS.mem ha (lyA_in hl).2.2.1
  rw [va_pl_set (A := fun _ => True) (pl_D (fun _ _ => trivial) hS.1 _) hm hq] at hP
  rw [show va_pl L (cF cA τ G (up2 σ a j v)) = va_pl L (va_up (cF cA τ G σ) a (.inl (cA ck, n, .inl f))) from va_pl_congr fun b => ?_]
  · exact hP
  · by_cases e : b = a
    · subst e
      rw [va_up_self, cF_A ha hl]
      rw [show f = (fun i => jI (up2 σ b j v b i)) from funext fun i => by rw [hf i]; unfold up2; by_cases h : i = j <;> simp [h]]
    · rw [va_up_ne _ _ e]
      have e2 : ∀ k', up2 σ a j v b k' = σ b k' := fun k' => up2_ne σ v (fun h => e h.1)
      unfold cF
      rw [show (fun i => jI (up2 σ a j v b i)) = (fun i => jI (σ b i)) from funext fun i => by rw [e2]]
      split
      · rename_i o _
        rw [jFl_eq (σ' := σ) o.2 0 (fun k' _ => e2 k')]
      · rfl
theorem j_ast (hx : p.tables.exec = Jvm.exec) (hb : c.code = cc) (hK : XK D cA s) (hS : SW τ G L) (hA : ∀ q ∈ L, A q) (hW : PW D cA τ G L σ H) (hF : va_S A H0 H locs) (ha : τ a = t) {n : Nat} {lo hi : Int} (hl : lyA t = some (1, n, (lo, hi))) {x v : Int} (h0 : 0 ≤ x) (h1 : x < n) (hn : n < 2147483648) (hv : lo ≤ v ∧ v ≤ hi) (hdg : decode cc pc = .ok (.iastore, 1))
    (kk : ∀ (σ1 : Nat → Nat → Int) (H1 : Heap) (locs1 : List Loc), σ1 = up2 σ a x.toNat v → PW D cA τ G L σ1 H1 → va_S A H0 H1 locs1 → W p l e R s m args below meth c H1 locs1 cells slots Q (F0 m (pc + 1) ls rest)) : W p l e R s m args below meth c H locs cells slots Q (F0 m pc ls (.int (jI v) :: .int (jI x) :: .ref a :: rest)) := by
  obtain ⟨q0, hq⟩ := va_pl_get (X := []) (f := cF cA τ G σ) (hS.mem ha (lyA_in hl).2.2.1)
  have hq' := hq
  rw [cF_A ha hl] at hq'
  refine va_iast hx hb hK.1 hW.1 (pl_D hA hS.1 _) hF q0 1 hq' rfl (jI_in h0 h1 hn) hdg (fun H1 locs1 hP _ hS1 => kk _ H1 locs1 rfl (hW.ast hS ha hl x.toNat hv hq (fun i => ?_) hP) hS1)
  rw [jI_clamp (by omega)]
  rfl
theorem nar_byte {v : Int} (h : -128 ≤ v ∧ v ≤ 127) : vp_nar .byte (jI v) = jI v := by
  rw [vp_nar_byte]
  apply Int32.toInt_inj.mp
  rw [Int8.toInt_toInt32, Int32.toInt_toInt8, jI_toInt (by omega), Int.bmod_def, show ((2 ^ 8 : Nat) : Int) = 256 from rfl]
  split <;> omega
theorem nar_bool {v : Int} (h : 0 ≤ v ∧ v ≤ 1) : vp_nar .boolean (jI v) = jI v := by
  have : v = 0 ∨ v = 1 := by omega
  rcases this with rfl | rfl <;> rfl
theorem j_bast (hx : p.tables.exec = Jvm.exec) (hb : c.code = cc) (hK : XK D cA s) (hS : SW τ G L) (hA : ∀ q ∈ L, A q) (hW : PW D cA τ G L σ H) (hF : va_S A H0 H locs) (ha : τ a = t) {n : Nat} (hl : lyA t = some (0, n, (-128, 127))) {x v : Int} (h0 : 0 ≤ x) (h1 : x < n) (hn : n < 2147483648) (hv : -128 ≤ v ∧ v ≤ 127) (hdg : decode cc pc = .ok (.bastore, 1))
    (kk : ∀ (σ1 : Nat → Nat → Int) (H1 : Heap) (locs1 : List Loc), σ1 = up2 σ a x.toNat v → PW D cA τ G L σ1 H1 → va_S A H0 H1 locs1 → W p l e R s m args below meth c H1 locs1 cells slots Q (F0 m (pc + 1) ls rest)) : W p l e R s m args below meth c H locs cells slots Q (F0 m pc ls (.int (jI v) :: .int (jI x) :: .ref a :: rest)) := by
  obtain ⟨q0, hq⟩ := va_pl_get (X := []) (f := cF cA τ G σ) (hS.mem ha (lyA_in hl).2.2.1)
  have hq' := hq
  rw [cF_A ha hl] at hq'
  refine va_bast hx hb hK.1 hW.1 (pl_D hA hS.1 _) hF q0 0 hq' rfl (jI_in h0 h1 hn) hdg (fun H1 locs1 hP _ hS1 => kk _ H1 locs1 rfl (hW.ast hS ha hl x.toNat hv hq (fun i => ?_) hP) hS1)
  rw [jI_clamp (by omega), nar_byte hv]
  rfl
theorem j_zast (hx : p.tables.exec = Jvm.exec) (hb : c.code = cc) (hK : XK D cA s) (hS : SW τ G L) (hA : ∀ q ∈ L, A q) (hW : PW D cA τ G L σ H) (hF : va_S A H0 H locs) (ha : τ a = t) {n : Nat} (hl : lyA t = some (2, n, (0, 1))) {x v : Int} (h0 : 0 ≤ x) (h1 : x < n) (hn : n < 2147483648) (hv : 0 ≤ v ∧ v ≤ 1) (hdg : decode cc pc = .ok (.bastore, 1))
    (kk : ∀ (σ1 : Nat → Nat → Int) (H1 : Heap) (locs1 : List Loc), σ1 = up2 σ a x.toNat v → PW D cA τ G L σ1 H1 → va_S A H0 H1 locs1 → W p l e R s m args below meth c H1 locs1 cells slots Q (F0 m (pc + 1) ls rest)) : W p l e R s m args below meth c H locs cells slots Q (F0 m pc ls (.int (jI v) :: .int (jI x) :: .ref a :: rest)) := by
  obtain ⟨q0, hq⟩ := va_pl_get (X := []) (f := cF cA τ G σ) (hS.mem ha (lyA_in hl).2.2.1)
  have hq' := hq
  rw [cF_A ha hl] at hq'
  refine va_zast hx hb hK.1 hW.1 (pl_D hA hS.1 _) hF q0 2 hq' rfl (jI_in h0 h1 hn) hdg (fun H1 locs1 hP _ hS1 => kk _ H1 locs1 rfl (hW.ast hS ha hl x.toNat hv hq (fun i => ?_) hP) hS1)
  rw [jI_clamp (by omega), nar_bool hv]
  rfl
theorem fit_byte {v : Int} (h : -128 ≤ v ∧ v ≤ 127) : fits .byte (.int (jI v)) = true := by
  have h1 : jI (-128) ≤ jI v := (jI_le (by omega) (by omega)).mpr h.1
  have h2 : jI v ≤ jI 127 := (jI_le (by omega) (by omega)).mpr h.2
  show (decide (jI (-128) ≤ jI v) && decide (jI v ≤ jI 127)) = true
  rw [decide_eq_true h1, decide_eq_true h2]
  rfl
theorem j_aald (hx : p.tables.exec = Jvm.exec) (hb : c.code = cc) (hK : XK D cA s) (hS : SW τ G L) (hW : PW D cA τ G L σ H) (ha : τ a = t) {ck n t' : Nat} (hl : lyR t = some (ck, n, t')) {C : String} (hty : (tyL cA)[ck]? = some (cA ck, .object C)) {x : Int} (h0 : 0 ≤ x) (h1 : x < n) (hn : n < 2147483648) (hdg : decode cc pc = .ok (.aaload, 1))
    (kk : W p l e R s m args below meth c H locs cells slots Q (F0 m (pc + 1) ls (.ref (G a x.toNat) :: rest))) : W p l e R s m args below meth c H locs cells slots Q (F0 m pc ls (.int (jI x) :: .ref a :: rest)) := by
  obtain ⟨q0, hq⟩ := va_pl_get (X := []) (f := cF cA τ G σ) (hS.mem ha (lyR_in hl).2.2)
  rw [cF_R ha hl] at hq
  refine va_aldq hx hb hK.1 hW.1 q0 ck hq hty (jI_in h0 h1 hn) hdg ?_
  rw [jI_clamp (by omega)]
  exact kk
theorem j_alenI (hx : p.tables.exec = Jvm.exec) (hb : c.code = cc) (hK : XK D cA s) (hS : SW τ G L) (hW : PW D cA τ G L σ H) (ha : τ a = t) {ck n : Nat} {b : Int × Int} (hl : lyA t = some (ck, n, b)) {ty : FieldType} (hty : (tyL cA)[ck]? = some (cA ck, ty)) {v : Int} (hv : Int32.ofNat n = jI v) (hdg : decode cc pc = .ok (.arraylength, 1))
    (kk : W p l e R s m args below meth c H locs cells slots Q (F0 m (pc + 1) ls (.int (jI v) :: rest))) : W p l e R s m args below meth c H locs cells slots Q (F0 m pc ls (.ref a :: rest)) := by
  obtain ⟨q0, hq⟩ := va_pl_get (X := []) (f := cF cA τ G σ) (hS.mem ha (lyA_in hl).2.2.1)
  rw [cF_A ha hl] at hq
  exact va_alen hx hb hK.1 hW.1 q0 ck hq hty hv hdg kk
theorem j_recv (hK : XK D cA s) (hS : SW τ G L) (hW : PW D cA τ G L σ H) (ha : τ a = t) {ci : Nat} {fds : List fdT} (hl : lyO t = some (ci, fds)) {q : vw_C} (hc : vwCl[ci]? = some q) : ∃ cell : Cell, H[a]? = some cell ∧ cell.vm.isStatics = false ∧ s.vm.findClass q.1 = some cell.cls := by
  obtain ⟨q0, hq⟩ := va_pl_get (X := []) (f := cF cA τ G σ) (hS.mem ha (lyO_in hl).2.2)
  rw [cF_O ha hl] at hq
  exact va_recv hK.1 hW.1 hc hq
/-- the copied row -/
def cpy2 (σ : Nat → Nat → Int) (a0 a1 : Nat) (sp dp n : Nat) : Nat → Nat → Int := fun a k => if a = a1 then va_cpy (σ a0) (σ a1) sp dp n k else σ a k
theorem cpy2_ne (σ : Nat → Nat → Int) {a0 a1 sp dp n a : Nat} (k : Nat) (h : ¬ a = a1) : cpy2 σ a0 a1 sp dp n a k = σ a k := by simp [cpy2, h]
theorem j_copy (hx : p.tables.exec = Jvm.exec) (hb : c.code = cc) (hml : c.maxLocals = ls.size) {own : String} {index : Nat} (hown : s.vm.findClass own = some m.cls) (hlink : (Cond.methodLink own index arraycopyName).before args s = true) (hnat : (Cond.native arraycopyName).before args s = true) (hstat : (Cond.static arraycopyName).before args s = true) (hini : (Cond.initialized "java/lang/System").before args s = true) (hK : XK D cA s) (hS : SW τ G L) (hA : ∀ q ∈ L, A q) (hW : PW D cA τ G L σ H) (hF : va_S A H0 H locs) {ty : FieldType} {a0 a1 : Nat} {t1 : Nat} (ha0 : τ a0 = t) (ha1 : τ a1 = t1) {ck n0 n1 : Nat} {b : Int × Int} (hl : lyA t = some (ck, n0, b)) (hl1 : lyA t1 = some (ck, n1, b)) (hty : (tyL cA)[ck]? = some (cA ck, ty)) (hck : (ty = .byte ∧ b = (-128, 127)) ∨ ty = .int ∨ (ty = .boolean ∧ b = (0, 1))) (hn0 : n0 < 2147483648) (hn1 : n1 < 2147483648)
    {sp dp n : Int} (h1 : 0 ≤ sp) (h2 : 0 ≤ dp) (h3 : 0 ≤ n) (h4 : sp + n ≤ n0) (h5 : dp + n ≤ n1)
    (hframes : 1 ≤ R.frames) (hlocals : (rest.map fun v => v.category).sum + (nativeFrameWords "java/lang/System" "arraycopy" 5 + 11) ≤ R.locals) (hdg : decode cc pc = .ok (.invokestatic index, 3))
    (kk : ∀ (σ1 : Nat → Nat → Int) (H1 : Heap) (locs1 : List Loc), (∀ a k, ¬ a = a1 → σ1 a k = σ a k) → PW D cA τ G L σ1 H1 → va_S A H0 H1 locs1 → W p l e R s m args below meth c H1 locs1 cells slots Q (F0 m (pc + 3) ls rest)) : W p l e R s m args below meth c H locs cells slots Q (F0 m pc ls (.int (jI n) :: .int (jI dp) :: .ref a1 :: .int (jI sp) :: .ref a0 :: rest)) := by
  obtain ⟨q0, hq0⟩ := va_pl_get (X := []) (f := cF cA τ G σ) (hS.mem ha0 (lyA_in hl).2.2.1)
  obtain ⟨q1, hq1⟩ := va_pl_get (X := []) (f := cF cA τ G σ) (hS.mem ha1 (lyA_in hl1).2.2.1)
  have hq1' := hq1
  rw [cF_A ha0 hl] at hq0
  rw [cF_A ha1 hl1] at hq1'
  have cs := jI_clamp (x := sp) (by omega)
  have cd := jI_clamp (x := dp) (by omega)
  have cn := jI_clamp (x := n) (by omega)
  have hprim : refKind ty = false := by rcases hck with ⟨h, -⟩ | h | ⟨h, -⟩ <;> subst h <;> rfl
  have hbd : ∀ i, i < n0 → b.1 ≤ σ a0 i ∧ σ a0 i ≤ b.2 := fun i hi => hW.2.2 a0 (ck, n0, b) (by rw [ha0]; exact hl) i hi
  refine va_copyi hx hb hml hown hlink hnat hstat hini hK.1 hW.1 (pl_D hA hS.1 _) hF q0 q1 ck ck hq0 hq1' hty hty hprim (jI_nlt0 h1 (by omega)) (jI_nlt0 h2 (by omega)) (jI_nlt0 h3 (by omega)) (by rw [cs, cn]; omega) (by rw [cd, cn]; omega) ?_ hframes hlocals hdg (fun H1 locs1 hP _ hS1 => ?_)
  · intro i hi
    rw [cn] at hi
    rw [cs]
    have hb' := hbd (sp.toNat + i) (by omega)
    rcases hck with ⟨h, hb2⟩ | h | ⟨h, hb2⟩
    · subst h; subst hb2
      exact fit_byte hb'
    · subst h; rfl
    · subst h; subst hb2
      have : σ a0 (sp.toNat + i) = 0 ∨ σ a0 (sp.toNat + i) = 1 := by have := hb'.1; have := hb'.2; dsimp only at *; omega
      rcases this with h | h <;> rw [h] <;> rfl
  · rw [cs, cd, cn] at hP
    refine kk (cpy2 σ a0 a1 sp.toNat dp.toNat n.toNat) H1 locs1 (fun a k h => cpy2_ne σ k h) ⟨?_, ?_⟩ hS1
    · have hm := hS.mem ha1 (lyA_in hl1).2.2.1
      rw [va_pl_set (A := fun _ => True) (pl_D (fun _ _ => trivial) hS.1 _) hm hq1] at hP
      rw [show va_pl L (cF cA τ G (cpy2 σ a0 a1 sp.toNat dp.toNat n.toNat)) = va_pl L (va_up (cF cA τ G σ) a1 (.inl (cA ck, n1, .inl (va_cpy (fun i => jI (σ a0 i)) (fun i => jI (σ a1 i)) sp.toNat dp.toNat n.toNat)))) from va_pl_congr fun x => ?_]
      · exact hP
      · by_cases e : x = a1
        · subst e
          rw [va_up_self, cF_A ha1 hl1]
          have : (fun i => jI (cpy2 σ a0 x sp.toNat dp.toNat n.toNat x i)) = va_cpy (fun i => jI (σ a0 i)) (fun i => jI (σ x i)) sp.toNat dp.toNat n.toNat := by
            funext i
            simp only [cpy2, va_cpy, if_true]
            split <;> rfl
          rw [this]
        · rw [va_up_ne _ _ e]
          have e2 : ∀ k', cpy2 σ a0 a1 sp.toNat dp.toNat n.toNat x k' = σ x k' := fun k' => cpy2_ne σ k' e
          unfold cF
          rw [show (fun i => jI (cpy2 σ a0 a1 sp.toNat dp.toNat n.toNat x i)) = (fun i => jI (σ x i)) from funext fun i => by rw [e2]]
          split
          · rename_i o _
            rw [jFl_eq (σ' := σ) o.2 0 (fun k' _ => e2 k')]
          · rfl
    · refine ⟨fun x o k bb ho hb' => ?_, fun x r hr i hi => ?_⟩
      · have e : ¬ x = a1 := by
          intro e
          rw [e, ha1, (lyA_in hl1).1] at ho
          cases ho
        rw [cpy2_ne σ k e]; exact hW.2.1 x o k bb ho hb'
      · by_cases e : x = a1
        · subst e
          have hr' := hr
          rw [ha1, hl1] at hr'
          cases hr'
          have hi : i < n1 := hi
          simp only [cpy2, va_cpy, if_true]
          split
          · exact hbd _ (by omega)
          · exact hW.2.2 x _ hr i hi
        · rw [cpy2_ne σ i e]; exact hW.2.2 x r hr i hi
end JR
