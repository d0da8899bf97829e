/-! ===== what constructors make: cells told by address, kind, refs; their ints are the kind's first ones ===== -/
abbrev cC : Type := Nat × Nat × (Nat → Nat)
def z0 (t k : Nat) : Int := if (t = 11 ∨ t = 40) ∧ (k = 1 ∨ k = 2) then 4 else 0
def cE (cA : Nat → ClassId) (c : cC) : Nat × va_E := (c.1, cF cA (fun _ => c.2.1) (fun _ => c.2.2) (fun _ => z0 c.2.1) c.1)
def cW (cA : Nat → ClassId) (cl : List cC) : va_W := cl.map (cE cA)
theorem cW_app (cA : Nat → ClassId) (c1 c2 : List cC) : cW cA (c1 ++ c2) = cW cA c1 ++ cW cA c2 := List.map_append
theorem cW_snoc (cA : Nat → ClassId) (cl : List cC) (c : cC) : cW cA cl ++ [cE cA c] = cW cA (cl ++ [c]) := (List.map_append (f := cE cA) (l₁ := cl) (l₂ := [c])).symm
def hasK (cl : List cC) (a t : Nat) : Prop := ∃ g, (a, t, g) ∈ cl
def okC (E : Nat → Nat → Prop) (c : cC) : Prop := (∀ (o : Nat × List fdT) (k t : Nat), lyO c.2.1 = some o → o.2[k]? = some (.inl t) → E (c.2.2 k) t) ∧ (∀ r : Nat × Nat × Nat, lyR c.2.1 = some r → ∀ i, i < r.2.1 → E (c.2.2 i) r.2.2)
def okL (E : Nat → Nat → Prop) (cl : List cC) : Prop := ∀ c ∈ cl, c.2.1 ≠ 0 ∧ okC (fun a t => E a t ∨ hasK cl a t) c
def nOK (E : Nat → Nat → Prop) (a t : Nat) (cl : List cC) : Prop := okL E cl ∧ hasK cl a t
abbrev noE : Nat → Nat → Prop := fun _ _ => False
abbrev oneE (a t : Nat) : Nat → Nat → Prop := fun x y => x = a ∧ y = t
theorem okC.mono {E E' : Nat → Nat → Prop} {c : cC} (h : okC E c) (hE : ∀ a t, E a t → E' a t) : okC E' c := ⟨fun o k t h1 h2 => hE _ _ (h.1 o k t h1 h2), fun r h1 i hi => hE _ _ (h.2 r h1 i hi)⟩
theorem hasK.l {c1 : List cC} (c2 : List cC) {a t : Nat} (h : hasK c1 a t) : hasK (c1 ++ c2) a t := ⟨h.choose, List.mem_append_left _ h.choose_spec⟩
theorem hasK.r (c1 : List cC) {c2 : List cC} {a t : Nat} (h : hasK c2 a t) : hasK (c1 ++ c2) a t := ⟨h.choose, List.mem_append_right _ h.choose_spec⟩
theorem okL.app {E E' : Nat → Nat → Prop} {c1 c2 : List cC} (h1 : okL E c1) (h2 : okL E' c2) (hE : ∀ a t, E' a t → E a t ∨ hasK c1 a t) : okL E (c1 ++ c2) := by
  intro c hc
  rcases List.mem_append.mp hc with h | h
  · exact ⟨(h1 c h).1, (h1 c h).2.mono fun a t q => q.imp id fun z => z.l c2⟩
  · refine ⟨(h2 c h).1, (h2 c h).2.mono fun a t q => ?_⟩
    rcases q with q | q
    · exact (hE a t q).imp id fun z => z.l c2
    · exact Or.inr (q.r c1)
theorem okL.nil {E : Nat → Nat → Prop} : okL E [] := fun _ h => by cases h
theorem P_of {D : va_G} {cl : List vw_C} {ws ws' : va_W} {H : Heap} (h : va_P D cl ws H) (hs : ∀ q ∈ ws', q ∈ ws) : va_P D cl ws' H := fun k q hk => by
  obtain ⟨i, hi⟩ := List.mem_iff_getElem?.mp (hs q (List.mem_of_getElem? hk))
  exact h i q hi
theorem P_mem {D : va_G} {cl : List vw_C} {ws : va_W} {H : Heap} (h : va_P D cl ws H) {q : Nat × va_E} (hq : q ∈ ws) : va_at D cl q H := by
  obtain ⟨i, hi⟩ := List.mem_iff_getElem?.mp hq
  exact h i q hi
theorem D_iff {A : Nat → Prop} {ws : va_W} : va_D A ws ↔ (ws.map Prod.fst).Nodup ∧ ∀ q ∈ ws, A q.1 := by
  constructor
  · rintro ⟨h1, h2⟩
    refine ⟨List.pairwise_iff_getElem.mpr fun i j hi hj hij e => ?_, fun q hq => ?_⟩
    · rw [List.length_map] at hi hj
      rw [List.getElem_map, List.getElem_map] at e
      have := h1 i j _ _ (List.getElem?_eq_getElem hi) (List.getElem?_eq_getElem hj) e
      omega
    · obtain ⟨i, hi⟩ := List.mem_iff_getElem?.mp hq
      exact h2 i q hi
  · rintro ⟨h1, h2⟩
    refine ⟨fun i j p q hp hq e => ?_, fun k q hk => h2 q (List.mem_of_getElem? hk)⟩
    have h3 := List.pairwise_iff_getElem.mp h1
    obtain ⟨hi, rfl⟩ := List.getElem?_eq_some_iff.mp hp
    obtain ⟨hj, rfl⟩ := List.getElem?_eq_some_iff.mp hq
    rcases Nat.lt_trichotomy i j with z | z | z
    · exact absurd (by rw [List.getElem_map, List.getElem_map]; exact e) (h3 i j (by rw [List.length_map]; exact hi) (by rw [List.length_map]; exact hj) z)
    · exact z
    · exact absurd (by rw [List.getElem_map, List.getElem_map]; exact e.symm) (h3 j i (by rw [List.length_map]; exact hj) (by rw [List.length_map]; exact hi) z)
theorem D_perm {A : Nat → Prop} {ws ws' : va_W} (h : va_D A ws) (hp : ws.Perm ws') : va_D A ws' :=
  D_iff.mpr ⟨(hp.map Prod.fst).nodup_iff.mp (D_iff.mp h).1, fun q hq => (D_iff.mp h).2 q (hp.mem_iff.mpr hq)⟩
theorem P_perm {D : va_G} {cl : List vw_C} {ws ws' : va_W} {H : Heap} (h : va_P D cl ws H) (hp : ws.Perm ws') : va_P D cl ws' H := P_of h fun _ hq => hp.mem_iff.mpr hq
/-- what a constructor may touch: its own cell, and what is new -/
abbrev aw (a sz : Nat) : Nat → Prop := fun q => q = a ∨ sz ≤ q
theorem n_join {D : va_G} {cl : List vw_C} {A : Nat → Prop} {ws wn : va_W} {q : Nat} {e : va_E} {H H1 : Heap} (hP : va_P D cl ((q, e) :: ws) H) (hD : va_D A ((q, e) :: ws)) (hk : ∀ x : Nat, x < H.size → ¬ aw q H.size x → H1[x]? = H[x]?) (hA : ∀ x, H.size ≤ x → A x) (hP1 : va_P D cl wn H1) (hD1 : va_D (aw q H.size) wn) : va_P D cl (ws ++ wn) H1 ∧ va_D A (ws ++ wn) := by
  have h := D_iff.mp hD
  have hn := List.nodup_cons.mp h.1
  have far : ∀ w ∈ ws, w.1 < H.size ∧ ¬ aw q H.size w.1 := fun w hw => by
    have hl := (P_mem hP (List.mem_cons_of_mem _ hw)).lt
    refine ⟨hl, fun z => ?_⟩
    rcases z with z | z
    · have hm := List.mem_map_of_mem (f := Prod.fst) hw
      rw [z] at hm
      exact hn.1 hm
    · omega
  refine ⟨fun k w hw => ?_, D_iff.mpr ⟨?_, fun w hw => ?_⟩⟩
  · rcases List.mem_append.mp (List.mem_of_getElem? hw) with z | z
    · exact (P_mem hP (List.mem_cons_of_mem _ z)).kept (hk _ (far w z).1 (far w z).2)
    · exact P_mem hP1 z
  · rw [List.map_append]
    refine List.nodup_append.mpr ⟨hn.2, (D_iff.mp hD1).1, fun x hx y hy e => ?_⟩
    obtain ⟨w, hw, rfl⟩ := List.mem_map.mp hx
    obtain ⟨v, hv, rfl⟩ := List.mem_map.mp hy
    exact (far w hw).2 (e ▸ (D_iff.mp hD1).2 v hv)
  · rcases List.mem_append.mp hw with z | z
    · exact h.2 w (List.mem_cons_of_mem _ z)
    · rcases (D_iff.mp hD1).2 w z with y | y
      · rw [y]; exact h.2 (q, e) (List.mem_cons_self ..)
      · exact hA _ y
def NK (D : va_G) (cA : Nat → ClassId) (U : State) : Prop := XK D cA U ∧ va_AO "PageTrie$Key" U ∧ va_AO "PageTrie$Cursor" U
theorem NK.warm {D : va_G} {cA : Nat → ClassId} {s U : State} (hW : s.WarmedH U.vm) (h : NK D cA s) : NK D cA U := ⟨h.1.warm hW, va_AO.moved hW.alike h.2.1, va_AO.moved hW.alike h.2.2⟩
abbrev nP (D : va_G) (cA : Nat → ClassId) (h0 sz ci : Nat) (fs av : List Value) : Array Value → State → Prop := va_Pc (.ref h0 :: av) (fun U => U.heap.size = sz ∧ va_P D vwCl [(h0, .inr (ci, fs))] U.heap ∧ NK D cA U)
abbrev nQ (D : va_G) (cA : Nat → ClassId) (h0 sz : Nat) (P : List cC → Prop) : Array Value → State → Outcome → State → Prop := va_Qv (S := List cC) P (fun cl t => va_P D vwCl (cW cA cl) t.heap ∧ va_D (aw h0 sz) (cW cA cl)) (aw h0 sz)
theorem nP_blind {D : va_G} {cA : Nat → ClassId} {h0 sz ci : Nat} {fs av : List Value} : FrameBlind (nP D cA h0 sz ci fs av) := by
  intro a U g mk q
  obtain ⟨q1, q2, q3, ⟨q4, q5, q6⟩, q7, q8⟩ := q
  exact ⟨q1, q2, q3, ⟨va_K.moved (u := U) (U := U.calling g mk a) (Vm.Alike.refl U.vm) q4, q5, q6⟩, q7, q8⟩
theorem RA_inj {U : State} {c1 c2 : ClassId} {ty : FieldType} (h1 : va_RA U c1 ty) (h2 : va_RA U c2 ty) : c1 = c2 := by
  cases ty with
  | object C =>
    obtain ⟨_, _, _, _, _, e1⟩ := h1
    obtain ⟨_, _, _, _, _, e2⟩ := h2
    exact Option.some.inj (e1.symm.trans e2)
  | _ => exact Option.some.inj (Eq.trans (Eq.symm h1) h2)
theorem z0_0 {t : Nat} (h : t ≠ 11 ∧ t ≠ 40) (k : Nat) : z0 t k = 0 := by
  unfold z0
  rw [if_neg (fun q => q.1.elim h.1 h.2)]
section JN
variable {p : Program} {l : Launch} {e : Env} {R : Room} {s : State} {m : MethodId} {args : Array Value} {below : List Frame} {meth : Method} {c : Code} {H : Heap} {locs : List Loc} {cells slots : Nat} {Q : State → Prop}
variable {cc : ByteArray} {pc : Nat} {ls : Array Slot} {rest : List Value} {D : va_G} {cA : Nat → ClassId} {A : Nat → Prop} {H0 : Heap} {X : va_W} {cl : List cC} {E : Nat → Nat → Prop}
theorem n_new {own C : String} {T : u_T} {N ci index : Nat} {Ts : List Cond} {ws : va_W} (hx : p.tables.exec = Jvm.exec) (hb : c.code = cc) (hts : ∀ w ∈ Ts, w.before args s = true) (hin : ∀ w ∈ u_ws C T N, w ∈ Ts) (ty : Nat → FieldType) (hty : ∀ k, k < N → parseFieldDescriptor (T k).2.2.1 = some (ty k)) (hown : s.vm.findClass own = some m.cls) (hcl : (Cond.classLink own index C).before args s = true) (hinst : (Cond.instantiable C N).before args s = true) (hini : (Cond.initialized C).before args s = true)
    (hK : NK D cA s) (hP : va_P D vwCl ws H) (hD : va_D A ws) (hS : va_S A H0 H locs) (hA : ∀ q, H0.size ≤ q → A q) (hc : vwCl[ci]? = some (C, T, N)) {fs : List Value} (hfs : ∀ j, j < N → defaultValue (ty j) = vp_V fs j) (hcells : cells + 1 ≤ R.cells) (hslots : slots + N ≤ R.slots) (hdg : decode cc pc = .ok (.new index, 3))
    (kk : ∀ (q : Nat) (H1 : Heap), va_P D vwCl ((q, .inr (ci, fs)) :: ws) H1 → va_D A ((q, .inr (ci, fs)) :: ws) → va_S A H0 H1 locs → W p l e R s m args below meth c H1 locs (cells + 1) (slots + N) Q (F0 m (pc + 3) ls (.ref q :: rest))) : W p l e R s m args below meth c H locs cells slots Q (F0 m pc ls rest) :=
  va_new hx hb hts hin ty hty hown hcl hinst hini hK.1.1 hP hD hS hA hc hfs hcells hslots hdg fun q H1 hP1 hD1 hS1 => kk q H1 (P_perm hP1 (List.perm_append_singleton ..)) (D_perm hD1 (List.perm_append_singleton ..)) hS1
theorem n_init {Ts ws ws' : List Cond} {own : String} {nL index maxL q ci t mc ms : Nat} {y : MethodName} {bytes : ByteArray} {rm : Room} {fs As st0 : List Value} {E' : Nat → Nat → Prop} (hx : p.tables.exec = Jvm.exec) (hb : c.code = cc) (hml : c.maxLocals = nL) (hown : s.vm.findClass own = some m.cls) (hts : ∀ w ∈ Ts, w.before args s = true) (hK : NK D cA s)
    (hP : va_P D vwCl ((q, .inr (ci, fs)) :: (X ++ cW cA cl)) H) (hD : va_D A ((q, .inr (ci, fs)) :: (X ++ cW cA cl))) (hS : va_S A H0 H locs) (hA : ∀ q, H0.size ≤ q → A q) (hok : okL E cl)
    (hM : Met l y ws rm (nP D cA q H.size ci fs As) (nQ D cA q H.size (nOK E' q t)) mc ms (aw q H.size)) (n : Nat) (hG : GoodIn Ts ws) (hw : ws = Cond.code y bytes maxL none :: ws') (hini : (Cond.initialized y.cls).before args s = true) (hlink : (Cond.methodLink own index y).before args s = true) (hinst : (Cond.instanceMethod y).before args s = true) (hy1 : y.name = "<init>")
    (hd : y.cls ≠ "java/lang/invoke/MethodHandle" ∧ y.cls ≠ "java/lang/invoke/VarHandle" ∧ (parseMethodDescriptor y.desc).map (fun d => d.parameters.length) = some n) (hR : rm.frames + 1 ≤ R.frames ∧ 8 + (maxL + 11) + rm.locals ≤ R.locals) (hrc : rm.cells = mc) (hrs : rm.slots = ms)
    (hn : As.length = n) (hsize : ls.size = nL) (hst : st0 = As.reverse ++ .ref q :: rest) (hrest : (rest.map fun v => v.category).sum ≤ 8) (hdg : decode cc pc = .ok (.invokespecial index, 3)) (hcs : cells + mc ≤ R.cells ∧ slots + ms ≤ R.slots) (hE : ∀ a t, E' a t → E a t ∨ hasK cl a t)
    (kk : ∀ (cl1 : List cC) (H1 : Heap) (locs1 : List Loc), okL E cl1 → (∀ a t, hasK cl a t → hasK cl1 a t) → hasK cl1 q t → va_P D vwCl (X ++ cW cA cl1) H1 → va_D A (X ++ cW cA cl1) → va_S A H0 H1 locs1 → W p l e R s m args below meth c H1 locs1 (cells + mc) (slots + ms) Q (F0 m (pc + 3) ls rest)) :
    W p l e R s m args below meth c H locs cells slots Q (F0 m pc ls st0) := by
  have hq := (D_iff.mp hD).2 _ (List.mem_cons_self ..)
  have hf : ∀ x, aw q H.size x → A x := fun x hx => by
    rcases hx with z | z
    · rw [z]; exact hq
    · exact hA x (Nat.le_trans hS.1 z)
  refine va_callv (va_runI (As := As) (rest := rest) ⟨hx, hb, hml, hown, hts⟩ hM (cwI n hts hG hw hrc hrs hini hlink hinst hy1 hd hR) ⟨nP_blind, fun U hU hW' => ⟨rfl, by rw [hU], by rw [hU]; exact P_of hP (fun z hz => by rw [List.mem_singleton.mp hz]; exact List.mem_cons_self ..), hK.warm hW'⟩⟩ rfl hn hsize hst (lv_room hrest) hdg hcs) hS (fun x _ h => hf x h) hf (fun u tt H1 locs1 ht _ hp hB _ hk1 hS1 => ?_)
  obtain ⟨hP1, hD1⟩ := hB
  rw [ht] at hP1
  obtain ⟨hP2, hD2⟩ := n_join hP hD hk1 (fun x hx => hA x (Nat.le_trans hS.1 hx)) hP1 hD1
  rw [List.append_assoc, ← cW_app] at hP2 hD2
  exact kk (cl ++ u) H1 locs1 (hok.app hp.1 hE) (fun a t h => h.l u) (hp.2.r cl) hP2 hD2 hS1
theorem n_arr {atype : ArrayType} {ty : FieldType} {N' ck : Nat} {b : Int × Int} {n : Int32} (hx : p.tables.exec = Jvm.exec) (hb : c.code = cc) (harr : (Cond.arrayClass (newarray.typeOf atype)).before args s = true) (hty : newarray.typeOf atype = ty) (hK : NK D cA s) (hP : va_P D vwCl (X ++ cW cA cl) H) (hD : va_D A (X ++ cW cA cl)) (hS : va_S A H0 H locs) (hA : ∀ q, H0.size ≤ q → A q) (hok : okL E cl)
    (t : Nat) (hl : lyA t = some (ck, N', b)) (htk : (tyL cA)[ck]? = some (cA ck, ty)) (hz : t ≠ 11 ∧ t ≠ 40) (ha : ∀ cA' : ClassId, vp_cell cA' (N', .inl (fun _ => 0)) = arrV cA' N' (fun _ => defaultValue ty)) (hn : ¬ n < 0) (hN : n.toNatClampNeg = N') (hbytes : N' * componentBytes ty ≤ 536870912) (hcells : cells + 1 ≤ R.cells) (hslots : slots + N' ≤ R.slots) (hdg : decode cc pc = .ok (.newarray atype, 2))
    (kk : ∀ (q : Nat) (cl1 : List cC) (H1 : Heap), okL E cl1 → (∀ a t, hasK cl a t → hasK cl1 a t) → hasK cl1 q t → va_P D vwCl (X ++ cW cA cl1) H1 → va_D A (X ++ cW cA cl1) → va_S A H0 H1 locs → W p l e R s m args below meth c H1 locs (cells + 1) (slots + N') Q (F0 m (pc + 2) ls (.ref q :: rest))) :
    W p l e R s m args below meth c H locs cells slots Q (F0 m pc ls (.int n :: rest)) := by
  refine va_newa hx hb harr hty hK.1.1 hP hD hS hA ha hn hN hbytes hcells hslots hdg fun q cA' H1 hK1 hP1 hD1 hS1 => ?_
  have e : cA' = cA ck := RA_inj (hK1.2 (tyL cA).length (cA', ty) (by rw [List.getElem?_append_right (Nat.le_refl _), Nat.sub_self]; rfl)).2 (hK.1.1.2 ck (cA ck, ty) htk).2
  subst e
  have ec : (q, (Sum.inl (cA ck, N', .inl (fun _ => 0)) : va_E)) = cE cA (q, t, fun _ => 0) := by
    show _ = (q, cF cA (fun _ => t) (fun _ => (fun _ => 0 : Nat → Nat)) (fun _ => z0 t) q)
    rw [cF_A (τ := fun _ => t) rfl hl]
    congr 5
    funext i
    rw [z0_0 hz]; rfl
  rw [ec, List.append_assoc, cW_snoc] at hP1 hD1
  refine kk q _ H1 (hok.app (E' := noE) (fun x hx => ?_) (fun _ _ h => h.elim)) (fun a t h => h.l _) (hasK.r cl ⟨_, List.mem_singleton.mpr rfl⟩) hP1 hD1 hS1
  rw [List.mem_singleton.mp hx]
  exact ⟨(lyA_in hl).2.2.1, fun o k t h1 _ => absurd ((lyA_in hl).1.symm.trans h1) (by simp), fun r h1 => absurd ((lyA_in hl).2.1.symm.trans h1) (by simp)⟩
theorem n_arrR {own C : String} {index N' : Nat} {n : Int32} {ws : va_W} (hx : p.tables.exec = Jvm.exec) (hb : c.code = cc) (hown : s.vm.findClass own = some m.cls) (hcl : (Cond.classLink own index C).before args s = true) (hover : va_AO C s) (hK : NK D cA s) (hP : va_P D vwCl ws H) (hD : va_D A ws) (hS : va_S A H0 H locs) (hA : ∀ q, H0.size ≤ q → A q)
    (ck : Nat) (htk : (tyL cA)[ck]? = some (cA ck, .object C)) (hn : ¬ n < 0) (hN : n.toNatClampNeg = N') (hbytes : N' * 4 ≤ 536870912) (hcells : cells + 1 ≤ R.cells) (hslots : slots + N' ≤ R.slots) (hdg : decode cc pc = .ok (.anewarray index, 3))
    (kk : ∀ (q : Nat) (H1 : Heap), va_P D vwCl ((q, .inl (cA ck, N', .inr (.inr (.inr (.inr (fun _ => none)))))) :: ws) H1 → va_D A ((q, .inl (cA ck, N', .inr (.inr (.inr (.inr (fun _ => none)))))) :: ws) → va_S A H0 H1 locs → W p l e R s m args below meth c H1 locs (cells + 1) (slots + N') Q (F0 m (pc + 3) ls (.ref q :: rest))) :
    W p l e R s m args below meth c H locs cells slots Q (F0 m pc ls (.int n :: rest)) := by
  refine va_newq hx hb hown hcl hover hK.1.1 hP hD hS hA hn hN hbytes hcells hslots hdg fun q cA' H1 hK1 hP1 hD1 hS1 => ?_
  have e : cA' = cA ck := RA_inj (hK1.2 (tyL cA).length (cA', .object C) (by rw [List.getElem?_append_right (Nat.le_refl _), Nat.sub_self]; rfl)).2 (hK.1.1.2 ck (cA ck, .object C) htk).2
  subst e
  exact kk q H1 (P_perm hP1 (List.perm_append_singleton ..)) (D_perm hD1 (List.perm_append_singleton ..)) hS1
theorem n_place {ws : va_W} {a t : Nat} {ci : Nat} {fds : List fdT} (hk : hasK cl a t) (hm : ∀ q ∈ cW cA cl, q ∈ ws) (hl : lyO t = some (ci, fds)) : ∃ (i : Nat) (g : Nat → Nat), (a, t, g) ∈ cl ∧ ws[i]? = some (a, .inr (ci, jFl (fun _ => g) (fun _ => z0 t) a fds 0)) := by
  obtain ⟨g, hg⟩ := hk
  obtain ⟨i, hi⟩ := List.mem_iff_getElem?.mp (hm _ (List.mem_map_of_mem hg))
  refine ⟨i, g, hg, ?_⟩
  rw [hi]
  show some (a, cF cA (fun _ => t) (fun _ => g) (fun _ => z0 t) a) = _
  rw [cF_O (τ := fun _ => t) rfl hl]
theorem n_get {own C : String} {T : u_T} {N ci index a t : Nat} {Ts : List Cond} {ws : va_W} (hx : p.tables.exec = Jvm.exec) (hb : c.code = cc) (hts : ∀ w ∈ Ts, w.before args s = true) (hin : ∀ w ∈ u_ws C T N, w ∈ Ts) (hown : s.vm.findClass own = some m.cls) (hK : NK D cA s) (hP : va_P D vwCl ws H) (hok : okL E cl) (hk : hasK cl a t) (hm : ∀ q ∈ cW cA cl, q ∈ ws) {fds : List fdT} (hl : lyO t = some (ci, fds)) (k : Nat) {t' : Nat} (hf : fds[k]? = some (.inl t')) (hc : vwCl[ci]? = some (C, T, N)) (hkN : k < N) (hlink : (Cond.fieldLink own index (T k).1 (T k).2.1 (T k).2.2.1).before args s = true) (hdg : decode cc pc = .ok (.getfield index, 3))
    (kk : ∀ a', (E a' t' ∨ hasK cl a' t') → W p l e R s m args below meth c H locs cells slots Q (F0 m (pc + 3) ls (.ref a' :: rest))) : W p l e R s m args below meth c H locs cells slots Q (F0 m pc ls (.ref a :: rest)) := by
  obtain ⟨i, g, hg, hi⟩ := n_place (cA := cA) hk hm hl
  have h1 := jFl_get (G := fun _ => g) (σ := fun _ => z0 t) (a := a) fds 0 k _ hf
  rw [Nat.zero_add] at h1
  exact va_get hx hb hts hin hown hK.1.1 hP i hi hc k hkN hlink (fun _ h => h) h1 hdg (kk (g k) ((hok _ hg).2.1 (ci, fds) k t' hl hf))
theorem n_finO {h0 ci : Nat} {fds : List fdT} {fs : List Value} (t : Nat) (g : Nat → Nat) (hl : lyO t = some (ci, fds)) (hfs : fs = jFl (fun _ => g) (fun _ => z0 t) h0 fds 0) (hP : va_P D vwCl ((h0, .inr (ci, fs)) :: (X ++ cW cA cl)) H) (hD : va_D A ((h0, .inr (ci, fs)) :: (X ++ cW cA cl))) (hok : okL E cl) (hE : ∀ k t', fds[k]? = some (.inl t') → E (g k) t' ∨ hasK cl (g k) t') :
    ∃ cl1 : List cC, okL E cl1 ∧ (∀ a t, hasK cl a t → hasK cl1 a t) ∧ hasK cl1 h0 t ∧ va_P D vwCl (X ++ cW cA cl1) H ∧ va_D A (X ++ cW cA cl1) := by
  have ec : (h0, (Sum.inr (ci, fs) : va_E)) = cE cA (h0, t, g) := by
    show _ = (h0, cF cA (fun _ => t) (fun _ => g) (fun _ => z0 t) h0)
    rw [cF_O (τ := fun _ => t) rfl hl, hfs]
  rw [ec] at hP hD
  have hp : (cE cA (h0, t, g) :: (X ++ cW cA cl)).Perm (X ++ cW cA (cl ++ [(h0, t, g)])) := by
    rw [← cW_snoc, ← List.append_assoc]
    exact (List.perm_append_singleton ..).symm
  refine ⟨cl ++ [(h0, t, g)], hok.app (E' := fun a t => E a t ∨ hasK cl a t) (fun x hx => ?_) (fun _ _ h => h), fun a t h => h.l _, hasK.r cl ⟨_, List.mem_singleton.mpr rfl⟩, P_perm hP hp, D_perm hD hp⟩
  rw [List.mem_singleton.mp hx]
  exact ⟨(lyO_in hl).2.2, fun o k t' h1 h2 => Or.inl (by
    have h1 : lyO t = some o := h1
    rw [hl] at h1
    cases h1
    exact hE k t' h2), fun r h1 => absurd ((lyO_in hl).2.1.symm.trans h1) (by simp)⟩
theorem n_finA {q ck N : Nat} {b : Int × Int} (t : Nat) (hl : lyA t = some (ck, N, b)) (hP : va_P D vwCl ((q, .inl (cA ck, N, .inl (fun i => jI (z0 t i)))) :: (X ++ cW cA cl)) H) (hD : va_D A ((q, .inl (cA ck, N, .inl (fun i => jI (z0 t i)))) :: (X ++ cW cA cl))) (hok : okL E cl) :
    ∃ cl1 : List cC, okL E cl1 ∧ (∀ a t, hasK cl a t → hasK cl1 a t) ∧ hasK cl1 q t ∧ va_P D vwCl (X ++ cW cA cl1) H ∧ va_D A (X ++ cW cA cl1) := by
  have ec : (q, (Sum.inl (cA ck, N, .inl (fun i => jI (z0 t i))) : va_E)) = cE cA (q, t, fun _ => 0) := by
    show _ = (q, cF cA (fun _ => t) (fun _ => (fun _ => 0 : Nat → Nat)) (fun _ => z0 t) q)
    rw [cF_A (τ := fun _ => t) rfl hl]
  rw [ec] at hP hD
  have hp : (cE cA (q, t, fun _ => 0) :: (X ++ cW cA cl)).Perm (X ++ cW cA (cl ++ [(q, t, fun _ => 0)])) := by
    rw [← cW_snoc, ← List.append_assoc]
    exact (List.perm_append_singleton ..).symm
  refine ⟨cl ++ [(q, t, fun _ => 0)], hok.app (E' := noE) (fun x hx => ?_) (fun _ _ h => h.elim), fun a t h => h.l _, hasK.r cl ⟨_, List.mem_singleton.mpr rfl⟩, P_perm hP hp, D_perm hD hp⟩
  rw [List.mem_singleton.mp hx]
  exact ⟨(lyA_in hl).2.2.1, fun o k t h1 _ => absurd ((lyA_in hl).1.symm.trans h1) (by simp), fun r h1 => absurd ((lyA_in hl).2.1.symm.trans h1) (by simp)⟩
theorem arrV_congr (cI : ClassId) (N : Nat) {f g : Nat → Value} (h : ∀ i, i < N → f i = g i) : arrV cI N f = arrV cI N g := by
  unfold arrV
  congr 2
  funext j
  exact h j.val j.isLt
theorem n_finR {q t' ck N : Nat} {f : Nat → Option Nat} (t : Nat) (hl : lyR t = some (ck, N, t')) (hP : va_P D vwCl ((q, .inl (cA ck, N, .inr (.inr (.inr (.inr f))))) :: (X ++ cW cA cl)) H) (hD : va_D A ((q, .inl (cA ck, N, .inr (.inr (.inr (.inr f))))) :: (X ++ cW cA cl))) (hok : okL E cl) (hE : ∀ i, i < N → ∃ a, f i = some a ∧ hasK cl a t') :
    ∃ cl1 : List cC, okL E cl1 ∧ (∀ a t, hasK cl a t → hasK cl1 a t) ∧ hasK cl1 q t ∧ va_P D vwCl (X ++ cW cA cl1) H ∧ va_D A (X ++ cW cA cl1) := by
  have ec : cE cA (q, t, fun i => (f i).getD 0) = (q, Sum.inl (cA ck, N, .inr (.inr (.inr (.inr (fun i => some ((f i).getD 0))))))) := by
    show (q, cF cA (fun _ => t) (fun _ => (fun i => (f i).getD 0 : Nat → Nat)) (fun _ => z0 t) q) = _
    rw [cF_R (τ := fun _ => t) rfl hl]
  have hat : va_at D vwCl (cE cA (q, t, fun i => (f i).getD 0)) H := by
    have h1 := P_mem hP (List.mem_cons_self ..)
    rw [ec]
    have h1 : H[q]? = some (vp_cell (cA ck) (N, .inr (.inr (.inr (.inr f))))) := h1
    show H[q]? = some (vp_cell (cA ck) (N, .inr (.inr (.inr (.inr (fun i => some ((f i).getD 0)))))))
    rw [h1, vp_cell_q, vp_cell_q]
    refine congrArg some (arrV_congr _ _ fun i hi => ?_)
    obtain ⟨a, e1, -⟩ := hE i hi
    rw [e1]; rfl
  have hD' : va_D A (cE cA (q, t, fun i => (f i).getD 0) :: (X ++ cW cA cl)) := by
    have h := D_iff.mp hD
    refine D_iff.mpr ⟨h.1, fun x hx => ?_⟩
    rcases List.mem_cons.mp hx with z | z
    · rw [z]; exact h.2 (q, .inl (cA ck, N, .inr (.inr (.inr (.inr f))))) (List.mem_cons_self ..)
    · exact h.2 x (List.mem_cons_of_mem _ z)
  have hP' : va_P D vwCl (cE cA (q, t, fun i => (f i).getD 0) :: (X ++ cW cA cl)) H := fun k x hx => by
    rcases List.mem_cons.mp (List.mem_of_getElem? hx) with z | z
    · rw [z]; exact hat
    · exact P_mem hP (List.mem_cons_of_mem _ z)
  have hp : (cE cA (q, t, fun i => (f i).getD 0) :: (X ++ cW cA cl)).Perm (X ++ cW cA (cl ++ [(q, t, fun i => (f i).getD 0)])) := by
    rw [← cW_snoc, ← List.append_assoc]
    exact (List.perm_append_singleton ..).symm
  refine ⟨cl ++ [(q, t, fun i => (f i).getD 0)], hok.app (E' := fun a t => E a t ∨ hasK cl a t) (fun x hx => ?_) (fun _ _ h => h), fun a t h => h.l _, hasK.r cl ⟨_, List.mem_singleton.mpr rfl⟩, P_perm hP' hp, D_perm hD' hp⟩
  rw [List.mem_singleton.mp hx]
  exact ⟨(lyR_in hl).2.2, fun o k t' h1 h2 => absurd ((lyR_in hl).1.symm.trans h1) (by simp), fun r h1 i hi => Or.inl (by
    have h1 : lyR t = some r := h1
    rw [hl] at h1
    cases h1
    obtain ⟨a, e1, e2⟩ := hE i hi
    show E ((f i).getD 0) t' ∨ hasK cl ((f i).getD 0) t'
    rw [e1]
    exact Or.inr e2)⟩
theorem n_astq {a v i t N ci : Nat} {r : vw_C} {fds : List fdT} {f : Nat → Option Nat} {ws : va_W} (hx : p.tables.exec = Jvm.exec) (hb : c.code = cc) (hK : NK D cA s) (hP : va_P D vwCl ws H) (hD : va_D A ws) (hS : va_S A H0 H locs) (q0 t0 : Nat) {cB : ClassId} (ha : ws[q0]? = some (a, .inl (cB, N, .inr (.inr (.inr (.inr f)))))) (ht : (tyL cA)[t0]? = some (cB, .object r.1)) (hk : hasK cl v t) (hm : ∀ q ∈ cW cA cl, q ∈ ws) (hl : lyO t = some (ci, fds)) (hc : vwCl[ci]? = some r) (hi : i < N) (hN : N < 2147483648) (hdg : decode cc pc = .ok (.aastore, 1))
    (kk : ∀ (H1 : Heap) (locs1 : List Loc), va_P D vwCl (ws.set q0 (a, .inl (cB, N, .inr (.inr (.inr (.inr (va_up f i (some v)))))))) H1 → va_D A (ws.set q0 (a, .inl (cB, N, .inr (.inr (.inr (.inr (va_up f i (some v)))))))) → va_S A H0 H1 locs1 → W p l e R s m args below meth c H1 locs1 cells slots Q (F0 m (pc + 1) ls rest)) :
    W p l e R s m args below meth c H locs cells slots Q (F0 m pc ls (.ref v :: .int (jI i) :: .ref a :: rest)) := by
  obtain ⟨j, g, -, hj⟩ := n_place (cA := cA) hk hm hl
  refine va_astq hx hb hK.1.1 hP hD hS q0 t0 j ci ha ht hj hc (jI_in (by omega) (by omega) hN) hdg fun H1 locs1 h1 h2 h3 => ?_
  have e : (jI (i : Int)).toNatClampNeg = i := by rw [jI_clamp (by omega)]; omega
  rw [e] at h1 h2
  exact kk H1 locs1 h1 h2 h3
end JN
