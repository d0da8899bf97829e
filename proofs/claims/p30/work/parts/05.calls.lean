abbrev jQI (D : va_G) (cA : Nat → ClassId) (τ : Nat → Nat) (G : Nat → Nat → Nat) (L : List Nat) (P : Int → (Nat → Nat → Int) → Prop) : Array Value → State → Outcome → State → Prop := va_Qi (S := Int × (Nat → Nat → Int)) (fun r u => r = jI u.1 ∧ rg u.1 ∧ P u.1 u.2) (fun u t => PW D cA τ G L u.2 t.heap) (fun q => q ∈ L)
abbrev jQV (D : va_G) (cA : Nat → ClassId) (τ : Nat → Nat) (G : Nat → Nat → Nat) (L : List Nat) (P : (Nat → Nat → Int) → Prop) : Array Value → State → Outcome → State → Prop := va_Qv (S := Nat → Nat → Int) (fun u => P u) (fun u t => PW D cA τ G L u t.heap) (fun q => q ∈ L)
abbrev jQR (P : Int → Prop) : Array Value → State → Outcome → State → Prop := vp_Si (fun v => ∃ r, v = jI r ∧ rg r ∧ P r)
section JC
variable {p : Program} {l : Launch} {e : Env} {R : Room} {s : State} {m : MethodId} {args : Array Value} {below : List Frame} {meth : Method} {c : Code} {H : Heap} {locs : List Loc} {cells slots : Nat} {Q : State → Prop}
variable {cc : ByteArray} {pc : Nat} {ls : Array Slot} {rest : List Value} {D : va_G} {cA : Nat → ClassId} {τ : Nat → Nat} {G : Nat → Nat → Nat} {L : List Nat} {σ : Nat → Nat → Int} {A : Nat → Prop} {H0 : Heap} {st0 : List Value} {a : Array Value}
theorem j_cI {P : Int → (Nat → Nat → Int) → Prop} (hr : va_Run p l e R s m args below meth c H locs cells slots 0 0 (F0 m pc ls st0) rest (jQI D cA τ G L P a) (fun q => q ∈ L)) (hA : ∀ q ∈ L, A q) (hF : va_S A H0 H locs)
    (kk : ∀ (r : Int) (σ1 : Nat → Nat → Int) (H1 : Heap) (locs1 : List Loc), PW D cA τ G L σ1 H1 → va_S A H0 H1 locs1 → rg r → P r σ1 → W p l e R s m args below meth c H1 locs1 cells slots Q (F0 m (pc + 3) ls (.int (jI r) :: rest))) : W p l e R s m args below meth c H locs cells slots Q (F0 m pc ls st0) :=
  va_calli hr hF (fun q _ h => hA q h) hA (fun r u t H1 locs1 ht _ hp hB _ _ hS1 => by obtain ⟨rfl, h1, h2⟩ := hp; exact kk u.1 u.2 H1 locs1 (ht ▸ hB) hS1 h1 h2)
theorem j_cV {P : (Nat → Nat → Int) → Prop} (hr : va_Run p l e R s m args below meth c H locs cells slots 0 0 (F0 m pc ls st0) rest (jQV D cA τ G L P a) (fun q => q ∈ L)) (hA : ∀ q ∈ L, A q) (hF : va_S A H0 H locs)
    (kk : ∀ (σ1 : Nat → Nat → Int) (H1 : Heap) (locs1 : List Loc), PW D cA τ G L σ1 H1 → va_S A H0 H1 locs1 → P σ1 → W p l e R s m args below meth c H1 locs1 cells slots Q (F0 m (pc + 3) ls rest)) : W p l e R s m args below meth c H locs cells slots Q (F0 m pc ls st0) :=
  va_callv hr hF (fun q _ h => hA q h) hA (fun u t H1 locs1 ht _ hp hB _ _ hS1 => kk u H1 locs1 (ht ▸ hB) hS1 hp)
theorem j_cR {P : Int → Prop} (hr : va_Run p l e R s m args below meth c H locs cells slots 0 0 (F0 m pc ls st0) rest (jQR P a) (fun _ => False))
    (kk : ∀ r : Int, rg r → P r → W p l e R s m args below meth c H locs cells slots Q (F0 m (pc + 3) ls (.int (jI r) :: rest))) : W p l e R s m args below meth c H locs cells slots Q (F0 m pc ls st0) := by
  intro T hT X
  obtain ⟨v, st₀, t, T', L', h0, X', hL, e1, -, ⟨r, hv, ⟨z, rfl, hz, hp⟩, hh⟩, st⟩ := hr T hT X
  cases hv
  obtain ⟨t2, a1, b1⟩ := kk z hz hp T' (by rw [e1, hh, h0]) (Stand.forget X' (fun q h => (hL q h).elim))
  exact ⟨t2, st t2 a1, b1⟩
variable {Ts ws ws' : List Cond} {own C : String} {nL index maxL n : Nat} {y : MethodName} {bytes : ByteArray} {ret : Option FieldType} {rm : Room} {Qc : Array Value → State → Outcome → State → Prop} {free : Addr → Prop} {b t ci : Nat} {fds : List fdT} {q : vw_C} {As : List Value}
theorem j_runV (hx : p.tables.exec = Jvm.exec) (hb : c.code = cc) (hml : c.maxLocals = nL) (hown : s.vm.findClass own = some m.cls) (hts : ∀ w ∈ Ts, w.before args s = true) (hK : XK D cA s) (hS : SW τ G L) (hW : PW D cA τ G L σ H)
    (hM : Met l y ws rm (jP D cA τ G L σ (.ref b :: As)) Qc 0 0 free) (n : Nat) (hG : GoodIn Ts (wsV own index C y ws)) (hw : ws = Cond.code y bytes maxL ret :: ws') (hd : y.cls = C ∧ y.cls ≠ "java/lang/invoke/MethodHandle" ∧ y.cls ≠ "java/lang/invoke/VarHandle" ∧ (parseMethodDescriptor y.desc).map (fun d => d.parameters.length) = some n) (hR : rm.frames + 1 ≤ R.frames ∧ 8 + (maxL + 11) + rm.locals ≤ R.locals) (hrc : rm.cells = 0) (hrs : rm.slots = 0)
    (hbt : τ b = t) (hl : lyO t = some (ci, fds)) (hc : vwCl[ci]? = some q) (hq : q.1 = C) (hn : As.length = n) (hsize : ls.size = nL) (hst : st0 = As.reverse ++ .ref b :: rest) (hrest : (rest.map fun v => v.category).sum ≤ 8) (hdg : decode cc pc = .ok (.invokevirtual index, 3)) (hcs : cells ≤ R.cells ∧ slots ≤ R.slots) :
    va_Run p l e R s m args below meth c H locs cells slots 0 0 (F0 m pc ls st0) rest (Qc (Value.ref b :: As).toArray) free := by
  subst hq
  exact va_runV (As := As) (rest := rest) ⟨hx, hb, hml, hown, hts⟩ hM (cwV n hts hG hw hrc hrs hd hR) ⟨jP_blind, j_recv hK hS hW hbt hl hc, fun U hU hW' => ⟨rfl, by rw [hU]; exact hW, hK.warm hW'⟩⟩ rfl hn hsize hst (lv_room hrest) hdg hcs
theorem j_runS (hx : p.tables.exec = Jvm.exec) (hb : c.code = cc) (hml : c.maxLocals = nL) (hown : s.vm.findClass own = some m.cls) (hts : ∀ w ∈ Ts, w.before args s = true) (hK : XK D cA s) (hW : PW D cA τ G L σ H)
    (hM : Met l y ws rm (jP D cA τ G L σ As) Qc 0 0 free) (n : Nat) (hG : GoodIn Ts (va_wsS own index y ws)) (hw : ws = Cond.code y bytes maxL ret :: ws') (hd : y.cls = own ∧ y.cls ≠ "java/lang/invoke/MethodHandle" ∧ y.cls ≠ "java/lang/invoke/VarHandle" ∧ (parseMethodDescriptor y.desc).map (fun d => d.parameters.length) = some n) (hR : rm.frames + 1 ≤ R.frames ∧ 8 + (maxL + 11) + rm.locals ≤ R.locals) (hrc : rm.cells = 0) (hrs : rm.slots = 0)
    (hn : As.length = n) (hsize : ls.size = nL) (hst : st0 = As.reverse ++ rest) (hrest : (rest.map fun v => v.category).sum ≤ 8) (hdg : decode cc pc = .ok (.invokestatic index, 3)) (hcs : cells ≤ R.cells ∧ slots ≤ R.slots) :
    va_Run p l e R s m args below meth c H locs cells slots 0 0 (F0 m pc ls st0) rest (Qc As.toArray) free := by
  have hG' : GoodIn Ts (wsS own index y ws) := fun w h => hG w (by
    have h' : w ∈ ([.methodLink own index y, .static y, .initialized own] : List Cond) ++ ws := h
    show w ∈ ([.methodLink own index y, .static y, .initialized y.cls] : List Cond) ++ ws
    rw [hd.1]; exact h')
  exact va_runS (As := As) (rest := rest) ⟨hx, hb, hml, hown, hts⟩ hM (cwS n hts hG' hw hrc hrs hd hR) ⟨jP_blind, fun U hU hW' => ⟨rfl, by rw [hU]; exact hW, hK.warm hW'⟩⟩ rfl hn hsize hst (lv_room hrest) hdg hcs
theorem j_runSN {host : String} (hx : p.tables.exec = Jvm.exec) (hb : c.code = cc) (hml : c.maxLocals = nL) (hown : s.vm.findClass own = some m.cls) (hts : ∀ w ∈ Ts, w.before args s = true) (hK : XK D cA s) (hW : PW D cA τ G L σ H)
    (hM : Met l y ws rm (jP D cA τ G L σ As) Qc 0 0 free) (n : Nat) (hG : GoodIn Ts ws) (hw : ws = Cond.code y bytes maxL ret :: ws') (hd : y.cls ≠ "java/lang/invoke/MethodHandle" ∧ y.cls ≠ "java/lang/invoke/VarHandle" ∧ (parseMethodDescriptor y.desc).map (fun d => d.parameters.length) = some n) (hR : rm.frames + 1 ≤ R.frames ∧ 8 + (maxL + 11) + rm.locals ≤ R.locals) (hrc : rm.cells = 0) (hrs : rm.slots = 0) (hnest : va_Nw (.methodLinkNest own index y host) s) (hini : (Cond.initialized y.cls).before args s = true) (hstat : (Cond.static y).before args s = true)
    (hn : As.length = n) (hsize : ls.size = nL) (hst : st0 = As.reverse ++ rest) (hrest : (rest.map fun v => v.category).sum ≤ 8) (hdg : decode cc pc = .ok (.invokestatic index, 3)) (hcs : cells ≤ R.cells ∧ slots ≤ R.slots) :
    va_Run p l e R s m args below meth c H locs cells slots 0 0 (F0 m pc ls st0) rest (Qc As.toArray) free :=
  va_runSN (As := As) (rest := rest) ⟨hx, hb, hml, hown, hts⟩ hM ⟨va_cnB n hts hG hw hrc hrs hnest hini hd hR, hstat, trivial⟩ ⟨jP_blind, fun U hU hW' => ⟨rfl, by rw [hU]; exact hW, hK.warm hW'⟩⟩ rfl hn hsize hst (lv_room hrest) hdg hcs
end JC
section JM
variable {l : Launch} {y : MethodName} {ws ws' : List Cond} {rm : Room} {cc : ByteArray} {maxL : Nat} {D : va_G} {cA : Nat → ClassId} {τ : Nat → Nat} {G : Nat → Nat → Nat} {L : List Nat} {σ : Nat → Nat → Int} {av : List Value}
theorem j_metI {P : Int → (Nat → Nat → Int) → Prop} (hy : plainName y.cls = true) (hw : ws = Cond.code y cc maxL (some .int) :: ws') (hlen : (lg_sl av).length ≤ maxL)
    (body : ∀ p e s m args below meth c Q, p.tables.exec = Jvm.exec → c.code = cc → c.maxLocals = maxL → s.vm.findClass y.cls = some m.cls → (∀ w ∈ ws, w.before args s = true) → XK D cA s → PW D cA τ G L σ s.heap →
      (∀ (pc : Nat) (ls : Array Slot) (H : Heap) (locs : List Loc) (r : Int) (σ1 : Nat → Nat → Int), decode cc pc = .ok (.ireturn, 1) → PW D cA τ G L σ1 H → va_S (fun q => q ∈ L) s.heap H locs → rg r → P r σ1 → W p l e rm s m args below meth c H locs 0 0 Q (F0 m pc ls [.int (jI r)])) →
      ∀ ls, lv_has ls maxL (lv_args 0 av) → W p l e rm s m args below meth c s.heap [] 0 0 Q (F0 m 0 ls [])) :
    Met l y ws rm (jP D cA τ G L σ av) (jQI D cA τ G L P) 0 0 (fun q => q ∈ L) := by
  refine Met.ofW (cc := cc) (maxL := maxL) (ret := some .int) hy hw ?_
  intro p e s m args below meth c s₁ B hml hv
  obtain ⟨rfl, hW, hK⟩ := hv
  have hts := atoms_spec (ws := ws) B.pre
  have hl := lv_entry av (n := maxL) hlen
  rw [lg_entry_eq]
  refine body p e s m _ below meth c _ B.exec B.bytes hml (findClass_of_methodNamed B.named) hts hK hW (fun pc ls H locs r σ1 hd hW1 hF hr hP => ?_) _ hl
  exact W.iret B.exec B.bytes B.returns (fun t ht hWm => ⟨⟨jI r, (r, σ1), rfl, ⟨rfl, hr, hP⟩, by show PW D cA τ G L σ1 t.heap; rw [ht]; exact hW1⟩, hF.F ht⟩) hF.2.2 hd
theorem nar01 {r : Int} (h : 0 ≤ r ∧ r ≤ 1) : narrow .boolean (.int (jI r)) = .int (jI r) := by
  have : r = 0 ∨ r = 1 := by omega
  rcases this with rfl | rfl <;> rfl
theorem j_metZ {P : Int → (Nat → Nat → Int) → Prop} (hy : plainName y.cls = true) (hw : ws = Cond.code y cc maxL (some .boolean) :: ws') (hlen : (lg_sl av).length ≤ maxL)
    (body : ∀ p e s m args below meth c Q, p.tables.exec = Jvm.exec → c.code = cc → c.maxLocals = maxL → s.vm.findClass y.cls = some m.cls → (∀ w ∈ ws, w.before args s = true) → XK D cA s → PW D cA τ G L σ s.heap →
      (∀ (pc : Nat) (ls : Array Slot) (H : Heap) (locs : List Loc) (r : Int) (σ1 : Nat → Nat → Int), decode cc pc = .ok (.ireturn, 1) → PW D cA τ G L σ1 H → va_S (fun q => q ∈ L) s.heap H locs → (0 ≤ r ∧ r ≤ 1) → P r σ1 → W p l e rm s m args below meth c H locs 0 0 Q (F0 m pc ls [.int (jI r)])) →
      ∀ ls, lv_has ls maxL (lv_args 0 av) → W p l e rm s m args below meth c s.heap [] 0 0 Q (F0 m 0 ls [])) :
    Met l y ws rm (jP D cA τ G L σ av) (jQI D cA τ G L (fun r σ1 => (0 ≤ r ∧ r ≤ 1) ∧ P r σ1)) 0 0 (fun q => q ∈ L) := by
  refine Met.ofW (cc := cc) (maxL := maxL) (ret := some .boolean) hy hw ?_
  intro p e s m args below meth c s₁ B hml hv
  obtain ⟨rfl, hW, hK⟩ := hv
  have hts := atoms_spec (ws := ws) B.pre
  have hl := lv_entry av (n := maxL) hlen
  rw [lg_entry_eq]
  refine body p e s m _ below meth c _ B.exec B.bytes hml (findClass_of_methodNamed B.named) hts hK hW (fun pc ls H locs r σ1 hd hW1 hF hr hP => ?_) _ hl
  exact W.zret B.exec B.bytes B.returns (nar01 hr) (fun t ht hWm => ⟨⟨jI r, (r, σ1), rfl, ⟨rfl, by show rg r; omega, hr, hP⟩, by show PW D cA τ G L σ1 t.heap; rw [ht]; exact hW1⟩, hF.F ht⟩) hF.2.2 hd
theorem j_metV {P : (Nat → Nat → Int) → Prop} (hy : plainName y.cls = true) (hw : ws = Cond.code y cc maxL none :: ws') (hlen : (lg_sl av).length ≤ maxL)
    (body : ∀ p e s m args below meth c Q, p.tables.exec = Jvm.exec → c.code = cc → c.maxLocals = maxL → s.vm.findClass y.cls = some m.cls → (∀ w ∈ ws, w.before args s = true) → XK D cA s → PW D cA τ G L σ s.heap →
      (∀ (pc : Nat) (ls : Array Slot) (H : Heap) (locs : List Loc) (σ1 : Nat → Nat → Int), decode cc pc = .ok (.return_, 1) → PW D cA τ G L σ1 H → va_S (fun q => q ∈ L) s.heap H locs → P σ1 → W p l e rm s m args below meth c H locs 0 0 Q (F0 m pc ls [])) →
      ∀ ls, lv_has ls maxL (lv_args 0 av) → W p l e rm s m args below meth c s.heap [] 0 0 Q (F0 m 0 ls [])) :
    Met l y ws rm (jP D cA τ G L σ av) (jQV D cA τ G L P) 0 0 (fun q => q ∈ L) := by
  refine Met.ofW (cc := cc) (maxL := maxL) (ret := none) hy hw ?_
  intro p e s m args below meth c s₁ B hml hv
  obtain ⟨rfl, hW, hK⟩ := hv
  have hts := atoms_spec (ws := ws) B.pre
  have hl := lv_entry av (n := maxL) hlen
  rw [lg_entry_eq]
  refine body p e s m _ below meth c _ B.exec B.bytes hml (findClass_of_methodNamed B.named) hts hK hW (fun pc ls H locs σ1 hd hW1 hF hP => ?_) _ hl
  exact W.vret B.exec B.bytes B.returns (fun t ht hWm => ⟨⟨σ1, rfl, hP, by show PW D cA τ G L σ1 t.heap; rw [ht]; exact hW1⟩, hF.F ht⟩) hF.2.2 hd
theorem j_metR {P : Int → Prop} (hy : plainName y.cls = true) (hw : ws = Cond.code y cc maxL (some .int) :: ws') (hlen : (lg_sl av).length ≤ maxL)
    (body : ∀ p e s m args below meth c Q, p.tables.exec = Jvm.exec → c.code = cc → c.maxLocals = maxL → s.vm.findClass y.cls = some m.cls → (∀ w ∈ ws, w.before args s = true) → XK D cA s → PW D cA τ G L σ s.heap →
      (∀ (pc : Nat) (ls : Array Slot) (r : Int), decode cc pc = .ok (.ireturn, 1) → rg r → P r → W p l e rm s m args below meth c s.heap [] 0 0 Q (F0 m pc ls [.int (jI r)])) →
      ∀ ls, lv_has ls maxL (lv_args 0 av) → W p l e rm s m args below meth c s.heap [] 0 0 Q (F0 m 0 ls [])) :
    Met l y ws rm (jP D cA τ G L σ av) (jQR P) 0 0 (fun _ => False) := by
  refine Met.ofW (cc := cc) (maxL := maxL) (ret := some .int) hy hw ?_
  intro p e s m args below meth c s₁ B hml hv
  obtain ⟨rfl, hW, hK⟩ := hv
  have hts := atoms_spec (ws := ws) B.pre
  have hl := lv_entry av (n := maxL) hlen
  rw [lg_entry_eq]
  refine body p e s m _ below meth c _ B.exec B.bytes hml (findClass_of_methodNamed B.named) hts hK hW (fun pc ls r hd hr hP => ?_) _ hl
  exact W.iret B.exec B.bytes B.returns (fun t ht hWm => ⟨jI r, rfl, ⟨r, rfl, hr, hP⟩, ht⟩) (fun _ h => by cases h) hd
theorem j_metRZ {P : Int → Prop} (hy : plainName y.cls = true) (hw : ws = Cond.code y cc maxL (some .boolean) :: ws') (hlen : (lg_sl av).length ≤ maxL)
    (body : ∀ p e s m args below meth c Q, p.tables.exec = Jvm.exec → c.code = cc → c.maxLocals = maxL → s.vm.findClass y.cls = some m.cls → (∀ w ∈ ws, w.before args s = true) → XK D cA s → PW D cA τ G L σ s.heap →
      (∀ (pc : Nat) (ls : Array Slot) (r : Int), decode cc pc = .ok (.ireturn, 1) → (0 ≤ r ∧ r ≤ 1) → P r → W p l e rm s m args below meth c s.heap [] 0 0 Q (F0 m pc ls [.int (jI r)])) →
      ∀ ls, lv_has ls maxL (lv_args 0 av) → W p l e rm s m args below meth c s.heap [] 0 0 Q (F0 m 0 ls [])) :
    Met l y ws rm (jP D cA τ G L σ av) (jQR (fun r => (0 ≤ r ∧ r ≤ 1) ∧ P r)) 0 0 (fun _ => False) := by
  refine Met.ofW (cc := cc) (maxL := maxL) (ret := some .boolean) hy hw ?_
  intro p e s m args below meth c s₁ B hml hv
  obtain ⟨rfl, hW, hK⟩ := hv
  have hts := atoms_spec (ws := ws) B.pre
  have hl := lv_entry av (n := maxL) hlen
  rw [lg_entry_eq]
  refine body p e s m _ below meth c _ B.exec B.bytes hml (findClass_of_methodNamed B.named) hts hK hW (fun pc ls r hd hr hP => ?_) _ hl
  exact W.zret B.exec B.bytes B.returns (nar01 hr) (fun t ht hWm => ⟨jI r, rfl, ⟨r, rfl, by show rg r; omega, hr, hP⟩, ht⟩) (fun _ h => by cases h) hd
end JM
