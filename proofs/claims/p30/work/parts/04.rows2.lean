section JR2
variable {p : Program} {l : Launch} {e : Env} {R : Room} {s : State} {m : MethodId} {args : Array Value} {below : List Frame} {meth : Method} {c : Code} {H : Heap} {locs : List Loc} {cells slots : Nat} {Q : State → Prop}
variable {cc : ByteArray} {pc : Nat} {ls : Array Slot} {rest : List Value}
theorem j_const (hx : p.tables.exec = Jvm.exec) (hb : c.code = cc) {n : Int} (hdg : decode cc pc = .ok (.iconst n, 1))
    (k : W p l e R s m args below meth c H locs cells slots Q (F0 m (pc + 1) ls (.int (jI n) :: rest))) : W p l e R s m args below meth c H locs cells slots Q (F0 m pc ls rest) := lv_iconst hx hb hdg rfl k
theorem j_bi (hx : p.tables.exec = Jvm.exec) (hb : c.code = cc) {n : Int} (hdg : decode cc pc = .ok (.bipush n, 2)) (hn : -128 ≤ n ∧ n ≤ 127)
    (k : W p l e R s m args below meth c H locs cells slots Q (F0 m (pc + 2) ls (.int (jI n) :: rest))) : W p l e R s m args below meth c H locs cells slots Q (F0 m pc ls rest) := lv_bipush (v := jI n) hx hb hdg (by
      apply Int32.toInt_inj.mp
      rw [Int8.toInt_toInt32, jI_toInt (by omega), Int8.toInt_ofInt_of_le (by omega) (by omega)]) k
theorem j_si (hx : p.tables.exec = Jvm.exec) (hb : c.code = cc) {n : Int} (hdg : decode cc pc = .ok (.sipush n, 3)) (hn : -32768 ≤ n ∧ n ≤ 32767)
    (k : W p l e R s m args below meth c H locs cells slots Q (F0 m (pc + 3) ls (.int (jI n) :: rest))) : W p l e R s m args below meth c H locs cells slots Q (F0 m pc ls rest) := lv_sipush (v := jI n) hx hb hdg (by
      apply Int32.toInt_inj.mp
      rw [Int16.toInt_toInt32, jI_toInt (by omega), Int16.toInt_ofInt_of_le (by omega) (by omega)]) k
theorem j_add (hx : p.tables.exec = Jvm.exec) (hb : c.code = cc) {x y : Int} (hdg : decode cc pc = .ok (.iadd, 1))
    (k : W p l e R s m args below meth c H locs cells slots Q (F0 m (pc + 1) ls (.int (jI (x + y)) :: rest))) : W p l e R s m args below meth c H locs cells slots Q (F0 m pc ls (.int (jI y) :: .int (jI x) :: rest)) := lv_iadd hx hb hdg (by rw [jI_add]; exact k)
theorem j_sub (hx : p.tables.exec = Jvm.exec) (hb : c.code = cc) {x y : Int} (hdg : decode cc pc = .ok (.isub, 1))
    (k : W p l e R s m args below meth c H locs cells slots Q (F0 m (pc + 1) ls (.int (jI (x - y)) :: rest))) : W p l e R s m args below meth c H locs cells slots Q (F0 m pc ls (.int (jI y) :: .int (jI x) :: rest)) := lv_isub hx hb hdg (by rw [jI_sub]; exact k)
theorem j_mul (hx : p.tables.exec = Jvm.exec) (hb : c.code = cc) {x y : Int} (hdg : decode cc pc = .ok (.imul, 1))
    (k : W p l e R s m args below meth c H locs cells slots Q (F0 m (pc + 1) ls (.int (jI (x * y)) :: rest))) : W p l e R s m args below meth c H locs cells slots Q (F0 m pc ls (.int (jI y) :: .int (jI x) :: rest)) := lv_imul hx hb hdg (by rw [jI_mul]; exact k)
/-- whatever number a word is, it has one -/
theorem j_raw {v : Int32} (k : ∀ z : Int, rg z → z = v.toInt → W p l e R s m args below meth c H locs cells slots Q (F0 m pc ls (.int (jI z) :: rest))) : W p l e R s m args below meth c H locs cells slots Q (F0 m pc ls (.int v :: rest)) := by
  have := k v.toInt (rg_toInt v) rfl
  rwa [toInt_jI] at this
/-- a number that may have gone over the edge -/
theorem j_wrap {x : Int} (k : ∀ z : Int, rg z → (rg x → z = x) → W p l e R s m args below meth c H locs cells slots Q (F0 m pc ls (.int (jI z) :: rest))) : W p l e R s m args below meth c H locs cells slots Q (F0 m pc ls (.int (jI x) :: rest)) := by
  have := k (jI x).toInt (rg_toInt _) (fun h => jI_toInt h)
  rwa [toInt_jI] at this
theorem j_eq {x z : Int} (h : x = z) (k : W p l e R s m args below meth c H locs cells slots Q (F0 m pc ls (.int (jI z) :: rest))) : W p l e R s m args below meth c H locs cells slots Q (F0 m pc ls (.int (jI x) :: rest)) := by rw [h]; exact k
theorem j_div (hx : p.tables.exec = Jvm.exec) (hb : c.code = cc) {x y : Int} (hrx : 0 ≤ x ∧ x < 2147483648) (hry : 0 < y ∧ y < 2147483648) (hdg : decode cc pc = .ok (.idiv, 1))
    (k : W p l e R s m args below meth c H locs cells slots Q (F0 m (pc + 1) ls (.int (jI (x / y)) :: rest))) : W p l e R s m args below meth c H locs cells slots Q (F0 m pc ls (.int (jI y) :: .int (jI x) :: rest)) := by
  have hne : ¬ jI y = 0 := by rw [← jI_0, jI_eq (by omega) rg_0]; omega
  refine lv_idiv hx hb hdg hne ?_
  have h1 : jI x / jI y = jI (x / y) := by
    apply Int32.toInt_inj.mp
    have hq : 0 ≤ x / y := Int.ediv_nonneg hrx.1 (by omega)
    have hq2 : x / y ≤ x := Int.ediv_le_self _ hrx.1
    rw [Int32.toInt_div_of_ne_right _ _ (by rw [show (-1 : Int32) = jI (-1) from rfl, Ne, jI_eq (by omega) (by omega)]; omega), jI_toInt (by omega), jI_toInt (by omega), jI_toInt (by omega), Int.tdiv_eq_ediv_of_nonneg hrx.1]
  rw [h1]
  exact k
/-- any division by a number above 0 -/
theorem j_divW (hx : p.tables.exec = Jvm.exec) (hb : c.code = cc) {x y : Int} (hrx : rg x) (hry : 0 < y ∧ y < 2147483648) (hdg : decode cc pc = .ok (.idiv, 1))
    (k : ∀ z : Int, rg z → (0 ≤ x → 0 ≤ z ∧ z ≤ x) → (x < 0 → x ≤ z ∧ z ≤ 0) → W p l e R s m args below meth c H locs cells slots Q (F0 m (pc + 1) ls (.int (jI z) :: rest))) : W p l e R s m args below meth c H locs cells slots Q (F0 m pc ls (.int (jI y) :: .int (jI x) :: rest)) := by
  have hne : ¬ jI y = 0 := by rw [← jI_0, jI_eq (by omega) rg_0]; omega
  refine lv_idiv hx hb hdg hne ?_
  have h1 : (jI x / jI y).toInt = x.tdiv y := by
    rw [Int32.toInt_div_of_ne_right _ _ (by rw [show (-1 : Int32) = jI (-1) from rfl, Ne, jI_eq (by omega) (by omega)]; omega), jI_toInt hrx, jI_toInt (by omega)]
  refine j_raw (fun z hz hzz => k z hz (fun h0 => ?_) (fun h0 => ?_))
  · rw [hzz, h1, Int.tdiv_eq_ediv_of_nonneg h0]
    exact ⟨Int.ediv_nonneg h0 (by omega), Int.ediv_le_self _ h0⟩
  · rw [hzz, h1]
    have e : x.tdiv y = -((-x).tdiv y) := by rw [Int.neg_tdiv, Int.neg_neg]
    rw [e, Int.tdiv_eq_ediv_of_nonneg (by omega)]
    have hq : 0 ≤ (-x) / y := Int.ediv_nonneg (by omega) (by omega)
    have hq2 : (-x) / y ≤ -x := Int.ediv_le_self _ (by omega)
    omega
theorem j_rem (hx : p.tables.exec = Jvm.exec) (hb : c.code = cc) {x y : Int} (hry : rg y) (h0 : y ≠ 0) (hdg : decode cc pc = .ok (.irem, 1))
    (k : ∀ z : Int, rg z → W p l e R s m args below meth c H locs cells slots Q (F0 m (pc + 1) ls (.int (jI z) :: rest))) : W p l e R s m args below meth c H locs cells slots Q (F0 m pc ls (.int (jI y) :: .int (jI x) :: rest)) :=
  lv_irem hx hb hdg (by rw [← jI_0, jI_eq hry rg_0]; exact h0) (j_raw fun z hz _ => k z hz)
theorem jI_and1 (x : Int) : jI x &&& jI 1 = jI (x % 2) := by
  apply Int32.toBitVec.inj
  apply BitVec.eq_of_toNat_eq
  show (BitVec.ofInt 32 x &&& BitVec.ofInt 32 1).toNat = (BitVec.ofInt 32 (x % 2)).toNat
  rw [BitVec.toNat_and, BitVec.toNat_ofInt, BitVec.toNat_ofInt, BitVec.toNat_ofInt, show ((1 : Int) % ((2 ^ 32 : Nat) : Int)).toNat = 2 ^ 1 - 1 from rfl, Nat.and_two_pow_sub_one_eq_mod, show ((2 ^ 32 : Nat) : Int) = 4294967296 from rfl]
  omega
theorem jI_and31 (x : Int) : jI x &&& jI 31 = jI (x % 32) := by
  apply Int32.toBitVec.inj
  apply BitVec.eq_of_toNat_eq
  show (BitVec.ofInt 32 x &&& BitVec.ofInt 32 31).toNat = (BitVec.ofInt 32 (x % 32)).toNat
  rw [BitVec.toNat_and, BitVec.toNat_ofInt, BitVec.toNat_ofInt, BitVec.toNat_ofInt, show ((31 : Int) % ((2 ^ 32 : Nat) : Int)).toNat = 2 ^ 5 - 1 from rfl, Nat.and_two_pow_sub_one_eq_mod, show ((2 ^ 32 : Nat) : Int) = 4294967296 from rfl]
  omega
theorem jI_and255 (x : Int) : jI x &&& jI 255 = jI (x % 256) := by
  apply Int32.toBitVec.inj
  apply BitVec.eq_of_toNat_eq
  show (BitVec.ofInt 32 x &&& BitVec.ofInt 32 255).toNat = (BitVec.ofInt 32 (x % 256)).toNat
  rw [BitVec.toNat_and, BitVec.toNat_ofInt, BitVec.toNat_ofInt, BitVec.toNat_ofInt, show ((255 : Int) % ((2 ^ 32 : Nat) : Int)).toNat = 2 ^ 8 - 1 from rfl, Nat.and_two_pow_sub_one_eq_mod, show ((2 ^ 32 : Nat) : Int) = 4294967296 from rfl]
  omega
theorem j_and1 (hx : p.tables.exec = Jvm.exec) (hb : c.code = cc) {x : Int} (hdg : decode cc pc = .ok (.iand, 1))
    (k : W p l e R s m args below meth c H locs cells slots Q (F0 m (pc + 1) ls (.int (jI (x % 2)) :: rest))) : W p l e R s m args below meth c H locs cells slots Q (F0 m pc ls (.int (jI 1) :: .int (jI x) :: rest)) := lv_iand hx hb hdg (by rw [jI_and1 x]; exact k)
theorem j_and31 (hx : p.tables.exec = Jvm.exec) (hb : c.code = cc) {x : Int} (hdg : decode cc pc = .ok (.iand, 1))
    (k : W p l e R s m args below meth c H locs cells slots Q (F0 m (pc + 1) ls (.int (jI (x % 32)) :: rest))) : W p l e R s m args below meth c H locs cells slots Q (F0 m pc ls (.int (jI 31) :: .int (jI x) :: rest)) := lv_iand hx hb hdg (by rw [jI_and31 x]; exact k)
theorem j_and255 (hx : p.tables.exec = Jvm.exec) (hb : c.code = cc) {x : Int} (hdg : decode cc pc = .ok (.iand, 1))
    (k : W p l e R s m args below meth c H locs cells slots Q (F0 m (pc + 1) ls (.int (jI (x % 256)) :: rest))) : W p l e R s m args below meth c H locs cells slots Q (F0 m pc ls (.int (jI 255) :: .int (jI x) :: rest)) := lv_iand hx hb hdg (by rw [jI_and255 x]; exact k)
theorem bmod8 {x : Int} (h : -128 ≤ x ∧ x ≤ 127) : x.bmod (2 ^ 8) = x := by
  rw [Int.bmod_def, show ((2 ^ 8 : Nat) : Int) = 256 from rfl]
  split <;> omega
theorem j_i2b (hx : p.tables.exec = Jvm.exec) (hb : c.code = cc) {x : Int} (hdg : decode cc pc = .ok (.i2b, 1))
    (k : ∀ z : Int, -128 ≤ z → z ≤ 127 → (-128 ≤ x ∧ x ≤ 127 → z = x) → W p l e R s m args below meth c H locs cells slots Q (F0 m (pc + 1) ls (.int (jI z) :: rest))) : W p l e R s m args below meth c H locs cells slots Q (F0 m pc ls (.int (jI x) :: rest)) := by
  refine lv_i2b hx hb (v := jI (jI x).toInt8.toInt) hdg (by apply Int32.toInt_inj.mp; have h1 := Int8.le_toInt (jI x).toInt8; have h2 := Int8.toInt_lt (jI x).toInt8; rw [Int8.toInt_toInt32, jI_toInt (by omega)]) ?_
  have h1 := Int8.le_toInt (jI x).toInt8
  have h2 := Int8.toInt_lt (jI x).toInt8
  refine k _ (by omega) (by omega) (fun h => ?_)
  rw [Int32.toInt_toInt8, jI_toInt (by omega)]
  exact bmod8 h
theorem jI_shr1 {x : Int} (h : rg x) : (jI x >>> jI 1).toInt = x / 2 := by
  show (BitVec.sshiftRight' (jI x).toBitVec ((jI 1).toBitVec.smod 32)).toInt = _
  rw [BitVec.toInt_sshiftRight', show ((jI 1).toBitVec.smod 32).toNat = 1 from by decide]
  show (jI x).toInt >>> 1 = _
  rw [jI_toInt h, Int.shiftRight_eq_div_pow]
  rfl
theorem j_shr1 (hx : p.tables.exec = Jvm.exec) (hb : c.code = cc) {x : Int} (h : 0 ≤ x ∧ x < 2147483648) (hdg : decode cc pc = .ok (.ishr, 1))
    (k : ∀ z : Int, rg z → z = x / 2 → W p l e R s m args below meth c H locs cells slots Q (F0 m (pc + 1) ls (.int (jI z) :: rest))) : W p l e R s m args below meth c H locs cells slots Q (F0 m pc ls (.int (jI 1) :: .int (jI x) :: rest)) := by
  refine lv_ishr hx hb hdg (j_raw fun z hz e => k z hz ?_)
  rw [e, show (jI 1 &&& 31 : Int32) = jI 1 from rfl, jI_shr1 (by omega)]
theorem j_ldc (hx : p.tables.exec = Jvm.exec) (hb : c.code = cc) {own : String} {index : Nat} {v : Int32} (hown : s.vm.findClass own = some m.cls) (hconst : (Jvm.Cond.constant own index v).before args s = true) {n : Int} (hv : v = jI n) (hdg : decode cc pc = .ok (.ldc index, 2))
    (k : W p l e R s m args below meth c H locs cells slots Q (F0 m (pc + 2) ls (.int (jI n) :: rest))) : W p l e R s m args below meth c H locs cells slots Q (F0 m pc ls rest) := by
  subst hv
  exact lv_ldc hx hb hown hconst hdg k
theorem j_ldc_w (hx : p.tables.exec = Jvm.exec) (hb : c.code = cc) {own : String} {index : Nat} {v : Int32} (hown : s.vm.findClass own = some m.cls) (hconst : (Jvm.Cond.constant own index v).before args s = true) {n : Int} (hv : v = jI n) (hdg : decode cc pc = .ok (.ldc_w index, 3))
    (k : W p l e R s m args below meth c H locs cells slots Q (F0 m (pc + 3) ls (.int (jI n) :: rest))) : W p l e R s m args below meth c H locs cells slots Q (F0 m pc ls rest) := by
  subst hv
  exact lv_ldcw hx hb hown hconst hdg k
theorem fit01 {r : Int} (h : 0 ≤ r ∧ r ≤ 1) : fits .boolean (.int (jI r)) = true := by
  have : r = 0 ∨ r = 1 := by omega
  rcases this with rfl | rfl <;> rfl
theorem j_mmax (hx : p.tables.exec = Jvm.exec) (hb : c.code = cc) (hml : c.maxLocals = ls.size) {own : String} {index : Nat} (hown : s.vm.findClass own = some m.cls) (hlink : (Cond.methodLink own index Lib.Math.max.name).before args s = true) (hstat : (Cond.static Lib.Math.max.name).before args s = true) (hini : (Cond.initialized "java/lang/Math").before args s = true) (hcode : (Cond.code Lib.Math.max.name Lib.Math.max.code 2 (some .int)).before args s = true)
    (hframes : 1 ≤ R.frames) (hlocals : (rest.map fun v => v.category).sum + 13 ≤ R.locals) (hc : cells ≤ R.cells) (hs : slots ≤ R.slots) {x y : Int} (hrx : rg x) (hry : rg y) (hdg : decode cc pc = .ok (.invokestatic index, 3))
    (kk : ∀ z : Int, rg z → (x ≤ z ∧ y ≤ z ∧ (z = x ∨ z = y)) → W p l e R s m args below meth c H locs cells slots Q (F0 m (pc + 3) ls (.int (jI z) :: rest))) : W p l e R s m args below meth c H locs cells slots Q (F0 m pc ls (.int (jI y) :: .int (jI x) :: rest)) := by
  refine va_mmax hx hb hml hown hlink hstat hini hcode hframes hlocals hc hs hdg ?_
  by_cases h : x < y
  · rw [if_pos ((jI_lt hrx hry).mpr h)]; exact kk y hry (by omega)
  · rw [if_neg (fun q => h ((jI_lt hrx hry).mp q))]; exact kk x hrx (by omega)
theorem j_mmin (hx : p.tables.exec = Jvm.exec) (hb : c.code = cc) (hml : c.maxLocals = ls.size) {own : String} {index : Nat} (hown : s.vm.findClass own = some m.cls) (hlink : (Cond.methodLink own index Lib.Math.min.name).before args s = true) (hstat : (Cond.static Lib.Math.min.name).before args s = true) (hini : (Cond.initialized "java/lang/Math").before args s = true) (hcode : (Cond.code Lib.Math.min.name Lib.Math.min.code 2 (some .int)).before args s = true)
    (hframes : 1 ≤ R.frames) (hlocals : (rest.map fun v => v.category).sum + 13 ≤ R.locals) (hc : cells ≤ R.cells) (hs : slots ≤ R.slots) {x y : Int} (hrx : rg x) (hry : rg y) (hdg : decode cc pc = .ok (.invokestatic index, 3))
    (kk : ∀ z : Int, rg z → (z ≤ x ∧ z ≤ y ∧ (z = x ∨ z = y)) → W p l e R s m args below meth c H locs cells slots Q (F0 m (pc + 3) ls (.int (jI z) :: rest))) : W p l e R s m args below meth c H locs cells slots Q (F0 m pc ls (.int (jI y) :: .int (jI x) :: rest)) := by
  refine va_mmin hx hb hml hown hlink hstat hini hcode hframes hlocals hc hs hdg ?_
  split
  · rename_i h
    first
    | (rw [jI_lt hrx hry] at h; exact kk x hrx (by omega))
    | (rw [jI_le hrx hry] at h; exact kk x hrx (by omega))
    | (rw [jI_lt hry hrx] at h; exact kk y hry (by omega))
    | (rw [jI_le hry hrx] at h; exact kk y hry (by omega))
  · rename_i h
    first
    | (rw [jI_lt hrx hry] at h; exact kk y hry (by omega))
    | (rw [jI_le hrx hry] at h; exact kk y hry (by omega))
    | (rw [jI_lt hry hrx] at h; exact kk x hrx (by omega))
    | (rw [jI_le hry hrx] at h; exact kk x hrx (by omega))
end JR2
section JR3
variable {p : Program} {l : Launch} {e : Env} {R : Room} {s : State} {m : MethodId} {args : Array Value} {below : List Frame} {meth : Method} {c : Code} {H : Heap} {locs : List Loc} {cells slots : Nat} {Q : State → Prop}
variable {cc : ByteArray} {pc : Nat} {ls : Array Slot} {rest : List Value}
theorem j_icmp_ge (hx : p.tables.exec = Jvm.exec) (hb : c.code = cc) {x y off : Int} {tgt : Nat} (hrx : rg x) (hry : rg y) (hdg : decode cc pc = .ok (.if_icmp .ge off, 3)) (ht : (pc : Int) + off = (tgt : Int))
    (kt : y ≤ x → W p l e R s m args below meth c H locs cells slots Q (F0 m tgt ls rest)) (kf : x < y → W p l e R s m args below meth c H locs cells slots Q (F0 m (pc + 3) ls rest)) : W p l e R s m args below meth c H locs cells slots Q (F0 m pc ls (.int (jI y) :: .int (jI x) :: rest)) :=
  lv_icmp_ge hx hb hdg ht (fun h => kt ((jI_le hry hrx).mp h)) (fun h => kf (by rw [jI_le hry hrx] at h; omega))
theorem j_icmp_lt (hx : p.tables.exec = Jvm.exec) (hb : c.code = cc) {x y off : Int} {tgt : Nat} (hrx : rg x) (hry : rg y) (hdg : decode cc pc = .ok (.if_icmp .lt off, 3)) (ht : (pc : Int) + off = (tgt : Int))
    (kt : x < y → W p l e R s m args below meth c H locs cells slots Q (F0 m tgt ls rest)) (kf : y ≤ x → W p l e R s m args below meth c H locs cells slots Q (F0 m (pc + 3) ls rest)) : W p l e R s m args below meth c H locs cells slots Q (F0 m pc ls (.int (jI y) :: .int (jI x) :: rest)) :=
  lv_icmp_lt hx hb hdg ht (fun h => kt ((jI_lt hrx hry).mp h)) (fun h => kf (by rw [jI_lt hrx hry] at h; omega))
theorem j_icmp_gt (hx : p.tables.exec = Jvm.exec) (hb : c.code = cc) {x y off : Int} {tgt : Nat} (hrx : rg x) (hry : rg y) (hdg : decode cc pc = .ok (.if_icmp .gt off, 3)) (ht : (pc : Int) + off = (tgt : Int))
    (kt : y < x → W p l e R s m args below meth c H locs cells slots Q (F0 m tgt ls rest)) (kf : x ≤ y → W p l e R s m args below meth c H locs cells slots Q (F0 m (pc + 3) ls rest)) : W p l e R s m args below meth c H locs cells slots Q (F0 m pc ls (.int (jI y) :: .int (jI x) :: rest)) :=
  lv_icmp_gt hx hb hdg ht (fun h => kt ((jI_lt hry hrx).mp h)) (fun h => kf (by rw [jI_lt hry hrx] at h; omega))
theorem j_icmp_le (hx : p.tables.exec = Jvm.exec) (hb : c.code = cc) {x y off : Int} {tgt : Nat} (hrx : rg x) (hry : rg y) (hdg : decode cc pc = .ok (.if_icmp .le off, 3)) (ht : (pc : Int) + off = (tgt : Int))
    (kt : x ≤ y → W p l e R s m args below meth c H locs cells slots Q (F0 m tgt ls rest)) (kf : y < x → W p l e R s m args below meth c H locs cells slots Q (F0 m (pc + 3) ls rest)) : W p l e R s m args below meth c H locs cells slots Q (F0 m pc ls (.int (jI y) :: .int (jI x) :: rest)) :=
  lv_icmp_le hx hb hdg ht (fun h => kt ((jI_le hrx hry).mp h)) (fun h => kf (by rw [jI_le hrx hry] at h; omega))
theorem j_icmp_ne (hx : p.tables.exec = Jvm.exec) (hb : c.code = cc) {x y off : Int} {tgt : Nat} (hrx : rg x) (hry : rg y) (hdg : decode cc pc = .ok (.if_icmp .ne off, 3)) (ht : (pc : Int) + off = (tgt : Int))
    (kt : ¬ x = y → W p l e R s m args below meth c H locs cells slots Q (F0 m tgt ls rest)) (kf : x = y → W p l e R s m args below meth c H locs cells slots Q (F0 m (pc + 3) ls rest)) : W p l e R s m args below meth c H locs cells slots Q (F0 m pc ls (.int (jI y) :: .int (jI x) :: rest)) :=
  lv_icmp_ne hx hb hdg ht (fun h => kt (fun q => h ((jI_eq hrx hry).mpr q))) (fun h => kf ((jI_eq hrx hry).mp h))
theorem j_icmp_eq (hx : p.tables.exec = Jvm.exec) (hb : c.code = cc) {x y off : Int} {tgt : Nat} (hrx : rg x) (hry : rg y) (hdg : decode cc pc = .ok (.if_icmp .eq off, 3)) (ht : (pc : Int) + off = (tgt : Int))
    (kt : x = y → W p l e R s m args below meth c H locs cells slots Q (F0 m tgt ls rest)) (kf : ¬ x = y → W p l e R s m args below meth c H locs cells slots Q (F0 m (pc + 3) ls rest)) : W p l e R s m args below meth c H locs cells slots Q (F0 m pc ls (.int (jI y) :: .int (jI x) :: rest)) :=
  lv_icmp_eq hx hb hdg ht (fun h => kt ((jI_eq hrx hry).mp h)) (fun h => kf (fun q => h ((jI_eq hrx hry).mpr q)))
theorem j_if_eq (hx : p.tables.exec = Jvm.exec) (hb : c.code = cc) {x off : Int} {tgt : Nat} (hrx : rg x) (hdg : decode cc pc = .ok (.ifCond .eq off, 3)) (ht : (pc : Int) + off = (tgt : Int))
    (kt : x = 0 → W p l e R s m args below meth c H locs cells slots Q (F0 m tgt ls rest)) (kf : ¬ x = 0 → W p l e R s m args below meth c H locs cells slots Q (F0 m (pc + 3) ls rest)) : W p l e R s m args below meth c H locs cells slots Q (F0 m pc ls (.int (jI x) :: rest)) :=
  lv_if_eq hx hb hdg ht (fun h => kt ((jI_eq hrx rg_0).mp h)) (fun h => kf (fun q => h ((jI_eq hrx rg_0).mpr q)))
theorem j_if_ne (hx : p.tables.exec = Jvm.exec) (hb : c.code = cc) {x off : Int} {tgt : Nat} (hrx : rg x) (hdg : decode cc pc = .ok (.ifCond .ne off, 3)) (ht : (pc : Int) + off = (tgt : Int))
    (kt : ¬ x = 0 → W p l e R s m args below meth c H locs cells slots Q (F0 m tgt ls rest)) (kf : x = 0 → W p l e R s m args below meth c H locs cells slots Q (F0 m (pc + 3) ls rest)) : W p l e R s m args below meth c H locs cells slots Q (F0 m pc ls (.int (jI x) :: rest)) :=
  lv_if_ne hx hb hdg ht (fun h => kt (fun q => h ((jI_eq hrx rg_0).mpr q))) (fun h => kf ((jI_eq hrx rg_0).mp h))
theorem j_if_lt (hx : p.tables.exec = Jvm.exec) (hb : c.code = cc) {x off : Int} {tgt : Nat} (hrx : rg x) (hdg : decode cc pc = .ok (.ifCond .lt off, 3)) (ht : (pc : Int) + off = (tgt : Int))
    (kt : x < 0 → W p l e R s m args below meth c H locs cells slots Q (F0 m tgt ls rest)) (kf : 0 ≤ x → W p l e R s m args below meth c H locs cells slots Q (F0 m (pc + 3) ls rest)) : W p l e R s m args below meth c H locs cells slots Q (F0 m pc ls (.int (jI x) :: rest)) :=
  lv_if_lt hx hb hdg ht (fun h => kt ((jI_lt hrx rg_0).mp h)) (fun h => kf (by have h2 : ¬ jI x < jI 0 := h; rw [jI_lt hrx rg_0] at h2; omega))
theorem j_if_ge (hx : p.tables.exec = Jvm.exec) (hb : c.code = cc) {x off : Int} {tgt : Nat} (hrx : rg x) (hdg : decode cc pc = .ok (.ifCond .ge off, 3)) (ht : (pc : Int) + off = (tgt : Int))
    (kt : 0 ≤ x → W p l e R s m args below meth c H locs cells slots Q (F0 m tgt ls rest)) (kf : x < 0 → W p l e R s m args below meth c H locs cells slots Q (F0 m (pc + 3) ls rest)) : W p l e R s m args below meth c H locs cells slots Q (F0 m pc ls (.int (jI x) :: rest)) :=
  lv_if_ge hx hb hdg ht (fun h => kt ((jI_le rg_0 hrx).mp h)) (fun h => kf (by have h2 : ¬ jI 0 ≤ jI x := h; rw [jI_le rg_0 hrx] at h2; omega))
theorem j_if_gt (hx : p.tables.exec = Jvm.exec) (hb : c.code = cc) {x off : Int} {tgt : Nat} (hrx : rg x) (hdg : decode cc pc = .ok (.ifCond .gt off, 3)) (ht : (pc : Int) + off = (tgt : Int))
    (kt : 0 < x → W p l e R s m args below meth c H locs cells slots Q (F0 m tgt ls rest)) (kf : x ≤ 0 → W p l e R s m args below meth c H locs cells slots Q (F0 m (pc + 3) ls rest)) : W p l e R s m args below meth c H locs cells slots Q (F0 m pc ls (.int (jI x) :: rest)) :=
  lv_if_gt hx hb hdg ht (fun h => kt ((jI_lt rg_0 hrx).mp h)) (fun h => kf (by have h2 : ¬ jI 0 < jI x := h; rw [jI_lt rg_0 hrx] at h2; omega))
theorem j_if_le (hx : p.tables.exec = Jvm.exec) (hb : c.code = cc) {x off : Int} {tgt : Nat} (hrx : rg x) (hdg : decode cc pc = .ok (.ifCond .le off, 3)) (ht : (pc : Int) + off = (tgt : Int))
    (kt : x ≤ 0 → W p l e R s m args below meth c H locs cells slots Q (F0 m tgt ls rest)) (kf : 0 < x → W p l e R s m args below meth c H locs cells slots Q (F0 m (pc + 3) ls rest)) : W p l e R s m args below meth c H locs cells slots Q (F0 m pc ls (.int (jI x) :: rest)) :=
  lv_if_le hx hb hdg ht (fun h => kt ((jI_le hrx rg_0).mp h)) (fun h => kf (by have h2 : ¬ jI x ≤ jI 0 := h; rw [jI_le hrx rg_0] at h2; omega))
theorem j_iinc (hx : p.tables.exec = Jvm.exec) (hb : c.code = cc) {i nL k : Nat} {n : Int} {x : Int} {lv lv' : List (Nat × Value)} (hdg : decode cc pc = .ok (.iinc i n, 3)) (h : lv_has ls nL lv) (hk : lv[k]? = some (i, .int (jI x))) (hn : i < nL) (hl : (i, Value.int (jI (x + n))) :: lv.filter (fun q => !(q.1 == i) && !(q.1 + 1 == i && q.2.category == 2)) = lv')
    (kk : ∀ ls' : Array Slot, lv_has ls' nL lv' → W p l e R s m args below meth c H locs cells slots Q (F0 m (pc + 3) ls' rest)) : W p l e R s m args below meth c H locs cells slots Q (F0 m pc ls rest) :=
  lv_iinc hx hb hdg h hk (v := jI (x + n)) (by rw [← jI_add]; rfl) hn hl kk
theorem j_iincW (hx : p.tables.exec = Jvm.exec) (hb : c.code = cc) {i nL k : Nat} {n : Int} {x : Int} {lv : List (Nat × Value)} (hdg : decode cc pc = .ok (.iinc i n, 3)) (h : lv_has ls nL lv) (hk : lv[k]? = some (i, .int (jI x))) (hn : i < nL)
    (kk : ∀ (z : Int) (ls' : Array Slot), rg z → (rg (x + n) → z = x + n) → lv_has ls' nL ((i, Value.int (jI z)) :: lv.filter (fun q => !(q.1 == i) && !(q.1 + 1 == i && q.2.category == 2))) → W p l e R s m args below meth c H locs cells slots Q (F0 m (pc + 3) ls' rest)) : W p l e R s m args below meth c H locs cells slots Q (F0 m pc ls rest) := by
  refine j_iinc hx hb hdg h hk hn rfl (fun ls' hl => kk (jI (x + n)).toInt ls' (rg_toInt _) (fun h => jI_toInt h) ?_)
  rw [toInt_jI]
  exact hl
end JR3
