def hB (h : Nat → Int) : Int → Int := fun k => h k.toNat
abbrev kB (F : Nat → Int) (i : Int) : Int → Int := fun k => kO F i (3 + k)
/-- key a goes on behind the first m bytes of the one at hand -/
def kgo (m la : Int) (fa : Int → Int) (lh : Int) (fh : Int → Int) : Prop := m < la ∧ m ≤ lh ∧ ∀ j : Int, 0 ≤ j → j < m → fa j = fh j
theorem bv_sub32 {d : Int} (h0 : 0 ≤ d) (h1 : d < 32) : ((jI d &&& 31 : Int32).toBitVec.smod 32).toNat = d.toNat := by
  have e1 : (jI d &&& 31 : Int32) = jI d := by
    rw [show (31 : Int32) = jI 31 from rfl, jI_and31, Int.emod_eq_of_lt h0 h1]
  rw [e1]
  have e2 : ((jI d).toBitVec.smod 32).toInt = d := by
    rw [BitVec.toInt_smod]
    show (jI d).toInt.fmod (32 : BitVec 32).toInt = d
    rw [jI_toInt (by omega), show (32 : BitVec 32).toInt = 32 from by decide, Int.fmod_eq_emod_of_nonneg _ (by omega), Int.emod_eq_of_lt h0 h1]
  have e3 := BitVec.toInt_eq_toNat_cond ((jI d).toBitVec.smod 32)
  have e4 := ((jI d).toBitVec.smod 32).isLt
  split at e3 <;> omega
theorem bv_odd (y : BitVec 32) : y.toInt % 2 = 1 ↔ y.getLsbD 0 = true := by
  have e3 := BitVec.toInt_eq_toNat_cond y
  have e4 := y.isLt
  have e5 : y.getLsbD 0 = decide (y.toNat % 2 = 1) := by
    rw [BitVec.getLsbD, Nat.testBit_zero]
  rw [e5, decide_eq_true_iff]
  split at e3 <;> omega
theorem bit_shr {x d z : Int} (h0 : 0 ≤ d) (h1 : d < 32) (e : z = (jI x >>> (jI d &&& 31)).toInt) : z % 2 = 1 ↔ bit x d := by
  rw [e]
  show (BitVec.sshiftRight' (jI x).toBitVec ((jI d &&& 31 : Int32).toBitVec.smod 32)).toInt % 2 = 1 ↔ _
  rw [bv_odd, BitVec.getLsbD_sshiftRight', bv_sub32 h0 h1]
  unfold bit
  simp only [Nat.not_le.mpr (show 0 < 32 by decide), decide_false, Bool.not_false, Bool.true_and, Nat.add_zero]
  rw [if_pos (by omega)]
  rfl
theorem bit_word {z : Int} {v : Int32} (e : z = v.toInt) (k : Int) : bit z k ↔ v.toBitVec.getLsbD k.toNat = true := by
  unfold bit
  have : BitVec.ofInt 32 z = v.toBitVec := by
    have h := congrArg Int32.toBitVec (toInt_jI v)
    rw [← e] at h
    exact h
  rw [this]
theorem bit_or {x y z : Int} (e : z = (jI x ||| jI y).toInt) (k : Int) : bit z k ↔ bit x k ∨ bit y k := by
  rw [bit_word e k]
  show ((jI x).toBitVec ||| (jI y).toBitVec).getLsbD k.toNat = true ↔ _
  rw [BitVec.getLsbD_or, Bool.or_eq_true]
  rfl
theorem bit_and {x y z : Int} (e : z = (jI x &&& jI y).toInt) (k : Int) : bit z k ↔ bit x k ∧ bit y k := by
  rw [bit_word e k]
  show ((jI x).toBitVec &&& (jI y).toBitVec).getLsbD k.toNat = true ↔ _
  rw [BitVec.getLsbD_and, Bool.and_eq_true]
  rfl
theorem bit_not {y z : Int} (e : z = (jI y ^^^ jI (-1)).toInt) (k : Int) (h0 : 0 ≤ k) (h1 : k < 32) : bit z k ↔ ¬ bit y k := by
  rw [bit_word e k]
  show ((jI y).toBitVec ^^^ (jI (-1)).toBitVec).getLsbD k.toNat = true ↔ _
  rw [BitVec.getLsbD_xor]
  have : (jI (-1)).toBitVec.getLsbD k.toNat = true := by
    have e1 : (jI (-1)).toBitVec = BitVec.allOnes 32 := by decide
    rw [e1, BitVec.getLsbD_allOnes]
    simp
    omega
  rw [this]
  unfold bit
  show ((BitVec.ofInt 32 y).getLsbD k.toNat ^^ true) = true ↔ _
  cases (BitVec.ofInt 32 y).getLsbD k.toNat <;> simp
theorem bit_shl {d z : Int} (e : z = (jI 1 <<< (jI d &&& 31)).toInt) (h0 : 0 ≤ d) (h1 : d < 32) (k : Int) (k0 : 0 ≤ k) (k1 : k < 32) : bit z k ↔ k = d := by
  rw [bit_word e k]
  show ((jI 1).toBitVec <<< ((jI d &&& 31 : Int32).toBitVec.smod 32)).getLsbD k.toNat = true ↔ _
  rw [BitVec.shiftLeft_eq', bv_sub32 h0 h1, BitVec.getLsbD_shiftLeft]
  have e1 : (jI 1).toBitVec = 1#32 := by decide
  rw [e1, BitVec.getLsbD_one]
  simp only [Bool.and_eq_true, decide_eq_true_eq, Bool.not_eq_true', decide_eq_false_iff_not]
  omega
