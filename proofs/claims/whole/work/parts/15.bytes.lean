/-! ===== bytes ===== -/
/-- a byte of an int -/
def xb (x : Int32) (k : Nat) : Nat := x.toBitVec.toNat / 2 ^ k % 256
/-- a byte as the reference holds it -/
def sg (n : Nat) : Int32 := (nI n).toInt8.toInt32
theorem xb_lt (x : Int32) (k : Nat) : xb x k < 256 := Nat.mod_lt _ (by omega)
theorem ush8 (x s : Int32) (k : Nat) (hs : ((s.toUInt32 &&& Int32.toUInt32 31).toBitVec % 32).toNat = k) : xius x s &&& 255 = nI (xb x k) := by
  rw [pk_and (xius x s) (m := 255) 8 (by decide +kernel)]
  unfold xius xb
  rw [pk_ushr x s k hs]
theorem ush24 (x : Int32) : xius x 24 &&& 255 = nI (xb x 24) := ush8 x 24 24 (by decide +kernel)
theorem ush16 (x : Int32) : xius x 16 &&& 255 = nI (xb x 16) := ush8 x 16 16 (by decide +kernel)
theorem ush08 (x : Int32) : xius x 8 &&& 255 = nI (xb x 8) := ush8 x 8 8 (by decide +kernel)
theorem ush00 (x : Int32) : xius x 0 &&& 255 = nI (xb x 0) := ush8 x 0 0 (by decide +kernel)
theorem sg_bits (a b : Int32) (h : a.toBitVec.setWidth 8 = b.toBitVec.setWidth 8) : a.toInt8.toInt32 = b.toInt8.toInt32 := by
  have : a.toInt8 = b.toInt8 := by
    apply Int8.toBitVec_inj.mp
    show a.toBitVec.signExtend 8 = b.toBitVec.signExtend 8
    rw [BitVec.signExtend_eq_setWidth_of_le _ (by omega), BitVec.signExtend_eq_setWidth_of_le _ (by omega), h]
  rw [this]
theorem shr_sg (x s : Int32) (k : Nat) (hk : k + 8 ≤ 32) (hs : (x >>> s).toBitVec = x.toBitVec.sshiftRight k) : (x >>> s).toInt8.toInt32 = sg (xb x k) := by
  refine sg_bits _ _ ?_
  rw [hs]
  apply BitVec.eq_of_getLsbD_eq
  intro i hi
  have e : (nI (xb x k)).toBitVec = BitVec.ofNat 32 (xb x k) := rfl
  rw [e]
  simp only [BitVec.getLsbD_setWidth, BitVec.getLsbD_sshiftRight, BitVec.getLsbD_ofNat, hi, decide_true, Bool.true_and]
  have h1 : k + i < 32 := by omega
  have h2 : i < 32 := by omega
  simp only [h1, h2, if_true, decide_true, Bool.true_and]
  unfold xb
  rw [show (256 : Nat) = 2 ^ 8 from rfl, Nat.testBit_mod_two_pow, Nat.testBit_div_two_pow, Nat.add_comm]
  simp [hi, BitVec.getLsbD]
  intro _
  exact h2
theorem shr24 (x : Int32) : (x >>> ((24 : Int32) &&& 31)).toInt8.toInt32 = sg (xb x 24) := shr_sg x _ 24 (by omega) rfl
theorem shr16 (x : Int32) : (x >>> ((16 : Int32) &&& 31)).toInt8.toInt32 = sg (xb x 16) := shr_sg x _ 16 (by omega) rfl
theorem shr08 (x : Int32) : (x >>> ((8 : Int32) &&& 31)).toInt8.toInt32 = sg (xb x 8) := shr_sg x _ 8 (by omega) rfl
theorem shr00 (x : Int32) : (x >>> ((0 : Int32) &&& 31)).toInt8.toInt32 = sg (xb x 0) := shr_sg x _ 0 (by omega) rfl
theorem sg_and {n : Nat} (h : n < 256) : sg n &&& 255 = nI n := by
  have key : ∀ n, n < 256 → sg n &&& 255 = nI n := by decide +kernel
  exact key n h
theorem sg_nar {n : Nat} : vp_nar .byte (sg n) = sg n := pk_vb _
/-- four bytes more -/
def app4 (f : Nat → Nat) (n : Nat) (x : Int32) : Nat → Nat := fun j => if j = n then xb x 24 else if j = n + 1 then xb x 16 else if j = n + 2 then xb x 8 else if j = n + 3 then xb x 0 else f j
/-- the tape of the class: n bytes -/
def isT (A : xH) (f : Nat → Nat) (n : Nat) : Prop := xi A 1 1 = nI n ∧ n ≤ 940 ∧ ∀ j, j < n → xi A 2 j = nI (f j) ∧ f j < 256
/-- .. of the reference -/
def isU (A : xH) (f : Nat → Nat) (n : Nat) : Prop := xi A 180 1 = nI n ∧ n ≤ 940 ∧ ∀ j, j < n → xi A 181 j = sg (f j) ∧ f j < 256

