/-! ===== a long as a set of 64 ===== -/
def tl (x : Int64) (j : Nat) : Bool := x.toBitVec.getLsbD j
theorem tl_ext {x y : Int64} (h : ∀ j, j < 64 → tl x j = tl y j) : x = y := Int64.toBitVec_inj.mp (BitVec.eq_of_getLsbD_eq fun j hj => h j hj)
theorem tl_or {x y : Int64} {j : Nat} : tl (x ||| y) j = (tl x j || tl y j) := by
  show (x.toBitVec ||| y.toBitVec).getLsbD j = _
  rw [BitVec.getLsbD_or]; rfl
theorem tl_and {x y : Int64} {j : Nat} : tl (x &&& y) j = (tl x j && tl y j) := by
  show (x.toBitVec &&& y.toBitVec).getLsbD j = _
  rw [BitVec.getLsbD_and]; rfl
theorem tl_xm {x : Int64} {j : Nat} : tl (x ^^^ (-1)) j = (decide (j < 64) && !tl x j) := by
  show (x.toBitVec ^^^ (-1 : Int64).toBitVec).getLsbD j = _
  rw [show (-1 : Int64).toBitVec = BitVec.allOnes 64 by decide +kernel, BitVec.xor_allOnes, BitVec.getLsbD_not]; rfl
theorem tl_0 {j : Nat} : tl 0 j = false := by
  show (0#64).getLsbD j = _
  simp
theorem tl_hi {x : Int64} {j : Nat} (h : 64 ≤ j) : tl x j = false := BitVec.getLsbD_of_ge _ _ h
theorem tl_zero {x : Int64} (h : ∀ j, j < 64 → tl x j = false) : x = 0 := tl_ext fun j hj => (h j hj).trans tl_0.symm
theorem tl_nz {x : Int64} (h : x ≠ 0) : ∃ j, j < 64 ∧ tl x j = true := by
  apply Classical.byContradiction
  intro n
  refine h (tl_zero fun j hj => ?_)
  cases e : tl x j
  · rfl
  · exact absurd ⟨j, hj, e⟩ n
theorem tl_n {x : Int64} {j : Nat} : tl x j = x.toBitVec.toNat.testBit j := rfl
/-- shifts by a count -/
theorem sh_n {k : Nat} (h : k < 64) : ((nI k).toInt64.toUInt64 &&& Int64.toUInt64 63).toBitVec = BitVec.ofNat 64 k := by
  rw [nI_l (by omega)]
  apply BitVec.eq_of_toNat_eq
  show ((BitVec.ofNat 64 k) &&& (63#64)).toNat = _
  rw [BitVec.toNat_and, BitVec.toNat_ofNat, show (63#64).toNat = 2 ^ 6 - 1 from rfl, Nat.and_two_pow_sub_one_eq_mod, Nat.mod_eq_of_lt (a := k) (by omega), Nat.mod_eq_of_lt (by omega)]
theorem lus_b {x : Int64} {k : Nat} (h : k < 64) : (xlus x (nI k)).toBitVec = x.toBitVec >>> k := by
  show x.toBitVec >>> (((nI k).toInt64.toUInt64 &&& Int64.toUInt64 63).toBitVec % 64#64) = _
  rw [sh_n h]
  show x.toBitVec >>> ((BitVec.ofNat 64 k) % 64#64).toNat = _
  rw [BitVec.toNat_umod, BitVec.toNat_ofNat, Nat.mod_eq_of_lt (a := k) (by omega)]
  rw [show (64#64).toNat = 64 from rfl, Nat.mod_eq_of_lt h]
theorem tl_lus {x : Int64} {k j : Nat} (h : k < 64) : tl (xlus x (nI k)) j = tl x (k + j) := by
  unfold tl
  rw [lus_b h, BitVec.getLsbD_ushiftRight]
theorem lsl_b {x : Int64} {k : Nat} (h : k < 64) : (xlsl x (nI k)).toBitVec = x.toBitVec <<< k := by
  have e : ((nI k).toInt64 &&& 63).toBitVec = BitVec.ofNat 64 k := sh_n h
  show x.toBitVec <<< (((nI k).toInt64 &&& 63).toBitVec.smod 64#64) = _
  rw [e]
  have e2 : (BitVec.ofNat 64 k).smod 64#64 = BitVec.ofNat 64 k := by
    have key : ∀ k, k < 64 → (BitVec.ofNat 64 k).smod 64#64 = BitVec.ofNat 64 k := by decide +kernel
    exact key k h
  rw [e2]
  show x.toBitVec <<< (BitVec.ofNat 64 k).toNat = _
  rw [BitVec.toNat_ofNat, Nat.mod_eq_of_lt (a := k) (by omega)]
theorem tl_lsl {x : Int64} {k j : Nat} (h : k < 64) (hj : j < 64) : tl (xlsl x (nI k)) j = (decide (k ≤ j) && tl x (j - k)) := by
  unfold tl
  rw [lsl_b h, BitVec.getLsbD_shiftLeft]
  by_cases q : j < k
  · simp [q, hj, show ¬ k ≤ j by omega]
  · simp [q, hj, show k ≤ j by omega]
theorem tl_1 {j : Nat} : tl 1 j = decide (j = 0) := by
  show (1#64).getLsbD j = _
  rw [BitVec.getLsbD_one]
  simp
theorem tl_bit {k j : Nat} (h : k < 64) (hj : j < 64) : tl (xlsl 1 (nI k)) j = decide (j = k) := by
  rw [tl_lsl h hj, tl_1]
  by_cases e : j = k
  · subst e; simp
  · rw [decide_eq_false e]
    by_cases q : k ≤ j
    · rw [decide_eq_false (show ¬ j - k = 0 by omega)]; simp
    · rw [decide_eq_false q]; rfl
theorem tl_and1 {x : Int64} {k : Nat} (h : k < 64) : (xlus x (nI k) &&& 1 = 1) ↔ tl x k = true := by
  constructor
  · intro e
    have := congrArg (fun y => tl y 0) e
    simp only [tl_and, tl_lus h, tl_1] at this
    simpa using this
  · intro e
    refine tl_ext fun j hj => ?_
    rw [tl_and, tl_lus h, tl_1]
    by_cases q : j = 0
    · subst q; rw [Nat.add_zero, e]; rfl
    · rw [decide_eq_false q, Bool.and_false]
/-! the lowest one -/
def lowb (x : Int64) (t : Nat) : Prop := t < 64 ∧ tl x t = true ∧ ∀ j, j < t → tl x j = false
theorem lowb_of {x : Int64} (h : x ≠ 0) : ∃ t, lowb x t := by
  have key : ∀ n, (∃ t, t < n ∧ tl x t = true ∧ ∀ j, j < t → tl x j = false) ∨ ∀ j, j < n → tl x j = false := by
    intro n
    induction n with
    | zero => exact Or.inr fun j hj => absurd hj (Nat.not_lt_zero j)
    | succ n ih =>
      rcases ih with ⟨t, h1, h2, h3⟩ | ih
      · exact Or.inl ⟨t, by omega, h2, h3⟩
      · cases e : tl x n
        · refine Or.inr fun j hj => ?_
          by_cases q : j = n
          · subst q; exact e
          · exact ih j (by omega)
        · exact Or.inl ⟨n, by omega, e, ih⟩
  rcases key 64 with ⟨t, h1, h2, h3⟩ | q
  · exact ⟨t, h1, h2, h3⟩
  · obtain ⟨j, hj, e⟩ := tl_nz h
    rw [q j hj] at e
    cases e
theorem low_nat {X t : Nat} (h1 : X.testBit t = true) (h2 : ∀ j, j < t → X.testBit j = false) : ∃ m, X = 2 ^ t * (2 * m + 1) := by
  have hm : X % 2 ^ t = 0 := by
    apply Nat.eq_of_testBit_eq
    intro i
    rw [Nat.testBit_mod_two_pow, Nat.zero_testBit]
    by_cases q : i < t
    · rw [h2 i q, Bool.and_false]
    · simp [q]
  have hd : X / 2 ^ t % 2 = 1 := by
    rw [Nat.testBit_eq_decide_div_mod_eq] at h1
    simpa using h1
  refine ⟨X / 2 ^ t / 2, ?_⟩
  have e := Nat.div_add_mod X (2 ^ t)
  rw [hm, Nat.add_zero] at e
  have e2 := Nat.div_add_mod (X / 2 ^ t) 2
  rw [hd] at e2
  rw [e2]
  exact e.symm
theorem low_pred {m t j : Nat} : (2 ^ t * (2 * m + 1) - 1).testBit j = if j < t then true else if j = t then false else (2 ^ t * (2 * m + 1)).testBit j := by
  have hp : 0 < 2 ^ t := Nat.two_pow_pos t
  have e : 2 ^ t * (2 * m + 1) - 1 = 2 ^ t * (2 * m) + (2 ^ t - 1) := by
    rw [Nat.mul_add, Nat.mul_one]
    omega
  rw [e, Nat.testBit_two_pow_mul_add _ (by omega)]
  by_cases q : j < t
  · rw [if_pos q, if_pos q, Nat.testBit_two_pow_sub_one, decide_eq_true q]
  · rw [if_neg q, if_neg q, Nat.testBit_two_pow_mul]
    obtain ⟨d, rfl⟩ : ∃ d, j = t + d := ⟨j - t, by omega⟩
    rw [Nat.add_sub_cancel_left]
    cases d with
    | zero => rw [if_pos (by omega)]; simp
    | succ d =>
      rw [if_neg (by omega), Nat.testBit_add_one, Nat.testBit_add_one, show 2 * m / 2 = m by omega, show (2 * m + 1) / 2 = m by omega]
      simp
theorem tl_m1 {x : Int64} {t j : Nat} (h : lowb x t) (hj : j < 64) : tl (x - 1) j = if j < t then true else if j = t then false else tl x j := by
  obtain ⟨h0, h1, h2⟩ := h
  obtain ⟨m, hm⟩ := low_nat (X := x.toBitVec.toNat) h1 h2
  have hp : 0 < 2 ^ t := Nat.two_pow_pos t
  have hx : 1 ≤ x.toBitVec.toNat := by
    rw [hm]
    exact Nat.mul_pos hp (by omega)
  have hl : x.toBitVec.toNat < 2 ^ 64 := x.toBitVec.isLt
  have e : (x - 1).toBitVec.toNat = x.toBitVec.toNat - 1 := by
    show (x.toBitVec - 1#64).toNat = _
    rw [BitVec.toNat_sub]
    show (2 ^ 64 - 1 + x.toBitVec.toNat) % 2 ^ 64 = _
    omega
  rw [tl_n, tl_n, e, hm]
  exact low_pred
theorem tl_ng {x : Int64} {j : Nat} (hj : j < 64) : tl (-x) j = !tl (x - 1) j := by
  have e : (x - 1).toBitVec = ~~~((-x).toBitVec) := by
    show x.toBitVec - 1#64 = ~~~(-x.toBitVec)
    rw [BitVec.not_neg]
  unfold tl
  rw [e, BitVec.getLsbD_not, decide_eq_true hj, Bool.true_and, Bool.not_not]
theorem tl_lowb {x : Int64} {t j : Nat} (h : lowb x t) (hj : j < 64) : tl (x &&& -x) j = decide (j = t) := by
  rw [tl_and, tl_ng hj, tl_m1 h hj]
  by_cases e : j < t
  · rw [if_pos e, decide_eq_false (by omega)]; simp
  · by_cases q : j = t
    · subst q; rw [if_neg e, if_pos rfl, h.2.1]; simp
    · rw [if_neg e, if_neg q, decide_eq_false q]; simp
theorem tl_below {x : Int64} {t j : Nat} (h : lowb x t) (hj : j < 64) : tl ((x &&& -x) - 1) j = decide (j < t) := by
  have h2 : lowb (x &&& -x) t := ⟨h.1, by rw [tl_lowb h h.1]; simp, fun j hj2 => by rw [tl_lowb h (by have := h.1; omega), decide_eq_false (by omega)]⟩
  rw [tl_m1 h2 hj, tl_lowb h hj]
  by_cases e : j < t
  · rw [if_pos e, decide_eq_true e]
  · rw [if_neg e, decide_eq_false e]
    by_cases q : j = t
    · rw [if_pos q]
    · rw [if_neg q, decide_eq_false q]
theorem tl_rest {x : Int64} {t j : Nat} (h : lowb x t) (hj : j < 64) : tl (x &&& (x - 1)) j = (tl x j && decide (j ≠ t)) := by
  rw [tl_and, tl_m1 h hj]
  by_cases e : j < t
  · rw [if_pos e, h.2.2 j e]; rfl
  · rw [if_neg e]
    by_cases q : j = t
    · subst q; rw [if_pos rfl]; simp
    · rw [if_neg q, decide_eq_true q]; cases tl x j <;> rfl
/-! how many -/
def cb (f : Nat → Bool) : Nat → Nat
  | 0 => 0
  | n + 1 => cb f n + (f n).toNat
theorem cb_congr {f g : Nat → Bool} : ∀ {n}, (∀ j, j < n → f j = g j) → cb f n = cb g n
  | 0, _ => rfl
  | n + 1, h => by simp only [cb]; rw [cb_congr (fun j hj => h j (by omega)), h n (by omega)]
theorem cb_le (f : Nat → Bool) : ∀ n, cb f n ≤ n
  | 0 => Nat.le_refl _
  | n + 1 => by have := cb_le f n; have : (f n).toNat ≤ 1 := by cases f n <;> decide
                simp only [cb]; omega
theorem cb_add (f : Nat → Bool) (a : Nat) : ∀ b, cb f (a + b) = cb f a + cb (fun j => f (a + j)) b
  | 0 => rfl
  | b + 1 => by rw [← Nat.add_assoc]; simp only [cb]; rw [cb_add f a b]; omega
theorem cb_lt (t : Nat) : ∀ n, cb (fun j => decide (j < t)) n = min n t
  | 0 => by simp [cb]
  | n + 1 => by
    simp only [cb]
    rw [cb_lt t n]
    by_cases h : n < t
    · rw [decide_eq_true h]; simp only [Bool.toNat_true]; omega
    · rw [decide_eq_false h]; simp only [Bool.toNat_false]; omega
theorem cb_rm {f : Nat → Bool} {t : Nat} (ht : f t = true) : ∀ n, t < n → cb f n = cb (fun j => f j && decide (j ≠ t)) n + 1
  | 0, h => by omega
  | n + 1, h => by
    simp only [cb]
    by_cases e : n = t
    · subst e
      rw [ht, cb_congr (f := f) (g := fun j => f j && decide (j ≠ n)) (fun j hj => by rw [decide_eq_true (by omega), Bool.and_true])]
      simp
    · rw [cb_rm ht n (by omega), decide_eq_true e, Bool.and_true]
      omega
theorem cb_zero {f : Nat → Bool} : ∀ {n}, cb f n = 0 → ∀ j, j < n → f j = false
  | 0, _, j, hj => by omega
  | n + 1, h, j, hj => by
    simp only [cb] at h
    by_cases e : j = n
    · subst e
      cases q : f j
      · rfl
      · rw [q] at h; simp at h
    · exact cb_zero (n := n) (by omega) j (by omega)
def pc (x : Int64) : Nat := cb (tl x) 64
theorem pc_le (x : Int64) : pc x ≤ 64 := cb_le _ _
theorem pc_below {x : Int64} {t : Nat} (h : lowb x t) : pc ((x &&& -x) - 1) = t := by
  unfold pc
  rw [cb_congr (g := fun j => decide (j < t)) (fun j hj => tl_below h hj), cb_lt]
  have := h.1
  omega
theorem pc_rest {x : Int64} {t : Nat} (h : lowb x t) : pc x = pc (x &&& (x - 1)) + 1 := by
  unfold pc
  rw [cb_rm h.2.1 64 h.1]
  congr 1
  exact cb_congr fun j hj => (tl_rest h hj).symm
theorem pc_z {x : Int64} (h : pc x = 0) : x = 0 := tl_zero fun j hj => cb_zero h j hj
/-! Long.bitCount -/
def m55 : Nat → Nat
  | 0 => 0
  | n + 1 => 256 * m55 n + 85
def m33 : Nat → Nat
  | 0 => 0
  | n + 1 => 256 * m33 n + 51
def m0f : Nat → Nat
  | 0 => 0
  | n + 1 => 256 * m0f n + 15
theorem and_bytes {a b c d : Nat} (hb : b < 256) (hd : d < 256) : (256 * a + b) &&& (256 * c + d) = 256 * (a &&& c) + (b &&& d) := by
  have hbd : b &&& d < 2 ^ 8 := Nat.and_lt_two_pow _ hd
  apply Nat.eq_of_testBit_eq
  intro i
  rw [Nat.testBit_and, show (256 : Nat) = 2 ^ 8 from rfl, Nat.testBit_two_pow_mul_add a hb, Nat.testBit_two_pow_mul_add c hd, Nat.testBit_two_pow_mul_add (a &&& c) hbd]
  by_cases q : i < 8
  · simp only [if_pos q, Nat.testBit_and]
  · simp only [if_neg q, Nat.testBit_and]
def s1 (n X : Nat) : Nat := X - ((X / 2) &&& m55 n)
def s2 (n X : Nat) : Nat := (X &&& m33 n) + ((X / 4) &&& m33 n)
def s3 (n X : Nat) : Nat := (X + X / 16) &&& m0f n
def g1 (b : Nat) : Nat := b - ((b / 2) &&& 85)
def g2 (b : Nat) : Nat := (b &&& 51) + ((b / 4) &&& 51)
def g3 (b : Nat) : Nat := (b + b / 16) &&& 15
theorem s1_b {n X b : Nat} (hb : b < 256) : s1 (n + 1) (256 * X + b) = 256 * s1 n X + g1 b := by
  have k1 : ∀ r, r < 2 → ∀ b, b < 256 → (128 * r + b / 2) &&& 85 = (b / 2) &&& 85 := by decide +kernel
  have e : (256 * X + b) / 2 = 256 * (X / 2) + (128 * (X % 2) + b / 2) := by omega
  have hle : (X / 2) &&& m55 n ≤ X := Nat.le_trans Nat.and_le_left (Nat.div_le_self _ _)
  have hlb : (b / 2) &&& 85 ≤ b := Nat.le_trans Nat.and_le_left (Nat.div_le_self _ _)
  unfold s1 g1
  rw [e, m55, and_bytes (by omega) (by omega), k1 _ (by omega) b hb]
  omega
theorem s2_b {n X b : Nat} (hb : b < 256) : s2 (n + 1) (256 * X + b) = 256 * s2 n X + g2 b := by
  have k1 : ∀ r, r < 4 → ∀ b, b < 256 → (64 * r + b / 4) &&& 51 = (b / 4) &&& 51 := by decide +kernel
  have e : (256 * X + b) / 4 = 256 * (X / 4) + (64 * (X % 4) + b / 4) := by omega
  unfold s2 g2
  rw [e, m33, and_bytes (by omega) (by omega), and_bytes (by omega) (by omega), k1 _ (by omega) b hb]
  omega
theorem s3_b {n X b : Nat} (hb : b ≤ 68) (hx : X % 16 ≤ 4) : s3 (n + 1) (256 * X + b) = 256 * s3 n X + g3 b := by
  have k1 : ∀ r, r < 5 → ∀ b, b < 69 → (16 * r + (b + b / 16)) &&& 15 = (b + b / 16) &&& 15 := by decide +kernel
  have e : 256 * X + b + (256 * X + b) / 16 = 256 * (X + X / 16) + (16 * (X % 16) + (b + b / 16)) := by omega
  unfold s3 g3
  rw [e, m0f, and_bytes (by omega) (by omega), k1 _ (by omega) b (by omega)]
def p8 (b : Nat) : Nat := cb (fun j => b.testBit j) 8
theorem g_all : ∀ b, b < 256 → g1 b < 256 ∧ g2 (g1 b) ≤ 68 ∧ g2 (g1 b) % 16 ≤ 4 ∧ g3 (g2 (g1 b)) = p8 b := by decide +kernel
def tsum : Nat → Nat → Nat
  | 0, _ => 0
  | n + 1, X => 256 * tsum n (X / 256) + p8 (X % 256)
theorem s_0 (X : Nat) : s2 0 (s1 0 X) = 0 ∧ s3 0 0 = 0 := by
  unfold s1 s2 s3 m55 m33 m0f
  simp
theorem s123 : ∀ (n X : Nat), s3 n (s2 n (s1 n X)) = tsum n X ∧ (s2 n (s1 n X)) % 16 ≤ 4
  | 0, X => by rw [(s_0 X).1, (s_0 X).2]; exact ⟨rfl, by decide⟩
  | n + 1, X => by
    obtain ⟨h1, h2⟩ := s123 n (X / 256)
    obtain ⟨k1, k2, k3, k4⟩ := g_all (X % 256) (Nat.mod_lt _ (by decide))
    have e : s2 (n + 1) (s1 (n + 1) X) = 256 * s2 n (s1 n (X / 256)) + g2 (g1 (X % 256)) := by
      rw [show X = 256 * (X / 256) + X % 256 by omega, s1_b (Nat.mod_lt _ (by decide)), s2_b k1]
      rw [show (256 * (X / 256) + X % 256) / 256 = X / 256 by omega, show (256 * (X / 256) + X % 256) % 256 = X % 256 by omega]
    rw [e]
    refine ⟨?_, by omega⟩
    rw [s3_b k2 h2, h1, k4]
    rfl
def psum : Nat → Nat → Nat
  | 0, _ => 0
  | n + 1, X => psum n (X / 256) + p8 (X % 256)
theorem cb_psum : ∀ (n X : Nat), cb (fun j => X.testBit j) (8 * n) = psum n X
  | 0, _ => rfl
  | n + 1, X => by
    rw [Nat.mul_succ, Nat.add_comm, cb_add]
    have e1 : cb (fun j => X.testBit j) 8 = p8 (X % 256) := cb_congr fun j hj => by
      rw [show (256 : Nat) = 2 ^ 8 from rfl, Nat.testBit_mod_two_pow, decide_eq_true hj, Bool.true_and]
    have e2 : cb (fun j => X.testBit (8 + j)) (8 * n) = psum n (X / 256) := by
      rw [← cb_psum n (X / 256)]
      exact cb_congr fun j _ => by rw [show (256 : Nat) = 2 ^ 8 from rfl, Nat.testBit_div_two_pow, Nat.add_comm]
    rw [e1, e2, psum, Nat.add_comm]
def nL64 (x : Int64) : Nat := x.toBitVec.toNat
theorem nL_lt (x : Int64) : nL64 x < 2 ^ 64 := x.toBitVec.isLt
theorem nL_and {x y : Int64} : nL64 (x &&& y) = nL64 x &&& nL64 y := by
  show (x.toBitVec &&& y.toBitVec).toNat = _
  rw [BitVec.toNat_and]; rfl
theorem nL_add {x y : Int64} (h : nL64 x + nL64 y < 2 ^ 64) : nL64 (x + y) = nL64 x + nL64 y := by
  show (x.toBitVec + y.toBitVec).toNat = _
  rw [BitVec.toNat_add]
  exact Nat.mod_eq_of_lt h
theorem nL_sub {x y : Int64} (h : nL64 y ≤ nL64 x) : nL64 (x - y) = nL64 x - nL64 y := by
  have hx := nL_lt x
  show (x.toBitVec - y.toBitVec).toNat = _
  rw [BitVec.toNat_sub]
  show (2 ^ 64 - nL64 y + nL64 x) % 2 ^ 64 = _
  omega
theorem nL_lus {x : Int64} {k : Nat} (h : k < 64) : nL64 (xlus x (nI k)) = nL64 x / 2 ^ k := by
  unfold nL64
  rw [lus_b h, BitVec.toNat_ushiftRight, Nat.shiftRight_eq_div_pow]
def bcx (x : Int64) : Int32 :=
  let i1 := x - (xlus x 1 &&& 6148914691236517205)
  let i2 := (i1 &&& 3689348814741910323) + (xlus i1 2 &&& 3689348814741910323)
  let i3 := (i2 + xlus i2 4) &&& 1085102592571150095
  let i4 := i3 + xlus i3 8
  let i5 := i4 + xlus i4 16
  let i6 := i5 + xlus i5 32
  i6.toInt32 &&& 127
theorem nL_55 : nL64 6148914691236517205 = m55 8 := by decide +kernel
theorem nL_33 : nL64 3689348814741910323 = m33 8 := by decide +kernel
theorem nL_0f : nL64 1085102592571150095 = m0f 8 := by decide +kernel
theorem t127 {x : Int64} : x.toInt32 &&& 127 = nI (nL64 x % 128) := by
  apply Int32.toBitVec_inj.mp
  apply BitVec.eq_of_toNat_eq
  have h1 : (x.toInt32 &&& 127).toBitVec.toNat = (nL64 x % 2 ^ 32) &&& 127 := by
    show (x.toInt32.toBitVec &&& 127#32).toNat = _
    rw [BitVec.toNat_and]
    have : x.toInt32.toBitVec = x.toBitVec.setWidth 32 := by
      show x.toBitVec.signExtend 32 = _
      rw [BitVec.signExtend_eq_setWidth_of_le _ (by omega)]
    rw [this, BitVec.toNat_setWidth]; rfl
  rw [h1, show (127 : Nat) = 2 ^ 7 - 1 from rfl, Nat.and_two_pow_sub_one_eq_mod]
  show _ = (BitVec.ofNat 32 (nL64 x % 128)).toNat
  rw [BitVec.toNat_ofNat]
  omega
theorem bcx_pc (x : Int64) : bcx x = nI (pc x) := by
  have hx := nL_lt x
  unfold bcx
  simp only [show (1 : Int32) = nI 1 from rfl, show (2 : Int32) = nI 2 from rfl, show (4 : Int32) = nI 4 from rfl, show (8 : Int32) = nI 8 from rfl, show (16 : Int32) = nI 16 from rfl, show (32 : Int32) = nI 32 from rfl]
  generalize e1 : x - (xlus x (nI 1) &&& 6148914691236517205) = i1
  have a1 : nL64 i1 = s1 8 (nL64 x) := by
    rw [← e1, nL_sub, nL_and, nL_lus (by omega), nL_55]; rfl
    rw [nL_and, nL_lus (by omega)]
    exact Nat.le_trans Nat.and_le_left (Nat.div_le_self _ _)
  have m3 : m33 8 = 3689348814741910323 := by decide +kernel
  have l1 : ∀ a, a &&& m33 8 ≤ 3689348814741910323 := fun a => by rw [← m3]; exact Nat.and_le_right
  generalize e2 : (i1 &&& 3689348814741910323) + (xlus i1 (nI 2) &&& 3689348814741910323) = i2
  have a2 : nL64 i2 = s2 8 (s1 8 (nL64 x)) := by
    rw [← e2, nL_add, nL_and, nL_and, nL_lus (by omega), nL_33, a1]; rfl
    rw [nL_and, nL_and, nL_33]
    have := l1 (nL64 i1)
    have := l1 (nL64 (xlus i1 (nI 2)))
    omega
  have b2 : nL64 i2 ≤ 2 * 3689348814741910323 := by
    rw [a2]
    have := l1 (s1 8 (nL64 x))
    have := l1 (s1 8 (nL64 x) / 4)
    unfold s2
    omega
  generalize e3 : (i2 + xlus i2 (nI 4)) &&& 1085102592571150095 = i3
  have a3 : nL64 i3 = tsum 8 (nL64 x) := by
    rw [← e3, nL_and, nL_add, nL_lus (by omega), nL_0f, ← (s123 8 (nL64 x)).1, ← a2]; rfl
    rw [nL_lus (by omega)]
    omega
  have hp := fun b => cb_le (fun j => Nat.testBit b j) 8
  have hs : ∃ p0 p1 p2 p3 p4 p5 p6 p7 : Nat, (p0 ≤ 8 ∧ p1 ≤ 8 ∧ p2 ≤ 8 ∧ p3 ≤ 8 ∧ p4 ≤ 8 ∧ p5 ≤ 8 ∧ p6 ≤ 8 ∧ p7 ≤ 8) ∧ tsum 8 (nL64 x) = 256 * (256 * (256 * (256 * (256 * (256 * (256 * p7 + p6) + p5) + p4) + p3) + p2) + p1) + p0 ∧ psum 8 (nL64 x) = p7 + p6 + p5 + p4 + p3 + p2 + p1 + p0 :=
    ⟨_, _, _, _, _, _, _, _, ⟨hp _, hp _, hp _, hp _, hp _, hp _, hp _, hp _⟩, by simp only [tsum, Nat.mul_zero, Nat.zero_add]; rfl, by simp only [psum, Nat.zero_add]; rfl⟩
  obtain ⟨p0, p1, p2, p3, p4, p5, p6, p7, ⟨q0, q1, q2, q3, q4, q5, q6, q7⟩, ht, hps⟩ := hs
  rw [ht] at a3
  generalize e4 : i3 + xlus i3 (nI 8) = i4
  have a4 : nL64 i4 = nL64 i3 + nL64 i3 / 256 := by
    rw [← e4, nL_add, nL_lus (by omega)]
    rw [nL_lus (by omega)]
    omega
  generalize e5 : i4 + xlus i4 (nI 16) = i5
  have a5 : nL64 i5 = nL64 i4 + nL64 i4 / 65536 := by
    rw [← e5, nL_add, nL_lus (by omega)]
    rw [nL_lus (by omega)]
    omega
  generalize e6 : i5 + xlus i5 (nI 32) = i6
  have a6 : nL64 i6 = nL64 i5 + nL64 i5 / 4294967296 := by
    rw [← e6, nL_add, nL_lus (by omega)]
    rw [nL_lus (by omega)]
    omega
  rw [t127]
  have hpc : pc x = psum 8 (nL64 x) := cb_psum 8 (nL64 x)
  rw [hpc, hps]
  have c3 : nL64 i3 / 256 = 256 * (256 * (256 * (256 * (256 * (256 * p7 + p6) + p5) + p4) + p3) + p2) + p1 := by omega
  have c4 : nL64 i4 = (p0 + p1) + 256 * ((p1 + p2) + 256 * ((p2 + p3) + 256 * ((p3 + p4) + 256 * ((p4 + p5) + 256 * ((p5 + p6) + 256 * ((p6 + p7) + 256 * p7)))))) := by omega
  have c5 : nL64 i4 / 65536 = (p2 + p3) + 256 * ((p3 + p4) + 256 * ((p4 + p5) + 256 * ((p5 + p6) + 256 * ((p6 + p7) + 256 * p7)))) := by
    rw [c4]; clear c3 c4 a6 a5 a4 a3 a2 b2 a1 ht hpc hps hx; omega
  have c6 : nL64 i5 = (p0 + p1 + p2 + p3) + 256 * ((p1 + p2 + p3 + p4) + 256 * ((p2 + p3 + p4 + p5) + 256 * ((p3 + p4 + p5 + p6) + 256 * ((p4 + p5 + p6 + p7) + 256 * ((p5 + p6 + p7) + 256 * ((p6 + p7) + 256 * p7)))))) := by
    rw [a5, c5, c4]; clear c3 c4 c5 a6 a5 a4 a3 a2 b2 a1 ht hpc hps hx; omega
  have c7 : nL64 i5 / 4294967296 = (p4 + p5 + p6 + p7) + 256 * ((p5 + p6 + p7) + 256 * ((p6 + p7) + 256 * p7)) := by
    rw [c6]; clear c3 c4 c5 c6 a6 a5 a4 a3 a2 b2 a1 ht hpc hps hx; omega
  have c8 : nL64 i6 = (p7 + p6 + p5 + p4 + p3 + p2 + p1 + p0) + 256 * ((p1 + p2 + p3 + p4 + p5 + p6 + p7) + 256 * ((p2 + p3 + p4 + p5 + p6 + p7) + 256 * ((p3 + p4 + p5 + p6 + p7) + 256 * ((p4 + p5 + p6 + p7) + 256 * ((p5 + p6 + p7) + 256 * ((p6 + p7) + 256 * p7)))))) := by
    rw [a6, c7, c6]; clear c3 c4 c5 c6 c7 a6 a5 a4 a3 a2 b2 a1 ht hpc hps hx; omega
  rw [c8]
  congr 1
  clear c3 c4 c5 c6 c7 c8 a6 a5 a4 a3 a2 b2 a1 ht hpc hps hx
  omega
theorem d_J13_bitCount_95d88_0 : decode cJ13_bitCount_95d88 0 = .ok (.lload_n 0, 1) := by decide +kernel
theorem d_J13_bitCount_95d88_1 : decode cJ13_bitCount_95d88 1 = .ok (.lload_n 0, 1) := by decide +kernel
theorem d_J13_bitCount_95d88_2 : decode cJ13_bitCount_95d88 2 = .ok (.iconst 1, 1) := by decide +kernel
theorem d_J13_bitCount_95d88_3 : decode cJ13_bitCount_95d88 3 = .ok (.lushr, 1) := by decide +kernel
theorem d_J13_bitCount_95d88_4 : decode cJ13_bitCount_95d88 4 = .ok (.ldc2_w 314, 3) := by decide +kernel
theorem d_J13_bitCount_95d88_7 : decode cJ13_bitCount_95d88 7 = .ok (.land, 1) := by decide +kernel
theorem d_J13_bitCount_95d88_8 : decode cJ13_bitCount_95d88 8 = .ok (.lsub, 1) := by decide +kernel
theorem d_J13_bitCount_95d88_9 : decode cJ13_bitCount_95d88 9 = .ok (.lstore_n 0, 1) := by decide +kernel
theorem d_J13_bitCount_95d88_10 : decode cJ13_bitCount_95d88 10 = .ok (.lload_n 0, 1) := by decide +kernel
theorem d_J13_bitCount_95d88_11 : decode cJ13_bitCount_95d88 11 = .ok (.ldc2_w 316, 3) := by decide +kernel
theorem d_J13_bitCount_95d88_14 : decode cJ13_bitCount_95d88 14 = .ok (.land, 1) := by decide +kernel
theorem d_J13_bitCount_95d88_15 : decode cJ13_bitCount_95d88 15 = .ok (.lload_n 0, 1) := by decide +kernel
theorem d_J13_bitCount_95d88_16 : decode cJ13_bitCount_95d88 16 = .ok (.iconst 2, 1) := by decide +kernel
theorem d_J13_bitCount_95d88_17 : decode cJ13_bitCount_95d88 17 = .ok (.lushr, 1) := by decide +kernel
theorem d_J13_bitCount_95d88_18 : decode cJ13_bitCount_95d88 18 = .ok (.ldc2_w 316, 3) := by decide +kernel
theorem d_J13_bitCount_95d88_21 : decode cJ13_bitCount_95d88 21 = .ok (.land, 1) := by decide +kernel
theorem d_J13_bitCount_95d88_22 : decode cJ13_bitCount_95d88 22 = .ok (.ladd, 1) := by decide +kernel
theorem d_J13_bitCount_95d88_23 : decode cJ13_bitCount_95d88 23 = .ok (.lstore_n 0, 1) := by decide +kernel
theorem d_J13_bitCount_95d88_24 : decode cJ13_bitCount_95d88 24 = .ok (.lload_n 0, 1) := by decide +kernel
theorem d_J13_bitCount_95d88_25 : decode cJ13_bitCount_95d88 25 = .ok (.lload_n 0, 1) := by decide +kernel
theorem d_J13_bitCount_95d88_26 : decode cJ13_bitCount_95d88 26 = .ok (.iconst 4, 1) := by decide +kernel
theorem d_J13_bitCount_95d88_27 : decode cJ13_bitCount_95d88 27 = .ok (.lushr, 1) := by decide +kernel
theorem d_J13_bitCount_95d88_28 : decode cJ13_bitCount_95d88 28 = .ok (.ladd, 1) := by decide +kernel
theorem d_J13_bitCount_95d88_29 : decode cJ13_bitCount_95d88 29 = .ok (.ldc2_w 318, 3) := by decide +kernel
theorem d_J13_bitCount_95d88_32 : decode cJ13_bitCount_95d88 32 = .ok (.land, 1) := by decide +kernel
theorem d_J13_bitCount_95d88_33 : decode cJ13_bitCount_95d88 33 = .ok (.lstore_n 0, 1) := by decide +kernel
theorem d_J13_bitCount_95d88_34 : decode cJ13_bitCount_95d88 34 = .ok (.lload_n 0, 1) := by decide +kernel
theorem d_J13_bitCount_95d88_35 : decode cJ13_bitCount_95d88 35 = .ok (.lload_n 0, 1) := by decide +kernel
theorem d_J13_bitCount_95d88_36 : decode cJ13_bitCount_95d88 36 = .ok (.bipush 8, 2) := by decide +kernel
theorem d_J13_bitCount_95d88_38 : decode cJ13_bitCount_95d88 38 = .ok (.lushr, 1) := by decide +kernel
theorem d_J13_bitCount_95d88_39 : decode cJ13_bitCount_95d88 39 = .ok (.ladd, 1) := by decide +kernel
theorem d_J13_bitCount_95d88_40 : decode cJ13_bitCount_95d88 40 = .ok (.lstore_n 0, 1) := by decide +kernel
theorem d_J13_bitCount_95d88_41 : decode cJ13_bitCount_95d88 41 = .ok (.lload_n 0, 1) := by decide +kernel
theorem d_J13_bitCount_95d88_42 : decode cJ13_bitCount_95d88 42 = .ok (.lload_n 0, 1) := by decide +kernel
theorem d_J13_bitCount_95d88_43 : decode cJ13_bitCount_95d88 43 = .ok (.bipush 16, 2) := by decide +kernel
theorem d_J13_bitCount_95d88_45 : decode cJ13_bitCount_95d88 45 = .ok (.lushr, 1) := by decide +kernel
theorem d_J13_bitCount_95d88_46 : decode cJ13_bitCount_95d88 46 = .ok (.ladd, 1) := by decide +kernel
theorem d_J13_bitCount_95d88_47 : decode cJ13_bitCount_95d88 47 = .ok (.lstore_n 0, 1) := by decide +kernel
theorem d_J13_bitCount_95d88_48 : decode cJ13_bitCount_95d88 48 = .ok (.lload_n 0, 1) := by decide +kernel
theorem d_J13_bitCount_95d88_49 : decode cJ13_bitCount_95d88 49 = .ok (.lload_n 0, 1) := by decide +kernel
theorem d_J13_bitCount_95d88_50 : decode cJ13_bitCount_95d88 50 = .ok (.bipush 32, 2) := by decide +kernel
theorem d_J13_bitCount_95d88_52 : decode cJ13_bitCount_95d88 52 = .ok (.lushr, 1) := by decide +kernel
theorem d_J13_bitCount_95d88_53 : decode cJ13_bitCount_95d88 53 = .ok (.ladd, 1) := by decide +kernel
theorem d_J13_bitCount_95d88_54 : decode cJ13_bitCount_95d88 54 = .ok (.lstore_n 0, 1) := by decide +kernel
theorem d_J13_bitCount_95d88_55 : decode cJ13_bitCount_95d88 55 = .ok (.lload_n 0, 1) := by decide +kernel
theorem d_J13_bitCount_95d88_56 : decode cJ13_bitCount_95d88 56 = .ok (.l2i, 1) := by decide +kernel
theorem d_J13_bitCount_95d88_57 : decode cJ13_bitCount_95d88 57 = .ok (.bipush 127, 2) := by decide +kernel
theorem d_J13_bitCount_95d88_59 : decode cJ13_bitCount_95d88 59 = .ok (.iand, 1) := by decide +kernel
theorem d_J13_bitCount_95d88_60 : decode cJ13_bitCount_95d88 60 = .ok (.ireturn, 1) := by decide +kernel
def k_J13_bitCount_95d88_0 (P : xP) : xK := x_lload 0 (x_lload 0 (x_push (.int 1) (x_lushr (x_push (.long 6148914691236517205) (x_land (x_lsub (x_lstore 0 (x_lload 0 (x_push (.long 3689348814741910323) (x_land (x_lload 0 (x_push (.int 2) (x_lushr (x_push (.long 3689348814741910323) (x_land (x_ladd (x_lstore 0 (x_lload 0 (x_lload 0 (x_push (.int 4) (x_lushr (x_ladd (x_push (.long 1085102592571150095) (x_land (x_lstore 0 (x_lload 0 (x_lload 0 (x_push (.int 8) (x_lushr (x_ladd (x_lstore 0 (x_lload 0 (x_lload 0 (x_push (.int 16) (x_lushr (x_ladd (x_lstore 0 (x_lload 0 (x_lload 0 (x_push (.int 32) (x_lushr (x_ladd (x_lstore 0 (x_lload 0 (x_l2i (x_push (.int 127) (x_iand (x_iret P))))))))))))))))))))))))))))))))))))))))))))))))
set_option maxRecDepth 20000 in
theorem t_J13_bitCount_95d88_0 {p : Program} {l : Launch} {e : Env} {s : State} {m : MethodId} {args : Array Value} {below : List Frame} {meth : Method} {c : Code} {g : xG} (X : xX p s m args c meth cJ13_bitCount_95d88 RJ13 2 g) (hr : meth.sig.returnType = (some .int)) {P : xP} : xAt p l e { frames := 0, cells := 0, slots := 0, locals := 0 } s m args below meth c g 2 xFT xN 0 0 (MQ below (xQc g xFT xN P) args s 0 0 (xFr g)) (k_J13_bitCount_95d88_0 P) 0 := by
  unfold k_J13_bitCount_95d88_0
  refine r_lload_n (pc := 0) X d_J13_bitCount_95d88_0 fn0 ?_
  refine r_lload_n (pc := 1) X d_J13_bitCount_95d88_1 fn0 ?_
  refine r_iconst (pc := 2) X d_J13_bitCount_95d88_2 (by decide +kernel) ?_
  refine r_lushr (pc := 3) X d_J13_bitCount_95d88_3 ?_
  refine r_ldc2 (pc := 4) X cw_RJ13_314 d_J13_bitCount_95d88_4 ?_
  refine r_land (pc := 7) X d_J13_bitCount_95d88_7 ?_
  refine r_lsub (pc := 8) X d_J13_bitCount_95d88_8 ?_
  refine r_lstore_n (pc := 9) X d_J13_bitCount_95d88_9 fn0 (by decide +kernel) ?_
  refine r_lload_n (pc := 10) X d_J13_bitCount_95d88_10 fn0 ?_
  refine r_ldc2 (pc := 11) X cw_RJ13_316 d_J13_bitCount_95d88_11 ?_
  refine r_land (pc := 14) X d_J13_bitCount_95d88_14 ?_
  refine r_lload_n (pc := 15) X d_J13_bitCount_95d88_15 fn0 ?_
  refine r_iconst (pc := 16) X d_J13_bitCount_95d88_16 (by decide +kernel) ?_
  refine r_lushr (pc := 17) X d_J13_bitCount_95d88_17 ?_
  refine r_ldc2 (pc := 18) X cw_RJ13_316 d_J13_bitCount_95d88_18 ?_
  refine r_land (pc := 21) X d_J13_bitCount_95d88_21 ?_
  refine r_ladd (pc := 22) X d_J13_bitCount_95d88_22 ?_
  refine r_lstore_n (pc := 23) X d_J13_bitCount_95d88_23 fn0 (by decide +kernel) ?_
  refine r_lload_n (pc := 24) X d_J13_bitCount_95d88_24 fn0 ?_
  refine r_lload_n (pc := 25) X d_J13_bitCount_95d88_25 fn0 ?_
  refine r_iconst (pc := 26) X d_J13_bitCount_95d88_26 (by decide +kernel) ?_
  refine r_lushr (pc := 27) X d_J13_bitCount_95d88_27 ?_
  refine r_ladd (pc := 28) X d_J13_bitCount_95d88_28 ?_
  refine r_ldc2 (pc := 29) X cw_RJ13_318 d_J13_bitCount_95d88_29 ?_
  refine r_land (pc := 32) X d_J13_bitCount_95d88_32 ?_
  refine r_lstore_n (pc := 33) X d_J13_bitCount_95d88_33 fn0 (by decide +kernel) ?_
  refine r_lload_n (pc := 34) X d_J13_bitCount_95d88_34 fn0 ?_
  refine r_lload_n (pc := 35) X d_J13_bitCount_95d88_35 fn0 ?_
  refine r_bipush (pc := 36) X d_J13_bitCount_95d88_36 (by decide +kernel) ?_
  refine r_lushr (pc := 38) X d_J13_bitCount_95d88_38 ?_
  refine r_ladd (pc := 39) X d_J13_bitCount_95d88_39 ?_
  refine r_lstore_n (pc := 40) X d_J13_bitCount_95d88_40 fn0 (by decide +kernel) ?_
  refine r_lload_n (pc := 41) X d_J13_bitCount_95d88_41 fn0 ?_
  refine r_lload_n (pc := 42) X d_J13_bitCount_95d88_42 fn0 ?_
  refine r_bipush (pc := 43) X d_J13_bitCount_95d88_43 (by decide +kernel) ?_
  refine r_lushr (pc := 45) X d_J13_bitCount_95d88_45 ?_
  refine r_ladd (pc := 46) X d_J13_bitCount_95d88_46 ?_
  refine r_lstore_n (pc := 47) X d_J13_bitCount_95d88_47 fn0 (by decide +kernel) ?_
  refine r_lload_n (pc := 48) X d_J13_bitCount_95d88_48 fn0 ?_
  refine r_lload_n (pc := 49) X d_J13_bitCount_95d88_49 fn0 ?_
  refine r_bipush (pc := 50) X d_J13_bitCount_95d88_50 (by decide +kernel) ?_
  refine r_lushr (pc := 52) X d_J13_bitCount_95d88_52 ?_
  refine r_ladd (pc := 53) X d_J13_bitCount_95d88_53 ?_
  refine r_lstore_n (pc := 54) X d_J13_bitCount_95d88_54 fn0 (by decide +kernel) ?_
  refine r_lload_n (pc := 55) X d_J13_bitCount_95d88_55 fn0 ?_
  refine r_l2i (pc := 56) X d_J13_bitCount_95d88_56 ?_
  refine r_bipush (pc := 57) X d_J13_bitCount_95d88_57 (by decide +kernel) ?_
  refine r_iand (pc := 59) X d_J13_bitCount_95d88_59 ?_
  exact r_iret (pc := 60) X hr d_J13_bitCount_95d88_60
def f_J13_bitCount_95d88 (a0 : Int64) (A : xH) (P : xP) : Prop := k_J13_bitCount_95d88_0 P [some (.long a0), none] [] A
set_option maxRecDepth 20000 in
theorem con_J13_bitCount_95d88 (l : Launch) : xCon l yJ13_bitCount_95d88 cJ13_bitCount_95d88 2 (some .int) 0 0 xN xN 0 xFT xFT (w_J f_J13_bitCount_95d88) :=
  xc_J (by decide +kernel) (by decide +kernel) (fun p e s m args below meth c g a0 A P h X hr _ => ⟨_, h, t_J13_bitCount_95d88_0 X hr⟩)
theorem bitCount_A {A : xH} {P : xP} {x : Int64} (h : P (some (.int (nI (pc x)))) A) : f_J13_bitCount_95d88 x A P := by
  rw [← bcx_pc] at h
  unfold f_J13_bitCount_95d88
  simp only [k_J13_bitCount_95d88_0, x_iand, x_iret, x_l2i, x_ladd, x_land, x_lload, x_lstore, x_lsub, x_lushr, x_push, xFT, xbool0, xbool1, Nat.reduceAdd, Nat.zero_add, xgl_0, xgl_s, xgl_n, xst_0, xst_1n, xst_1i, xst_1r, xst_1l, xst_s, set_0, set_s, true_and, and_true, xres, xcat_nil, xcat_i, xcat_r, xcat_l, Nat.add_zero, xble0, xble1, xble2, xble3, xble4, xble5, xble6, xble7, xble8]
  exact h

