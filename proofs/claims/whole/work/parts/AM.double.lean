/-! ===== a rule's ways as a double sum ===== -/
def exS (S : Nat → Nat → Nat → Nat) (n t x y : Nat) : Nat := if t < n then S t x y else if x = y then 1 else 0
def inD (S : Nat → Nat → Nat → Nat) (j lo one : Nat) (d : Nat) : Nat := sgm (fun e => S 1 one (lo + e) * S 2 (lo + e) j) d
def loA (n i j : Nat) : Nat := if n < 2 then j else i
def loB (n one j : Nat) : Nat := if n < 3 then j else one
def dbD (S : Nat → Nat → Nat → Nat) (n i j : Nat) (d : Nat) : Nat := sgm (fun e => S 0 i (loA n i j + e) * inD S j (loB n (loA n i j + e) j) (loA n i j + e) (j + 1 - loB n (loA n i j + e) j)) d
theorem exS_p {S : Nat → Nat → Nat → Nat} {n t x y : Nat} (h : t < n) : exS S n t x y = S t x y := if_pos h
theorem exS_n {S : Nat → Nat → Nat → Nat} {n t x y : Nat} (h : ¬ t < n) : exS S n t x y = if x = y then 1 else 0 := if_neg h
theorem exS_1 {S : Nat → Nat → Nat → Nat} {n t x : Nat} (h : ¬ t < n) : exS S n t x x = 1 := by rw [exS_n h, if_pos rfl]
theorem sgm_one {f : Nat → Nat} {y j : Nat} (h : y ≤ j) : sgm (fun e => f (y + e) * (if y + e = j then 1 else 0)) (j + 1 - y) = f j := by
  have e : j + 1 - y = (j - y) + 1 := by omega
  rw [e]
  show sgm _ (j - y) + f (y + (j - y)) * (if y + (j - y) = j then 1 else 0) = _
  rw [sgm_z fun e he => by rw [if_neg (by omega), Nat.mul_zero], if_pos (by omega), Nat.mul_one, Nat.zero_add, show y + (j - y) = j by omega]
theorem sgm_1 {f : Nat → Nat} : sgm f 1 = f 0 := Nat.zero_add _
theorem rD_1 {S : Nat → Nat → Nat → Nat} {n j x : Nat} (h : x ≤ j) : rD S n j 1 x = S (n - 1) x j := sgm_one (f := fun y => S (n - 1) x y) h
theorem dbD_w {S : Nat → Nat → Nat → Nat} {n i j : Nat} (hn : n ≤ 3) (h : i ≤ j) : dbD (exS S n) n i j (j + 1 - loA n i j) = wW S n i j := by
  rcases (show n = 0 ∨ n = 1 ∨ n = 2 ∨ n = 3 by omega) with rfl | rfl | rfl | rfl
  · unfold dbD loA loB inD
    simp only [show (0 : Nat) < 2 by omega, show (0 : Nat) < 3 by omega, if_true, show j + 1 - j = 1 by omega, sgm_1, Nat.add_zero]
    rw [exS_n (t := 0) (by omega), exS_1 (t := 1) (by omega), exS_1 (t := 2) (by omega), Nat.mul_one]
    rfl
  · unfold dbD loA loB inD
    simp only [show (1 : Nat) < 2 by omega, show (1 : Nat) < 3 by omega, if_true, show j + 1 - j = 1 by omega, sgm_1, Nat.add_zero]
    rw [exS_p (t := 0) (by omega), exS_1 (t := 1) (by omega), exS_1 (t := 2) (by omega), Nat.mul_one]
    show _ = rD S 1 j 1 i
    rw [rD_1 h]
  · unfold dbD loA loB inD
    simp only [show ¬ (2 : Nat) < 2 by omega, show (2 : Nat) < 3 by omega, if_true, if_false, show j + 1 - j = 1 by omega, sgm_1, Nat.add_zero]
    show _ = sgm (fun e => S (2 - (1 + 1)) i (i + e) * rD S 2 j 1 (i + e)) (j + 1 - i)
    refine sgm_congr fun e he => ?_
    rw [rD_1 (by omega), exS_p (t := 0) (by omega), exS_p (t := 1) (by omega), exS_1 (t := 2) (by omega), Nat.mul_one]
  · unfold dbD loA loB inD
    simp only [show ¬ (3 : Nat) < 2 by omega, show ¬ (3 : Nat) < 3 by omega, if_false]
    show _ = sgm (fun e => S (3 - (2 + 1)) i (i + e) * rD S 3 j 2 (i + e)) (j + 1 - i)
    refine sgm_congr fun e he => ?_
    show exS S 3 0 i (i + e) * _ = S 0 i (i + e) * sgm (fun d => S (3 - (1 + 1)) (i + e) (i + e + d) * rD S 3 j 1 (i + e + d)) (j + 1 - (i + e))
    congr 1
    · refine sgm_congr fun d hd => ?_
      rw [rD_1 (by omega), exS_p (t := 1) (by omega), exS_p (t := 2) (by omega)]

