/-! ===== a double sum's place is the rank's way ===== -/
def lsE (n one two j : Nat) : List Nat := match n with
  | 0 => []
  | 1 => [j]
  | 2 => [one, j]
  | _ => [one, two, j]
theorem sR_j {f : Nat → Nat} {x j k : Nat} (h : x ≤ j) (hz : ∀ y, x ≤ y → y < j → f y = 0) (hk : k < f j) : sR f x j k k := ⟨h, by rw [sgm_z fun e he => hz (x + e) (by omega) (by omega), Nat.zero_add], hk⟩
theorem cls_pk {S : Nat → Nat → Nat → Nat} {n i j k a b l : Nat} (hn : n ≤ 3) (hij : i ≤ j) (ha : loA n i j + a ≤ j) (hb : loB n (loA n i j + a) j + b ≤ j)
    (hk : k = dbD (exS S n) n i j a + exS S n 0 i (loA n i j + a) * inD (exS S n) j (loB n (loA n i j + a) j) (loA n i j + a) b + l) (hl : l < exS S n 0 i (loA n i j + a) * (exS S n 1 (loA n i j + a) (loB n (loA n i j + a) j + b) * exS S n 2 (loB n (loA n i j + a) j + b) j)) :
    pkR S n j n i k 1 (lsE n (loA n i j + a) (loB n (loA n i j + a) j + b) j) l := by
  have r0 : ∀ m y, rD S m j 0 y = if y = j then 1 else 0 := fun _ _ => rfl
  rcases (show n = 0 ∨ n = 1 ∨ n = 2 ∨ n = 3 by omega) with rfl | rfl | rfl | rfl
  · have e1 : loA 0 i j = j := rfl
    rw [e1] at ha hb hk hl
    have e2 : loB 0 (j + a) j = j := rfl
    rw [e2] at hb hk hl
    obtain rfl : a = 0 := by omega
    obtain rfl : b = 0 := by omega
    rw [exS_n (by omega)] at hl
    have : inD (exS S 0) j j (j + 0) 0 = 0 := rfl
    rw [this, Nat.mul_zero] at hk
    have h0 : dbD (exS S 0) 0 i j 0 = 0 := rfl
    rw [h0] at hk
    by_cases q : i = j + 0
    · rw [if_pos q, exS_n (by omega), if_pos (by omega), exS_n (by omega), if_pos (by omega)] at hl
      exact ⟨by omega, by omega, rfl, by omega⟩
    · rw [if_neg q, Nat.zero_mul] at hl; omega
  · have e1 : loA 1 i j = j := rfl
    rw [e1] at ha hb hk hl
    have e2 : loB 1 (j + a) j = j := rfl
    rw [e2] at hb hk hl
    obtain rfl : a = 0 := by omega
    obtain rfl : b = 0 := by omega
    rw [exS_p (by omega), exS_n (t := 1) (by omega), if_pos (by omega), exS_n (t := 2) (by omega), if_pos (by omega)] at hl
    have h2 : inD (exS S 1) j j (j + 0) 0 = 0 := rfl
    have h0 : dbD (exS S 1) 1 i j 0 = 0 := rfl
    rw [h2, Nat.mul_zero, h0] at hk
    obtain rfl : k = l := by omega
    refine ⟨j, k, [], sR_j hij (fun y h1 h2 => ?_) ?_, Nat.le_refl _, rfl, rfl, ?_, rfl, rfl⟩
    · show S 0 i y * rD S 1 j 0 y * 1 = 0
      rw [r0, if_neg (by omega)]
      simp
    · show k < S 0 i j * rD S 1 j 0 j * 1
      rw [r0, if_pos rfl]
      have hl2 : k < S 0 i j * (1 * 1) := hl
      omega
    · show k < 1 * S 0 i j
      rw [Nat.one_mul]; simpa using hl
  · have e1 : loA 2 i j = i := rfl
    rw [e1] at ha hb hk hl ⊢
    have e2 : loB 2 (i + a) j = j := rfl
    rw [e2] at hb hk hl ⊢
    obtain rfl : b = 0 := by omega
    rw [exS_p (t := 0) (by omega), exS_p (t := 1) (by omega), exS_n (t := 2) (by omega), if_pos (by omega), Nat.mul_one] at hl
    have h2 : inD (exS S 2) j j (i + a) 0 = 0 := rfl
    rw [h2, Nat.mul_zero, Nat.add_zero] at hk
    have h3 : dbD (exS S 2) 2 i j a = sgm (fun e => S 0 i (i + e) * rD S 2 j 1 (i + e) * 1) a := by
      show sgm (fun e => exS S 2 0 i (i + e) * inD (exS S 2) j j (i + e) (j + 1 - j)) a = _
      refine sgm_congr fun e he => ?_
      rw [exS_p (t := 0) (by omega), Nat.mul_one, rD_1 (by omega), show j + 1 - j = 1 by omega]
      unfold inD
      rw [sgm_1, Nat.add_zero, exS_p (t := 1) (by omega), exS_1 (t := 2) (by omega), Nat.mul_one]
    rw [h3] at hk
    have hl0 : l < S 0 i (i + a) * S 1 (i + a) j := hl
    refine ⟨i + a, l, [j], ⟨by omega, by rw [hk, show i + a - i = a by omega], ?_⟩, ha, rfl, j, l, [], sR_j ha (fun y h1 h2 => ?_) ?_, Nat.le_refl _, rfl, rfl, ?_, rfl, rfl⟩
    · show l < S 0 i (i + a) * rD S 2 j 1 (i + a) * 1
      rw [rD_1 ha, Nat.mul_one]; exact hl0
    · show S 1 (i + a) y * rD S 2 j 0 y * _ = 0
      rw [r0, if_neg (by omega)]
      simp
    · show l < S 1 (i + a) j * rD S 2 j 0 j * (1 * S 0 i (i + a))
      rw [r0, if_pos rfl, Nat.one_mul, Nat.mul_one, Nat.mul_comm]; exact hl0
    · show l < 1 * S 0 i (i + a) * S 1 (i + a) j
      rw [Nat.one_mul]; exact hl0
  · have e1 : loA 3 i j = i := rfl
    rw [e1] at ha hb hk hl ⊢
    have e2 : loB 3 (i + a) j = i + a := rfl
    rw [e2] at hb hk hl ⊢
    rw [exS_p (t := 0) (by omega), exS_p (t := 1) (by omega), exS_p (t := 2) (by omega)] at hl
    rw [exS_p (t := 0) (by omega)] at hk
    have hin : ∀ y d, y + d ≤ j + 1 → inD (exS S 3) j y y d = sgm (fun e => S 1 y (y + e) * rD S 3 j 1 (y + e)) d := fun y d hd => by
      unfold inD
      refine sgm_congr fun e he => ?_
      rw [exS_p (t := 1) (by omega), exS_p (t := 2) (by omega), rD_1 (by omega)]
    have h3 : dbD (exS S 3) 3 i j a = sgm (fun e => S 0 i (i + e) * rD S 3 j 2 (i + e) * 1) a := by
      show sgm (fun e => exS S 3 0 i (i + e) * inD (exS S 3) j (i + e) (i + e) (j + 1 - (i + e))) a = _
      refine sgm_congr fun e he => ?_
      rw [exS_p (t := 0) (by omega), Nat.mul_one, hin _ _ (by omega)]
      rfl
    rw [h3, hin _ _ (by omega)] at hk
    have hb2 : sgm (fun e => S 1 (i + a) (i + a + e) * rD S 3 j 1 (i + a + e)) (b + 1) ≤ rD S 3 j 2 (i + a) := sgm_le (f := fun e => S 1 (i + a) (i + a + e) * rD S 3 j 1 (i + a + e)) (show b + 1 ≤ j + 1 - (i + a) by omega)
    have hs : sgm (fun e => S 1 (i + a) (i + a + e) * rD S 3 j 1 (i + a + e)) (b + 1) = sgm (fun e => S 1 (i + a) (i + a + e) * rD S 3 j 1 (i + a + e)) b + S 1 (i + a) (i + a + b) * S 2 (i + a + b) j := by
      show _ + S 1 (i + a) (i + a + b) * rD S 3 j 1 (i + a + b) = _
      rw [rD_1 hb]
    have hm := Nat.mul_le_mul_left (S 0 i (i + a)) hb2
    rw [hs, Nat.mul_add] at hm
    refine ⟨i + a, S 0 i (i + a) * sgm (fun e => S 1 (i + a) (i + a + e) * rD S 3 j 1 (i + a + e)) b + l, [i + a + b, j], ⟨by omega, by rw [hk, show i + a - i = a by omega, Nat.add_assoc], ?_⟩, ha, rfl, i + a + b, l, [j], ⟨by omega, ?_, ?_⟩, hb, rfl, j, l, [], sR_j hb (fun y h1 h2 => ?_) ?_, Nat.le_refl _, rfl, rfl, ?_, rfl, rfl⟩
    · show _ < S 0 i (i + a) * rD S 3 j 2 (i + a) * 1
      rw [Nat.mul_one]
      omega
    · congr 1
      rw [show i + a + b - (i + a) = b by omega, ← sgm_mull]
      refine sgm_congr fun e he => ?_
      show S 0 i (i + a) * (S 1 (i + a) (i + a + e) * rD S 3 j 1 (i + a + e)) = S 1 (i + a) (i + a + e) * rD S 3 j 1 (i + a + e) * (1 * S 0 i (i + a))
      rw [Nat.one_mul, Nat.mul_comm]
    · show l < S 1 (i + a) (i + a + b) * rD S 3 j 1 (i + a + b) * (1 * S 0 i (i + a))
      rw [rD_1 hb, Nat.one_mul, Nat.mul_comm]; exact hl
    · show S 2 (i + a + b) y * rD S 3 j 0 y * _ = 0
      rw [r0, if_neg (by omega)]
      simp
    · show l < S 2 (i + a + b) j * rD S 3 j 0 j * (1 * S 0 i (i + a) * S 1 (i + a) (i + a + b))
      rw [r0, if_pos rfl, Nat.one_mul, Nat.mul_one, Nat.mul_comm, Nat.mul_assoc]; exact hl
    · show l < 1 * S 0 i (i + a) * S 1 (i + a) (i + a + b) * S 2 (i + a + b) j
      rw [Nat.one_mul, Nat.mul_assoc]; exact hl
/-- what the class puts on its pile -/
def k1C (n : Nat) (sy : Nat → Nat) (t x y v a : Nat) : List nD := if t < n ∧ 8 ≤ sy t then [(sy t - 8, x, y, v, a)] else []
def pcD (S : Nat → Nat → Nat → Nat) (sy : Nat → Nat) (n i j v one two l : Nat) : List nD :=
  k1C n sy 0 i one (if i = i ∧ one = j then v else 0) (l / (exS S n 1 one two * exS S n 2 two j)) ++ (k1C n sy 1 one two (if one = i ∧ two = j then v else 0) (l % (exS S n 1 one two * exS S n 2 two j) / exS S n 2 two j) ++ k1C n sy 2 two j (if two = i ∧ j = j then v else 0) (l % (exS S n 1 one two * exS S n 2 two j) % exS S n 2 two j))
theorem kdF_q {S : Nat → Nat → Nat → Nat} {sy : Nat → Nat} {n i j v : Nat} {E : Nat → Nat} {l c : Nat} (h1 : sy (n - (c + 1)) < 8 → S (n - (c + 1)) (E (n - (c + 1))) (E (n - (c + 1) + 1)) = 1) : (kdF S sy n i j v E l (c + 1)).2 = (kdF S sy n i j v E l c).2 / S (n - (c + 1)) (E (n - (c + 1))) (E (n - (c + 1) + 1)) := by
  rw [kdF]
  split
  · rename_i q; rw [h1 q, Nat.div_one]
  · rfl
theorem kdF_l {S : Nat → Nat → Nat → Nat} {sy : Nat → Nat} {n i j v : Nat} {E : Nat → Nat} {l c : Nat} (hc : c < n) : (kdF S sy n i j v E l (c + 1)).1 = k1C n sy (n - (c + 1)) (E (n - (c + 1))) (E (n - (c + 1) + 1)) (if E (n - (c + 1)) = i ∧ E (n - (c + 1) + 1) = j then v else 0) ((kdF S sy n i j v E l c).2 % S (n - (c + 1)) (E (n - (c + 1))) (E (n - (c + 1) + 1))) ++ (kdF S sy n i j v E l c).1 := by
  rw [kdF]
  unfold k1C
  by_cases q : sy (n - (c + 1)) < 8
  · rw [if_pos q, if_neg (by omega)]; rfl
  · rw [if_neg q, if_pos (show n - (c + 1) < n ∧ 8 ≤ sy (n - (c + 1)) from ⟨by omega, by omega⟩)]; rfl
theorem pcD_eq {S : Nat → Nat → Nat → Nat} {sy : Nat → Nat} {n i j v a b l : Nat} (hn : n ≤ 3) (ha : loA n i j + a ≤ j) (hb : loB n (loA n i j + a) j + b ≤ j) (h1 : ∀ t x y, t < n → sy t < 8 → 0 < S t x y → S t x y = 1)
    (hl : l < exS S n 0 i (loA n i j + a) * (exS S n 1 (loA n i j + a) (loB n (loA n i j + a) j + b) * exS S n 2 (loB n (loA n i j + a) j + b) j)) :
    (kdF S sy n i j v (enE i (lsE n (loA n i j + a) (loB n (loA n i j + a) j + b) j)) l n).1 = pcD S sy n i j v (loA n i j + a) (loB n (loA n i j + a) j + b) l := by
  have p0 : 0 < exS S n 0 i (loA n i j + a) := Nat.pos_of_ne_zero fun z => by rw [z, Nat.zero_mul] at hl; omega
  have p12 : 0 < exS S n 1 (loA n i j + a) (loB n (loA n i j + a) j + b) * exS S n 2 (loB n (loA n i j + a) j + b) j := Nat.pos_of_ne_zero fun z => by rw [z, Nat.mul_zero] at hl; omega
  have p1 : 0 < exS S n 1 (loA n i j + a) (loB n (loA n i j + a) j + b) := Nat.pos_of_ne_zero fun z => by rw [z, Nat.zero_mul] at p12; omega
  have p2 : 0 < exS S n 2 (loB n (loA n i j + a) j + b) j := Nat.pos_of_ne_zero fun z => by rw [z, Nat.mul_zero] at p12; omega
  have hd : l / (exS S n 1 (loA n i j + a) (loB n (loA n i j + a) j + b) * exS S n 2 (loB n (loA n i j + a) j + b) j) < exS S n 0 i (loA n i j + a) := Nat.div_lt_of_lt_mul (by rw [Nat.mul_comm]; exact hl)
  rcases (show n = 0 ∨ n = 1 ∨ n = 2 ∨ n = 3 by omega) with rfl | rfl | rfl | rfl
  · unfold pcD k1C
    rw [if_neg (by omega), if_neg (by omega), if_neg (by omega)]
    rfl
  · have e1 : loA 1 i j = j := rfl
    rw [e1] at ha hb hl p0 p1 p2 hd ⊢
    have e2 : loB 1 (j + a) j = j := rfl
    rw [e2] at hb hl p1 p2 hd ⊢
    obtain rfl : a = 0 := by omega
    obtain rfl : b = 0 := by omega
    rw [exS_p (t := 0) (by omega), exS_n (t := 1) (by omega), if_pos (by omega), exS_n (t := 2) (by omega), if_pos (by omega)] at hl
    rw [kdF_l (c := 0) (by omega)]
    unfold pcD
    have x1 : exS S 1 1 (j + 0) (j + 0) = 1 := exS_1 (by omega)
    have x2 : exS S 1 2 (j + 0) j = 1 := exS_1 (S := S) (n := 1) (t := 2) (x := j) (by omega)
    rw [x1, x2]
    show k1C 1 sy 0 i j (if i = i ∧ j = j then v else 0) (l % S 0 i j) ++ [] = k1C 1 sy 0 i j (if i = i ∧ j = j then v else 0) (l / (1 * 1)) ++ (k1C 1 sy 1 _ _ _ _ ++ k1C 1 sy 2 _ _ _ _)
    have z1 : ∀ x y v a, k1C 1 sy 1 x y v a = [] := fun _ _ _ _ => if_neg (by omega)
    have z2 : ∀ x y v a, k1C 1 sy 2 x y v a = [] := fun _ _ _ _ => if_neg (by omega)
    rw [z1, z2, Nat.mod_eq_of_lt (by simpa using hl), Nat.mul_one, Nat.div_one]
    rfl
  · have e1 : loA 2 i j = i := rfl
    rw [e1] at ha hb hl p0 p1 p2 hd ⊢
    have e2 : loB 2 (i + a) j = j := rfl
    rw [e2] at hb hl p1 p2 hd ⊢
    obtain rfl : b = 0 := by omega
    rw [exS_p (t := 1) (by omega)] at hl p1 hd
    rw [exS_n (t := 2) (by omega), if_pos (by omega)] at hl p2 hd
    rw [exS_p (t := 0) (by omega)] at hl p0 hd
    rw [kdF_l (c := 1) (by omega), kdF_l (c := 0) (by omega), kdF_q (c := 0) fun q => h1 1 _ _ (by omega) q p1]
    unfold pcD
    have x1 : exS S 2 1 (i + a) (j + 0) = S 1 (i + a) j := exS_p (S := S) (n := 2) (t := 1) (x := i + a) (y := j) (by omega)
    have x2 : exS S 2 2 (j + 0) j = 1 := exS_1 (S := S) (n := 2) (t := 2) (x := j) (by omega)
    rw [x1, x2]
    show k1C 2 sy 0 i (i + a) (if i = i ∧ i + a = j then v else 0) (l / S 1 (i + a) j % S 0 i (i + a)) ++ (k1C 2 sy 1 (i + a) j (if i + a = i ∧ j = j then v else 0) (l % S 1 (i + a) j) ++ []) = k1C 2 sy 0 i (i + a) (if i = i ∧ i + a = j then v else 0) (l / (S 1 (i + a) j * 1)) ++ (k1C 2 sy 1 (i + a) j (if i + a = i ∧ j = j then v else 0) (l % (S 1 (i + a) j * 1) / 1) ++ k1C 2 sy 2 _ _ _ _)
    have z2 : ∀ x y v a, k1C 2 sy 2 x y v a = [] := fun _ _ _ _ => if_neg (by omega)
    have hd2 : l / S 1 (i + a) j < S 0 i (i + a) := by
      have := hd
      rwa [show (j + 0) = j from rfl, Nat.mul_one] at this
    rw [z2, Nat.mul_one, Nat.div_one, Nat.mod_eq_of_lt hd2]
  · have e1 : loA 3 i j = i := rfl
    rw [e1] at ha hb hl p0 p1 p2 hd ⊢
    have e2 : loB 3 (i + a) j = i + a := rfl
    rw [e2] at hb hl p1 p2 hd ⊢
    rw [exS_p (t := 1) (by omega)] at hl p1 hd
    rw [exS_p (t := 2) (by omega)] at hl p2 hd
    rw [exS_p (t := 0) (by omega)] at hl p0 hd
    rw [kdF_l (c := 2) (by omega), kdF_l (c := 1) (by omega), kdF_l (c := 0) (by omega), kdF_q (c := 1) fun q => h1 1 _ _ (by omega) q p1, kdF_q (c := 0) fun q => h1 2 _ _ (by omega) q p2]
    unfold pcD
    rw [exS_p (t := 1) (by omega), exS_p (t := 2) (by omega)]
    show k1C 3 sy 0 i (i + a) (if i = i ∧ i + a = j then v else 0) (l / S 2 (i + a + b) j / S 1 (i + a) (i + a + b) % S 0 i (i + a)) ++ (k1C 3 sy 1 (i + a) (i + a + b) (if i + a = i ∧ i + a + b = j then v else 0) (l / S 2 (i + a + b) j % S 1 (i + a) (i + a + b)) ++ (k1C 3 sy 2 (i + a + b) j (if i + a + b = i ∧ j = j then v else 0) (l % S 2 (i + a + b) j) ++ [])) = _
    rw [Nat.div_div_eq_div_mul, Nat.mul_comm (S 2 (i + a + b) j) (S 1 (i + a) (i + a + b)), Nat.mod_eq_of_lt hd, Nat.mod_mul_left_div_self, Nat.mod_mul_left_mod, List.append_nil]

