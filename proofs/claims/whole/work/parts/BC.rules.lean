/-! ===== trees of a kind, by its rules ===== -/
theorem sgm_add (f h : Nat → Nat) : ∀ n, sgm (fun x => f x + h x) n = sgm f n + sgm h n
  | 0 => rfl
  | n + 1 => by simp only [sgm]; rw [sgm_add f h n]; omega
theorem sgm_mulr (f : Nat → Nat) (c : Nat) : ∀ n, sgm (fun x => f x * c) n = sgm f n * c
  | 0 => (Nat.zero_mul c).symm
  | n + 1 => by simp only [sgm]; rw [sgm_mulr f c n, Nat.add_mul]
theorem sgm_mull (f : Nat → Nat) (c : Nat) : ∀ n, sgm (fun x => c * f x) n = c * sgm f n
  | 0 => (Nat.mul_zero c).symm
  | n + 1 => by simp only [sgm]; rw [sgm_mull f c n, Nat.mul_add]
theorem sgm_swap (f : Nat → Nat → Nat) (m : Nat) : ∀ n, sgm (fun x => sgm (fun y => f x y) m) n = sgm (fun y => sgm (fun x => f x y) n) m
  | 0 => (sgm_z fun _ _ => rfl).symm
  | n + 1 => by
    simp only [sgm]
    rw [sgm_swap f m n, ← sgm_add]
theorem sgm_pick {f : Nat → Nat} {a : Nat} : ∀ {n}, a < n → sgm (fun x => if x = a then f x else 0) n = f a
  | 0, h => absurd h (Nat.not_lt_zero a)
  | n + 1, h => by
    simp only [sgm]
    by_cases e : n = a
    · subst e
      rw [sgm_z fun j hj => if_neg (by omega), if_pos rfl, Nat.zero_add]
    · rw [sgm_pick (n := n) (by omega), if_neg e, Nat.add_zero]
theorem sgm_if {c : Prop} [Decidable c] (f : Nat → Nat) (n : Nat) : sgm (fun x => if c then f x else 0) n = if c then sgm f n else 0 := by
  split
  · rfl
  · exact sgm_z fun _ _ => rfl
theorem prd_last {f : Nat → Nat} {n : Nat} : prd f (n + 1) = prd f n * f n := rfl
section WON
variable {E : Nat → Nat} {ρ : Nat → Nat} {wh : Nat → Nat → Nat → Nat} {on : Nat → Nat} {i j n : Nat} {c : Nat → Nat}
def onV (on c : Nat → Nat) (t : Nat) : Nat := if c t < 8 then 0 else on (c t - 8)
def pzV (E c : Nat → Nat) (n : Nat) : Nat → Nat
  | 0 => 1
  | d + 1 => s0 E (c (n - (d + 1))) * pzV E c n d
def trV (E on c : Nat → Nat) (n : Nat) : Nat → Nat
  | 0 => 0
  | d + 1 => s0 E (c (n - (d + 1))) * trV E on c n d + onV on c (n - (d + 1)) * pzV E c n d
theorem sSy_ii {x : Nat} (h : ¬ (x = i ∧ x = j)) {k : Nat} : sSy E ρ wh on i j k x x = s0 E k := by
  unfold sSy s0
  split
  · rw [if_neg (by omega)]
  · first | rw [if_neg h, if_pos rfl] | rw [if_pos rfl]
theorem rD_end (h : i < j) : ∀ d, rD (fun t => sSy E ρ wh on i j (c t)) n j d j = pzV E c n d
  | 0 => if_pos rfl
  | d + 1 => by
    rw [rD_s, show j + 1 - j = 1 by omega, sgm_1]
    show sSy E ρ wh on i j (c (n - (d + 1))) j j * rD (fun t => sSy E ρ wh on i j (c t)) n j d j = _
    rw [rD_end h d, sSy_ii (by omega)]
    rfl
theorem sSy_ne {k x y : Nat} (h : ¬ (x = i ∧ y = j)) : sSy E ρ wh on i j k x y = sSy E ρ wh (fun _ => 0) i j k x y := by
  unfold sSy
  split
  · rfl
  · first | rw [if_neg h, if_neg h] | rfl
theorem sSy_ij (h : i < j) {k : Nat} : sSy E ρ wh on i j k i j = sSy E ρ wh (fun _ => 0) i j k i j + (if k < 8 then 0 else on (k - 8)) := by
  unfold sSy
  split
  · rfl
  · rw [if_pos ⟨rfl, rfl⟩, if_pos ⟨rfl, rfl⟩, Nat.zero_add]
theorem rD_on (h : i < j) : ∀ d, d ≤ n → rD (fun t => sSy E ρ wh on i j (c t)) n j d i = rD (fun t => sSy E ρ wh (fun _ => 0) i j (c t)) n j d i + trV E on c n d
  | 0, _ => rfl
  | d + 1, hd => by
    rw [rD_s, rD_s]
    have key : ∀ e, e < j + 1 - i → sSy E ρ wh on i j (c (n - (d + 1))) i (i + e) * rD (fun t => sSy E ρ wh on i j (c t)) n j d (i + e) = (sSy E ρ wh (fun _ => 0) i j (c (n - (d + 1))) i (i + e) * rD (fun t => sSy E ρ wh (fun _ => 0) i j (c t)) n j d (i + e) + (if e = 0 then s0 E (c (n - (d + 1))) * trV E on c n d else 0)) + (if e = j - i then onV on c (n - (d + 1)) * pzV E c n d else 0) := by
      intro e he
      by_cases e0 : e = 0
      · subst e0
        rw [if_pos rfl, if_neg (by omega)]
        show sSy E ρ wh on i j (c (n - (d + 1))) i i * rD (fun t => sSy E ρ wh on i j (c t)) n j d i = sSy E ρ wh (fun _ => 0) i j (c (n - (d + 1))) i i * rD (fun t => sSy E ρ wh (fun _ => 0) i j (c t)) n j d i + _ + 0
        rw [rD_on h d (by omega), sSy_ii (by omega), sSy_ii (by omega), Nat.mul_add]
        rfl
      · have hD : rD (fun t => sSy E ρ wh on i j (c t)) n j d (i + e) = rD (fun t => sSy E ρ wh (fun _ => 0) i j (c t)) n j d (i + e) := rD_congr (i := i + 1) (fun t x y _ hx _ _ => sSy_ne (by omega)) d (by omega) (i + e) (by omega) (by omega)
        rw [if_neg e0, hD]
        by_cases e1 : e = j - i
        · subst e1
          rw [if_pos rfl, show i + (j - i) = j by omega, sSy_ij h, Nat.add_mul, rD_end h d]
          rfl
        · rw [if_neg e1, sSy_ne (by omega)]
          rfl
    rw [sgm_congr key, sgm_add, sgm_add, sgm_pick (f := fun _ => s0 E (c (n - (d + 1))) * trV E on c n d) (a := 0) (by omega), sgm_pick (f := fun _ => onV on c (n - (d + 1)) * pzV E c n d) (a := j - i) (by omega), Nat.add_assoc]
    rfl
def FV (E on c : Nat → Nat) (m : Nat) : Nat := sgm (fun t => onV on c t * prd (fun u => if u = t then 1 else s0 E (c u)) m) m
theorem FV_s (m : Nat) : FV E on c (m + 1) = FV E on c m * s0 E (c m) + onV on c m * prd (fun u => s0 E (c u)) m := by
  unfold FV
  simp only [sgm]
  rw [← sgm_mulr]
  congr 1
  · refine sgm_congr fun t ht => ?_
    rw [prd_last, if_neg (by omega), Nat.mul_assoc]
  · rw [prd_last, if_pos rfl, Nat.mul_one]
    congr 1
    exact prd_congr fun u hu => if_neg (by omega)
theorem tr_FV : ∀ d, d ≤ n → prd (fun u => s0 E (c u)) (n - d) * trV E on c n d + FV E on c (n - d) * pzV E c n d = FV E on c n
  | 0, _ => by
    show _ * 0 + _ * 1 = _
    rw [Nat.mul_zero, Nat.mul_one, Nat.zero_add, Nat.sub_zero]
  | d + 1, hd => by
    have e : n - d = n - (d + 1) + 1 := by omega
    have h := tr_FV d (by omega)
    rw [e, FV_s, prd_last] at h
    rw [← h]
    simp only [trV, pzV, Nat.mul_add, Nat.add_mul]
    generalize prd (fun u => s0 E (c u)) (n - (d + 1)) = a
    generalize s0 E (c (n - (d + 1))) = b
    generalize trV E on c n d = x
    generalize pzV E c n d = y
    generalize onV on c (n - (d + 1)) = z
    generalize FV E on c (n - (d + 1)) = w
    have e1 : a * (b * x) = a * b * x := (Nat.mul_assoc _ _ _).symm
    have e2 : a * (z * y) = z * a * y := by rw [← Nat.mul_assoc, Nat.mul_comm a z]
    have e3 : w * (b * y) = w * b * y := (Nat.mul_assoc _ _ _).symm
    rw [e1, e2, e3]
    omega
theorem wW_on (h : i < j) : wW (fun t => sSy E ρ wh on i j (c t)) n i j = wW (fun t => sSy E ρ wh (fun _ => 0) i j (c t)) n i j + FV E on c n := by
  have h1 := rD_on (E := E) (ρ := ρ) (wh := wh) (on := on) (c := c) (n := n) h n (Nat.le_refl _)
  have h2 := tr_FV (E := E) (on := on) (c := c) (n := n) n (Nat.le_refl _)
  rw [Nat.sub_self] at h2
  have h3 : prd (fun u => s0 E (c u)) 0 * trV E on c n n + FV E on c 0 * pzV E c n n = trV E on c n n := by
    show 1 * _ + 0 * _ = _
    rw [Nat.one_mul, Nat.zero_mul, Nat.add_zero]
  rw [h3] at h2
  rw [← h2]
  exact h1
end WON
/-- the trees of a kind are those of its rules, the kind being above once more -/
theorem tW_rules {g : xV} (hw : wfg g) {ρ : Nat → Nat} {v k i j : Nat} (hij : i ≤ j) (hv : v < 243) (hk : k < 5) (hd : dgt v k ≠ 2) : kwS g ρ k i j (v + p3 k) (vR g) = tW g ρ v k i j := by
  by_cases e : i = j
  · subst e
    rw [kw_0 hw]
    unfold tW
    rw [if_pos rfl, eW_eq hw hv hk, if_neg hd]
  · have h : i < j := by omega
    have hf : ∀ m, m < 5 → cW g v k m * bW g ρ m i j = (if m = k then bW g ρ m i j else 0) + sgm (fun a => lW g k a * (cW g (v + p3 k) a m * bW g ρ m i j)) 5 := fun m hm => by
      rw [cW_eq hv hk, if_neg hd, Nat.add_mul, ← sgm_mulr]
      congr 1
      · by_cases q : m = k
        · rw [if_pos q.symm, if_pos q, Nat.one_mul]
        · rw [if_neg (fun w => q w.symm), if_neg q, Nat.zero_mul]
      · exact sgm_congr fun a _ => Nat.mul_assoc _ _ _
    have hon : ∀ a, tW g ρ (v + p3 k) a i j = sgm (fun m => cW g (v + p3 k) a m * bW g ρ m i j) 5 := fun a => if_neg e
    have t1 : tW g ρ v k i j = bW g ρ k i j + sgm (fun a => lW g k a * tW g ρ (v + p3 k) a i j) 5 := by
      show (if i = j then _ else sgm (fun m => cW g v k m * bW g ρ m i j) 5) = _
      rw [if_neg e, sgm_congr hf, sgm_add, sgm_pick (f := fun m => bW g ρ m i j) hk, sgm_swap]
      congr 1
      refine sgm_congr fun a _ => ?_
      rw [hon a, ← sgm_mull]
    have t2 : ∀ r, r < vR g → wW (fun t => pvS g ρ i j (v + p3 k) (vsy g r t)) (vrs g r) i j = wW (fun t => sSy (eW g 0) ρ (tW g ρ 0) (fun _ => 0) i j (vsy g r t)) (vrs g r) i j + sgm (fun a => sgm (fun t => if vsy g r t = 8 + a then oW (eW g 0) g r t else 0) (vrs g r) * tW g ρ (v + p3 k) a i j) 5 := fun r hr => by
      unfold pvS
      rw [wW_on h]
      congr 1
      unfold FV
      rw [sgm_congr (g := fun a => sgm (fun t => (if vsy g r t = 8 + a then oW (eW g 0) g r t else 0) * tW g ρ (v + p3 k) a i j) (vrs g r)) fun a _ => (sgm_mulr _ _ _).symm, sgm_swap]
      refine sgm_congr fun t ht => ?_
      unfold onV
      by_cases q : vsy g r t < 8
      · rw [if_pos q, Nat.zero_mul]
        exact (sgm_z fun a _ => by rw [if_neg (by omega), Nat.zero_mul]).symm
      · have h5 := hw.2.1
        have := sy_K hw hr ht q
        rw [if_neg q]
        show tW g ρ (v + p3 k) (vsy g r t - 8) i j * prd (fun u => if u = t then 1 else s0 (eW g 0) (vsy g r u)) (vrs g r) = _
        rw [← sgm_pick (f := fun a => tW g ρ (v + p3 k) a i j * prd (fun u => if u = t then 1 else s0 (eW g 0) (vsy g r u)) (vrs g r)) (a := vsy g r t - 8) (n := 5) (by omega)]
        refine sgm_congr fun a _ => ?_
        by_cases w : a = vsy g r t - 8
        · rw [if_pos w, if_pos (by omega), Nat.mul_comm]; rfl
        · rw [if_neg w, if_neg (by omega), Nat.zero_mul]
    rw [t1, bW_eq h]
    unfold kwS
    have t3 : ∀ a, lW g k a * tW g ρ (v + p3 k) a i j = sgm (fun r => if vrk g r = k then sgm (fun t => if vsy g r t = 8 + a then oW (eW g 0) g r t else 0) (vrs g r) * tW g ρ (v + p3 k) a i j else 0) (vR g) := fun a => by
      unfold lW
      rw [← sgm_mulr]
      refine sgm_congr fun r _ => ?_
      split
      · rfl
      · exact Nat.zero_mul _
    rw [sgm_congr (g := fun a => sgm (fun r => if vrk g r = k then sgm (fun t => if vsy g r t = 8 + a then oW (eW g 0) g r t else 0) (vrs g r) * tW g ρ (v + p3 k) a i j else 0) (vR g)) fun a _ => t3 a, sgm_swap, ← sgm_add]
    refine sgm_congr fun r hr => ?_
    split
    · exact t2 r hr
    · rfl

