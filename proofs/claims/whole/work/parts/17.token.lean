/-! ===== tokens, as both read them ===== -/
def sm (c : Nat) : Bool := decide (97 ≤ c) && decide (c ≤ 122)
def dg (c : Nat) : Bool := decide (48 ≤ c) && decide (c ≤ 57)
def bl (c : Nat) : Bool := decide (c = 32) || decide (c = 10)
def mk (c : Nat) : Bool := decide (c = 59) || decide (c = 40) || decide (c = 41) || (decide (60 ≤ c) && decide (c ≤ 62))
def sgo (t : Nat → Bool) (n : Nat) : Nat → Nat → Nat
  | 0, p => p
  | k + 1, p => if decide (p < n) && t p then sgo t n k (p + 1) else p
/-- the first place from p on that is at n or not of a sort -/
def skp (t : Nat → Bool) (n p : Nat) : Nat := sgo t n (n - p) p
theorem sgo_eq {t : Nat → Bool} {n e : Nat} : ∀ (k p : Nat), p ≤ e → (∀ i, p ≤ i → i < e → i < n ∧ t i = true) → ¬ (e < n ∧ t e = true) → e - p ≤ k → sgo t n k p = e
  | 0, p, h1, _, _, h4 => by simp only [sgo]; omega
  | k + 1, p, h1, h2, h3, h4 => by
    simp only [sgo]
    by_cases h : p < e
    · have := h2 p (Nat.le_refl _) h
      rw [if_pos (by simp [this.1, this.2])]
      exact sgo_eq k (p + 1) (by omega) (fun i a b => h2 i (by omega) b) h3 (by omega)
    · have hp : p = e := by omega
      subst hp
      rw [if_neg]
      intro q
      simp only [Bool.and_eq_true, decide_eq_true_eq] at q
      exact h3 q
theorem skp_eq {t : Nat → Bool} {n p e : Nat} (h1 : p ≤ e) (h2 : ∀ i, p ≤ i → i < e → i < n ∧ t i = true) (h3 : ¬ (e < n ∧ t e = true)) : skp t n p = e := by
  unfold skp
  refine sgo_eq _ _ h1 h2 h3 ?_
  rcases Nat.lt_or_ge p e with h | h
  · have := (h2 (e - 1) (by omega) (by omega)).1
    omega
  · omega
def wv (f : Nat → Nat) (s : Nat) : Nat → Nat
  | 0 => 0
  | i + 1 => wv f s i * 256 + f (s + i)
def dv (f : Nat → Nat) (s : Nat) : Nat → Nat
  | 0 => 0
  | i + 1 => dv f s i * 10 + (f (s + i) - 48)
def pu (f : Nat → Nat) (s : Nat) : Nat → Bool
  | 0 => true
  | i + 1 => pu f s i && (sm (f (s + i)) == sm (f s))
/-- a token: its sort (0 the end, 1 a word, 2 a number, 3 a mark, 4 none), its place, where the next one is sought, what it is -/
def tk (f : Nat → Nat) (n lim p : Nat) : Nat × Nat × Nat × Nat :=
  if min n lim ≤ skp (fun i => bl (f i)) (min n lim) p then (if lim < n then 4 else 0, min n lim, skp (fun i => bl (f i)) (min n lim) p, 0)
  else if sm (f (skp (fun i => bl (f i)) (min n lim) p)) || dg (f (skp (fun i => bl (f i)) (min n lim) p)) then
    (let s := skp (fun i => bl (f i)) (min n lim) p
     let e := skp (fun i => sm (f i) || dg (f i)) n s
     (if pu f s (e - s) && decide (e - s ≤ if sm (f s) then 7 else 3) then (if sm (f s) then 1 else 2) else 4, s, e, if sm (f s) then wv f s (e - s) else dv f s (e - s)))
  else (if mk (f (skp (fun i => bl (f i)) (min n lim) p)) then 3 else 4, skp (fun i => bl (f i)) (min n lim) p, skp (fun i => bl (f i)) (min n lim) p + 1, f (skp (fun i => bl (f i)) (min n lim) p))
theorem wv_lt {f : Nat → Nat} {s : Nat} : ∀ i, (∀ j, j < i → f (s + j) < 256) → wv f s i < 256 ^ i
  | 0, _ => by simp [wv]
  | i + 1, h => by
    have h1 := wv_lt i (fun j hj => h j (by omega))
    have h2 := h i (by omega)
    simp only [wv, Nat.pow_succ]
    omega
theorem lN_shl8 (a : Nat) : xlsl (lN a) 8 = lN (a * 256) := by
  apply Int64.toBitVec_inj.mp
  show (BitVec.ofNat 64 a) <<< (((8 : Int32).toInt64 &&& 63).toBitVec.smod 64) = BitVec.ofNat 64 (a * 256)
  rw [show (((8 : Int32).toInt64 &&& 63).toBitVec.smod 64) = 8#64 from by decide +kernel]
  apply BitVec.eq_of_toNat_eq
  show (BitVec.ofNat 64 a <<< (8 : Nat)).toNat = _
  rw [BitVec.toNat_shiftLeft, BitVec.toNat_ofNat, BitVec.toNat_ofNat, Nat.shiftLeft_eq]
  omega
theorem lN_or8 {a c : Nat} (h : c < 256) : lN (a * 256) ||| lN c = lN (a * 256 + c) := by
  apply Int64.toBitVec_inj.mp
  show (BitVec.ofNat 64 (a * 256)) ||| (BitVec.ofNat 64 c) = BitVec.ofNat 64 (a * 256 + c)
  rw [← BitVec.ofNat_or, Nat.mul_comm a 256, show (256 : Nat) = 2 ^ 8 from rfl, Nat.two_pow_add_eq_or_of_lt h]

