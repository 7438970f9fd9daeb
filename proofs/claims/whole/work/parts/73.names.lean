/-! ===== a grammar's names are rows of letters ===== -/
theorem wv_byte {f : Nat → Nat} {s : Nat} : ∀ (i : Nat), (∀ j, j < i → f (s + j) < 128) → ∀ p, wv f s i / 256 ^ p % 256 < 128
  | 0, _, p => by simp [wv]
  | i + 1, h, 0 => by
    have h2 := h i (by omega)
    simp only [wv, Nat.pow_zero, Nat.div_one]
    omega
  | i + 1, h, p + 1 => by
    have h2 := h i (by omega)
    have h1 := wv_byte i (fun j hj => h j (by omega)) p
    rw [wv, Nat.pow_succ, Nat.mul_comm (256 ^ p) 256, ← Nat.div_div_eq_div_mul, show (wv f s i * 256 + f (s + i)) / 256 = wv f s i by omega]
    exact h1
theorem pw8 {m : Nat} (h : m < 8) : 2 ^ (56 - 8 * m) = 256 ^ (7 - m) := by
  rw [show (256 : Nat) = 2 ^ 8 from rfl, ← Nat.pow_mul]
  congr 1
  omega
theorem okN_wv {f : Nat → Nat} {s i : Nat} (hi : i ≤ 7) (h : ∀ j, j < i → f (s + j) < 128) : okN (lN (wv f s i)) := by
  have h1 := wv_lt (f := f) (s := s) i (fun j hj => by have := h j hj; omega)
  have h2 : wv f s i < 256 ^ 7 := Nat.lt_of_lt_of_le h1 (Nat.pow_le_pow_right (by omega) hi)
  have h3 : (256 : Nat) ^ 7 = 72057594037927936 := by decide
  have e : nL64 (lN (wv f s i)) = wv f s i := nL_lN (by omega)
  refine ⟨?_, fun m hm => ?_⟩
  · unfold bw
    rw [e, Nat.div_eq_of_lt (by show wv f s i < 2 ^ 56; omega)]
  · unfold bw
    rw [e, pw8 hm]
    exact wv_byte i h _
theorem tk_w {f : Nat → Nat} {n lim p : Nat} (ht : (tk f n lim p).1 = 1) : okN (lN (tk f n lim p).2.2.2) := by
  revert ht
  unfold tk
  by_cases a : min n lim ≤ skp (fun i => bl (f i)) (min n lim) p
  · rw [if_pos a]
    intro q; exfalso; revert q
    show (if lim < n then 4 else 0) = 1 → False
    split <;> omega
  · rw [if_neg a]
    by_cases b : (sm (f (skp (fun i => bl (f i)) (min n lim) p)) || dg (f (skp (fun i => bl (f i)) (min n lim) p))) = true
    · rw [if_pos b]
      dsimp only
      intro q
      cases hs : sm (f (skp (fun i => bl (f i)) (min n lim) p))
      · rw [hs] at q
        simp only [Bool.false_eq_true, if_false] at q
        split at q <;> omega
      · rw [hs] at q
        simp only [if_true] at q ⊢
        split at q
        · rename_i w
          simp only [Bool.and_eq_true, decide_eq_true_eq] at w
          refine okN_wv w.2 fun j hj => ?_
          have h2 := pu_in _ j hj w.1
          rw [hs] at h2
          simp only [sm, Bool.and_eq_true, decide_eq_true_eq] at h2
          omega
        · omega
    · rw [if_neg b]
      dsimp only
      intro q
      split at q <;> omega
theorem nln_ok {v w : xV} {f : Nat → Nat} {n lim p z : Nat} {s : Bool} (h : okV v) (e : nln v f n lim p s = .inr (w, z)) : okV w := by
  unfold nln at e
  split at e
  · cases e
  · rename_i q
    split at e
    · cases e
    · split at e
      · cases e
      · have ht : (tk f n lim (tk f n lim p).2.2.1).1 = 1 := by
          simp only [isNa, Bool.and_eq_false_iff, decide_eq_false_iff_not, not_or] at q
          exact Classical.not_not.mp q.1
        have hk := tk_w ht
        simp only [Sum.inr.injEq, Prod.mk.injEq] at e
        obtain ⟨rfl, -⟩ := e
        cases s
        · refine ⟨h.1, fun j hj => ?_⟩
          have hj : j < vK v + 1 := hj
          show okN (if j = vK v then _ else vkn v j)
          split
          · exact hk
          · exact h.2 j (by omega)
        · refine ⟨fun j hj => ?_, h.2⟩
          have hj : j < vS v + 1 := hj
          show okN (if j = vS v then _ else vsn v j)
          split
          · exact hk
          · exact h.1 j (by omega)
theorem gln_ok {v w : xV} {f : Nat → Nat} {n lim p z : Nat} (h : okV v) (e : gln v f n lim p = .inr (w, z)) : okV w := by
  unfold gln at e
  split at e
  · split at e
    · cases e
    · exact nln_ok h e
  · split at e
    · split at e
      · cases e
      · exact nln_ok h e
    · split at e
      · cases e
      · split at e
        · cases e
        · split at e
          · cases e
          · simp only [Sum.inr.injEq, Prod.mk.injEq] at e
            obtain ⟨rfl, -⟩ := e
            exact h
theorem gram_ok {f : Nat → Nat} {n lim : Nat} {w : xV} {c : Nat} : ∀ (g p : Nat) (v : xV) (k : Nat), okV v → gram f n lim g p v k = .inr (w, c) → okV w
  | 0, _, _, _, _, e => by cases e
  | g + 1, p, v, k, h, e => by
    rw [gram_s] at e
    split at e
    · cases e; exact h
    · split at e
      · cases e
      · rename_i v' z q
        exact gram_ok g z v' (k + 1) (gln_ok h q) e
theorem okV_z : okV vz := ⟨fun j hj => absurd hj (Nat.not_lt_zero j), fun j hj => absurd hj (Nat.not_lt_zero j)⟩
theorem okV_same {v w : xV} (h : okV v) (s : sameN v w) : okV w := by
  obtain ⟨a, b, c, d⟩ := s
  refine ⟨fun j hj => ?_, fun j hj => ?_⟩
  · rw [c]; exact h.1 j (by omega)
  · rw [d]; exact h.2 j (by omega)

