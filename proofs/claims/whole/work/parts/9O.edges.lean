/-! ===== pairs of places, and how they go on ===== -/
/-- a step that is no sign -/
def nsT (T : Nat → Nat → Nat → Prop) (p p' : Nat) : Prop := ∃ s, 4 ≤ s ∧ s < 24 ∧ T p s p'
def hsP (T : Nat → Nat → Nat → Prop) (p : Nat) : Prop := ∃ s, s < 4 ∧ hsT T p s
/-- the stage when the left goes alone, when the right does -/
def lfS (T : Nat → Nat → Nat → Prop) (st q st' : Nat) : Prop := (st = 0 ∧ q = 1 ∧ st' = 1) ∨ (st = 0 ∧ q ≠ 1 ∧ hsP T q ∧ st' = 2) ∨ (st ≠ 0 ∧ st ≠ 3 ∧ st' = st)
def rgS (T : Nat → Nat → Nat → Prop) (st p st' : Nat) : Prop := (st = 0 ∧ p = 1 ∧ st' = 1) ∨ (st = 0 ∧ p ≠ 1 ∧ hsP T p ∧ st' = 3) ∨ (st ≠ 0 ∧ st ≠ 2 ∧ st' = st)
/-- on by no sign -/
def e0T (T : Nat → Nat → Nat → Prop) (a b : Nat × Nat × Nat) : Prop := (lfS T a.1 a.2.2 b.1 ∧ nsT T a.2.1 b.2.1 ∧ b.2.2 = a.2.2) ∨ (rgS T a.1 a.2.1 b.1 ∧ b.2.1 = a.2.1 ∧ nsT T a.2.2 b.2.2) ∨ (a.1 = 0 ∧ ∃ s s', 4 ≤ s ∧ s < 24 ∧ 4 ≤ s' ∧ s' < 24 ∧ T a.2.1 s b.2.1 ∧ T a.2.2 s' b.2.2 ∧ b.1 = if s = s' then 0 else 1)
/-- on by one sign of both -/
def e1T (T : Nat → Nat → Nat → Prop) (a b : Nat × Nat × Nat) : Prop := (∃ s, s < 4 ∧ T a.2.1 s b.2.1 ∧ T a.2.2 s b.2.2) ∧ b.1 = if a.1 = 0 then 0 else 1
/-- come to by d signs at most -/
def rcT (T : Nat → Nat → Nat → Prop) (d : Nat) (a : Nat × Nat × Nat) : Prop := ∀ R : Nat → Nat × Nat × Nat → Prop, R 0 (0, 0, 0) → (∀ d a b, R d a → e0T T a b → R d b) → (∀ d a b, R d a → e1T T a b → R (d + 1) b) → (∀ d a, R d a → R (d + 1) a) → R d a
theorem rc_start (T : Nat → Nat → Nat → Prop) : rcT T 0 (0, 0, 0) := fun _ h _ _ _ => h
theorem rc_same {T : Nat → Nat → Nat → Prop} {d : Nat} {a b : Nat × Nat × Nat} (h : rcT T d a) (e : e0T T a b) : rcT T d b := fun R h0 h1 h2 h3 => h1 _ _ _ (h R h0 h1 h2 h3) e
theorem rc_more {T : Nat → Nat → Nat → Prop} {d : Nat} {a b : Nat × Nat × Nat} (h : rcT T d a) (e : e1T T a b) : rcT T (d + 1) b := fun R h0 h1 h2 h3 => h2 _ _ _ (h R h0 h1 h2 h3) e
theorem rc_also {T : Nat → Nat → Nat → Prop} {d : Nat} {a : Nat × Nat × Nat} (h : rcT T d a) : rcT T (d + 1) a := fun R h0 h1 h2 h3 => h3 _ _ (h R h0 h1 h2 h3)
theorem rc_le {T : Nat → Nat → Nat → Prop} {a : Nat × Nat × Nat} {d e : Nat} (h : rcT T d a) (hd : d ≤ e) : rcT T e a := by
  obtain ⟨k, rfl⟩ : ∃ k, e = d + k := ⟨e - d, by omega⟩
  clear hd
  induction k with
  | zero => exact h
  | succ k ih => exact rc_also ih

