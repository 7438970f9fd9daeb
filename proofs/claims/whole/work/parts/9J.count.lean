/-! ===== the order of the steps is the same ===== -/
theorem tY_tX {v : xV} {p s q : Nat} (hw : wfg v) (hc : wfc v) (hs : s < 24) (hq : q < 128) : tY v p (sc s * 128 + q) = tX (stT v) p (s * 128 + q) := by
  unfold tY tX stT
  rw [show (sc s * 128 + q) % 128 = q by omega, show (sc s * 128 + q) / 128 = sc s by omega, show (s * 128 + q) % 128 = q by omega, show (s * 128 + q) / 128 = s by omega]
  refine bt_congr ⟨?_, ?_⟩
  · rintro ⟨X, Q, a, b, c⟩
    obtain ⟨s', s1, s2, s3⟩ := (rp_st hw hc a).mp c
    have : s' = s := by
      unfold sc at s2
      split at s2 <;> split at s2 <;> (try split at s2) <;> (try split at s2) <;> omega
    subst this
    exact ⟨X, Q, a, b, s3⟩
  · rintro ⟨X, Q, a, b, c⟩
    exact ⟨X, Q, a, b, (rp_st hw hc a).mpr ⟨s, hs, rfl, c⟩⟩
theorem tY_out {v : xV} {p y : Nat} (hw : wfg v) (hc : wfc v) (h : ∀ s, s < 24 → y / 128 ≠ sc s) : tY v p y = false := by
  refine bt_f ?_
  rintro ⟨X, Q, a, b, c⟩
  obtain ⟨s', s1, s2, s3⟩ := (rp_st hw hc a).mp c
  exact h s' s1 s2
theorem row_s {v : xV} {p s q : Nat} (hw : wfg v) (hc : wfc v) (hs : s < 24) (hq : q ≤ 128) (h : cb (tY v p) (sc s * 128) = cb (tX (stT v) p) (s * 128)) : cb (tY v p) (sc s * 128 + q) = cb (tX (stT v) p) (s * 128 + q) := by
  rw [cb_add, cb_add, h, cb_congr (f := fun j => tY v p (sc s * 128 + j)) (g := fun j => tX (stT v) p (s * 128 + j)) fun j hj => tY_tX hw hc hs (by omega)]
theorem row_0 {v : xV} {p : Nat} (hw : wfg v) (hc : wfc v) : ∀ s, s < 24 → cb (tY v p) (sc s * 128) = cb (tX (stT v) p) (s * 128)
  | 0, _ => rfl
  | s + 1, h => by
    have ih := row_s (p := p) (q := 128) hw hc (show s < 24 by omega) (by omega) (row_0 (p := p) hw hc s (by omega))
    rw [show (s + 1) * 128 = s * 128 + 128 by omega, ← ih]
    have hle : sc s + 1 ≤ sc (s + 1) := by
      unfold sc
      split <;> split <;> (try split) <;> (try split) <;> omega
    refine cb_flat (by omega) fun y h1 h2 => tY_out hw hc fun s' hs' e => ?_
    have a1 : sc s < sc s' := by omega
    have a2 : sc s' < sc (s + 1) := by omega
    unfold sc at a1 a2
    split at a1 <;> split at a1 <;> split at a2 <;> split at a2 <;> (try split at a1) <;> (try split at a1) <;> (try split at a2) <;> (try split at a2) <;> omega
theorem cb_YX {v : xV} {p s q : Nat} (hw : wfg v) (hc : wfc v) (hs : s < 24) (hq : q ≤ 128) : cb (tY v p) (sc s * 128 + q) = cb (tX (stT v) p) (s * 128 + q) := row_s hw hc hs hq (row_0 hw hc s hs)
theorem cb_all {v : xV} {p : Nat} (hw : wfg v) (hc : wfc v) : cb (tY v p) 5376 = tN (stT v) p := cb_YX (s := 23) (q := 128) hw hc (by omega) (by omega)
/-- the m-th step, by the reference -/
theorem sel_YX {v : xV} {p m : Nat} (hw : wfg v) (hc : wfc v) (h : m < tN (stT v) p) : ∃ y, y < 5376 ∧ tY v p y = true ∧ cb (tY v p) y = m ∧ y / 128 = sc (selX (tX (stT v) p) 3072 m / 128) ∧ y % 128 = selX (tX (stT v) p) 3072 m % 128 := by
  obtain ⟨x, h1, h2, h3⟩ := cb_sel h
  rw [selX_eq h1 h2 h3]
  have e : x = x / 128 * 128 + x % 128 := by omega
  have hs : x / 128 < 24 := by omega
  have hq : x % 128 < 128 := by omega
  have hsc : sc (x / 128) < 42 := by unfold sc; split <;> (try split) <;> omega
  refine ⟨sc (x / 128) * 128 + x % 128, by omega, ?_, ?_, by omega, by omega⟩
  · rw [tY_tX hw hc hs hq, ← e]; exact h2
  · rw [cb_YX hw hc hs (by omega), ← e]; exact h3

