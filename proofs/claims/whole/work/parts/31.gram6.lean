theorem rsy_ge {v : xV} {f : Nat → Nat} {n lim : Nat} : ∀ k p l l' z, p ≤ n → rsy v f n lim k p l = .inr (l', z) → p ≤ z ∧ z ≤ n
  | 0, _, _, _, _, _, h => by simp [rsy] at h
  | k + 1, p, l, l', z, hp, h => by
    simp only [rsy] at h
    split at h
    · simp only [Sum.inr.injEq, Prod.mk.injEq] at h
      obtain ⟨rfl, rfl⟩ := h
      exact ⟨Nat.le_refl _, hp⟩
    · split at h
      · cases h
      · split at h
        · cases h
        · split at h
          · cases h
          · have h1 := tk_next (f := f) (lim := lim) hp
            have h2 := rsy_ge k _ _ l' z h1.1 h
            omega
theorem rln_ge {v : xV} {f : Nat → Nat} {n lim p k z : Nat} {l : List Nat} (hp : p ≤ n) (h : rln v f n lim p = .inr ((k, l), z)) : p ≤ z ∧ z ≤ n := by
  have h1 := tk_next (f := f) (lim := lim) hp
  have h2 := tk_next (f := f) (lim := lim) h1.1
  unfold rln at h
  split at h
  · cases h
  · split at h
    · cases h
    · split at h
      · cases h
      · rename_i hr
        simp only [Sum.inr.injEq, Prod.mk.injEq] at h
        obtain ⟨-, rfl⟩ := h
        have := rsy_ge 4 _ _ _ _ h2.1 hr
        omega
theorem lnU_ge {v v' : xV} {f : Nat → Nat} {n lim p z : Nat} (hp : p ≤ n) (h : lnU v f n lim p = .inr (v', z)) : p ≤ z ∧ z ≤ n := by
  have h1 := tk_next (f := f) (lim := lim) hp
  have h2 := tk_next (f := f) (lim := lim) h1.1
  have hn : ∀ s, nlU v f n lim p s = .inr (v', z) → p ≤ z ∧ z ≤ n := fun s h => by
    unfold nlU at h
    split at h
    · cases h
    · split at h
      · cases h
      · simp only [Sum.inr.injEq, Prod.mk.injEq] at h
        obtain ⟨-, rfl⟩ := h
        omega
  unfold lnU at h
  split at h
  · split at h
    · cases h
    · exact hn _ h
  · split at h
    · split at h
      · cases h
      · exact hn _ h
    · split at h
      · cases h
      · split at h
        · cases h
        · split at h
          · cases h
          · rename_i hr
            simp only [Sum.inr.injEq, Prod.mk.injEq] at h
            obtain ⟨-, rfl⟩ := h
            exact rln_ge hp hr
/-- reader alone is otherwise, a text taken -/
def jF (A B : xH) : Prop := (∀ c, c ≠ 180 → c ≠ 183 → c ≠ 186 → B.1 c = A.1 c ∧ B.2.1 c = A.2.1 c) ∧ B.2.2 = A.2.2 ∧ (∀ k, k = 0 ∨ (4 < k ∧ k < 11) ∨ k = 17 ∨ 19 < k → xi B 180 k = xi A 180 k) ∧ (∀ k, k ≠ 17 → xl B 180 k = xl A 180 k) ∧ (∀ k, k < 9 → xl B 186 k = xl A 186 k)
theorem jF_kS {A B : xH} (h : kS A B) : jF A B := ⟨h.1, h.2.1, fun k a => h.2.2.1 k (by omega) (by omega) (by omega) (by omega) (by omega) (by omega) (by omega) (by omega), h.2.2.2.1, h.2.2.2.2⟩
theorem jF_tr {A B C : xH} (h : jF A B) (h2 : jF B C) : jF A C :=
  ⟨fun c a b d => ⟨(h2.1 c a b d).1.trans (h.1 c a b d).1, (h2.1 c a b d).2.trans (h.1 c a b d).2⟩, h2.2.1.trans h.2.1, fun k a => (h2.2.2.1 k a).trans (h.2.2.1 k a), fun k a => (h2.2.2.2.1 k a).trans (h.2.2.2.1 k a), fun k a => (h2.2.2.2.2 k a).trans (h.2.2.2.2 k a)⟩
theorem jF_si {A B : xH} {c k : Nat} {x : Int32} (h : jF A B) (hc : c = 183 ∨ (c = 180 ∧ ¬ (k = 0 ∨ (4 < k ∧ k < 11) ∨ k = 17 ∨ 19 < k))) : jF A (xsi B c k x) := by
  obtain ⟨h1, h2, h3, h4, h5⟩ := h
  refine ⟨fun d a b e => ⟨?_, (h1 d a b e).2⟩, h2, fun j a => ?_, h4, h5⟩
  · rw [si_1 (by omega)]; exact (h1 d a b e).1
  · rw [si_ne (by omega)]; exact h3 j a
theorem jF_rf {A : xH} : jF A A := jF_kS kS_rf
/-- the same, and what is so -/
def jS (A B : xH) : Prop := (∀ c, c ≠ 180 → c ≠ 182 → c ≠ 183 → c ≠ 186 → B.1 c = A.1 c ∧ B.2.1 c = A.2.1 c) ∧ B.2.2 = A.2.2 ∧ (∀ k, k = 0 ∨ (4 < k ∧ k < 11) ∨ k = 17 ∨ (19 < k ∧ k < 25) ∨ (28 < k ∧ k < 57) ∨ 57 < k → xi B 180 k = xi A 180 k) ∧ (∀ k, k ≠ 17 → xl B 180 k = xl A 180 k)
theorem jS_jF {A B : xH} (h : jF A B) : jS A B := ⟨fun c a _ b d => h.1 c a b d, h.2.1, fun k a => h.2.2.1 k (by omega), h.2.2.2.1⟩
theorem jS_si {A B : xH} {c k : Nat} {x : Int32} (h : jS A B) (hc : c = 182 ∨ (c = 180 ∧ k = 57)) : jS A (xsi B c k x) := by
  obtain ⟨h1, h2, h3, h4⟩ := h
  refine ⟨fun d a b e g => ⟨?_, (h1 d a b e g).2⟩, h2, fun j a => ?_, h4⟩
  · rw [si_1 (by omega)]; exact (h1 d a b e g).1
  · rw [si_ne (by omega)]; exact h3 j a
theorem jS_sl {A B : xH} {k : Nat} {x : Int64} (h : jS A B) : jS A (xsl B 186 k x) := by
  obtain ⟨h1, h2, h3, h4⟩ := h
  refine ⟨fun d a b e g => ⟨(h1 d a b e g).1, ?_⟩, h2, h3, fun j a => ?_⟩
  · rw [← (h1 d a b e g).2]
    funext j
    simp [xsl, g]
  · rw [xl_sl, if_neg (by omega)]; exact h4 j a
theorem jS_oS {A B C : xH} (h : jS A B) (h2 : oS B C) : jS A C := by
  obtain ⟨h1, h3, h4, h5⟩ := h
  obtain ⟨g1, g2, g3, -⟩ := h2
  refine ⟨fun c a b d e => ⟨(g1 c a b).trans (h1 c a b d e).1, ?_⟩, ?_, fun k a => (g3 k (by omega)).trans (h4 k a), fun k a => ?_⟩
  · rw [g2]; exact (h1 c a b d e).2
  · rw [g2]; exact h3
  · show C.2.1 180 k = _
    rw [g2]; exact h5 k a
def GU1 (A : xH) (P : xP) (r : (Nat × Nat) ⊕ (xV × Nat)) : Prop := ∀ B e d, r = .inl (e, d) → jF A B → xi B 180 1 = 0 → xi B 180 15 = nI e → P (some (.int (-1 - nI d))) B
def GU2 (A : xH) (P : xP) (r : (Nat × Nat) ⊕ (xV × Nat)) : Prop := ∀ B v k, r = .inr (v, k) → jS A B → xi B 180 1 = 0 → xi B 180 15 = 0 → xi B 180 57 = 0 → (xi B 180 25 = 0 ∧ xi B 180 26 = 0 ∧ xi B 180 27 = 0 ∧ xi B 180 28 = 0) → (∀ j, 96 ≤ j → j < 232 → xi B 182 j = 0) → isR B v → vI v → P (some (.int (nI k))) B
def f_X12_grammar (q : Nat) (A : xH) (P : xP) : Prop := q = 180 ∧ ∃ f n, isU A f n ∧ resU A ∧ GU1 A P (gram f n 900 941 0 vz 0) ∧ GU2 A P (gram f n 900 941 0 vz 0)

