/-! ===== what is below a rule is fit; piles as cells ===== -/
theorem pkR_pos {S : Nat → Nat → Nat → Nat} {n j : Nat} : ∀ {d x k m : Nat} {e : List Nat} {l : Nat}, pkR S n j d x k m e l → d ≤ n → ∀ u, u < d → x ≤ enE x e u ∧ enE x e u ≤ enE x e (u + 1) ∧ enE x e (u + 1) ≤ j ∧ 0 < S (n - d + u) (enE x e u) (enE x e (u + 1))
  | 0, _, _, _, _, _, _, _, u, hu => absurd hu (Nat.not_lt_zero u)
  | d + 1, x, k, m, e, l, ⟨y, k1, e1, a1, a4, a2, a3⟩, hd, u, hu => by
    subst a2
    have hp : 0 < S (n - (d + 1)) x y := Nat.pos_of_ne_zero fun z => by
      have := a1.2.2
      simp only [z, Nat.zero_mul] at this
      omega
    match u with
    | 0 => exact ⟨Nat.le_refl _, a1.1, a4, hp⟩
    | u + 1 =>
      have h := pkR_pos a3 (by omega) u (by omega)
      rw [show n - d + u = n - (d + 1) + (u + 1) by omega] at h
      exact ⟨Nat.le_trans a1.1 h.1, h.2⟩
theorem kdF_mem {S : Nat → Nat → Nat → Nat} {sy : Nat → Nat} {n i j v : Nat} {E : Nat → Nat} {l : Nat} : ∀ c, c ≤ n → (kdF S sy n i j v E l c).2 ≤ l ∧ ∀ d ∈ (kdF S sy n i j v E l c).1, ∃ t q, t < n ∧ ¬ sy t < 8 ∧ q ≤ l ∧ d = (sy t - 8, E t, E (t + 1), if E t = i ∧ E (t + 1) = j then v else 0, q % S t (E t) (E (t + 1)))
  | 0, _ => ⟨Nat.le_refl _, fun d hd => absurd hd List.not_mem_nil⟩
  | c + 1, hc => by
    obtain ⟨h2, h1⟩ := kdF_mem (S := S) (sy := sy) (n := n) (i := i) (j := j) (v := v) (E := E) (l := l) c (by omega)
    rw [kdF]
    by_cases q : sy (n - (c + 1)) < 8
    · rw [if_pos q]; exact ⟨h2, h1⟩
    · rw [if_neg q]
      refine ⟨Nat.le_trans (Nat.div_le_self _ _) h2, fun d hd => ?_⟩
      rcases List.mem_cons.mp hd with rfl | hd
      · exact ⟨n - (c + 1), _, by omega, q, h2, rfl⟩
      · exact h1 d hd
theorem pvS_k {g : xV} {ρ : Nat → Nat} {i j v c x y : Nat} (h : ¬ c < 8) : pvS g ρ i j v c x y = tW g ρ (if x = i ∧ y = j then v else 0) (c - 8) x y := by
  unfold pvS sSy
  rw [if_neg h]
  by_cases w : x = i ∧ y = j
  · rw [if_pos w, if_pos w, w.1, w.2]; rfl
  · rw [if_neg w, if_neg w]
    split
    · rename_i z
      unfold tW
      rw [if_pos z]
    · rfl
theorem kids_ok {g : xV} (hw : wfg g) {ρ : Nat → Nat} {n i j v r k m l : Nat} {e : List Nat} (hr : r < vR g) (hj : j ≤ n) (hv : v ≤ fullN g) {M : Nat} (hl : l ≤ M) (h : pkR (fun t => pvS g ρ i j v (vsy g r t)) (vrs g r) j (vrs g r) i k m e l) (d : nD) (hd : d ∈ kids g ρ i j v r e l) : d.1 < vK g ∧ d.2.1 ≤ d.2.2.1 ∧ d.2.2.1 ≤ n ∧ d.2.2.2.1 ≤ fullN g ∧ d.2.2.2.2 < tW g ρ d.2.2.2.1 d.1 d.2.1 d.2.2.1 ∧ d.2.2.2.2 ≤ M := by
  obtain ⟨t, q, t1, t2, t3, rfl⟩ := (kdF_mem _ (Nat.le_refl _)).2 d hd
  obtain ⟨p1, p2, p3', p4⟩ := pkR_pos h (Nat.le_refl _) t t1
  rw [Nat.sub_self, Nat.zero_add] at p4
  have hm := Nat.mod_lt q p4
  have e1 := pvS_k (g := g) (ρ := ρ) (i := i) (j := j) (v := v) (x := enE i e t) (y := enE i e (t + 1)) t2
  refine ⟨sy_K hw hr t1 t2, p2, Nat.le_trans p3' hj, ?_, ?_, Nat.le_trans (Nat.mod_le _ _) (Nat.le_trans t3 hl)⟩
  · dsimp only
    split
    · exact hv
    · exact Nat.zero_le _
  · dsimp only
    rw [← e1]
    exact hm
/-! a pile of nodes in a row of cells, the top first -/
def ndA (arr : Nat) (A : xH) (p : Nat) (d : nD) : Prop := xi A arr (5 * p) = nI d.1 ∧ xi A arr (5 * p + 1) = nI d.2.1 ∧ xi A arr (5 * p + 2) = nI d.2.2.1 ∧ xi A arr (5 * p + 3) = nI d.2.2.2.1 ∧ xi A arr (5 * p + 4) = nI d.2.2.2.2
def stA (arr : Nat) (A : xH) (st : List nD) : Prop := ∀ (pre : List nD) (d : nD) (post : List nD), st = pre ++ d :: post → ndA arr A post.length d
theorem stA_nil {arr : Nat} {A : xH} : stA arr A [] := fun pre d post h => by
  cases pre <;> cases h
theorem stA_top {arr : Nat} {A : xH} {d : nD} {st : List nD} (h : stA arr A (d :: st)) : ndA arr A st.length d := h [] d st rfl
theorem stA_pop {arr : Nat} {A : xH} {d : nD} {st : List nD} (h : stA arr A (d :: st)) : stA arr A st := fun pre e post q => h (d :: pre) e post (by rw [q]; rfl)
theorem stA_fr {arr : Nat} {A B : xH} {st : List nD} (h : stA arr A st) (hf : ∀ k, k < 5 * st.length → xi B arr k = xi A arr k) : stA arr B st := fun pre d post q => by
  have := h pre d post q
  have hl : post.length < st.length := by rw [q, List.length_append]; simp only [List.length_cons]; omega
  obtain ⟨h1, h2, h3, h4, h5⟩ := this
  exact ⟨by rw [hf _ (by omega)]; exact h1, by rw [hf _ (by omega)]; exact h2, by rw [hf _ (by omega)]; exact h3, by rw [hf _ (by omega)]; exact h4, by rw [hf _ (by omega)]; exact h5⟩
theorem stA_push {arr : Nat} {A B : xH} {d : nD} {st : List nD} (h : stA arr A st) (hf : ∀ k, k < 5 * st.length → xi B arr k = xi A arr k) (hd : ndA arr B st.length d) : stA arr B (d :: st) := fun pre e post q => by
  cases pre with
  | nil => cases q; exact hd
  | cons z pre =>
    cases q
    exact stA_fr h hf pre e post rfl
/-- the rules that are told -/
def ouA (arr : Nat) (A : xH) (out : List Nat) : Prop := ∀ t, t < out.length → xi A arr t = nI (out.getD t 0)
theorem ouA_fr {arr : Nat} {A B : xH} {out : List Nat} (h : ouA arr A out) (hf : ∀ k, k < out.length → xi B arr k = xi A arr k) : ouA arr B out := fun t ht => by rw [hf t ht]; exact h t ht
theorem ouA_push {arr : Nat} {A B : xH} {out : List Nat} {r : Nat} (h : ouA arr A out) (hf : ∀ k, k < out.length → xi B arr k = xi A arr k) (hr : xi B arr out.length = nI r) : ouA arr B (out ++ [r]) := fun t ht => by
  rw [List.length_append, List.length_singleton] at ht
  by_cases e : t = out.length
  · subst e
    rw [hr, List.getD_eq_getElem?_getD, List.getElem?_append_right (Nat.le_refl _), Nat.sub_self]
    rfl
  · rw [hf t (by omega), h t (by omega), List.getD_eq_getElem?_getD, List.getD_eq_getElem?_getD, List.getElem?_append_left (by omega)]

