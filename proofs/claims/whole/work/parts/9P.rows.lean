/-! ===== rows of numbers, each once; nodes as numbers ===== -/
theorem cb_new {f g : Nat → Bool} {t N : Nat} (ht : t < N) (hf : f t = false) (hg : ∀ x, x < N → g x = (f x || decide (x = t))) : cb g N = cb f N + 1 := by
  have h1 : g t = true := by rw [hg t ht, decide_eq_true rfl, Bool.or_true]
  rw [cb_rm (f := g) (t := t) h1 N ht]
  congr 1
  refine cb_congr fun j hj => ?_
  rw [hg j hj]
  by_cases e : j = t
  · subst e; rw [hf, decide_eq_false (show ¬ j ≠ j from fun w => w rfl), Bool.and_false]
  · rw [decide_eq_false e, Bool.or_false, decide_eq_true e, Bool.and_true]
/-- a row's first n cells hold it -/
def inA (A : xH) (c n t : Nat) : Prop := ∃ k, k < n ∧ xi A c k = nI t
def okA (A : xH) (c n : Nat) : Prop := (∀ k, k < n → ∃ t, t < 25600 ∧ xi A c k = nI t) ∧ n = cb (fun t => bt (inA A c n t)) 25600 ∧ ∀ i j, i < j → j < n → xi A c i ≠ xi A c j
theorem inA_congr {A B : xH} {c n t : Nat} (h : ∀ k, k < n → xi B c k = xi A c k) : inA B c n t ↔ inA A c n t := by
  constructor
  · rintro ⟨k, a, b⟩; exact ⟨k, a, by rw [← h k a]; exact b⟩
  · rintro ⟨k, a, b⟩; exact ⟨k, a, by rw [h k a]; exact b⟩
theorem okA_congr {A B : xH} {c n : Nat} (ho : okA A c n) (h : ∀ k, k < n → xi B c k = xi A c k) : okA B c n := by
  obtain ⟨a, b, d⟩ := ho
  refine ⟨fun k hk => by rw [h k hk]; exact a k hk, ?_, fun i j hi hj => by rw [h i (by omega), h j hj]; exact d i j hi hj⟩
  rw [cb_congr (g := fun t => bt (inA A c n t)) fun t _ => bt_congr (inA_congr h)]
  exact b
theorem okA_le {A : xH} {c n : Nat} (ho : okA A c n) : n ≤ 25600 := by
  have := cb_le (fun t => bt (inA A c n t)) 25600
  have := ho.2.1
  omega
theorem okA_0 (A : xH) (c : Nat) : okA A c 0 := by
  refine ⟨fun k hk => absurd hk (Nat.not_lt_zero k), ?_, fun i j _ hj => absurd hj (Nat.not_lt_zero j)⟩
  rw [cb_congr (g := fun _ => false) fun t _ => bt_f fun ⟨k, hk, _⟩ => Nat.not_lt_zero k hk]
  have := cb_flat (f := fun _ => false) (Nat.zero_le 25600) fun _ _ _ => rfl
  rw [this]; rfl
theorem inA_push {A B : xH} {c n t x : Nat} (ht : t < 25600) (hx : x < 25600) (h : ∀ k, k < n → xi B c k = xi A c k) (e : xi B c n = nI t) : inA B c (n + 1) x ↔ inA A c n x ∨ x = t := by
  constructor
  · rintro ⟨k, a, b⟩
    by_cases q : k = n
    · subst q
      rw [e] at b
      exact Or.inr ((nI_eq (by omega) (by omega)).mp b).symm
    · exact Or.inl ⟨k, by omega, by rw [← h k (by omega)]; exact b⟩
  · rintro (⟨k, a, b⟩ | rfl)
    · exact ⟨k, by omega, by rw [h k a]; exact b⟩
    · exact ⟨n, Nat.lt_succ_self n, e⟩
theorem okA_push {A B : xH} {c n t : Nat} (ho : okA A c n) (hn : ¬ inA A c n t) (ht : t < 25600) (h : ∀ k, k < n → xi B c k = xi A c k) (e : xi B c n = nI t) : okA B c (n + 1) := by
  obtain ⟨a, b, d⟩ := ho
  refine ⟨fun k hk => ?_, ?_, fun i j hi hj => ?_⟩
  · by_cases q : k = n
    · subst q; exact ⟨t, ht, e⟩
    · rw [h k (by omega)]; exact a k (by omega)
  · rw [cb_new (f := fun t => bt (inA A c n t)) (t := t) ht (bt_f hn) fun x hx => ?_, ← b]
    refine b_ext ?_
    rw [Bool.or_eq_true, bt_iff, bt_iff, decide_eq_true_eq]
    exact inA_push ht hx h e
  · by_cases q : j = n
    · subst q
      rw [e, h i (by omega)]
      exact fun w => hn ⟨i, by omega, w⟩
    · rw [h i (by omega), h j (by omega)]; exact d i j hi (by omega)
theorem okA_lt {A : xH} {c n t : Nat} (ho : okA A c n) (hn : ¬ inA A c n t) (ht : t < 25600) : n < 25600 := by
  have h1 := cb_new (f := fun t => bt (inA A c n t)) (g := fun x => bt (inA A c n x) || decide (x = t)) ht (bt_f hn) fun x _ => rfl
  have h2 := cb_le (fun x => bt (inA A c n x) || decide (x = t)) 25600
  have := ho.2.1
  omega
/-! nodes -/
def nEn (n : Nat × Nat × Nat) : Nat := 4 * (80 * n.2.1 + n.2.2) + n.1
def nDe (t : Nat) : Nat × Nat × Nat := (t % 4, t / 320, t / 4 % 80)
def isN (n : Nat × Nat × Nat) : Prop := n.1 < 4 ∧ n.2.1 < 80 ∧ n.2.2 < 80
theorem nDe_En {n : Nat × Nat × Nat} (h : isN n) : nDe (nEn n) = n := by
  obtain ⟨s, p, q⟩ := n
  obtain ⟨h1, h2, h3⟩ := h
  have h1 : s < 4 := h1
  have h2 : p < 80 := h2
  have h3 : q < 80 := h3
  unfold nDe nEn
  show ((4 * (80 * p + q) + s) % 4, (4 * (80 * p + q) + s) / 320, (4 * (80 * p + q) + s) / 4 % 80) = (s, p, q)
  rw [show (4 * (80 * p + q) + s) % 4 = s by omega, show (4 * (80 * p + q) + s) / 320 = p by omega, show (4 * (80 * p + q) + s) / 4 % 80 = q by omega]
theorem nEn_lt {n : Nat × Nat × Nat} (h : isN n) : nEn n < 25600 := by
  obtain ⟨h1, h2, h3⟩ := h
  unfold nEn
  omega
theorem nEn_De {t : Nat} (h : t < 25600) : nEn (nDe t) = t := by
  unfold nEn nDe
  show 4 * (80 * (t / 320) + t / 4 % 80) + t % 4 = t
  omega
theorem isN_De {t : Nat} (h : t < 25600) : isN (nDe t) := by
  refine ⟨?_, ?_, ?_⟩
  · show t % 4 < 4; omega
  · show t / 320 < 80; omega
  · show t / 4 % 80 < 80; omega
/-- what is come to are places -/
theorem stT_pl {v : xV} {p s q : Nat} (h : stT v p s q) : p < (plL v).length ∧ q < (plL v).length := by
  obtain ⟨X, Q, h1, h2, -⟩ := h
  exact ⟨(List.getElem?_eq_some_iff.mp h1).1, (List.getElem?_eq_some_iff.mp h2).1⟩
theorem e0_st {T : Nat → Nat → Nat → Prop} {a b : Nat × Nat × Nat} (h : e0T T a b) (ha : a.1 < 4) : b.1 < 4 := by
  rcases h with ⟨h, -⟩ | ⟨h, -⟩ | ⟨-, s, s', -, -, -, -, -, -, h⟩
  · unfold lfS at h; omega
  · unfold rgS at h; omega
  · rw [h]; split <;> omega
theorem pl_len2 (v : xV) : 2 ≤ (plL v).length := by
  have := (List.getElem?_eq_some_iff.mp (plA_01 v).2).1
  omega
theorem rc_pl {v : xV} {d : Nat} {n : Nat × Nat × Nat} (h : rcT (stT v) d n) : n.1 < 4 ∧ n.2.1 < (plL v).length ∧ n.2.2 < (plL v).length := by
  refine h (fun _ n => n.1 < 4 ∧ n.2.1 < (plL v).length ∧ n.2.2 < (plL v).length) ?_ ?_ ?_ fun _ _ h => h
  · have := pl_len2 v
    exact ⟨by show 0 < 4; omega, by show 0 < _; omega, by show 0 < _; omega⟩
  · intro d a b ha e
    refine ⟨e0_st e ha.1, ?_⟩
    rcases e with ⟨-, ⟨s, -, -, h⟩, e⟩ | ⟨-, e, ⟨s, -, -, h⟩⟩ | ⟨-, s, s', -, -, -, -, h, h', -⟩
    · exact ⟨(stT_pl h).2, by rw [e]; exact ha.2.2⟩
    · exact ⟨by rw [e]; exact ha.2.1, (stT_pl h).2⟩
    · exact ⟨(stT_pl h).2, (stT_pl h').2⟩
  · rintro d a b ha ⟨⟨s, -, h, h'⟩, e⟩
    exact ⟨by rw [e]; split <;> omega, (stT_pl h).2, (stT_pl h').2⟩

