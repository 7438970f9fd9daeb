/-! ===== rows of signs in their order ===== -/
def lxO (n : Nat) (σ ρ : Nat → Nat) : Prop := ∃ j, j < n ∧ (∀ x, x < j → σ x = ρ x) ∧ σ j < ρ j
def okR (g : xV) (n : Nat) (σ : Nat → Nat) : Prop := ∀ x, x < n → σ x < vS g
/-- no row ahead of this one has two trees -/
def noB (g : xV) (n : Nat) (ρ : Nat → Nat) : Prop := ∀ σ, okR g n σ → lxO n σ ρ → tW g σ 0 0 0 n < 2
def noSz (g : xV) (n : Nat) : Prop := ∀ σ, okR g n σ → tW g σ 0 0 0 n < 2
def nxR (a : Nat) (ρ : Nat → Nat) : Nat → Nat := fun x => if x < a then ρ x else if x = a then ρ x + 1 else 0
theorem lx_or (σ ρ : Nat → Nat) : ∀ n, (∀ x, x < n → σ x = ρ x) ∨ ∃ j, j < n ∧ (∀ x, x < j → σ x = ρ x) ∧ σ j ≠ ρ j
  | 0 => Or.inl fun x hx => absurd hx (Nat.not_lt_zero x)
  | n + 1 => by
    rcases lx_or σ ρ n with h | ⟨j, h1, h2, h3⟩
    · by_cases e : σ n = ρ n
      · exact Or.inl fun x hx => by
          by_cases q : x = n
          · rw [q]; exact e
          · exact h x (by omega)
      · exact Or.inr ⟨n, by omega, h, e⟩
    · exact Or.inr ⟨j, by omega, h2, h3⟩
theorem nxR_lt {a x : Nat} {ρ : Nat → Nat} (h : x < a) : nxR a ρ x = ρ x := if_pos h
theorem nxR_eq {a : Nat} {ρ : Nat → Nat} : nxR a ρ a = ρ a + 1 := by unfold nxR; rw [if_neg (Nat.lt_irrefl a), if_pos rfl]
theorem nxR_gt {a x : Nat} {ρ : Nat → Nat} (h : a < x) : nxR a ρ x = 0 := by unfold nxR; rw [if_neg (by omega), if_neg (by omega)]
theorem lx_nx {n a : Nat} {σ ρ : Nat → Nat} (h : lxO n σ (nxR a ρ)) (ha : a < n) : lxO n σ ρ ∨ ∀ x, x ≤ a → σ x = ρ x := by
  obtain ⟨j, h1, h2, h3⟩ := h
  rcases Nat.lt_trichotomy j a with q | q | q
  · rw [nxR_lt q] at h3
    exact Or.inl ⟨j, h1, fun x hx => by rw [h2 x hx, nxR_lt (by omega)], h3⟩
  · subst q
    rw [nxR_eq] at h3
    have h4 : ∀ x, x < j → σ x = ρ x := fun x hx => by rw [h2 x hx, nxR_lt hx]
    rcases Nat.lt_or_ge (σ j) (ρ j) with w | w
    · exact Or.inl ⟨j, h1, h4, w⟩
    · refine Or.inr fun x hx => ?_
      by_cases e : x = j
      · subst e; omega
      · exact h4 x (by omega)
  · rw [nxR_gt q] at h3; omega
/-- behind a row whose last ones are the last signs comes the next -/
theorem noB_nx {g : xV} {n a : Nat} {ρ : Nat → Nat} (h : noB g n ρ) (h2 : tW g ρ 0 0 0 n < 2) (ha : a < n) (hl : ∀ x, a < x → x < n → vS g ≤ ρ x + 1) : noB g n (nxR a ρ) := fun σ ok hx => by
  rcases lx_nx hx ha with q | q
  · exact h σ ok q
  · rcases lx_or σ ρ n with e | ⟨j, j1, j2, j3⟩
    · rw [tW_congr (σ := ρ) (Nat.zero_le _) fun x _ hx => e x hx]; exact h2
    · have ja : a < j := Nat.lt_of_not_le fun w => j3 (q j w)
      have := hl j ja j1
      have := ok j j1
      exact h σ ok ⟨j, j1, j2, by omega⟩
theorem noB_end {g : xV} {n : Nat} {ρ : Nat → Nat} (h : noB g n ρ) (h2 : tW g ρ 0 0 0 n < 2) (hl : ∀ x, x < n → vS g ≤ ρ x + 1) : noSz g n := fun σ ok => by
  rcases lx_or σ ρ n with e | ⟨j, j1, j2, j3⟩
  · rw [tW_congr (σ := ρ) (Nat.zero_le _) fun x _ hx => e x hx]; exact h2
  · have := hl j j1
    have := ok j j1
    exact h σ ok ⟨j, j1, j2, by omega⟩
theorem noB_0 {g : xV} {n : Nat} {ρ : Nat → Nat} (h : ∀ x, x < n → ρ x = 0) : noB g n ρ := fun σ ok ⟨j, j1, _, j3⟩ => by rw [h j j1] at j3; omega
def isWit (g : xV) (k : Nat) (ρ : Nat → Nat) : Prop := (∀ s, s < k → noSz g s) ∧ okR g k ρ ∧ noB g k ρ ∧ 2 ≤ tW g ρ 0 0 0 k
theorem isWit_1 {g : xV} {k m : Nat} {ρ τ : Nat → Nat} (h : isWit g k ρ) (h2 : isWit g m τ) : k = m ∧ ∀ x, x < k → ρ x = τ x := by
  obtain ⟨a1, a2, a3, a4⟩ := h
  obtain ⟨b1, b2, b3, b4⟩ := h2
  have e : k = m := by
    rcases Nat.lt_trichotomy k m with q | q | q
    · have := b1 k q ρ a2; omega
    · exact q
    · have := a1 m q τ b2; omega
  subst e
  refine ⟨rfl, ?_⟩
  rcases lx_or ρ τ k with e | ⟨j, j1, j2, j3⟩
  · exact e
  · exfalso
    rcases Nat.lt_or_ge (ρ j) (τ j) with w | w
    · have := b3 ρ a2 ⟨j, j1, j2, w⟩; omega
    · have := a3 τ b2 ⟨j, j1, fun x hx => (j2 x hx).symm, by omega⟩; omega
theorem isWit_no {g : xV} {k n : Nat} {ρ : Nat → Nat} (h : isWit g k ρ) (hk : k ≤ n) (h2 : ∀ s, s ≤ n → noSz g s) : False := by
  have := h2 k hk ρ h.2.1
  have := h.2.2.2
  omega
def vl (b : Nat) (ρ : Nat → Nat) : Nat → Nat
  | 0 => 0
  | n + 1 => vl b ρ n * b + ρ n
theorem vl_congr {b : Nat} {ρ σ : Nat → Nat} : ∀ {n}, (∀ x, x < n → ρ x = σ x) → vl b ρ n = vl b σ n
  | 0, _ => rfl
  | n + 1, h => by simp only [vl]; rw [vl_congr fun x hx => h x (by omega), h n (by omega)]
def pw (b : Nat) : Nat → Nat
  | 0 => 1
  | n + 1 => pw b n * b
theorem vl_lt {b c : Nat} {ρ : Nat → Nat} (hb : b ≤ c) : ∀ {n}, (∀ x, x < n → ρ x < b) → vl b ρ n < pw c n
  | 0, _ => Nat.zero_lt_one
  | n + 1, h => by
    simp only [vl, pw]
    have h1 := vl_lt (ρ := ρ) hb (n := n) fun x hx => h x (by omega)
    have h2 := h n (by omega)
    have h3 : (vl b ρ n + 1) * b ≤ pw c n * c := Nat.mul_le_mul h1 hb
    rw [Nat.add_mul] at h3
    omega
theorem vl_nx {b a : Nat} {ρ : Nat → Nat} : ∀ {n}, a < n → (∀ x, a < x → x < n → ρ x < b ∧ b ≤ ρ x + 1) → vl b (nxR a ρ) n = vl b ρ n + 1
  | 0, h, _ => absurd h (Nat.not_lt_zero a)
  | n + 1, h, hx => by
    simp only [vl]
    by_cases e : n = a
    · subst e
      rw [nxR_eq, vl_congr (σ := ρ) fun x hx => nxR_lt hx]; omega
    · rw [vl_nx (n := n) (by omega) fun x h1 h2 => hx x h1 (by omega), nxR_gt (by omega), Nat.add_mul]
      have := hx n (by omega) (by omega)
      omega
theorem vl_up {b a : Nat} {ρ : Nat → Nat} : ∀ {n}, a < n → (∀ x, x < n → ρ x < b) → vl b ρ n < vl b (nxR a ρ) n
  | 0, h, _ => absurd h (Nat.not_lt_zero a)
  | n + 1, h, hx => by
    simp only [vl]
    by_cases e : n = a
    · subst e
      rw [nxR_eq, vl_congr (σ := ρ) fun x hx => nxR_lt hx]; omega
    · have h1 := vl_up (b := b) (a := a) (ρ := ρ) (n := n) (by omega) fun x h => hx x (by omega)
      rw [nxR_gt (by omega)]
      have h3 : (vl b ρ n + 1) * b ≤ vl b (nxR a ρ) n * b := Nat.mul_le_mul_right b h1
      rw [Nat.add_mul] at h3
      have := hx n (by omega)
      omega
theorem vl_0 {b : Nat} {ρ : Nat → Nat} : ∀ {n}, (∀ x, x < n → ρ x = 0) → vl b ρ n = 0
  | 0, _ => rfl
  | n + 1, h => by simp only [vl]; rw [vl_0 fun x hx => h x (by omega), h n (by omega), Nat.zero_mul]
/-! ===== the class's nextRow ===== -/
theorem d_X1_nextRow_0 : decode cX1_nextRow 0 = .ok (.iload_n 1, 1) := by decide +kernel
theorem d_X1_nextRow_1 : decode cX1_nextRow 1 = .ok (.iconst 1, 1) := by decide +kernel
theorem d_X1_nextRow_2 : decode cX1_nextRow 2 = .ok (.isub, 1) := by decide +kernel
theorem d_X1_nextRow_3 : decode cX1_nextRow 3 = .ok (.istore_n 2, 1) := by decide +kernel
theorem d_X1_nextRow_4 : decode cX1_nextRow 4 = .ok (.iload_n 2, 1) := by decide +kernel
theorem d_X1_nextRow_5 : decode cX1_nextRow 5 = .ok (.ifCond .lt 34, 3) := by decide +kernel
theorem d_X1_nextRow_8 : decode cX1_nextRow 8 = .ok (.aload_n 0, 1) := by decide +kernel
theorem d_X1_nextRow_9 : decode cX1_nextRow 9 = .ok (.getfield 25, 3) := by decide +kernel
theorem d_X1_nextRow_12 : decode cX1_nextRow 12 = .ok (.iload_n 2, 1) := by decide +kernel
theorem d_X1_nextRow_13 : decode cX1_nextRow 13 = .ok (.iaload, 1) := by decide +kernel
theorem d_X1_nextRow_14 : decode cX1_nextRow 14 = .ok (.aload_n 0, 1) := by decide +kernel
theorem d_X1_nextRow_15 : decode cX1_nextRow 15 = .ok (.getfield 81, 3) := by decide +kernel
theorem d_X1_nextRow_18 : decode cX1_nextRow 18 = .ok (.getfield 132, 3) := by decide +kernel
theorem d_X1_nextRow_21 : decode cX1_nextRow 21 = .ok (.iconst 1, 1) := by decide +kernel
theorem d_X1_nextRow_22 : decode cX1_nextRow 22 = .ok (.isub, 1) := by decide +kernel
theorem d_X1_nextRow_23 : decode cX1_nextRow 23 = .ok (.if_icmp .lt 16, 3) := by decide +kernel
theorem d_X1_nextRow_26 : decode cX1_nextRow 26 = .ok (.aload_n 0, 1) := by decide +kernel
theorem d_X1_nextRow_27 : decode cX1_nextRow 27 = .ok (.getfield 25, 3) := by decide +kernel
theorem d_X1_nextRow_30 : decode cX1_nextRow 30 = .ok (.iload_n 2, 1) := by decide +kernel
theorem d_X1_nextRow_31 : decode cX1_nextRow 31 = .ok (.iconst 0, 1) := by decide +kernel
theorem d_X1_nextRow_32 : decode cX1_nextRow 32 = .ok (.iastore, 1) := by decide +kernel
theorem d_X1_nextRow_33 : decode cX1_nextRow 33 = .ok (.iinc 2 (-1), 3) := by decide +kernel
theorem d_X1_nextRow_36 : decode cX1_nextRow 36 = .ok (.goto (-32), 3) := by decide +kernel
theorem d_X1_nextRow_39 : decode cX1_nextRow 39 = .ok (.iload_n 2, 1) := by decide +kernel
theorem d_X1_nextRow_40 : decode cX1_nextRow 40 = .ok (.ifCond .ge 5, 3) := by decide +kernel
theorem d_X1_nextRow_43 : decode cX1_nextRow 43 = .ok (.iconst (-1), 1) := by decide +kernel
theorem d_X1_nextRow_44 : decode cX1_nextRow 44 = .ok (.ireturn, 1) := by decide +kernel
theorem d_X1_nextRow_45 : decode cX1_nextRow 45 = .ok (.aload_n 0, 1) := by decide +kernel
theorem d_X1_nextRow_46 : decode cX1_nextRow 46 = .ok (.getfield 25, 3) := by decide +kernel
theorem d_X1_nextRow_49 : decode cX1_nextRow 49 = .ok (.iload_n 2, 1) := by decide +kernel
theorem d_X1_nextRow_50 : decode cX1_nextRow 50 = .ok (.dup2, 1) := by decide +kernel
theorem d_X1_nextRow_51 : decode cX1_nextRow 51 = .ok (.iaload, 1) := by decide +kernel
theorem d_X1_nextRow_52 : decode cX1_nextRow 52 = .ok (.iconst 1, 1) := by decide +kernel
theorem d_X1_nextRow_53 : decode cX1_nextRow 53 = .ok (.iadd, 1) := by decide +kernel
theorem d_X1_nextRow_54 : decode cX1_nextRow 54 = .ok (.iastore, 1) := by decide +kernel
theorem d_X1_nextRow_55 : decode cX1_nextRow 55 = .ok (.iload_n 2, 1) := by decide +kernel
theorem d_X1_nextRow_56 : decode cX1_nextRow 56 = .ok (.ireturn, 1) := by decide +kernel
def k_X1_nextRow_0 (P : xP) (C4 : xK) : xK := x_iload 1 (x_push (.int 1) (x_isub (x_istore 2 (C4))))
set_option maxRecDepth 20000 in
theorem t_X1_nextRow_0 {p : Program} {l : Launch} {e : Env} {s : State} {m : MethodId} {args : Array Value} {below : List Frame} {meth : Method} {c : Code} {g : xG} (X : xX p s m args c meth cX1_nextRow RX1 3 g) (hr : meth.sig.returnType = (some .int)) {P : xP} {C4 : xK} (h4 : xAt p l e { frames := 0, cells := 0, slots := 0, locals := 0 } s m args below meth c g 3 xFT xN 0 0 (MQ below (xQc g xFT xN P) args s 0 0 (xFr g)) C4 4) : xAt p l e { frames := 0, cells := 0, slots := 0, locals := 0 } s m args below meth c g 3 xFT xN 0 0 (MQ below (xQc g xFT xN P) args s 0 0 (xFr g)) (k_X1_nextRow_0 P C4) 0 := by
  unfold k_X1_nextRow_0
  refine r_iload_n (pc := 0) X d_X1_nextRow_0 fn1 ?_
  refine r_iconst (pc := 1) X d_X1_nextRow_1 (by decide +kernel) ?_
  refine r_isub (pc := 2) X d_X1_nextRow_2 ?_
  refine r_istore_n (pc := 3) X d_X1_nextRow_3 fn2 (by decide +kernel) ?_
  exact h4
def k_X1_nextRow_39 (P : xP) : xK := x_iload 2 (x_if_ge (x_aload 0 (y_getF 57 60 (x_iload 2 (x_dup2 (y_iald 60 8 (x_push (.int 1) (x_iadd (y_iast 60 8 (x_iload 2 (x_iret P)))))))))) (x_push (.int (-1)) (x_iret P)))
set_option maxRecDepth 20000 in
theorem t_X1_nextRow_39 {p : Program} {l : Launch} {e : Env} {s : State} {m : MethodId} {args : Array Value} {below : List Frame} {meth : Method} {c : Code} {g : xG} (X : xX p s m args c meth cX1_nextRow RX1 3 g) (hr : meth.sig.returnType = (some .int)) {P : xP} : xAt p l e { frames := 0, cells := 0, slots := 0, locals := 0 } s m args below meth c g 3 xFT xN 0 0 (MQ below (xQc g xFT xN P) args s 0 0 (xFr g)) (k_X1_nextRow_39 P) 39 := by
  unfold k_X1_nextRow_39
  refine r_iload_n (pc := 39) X d_X1_nextRow_39 fn2 ?_
  refine r_if_ge (pc := 40) (tgt := 45) X d_X1_nextRow_40 (by decide +kernel) ?_ ?_
  · refine r_aload_n (pc := 45) X d_X1_nextRow_45 fn0 ?_
    refine s_getF (pc := 46) (ci := 1) (k := 8) X xok1 (by decide +kernel) ob_57 trivial ly_57_8 (by decide +kernel) fl_RX1_25 d_X1_nextRow_46 ?_
    refine r_iload_n (pc := 49) X d_X1_nextRow_49 fn2 ?_
    refine r_dup2 (pc := 50) X d_X1_nextRow_50 ?_
    refine s_iald (pc := 51) X tn_60 ln_60 d_X1_nextRow_51 ?_
    refine r_iconst (pc := 52) X d_X1_nextRow_52 (by decide +kernel) ?_
    refine r_iadd (pc := 53) X d_X1_nextRow_53 ?_
    refine s_iast (pc := 54) X tn_60 ln_60 d_X1_nextRow_54 ?_
    refine r_iload_n (pc := 55) X d_X1_nextRow_55 fn2 ?_
    exact r_iret (pc := 56) X hr d_X1_nextRow_56
  · refine r_iconst (pc := 43) X d_X1_nextRow_43 (by decide +kernel) ?_
    exact r_iret (pc := 44) X hr d_X1_nextRow_44
def k_X1_nextRow_4 (P : xP) (C4 : xK) : xK := x_iload 2 (x_if_lt ((k_X1_nextRow_39 P)) (x_aload 0 (y_getF 57 60 (x_iload 2 (y_iald 60 8 (x_aload 0 (x_getR xN 1 7 (x_getI xN 4 0 (x_push (.int 1) (x_isub (x_icmp_lt ((k_X1_nextRow_39 P)) (x_aload 0 (y_getF 57 60 (x_iload 2 (x_push (.int 0) (y_iast 60 8 (x_iinc 2 (-1) (C4))))))))))))))))))
set_option maxRecDepth 20000 in
theorem t_X1_nextRow_4 {p : Program} {l : Launch} {e : Env} {s : State} {m : MethodId} {args : Array Value} {below : List Frame} {meth : Method} {c : Code} {g : xG} (X : xX p s m args c meth cX1_nextRow RX1 3 g) (hr : meth.sig.returnType = (some .int)) {P : xP} {C4 : xK} (h4 : xAt p l e { frames := 0, cells := 0, slots := 0, locals := 0 } s m args below meth c g 3 xFT xN 0 0 (MQ below (xQc g xFT xN P) args s 0 0 (xFr g)) C4 4) : xAt p l e { frames := 0, cells := 0, slots := 0, locals := 0 } s m args below meth c g 3 xFT xN 0 0 (MQ below (xQc g xFT xN P) args s 0 0 (xFr g)) (k_X1_nextRow_4 P C4) 4 := by
  unfold k_X1_nextRow_4
  refine r_iload_n (pc := 4) X d_X1_nextRow_4 fn2 ?_
  refine r_if_lt (pc := 5) (tgt := 39) X d_X1_nextRow_5 (by decide +kernel) ?_ ?_
  · exact t_X1_nextRow_39 X hr
  · refine r_aload_n (pc := 8) X d_X1_nextRow_8 fn0 ?_
    refine s_getF (pc := 9) (ci := 1) (k := 8) X xok1 (by decide +kernel) ob_57 trivial ly_57_8 (by decide +kernel) fl_RX1_25 d_X1_nextRow_9 ?_
    refine r_iload_n (pc := 12) X d_X1_nextRow_12 fn2 ?_
    refine s_iald (pc := 13) X tn_60 ln_60 d_X1_nextRow_13 ?_
    refine r_aload_n (pc := 14) X d_X1_nextRow_14 fn0 ?_
    refine r_getR (pc := 15) X xok1 (by decide +kernel) (by decide +kernel) fl_RX1_81 d_X1_nextRow_15 ?_
    refine r_getI (pc := 18) X xok4 (by decide +kernel) (by decide +kernel) fl_RX1_132 d_X1_nextRow_18 ?_
    refine r_iconst (pc := 21) X d_X1_nextRow_21 (by decide +kernel) ?_
    refine r_isub (pc := 22) X d_X1_nextRow_22 ?_
    refine r_icmp_lt (pc := 23) (tgt := 39) X d_X1_nextRow_23 (by decide +kernel) ?_ ?_
    · exact t_X1_nextRow_39 X hr
    · refine r_aload_n (pc := 26) X d_X1_nextRow_26 fn0 ?_
      refine s_getF (pc := 27) (ci := 1) (k := 8) X xok1 (by decide +kernel) ob_57 trivial ly_57_8 (by decide +kernel) fl_RX1_25 d_X1_nextRow_27 ?_
      refine r_iload_n (pc := 30) X d_X1_nextRow_30 fn2 ?_
      refine r_iconst (pc := 31) X d_X1_nextRow_31 (by decide +kernel) ?_
      refine s_iast (pc := 32) X tn_60 ln_60 d_X1_nextRow_32 ?_
      refine r_iinc (pc := 33) X d_X1_nextRow_33 (by decide +kernel) (by decide +kernel) ?_
      refine r_goto (pc := 36) (tgt := 4) X d_X1_nextRow_36 (by decide +kernel) ?_
      exact h4
set_option maxRecDepth 20000 in
theorem m_X1_nextRow {l : Launch} {f : Nat → Int32 → xH → xP → Prop}  {I4 : Nat → Int32 → xH → xP → xM → xK}
    (v0 : ∀ (a0 : Nat) (a1 : Int32) (A : xH) (P : xP), f a0 a1 A P → k_X1_nextRow_0 P (xE (I4 a0 a1 A P)) [some (.ref a0), some (.int a1), none] [] A)
    (v4 : ∀ (a0 : Nat) (a1 : Int32) (A : xH) (P : xP), f a0 a1 A P → ∀ (μ : xM) (L : xL) (st : List Value) (B : xH), I4 a0 a1 A P μ L st B → k_X1_nextRow_4 P (xB (I4 a0 a1 A P) μ) L st B) : xCon l yX1_nextRow cX1_nextRow 3 (some .int) 0 0 xN xN 0 xFT xFT (w_RI f) := by
  refine xc_RI (plainFor_of_name pn_RX1) (by decide +kernel) (fun p e s m args below meth c g a0 a1 A P h X hr _ => ?_)
  have h4 := x_loop1 (p := p) (l := l) (e := e) (R := { frames := 0, cells := 0, slots := 0, locals := 0 }) (s := s) (m := m) (args := args) (below := below) (meth := meth) (c := c) (g := g) (nL := 3) (F := xFT) (n := xN) (cells := 0) (slots := 0) (Q := MQ below (xQc g xFT xN P) args s 0 0 (xFr g)) (I := I4 a0 a1 A P) (pc1 := 4) (fun μ i4 => xAt_mono (t_X1_nextRow_4 (P := P) X hr i4) (v4 a0 a1 A P h μ))
  exact ⟨_, v0 a0 a1 A P h, t_X1_nextRow_0 X hr h4⟩
def nrP (A : xH) (P : xP) (g : xV) (ρ : Nat → Nat) (n : Nat) : Prop := ∀ B, fr (fun c _ => c = 60) A B → ((∀ x, x < n → vS g ≤ ρ x + 1) → P (some (.int (-1))) B) ∧ (∀ a, a < n → ρ a + 1 < vS g → (∀ x, a < x → x < n → vS g ≤ ρ x + 1) → (∀ x, x < n → xi B 60 x = nI (nxR a ρ x)) → P (some (.int (nI a))) B)
def f_X1_nextRow (q : Nat) (y : Int32) (A : xH) (P : xP) : Prop := q = 57 ∧ ∃ (g : xV) (ρ : Nat → Nat) (n : Nat), y = nI n ∧ n ≤ 5 ∧ mdC A g ∧ (∀ x, x < n → xi A 60 x = nI (ρ x) ∧ ρ x < vS g) ∧ nrP A P g ρ n
def nr4 (A : xH) (P : xP) : xM → xK := fun μ L st B => ∃ (g : xV) (ρ : Nat → Nat) (n w : Nat), n ≤ 5 ∧ mdC B g ∧ (∀ x, x < n → ρ x < vS g) ∧ nrP A P g ρ n ∧ fr (fun c _ => c = 60) A B ∧ w ≤ n ∧ (∀ x, x < w → xi B 60 x = nI (ρ x)) ∧ (∀ x, w ≤ x → x < n → xi B 60 x = nI 0 ∧ vS g ≤ ρ x + 1) ∧ st = [] ∧ L = [some (.ref 57), some (.int (nI n)), some (.int (pI w))] ∧ μ = (w, 0, 0)
set_option maxRecDepth 20000 in
theorem con_X1_nextRow (l : Launch) : xCon l yX1_nextRow cX1_nextRow 3 (some .int) 0 0 xN xN 0 xFT xFT (w_RI f_X1_nextRow) := by
  refine m_X1_nextRow (I4 := fun q y A P => nr4 A P) ?_ ?_
  · rintro q y A P ⟨rfl, g, ρ, n, rfl, hn, hM, hx, hP⟩
    simp (disch := omega) only [k_X1_nextRow_0, k_X1_nextRow_4, k_X1_nextRow_39, x_aload, x_dup2, x_getI, x_getR, x_iadd, x_icmp_lt, x_if_ge, x_if_lt, x_iinc, x_iload, x_iret, x_istore, x_isub, x_push, y_getF, y_iald, y_iast, xFT, xbool0, xbool1, Nat.reduceAdd, Nat.zero_add, xgl_0, xgl_s, xgl_n, xst_0, xst_1n, xst_1i, xst_1r, xst_1l, xst_s, set_0, set_s, true_and, and_true, xres, xcat_nil, xcat_i, xcat_r, xcat_l, Nat.add_zero, xble0, xble1, xble2, xble3, xble4, xble5, xble6, xble7, xble8, pk_mul, nI_add, nI_1, nI_leI, nI_ltI, nI_eq, n_in, n_cl, z_eq, z_lt, z_le, z_gt, z_ge, z_qe, o_eq, o_lt, o_le, o_gt, o_ge, vp0, vp1, cl0, cl1, n_sub, n_sub1, n_pm1, n_a0, n_0a, ofn, lN0, Nat.reduceLT, Nat.reduceLeDiff, Nat.reduceMul, Nat.reduceSub, Nat.reduceEqDiff, ne_eq, true_implies, false_implies, not_true_eq_false, not_false_eq_true, and_self, and_true, true_and, and_false, false_and, implies_true, if_true, if_false, i00, i10, i01, i11, ob_0, ob_1, tn_2, ln_2, ob_3, tn_4, ln_4, ob_5, tn_6, ln_6, tn_7, ln_7, ob_8, tn_9, ln_9, tn_10, ln_10, tn_11, ln_11, tn_12, ln_12, tn_13, ln_13, tn_14, ln_14, tn_15, ln_15, tn_16, ln_16, tn_17, ln_17, ob_18, tn_19, ln_19, tn_20, ln_20, tn_21, ln_21, tn_22, ln_22, tn_23, ln_23, tn_24, ln_24, tn_25, ln_25, tn_26, ln_26, tn_27, ln_27, ob_28, tn_29, ln_29, tn_30, ln_30, ob_31, tn_32, ln_32, tn_33, ln_33, ob_34, ob_35, tn_36, ln_36, tn_37, ln_37, tn_38, ln_38, ob_39, tn_40, ln_40, tn_41, ln_41, tn_42, ln_42, tn_43, ln_43, tn_44, ln_44, tn_45, ln_45, tn_46, ln_46, tn_47, ln_47, tn_48, ln_48, tn_49, ln_49, tn_50, ln_50, tn_51, ln_51, ob_52, tn_53, ln_53, tn_54, ln_54, tn_55, ln_55, tn_56, ln_56, ob_57, tn_58, ln_58, tn_59, ln_59, tn_60, ln_60, tn_61, ln_61, tn_62, ln_62, tn_63, ln_63, tn_64, ln_64, tn_65, ln_65, ob_66, tn_67, ln_67, tn_68, ln_68, tn_69, ln_69, tn_70, ln_70, tn_71, ln_71, tn_72, ln_72, tn_73, ln_73, ob_74, tn_75, ln_75, tn_76, ln_76, tn_77, ln_77, tn_78, ln_78, tn_79, ln_79, tn_80, ln_80, tn_81, ln_81, tn_82, ln_82, tn_83, ln_83, ob_84, tn_85, ln_85, tn_86, ln_86, tn_87, ln_87, tn_88, ln_88, tn_89, ln_89, tn_90, ln_90, tn_91, ln_91, tn_92, ln_92, tn_93, ln_93, ob_94, tn_95, ln_95, tn_96, ln_96, tn_97, ln_97, tn_98, ln_98, tn_99, ln_99, tn_100, ln_100, tn_101, ln_101, tn_102, ln_102, tn_103, ln_103, ob_104, tn_105, ln_105, tn_106, ln_106, tn_107, ln_107, tn_108, ln_108, tn_109, ln_109, tn_110, ln_110, tn_111, ln_111, tn_112, ln_112, tn_113, ln_113, ob_114, tn_115, ln_115, tn_116, ln_116, tn_117, ln_117, tn_118, ln_118, tn_119, ln_119, tn_120, ln_120, tn_121, ln_121, tn_122, ln_122, tn_123, ln_123, ob_124, tn_125, ln_125, tn_126, ln_126, tn_127, ln_127, tn_128, ln_128, tn_129, ln_129, tn_130, ln_130, tn_131, ln_131, tn_132, ln_132, tn_133, ln_133, ob_134, tn_135, ln_135, tn_136, ln_136, tn_137, ln_137, tn_138, ln_138, tn_139, ln_139, tn_140, ln_140, tn_141, ln_141, tn_142, ln_142, tn_143, ln_143, ob_144, tn_145, ln_145, tn_146, ln_146, tn_147, ln_147, tn_148, ln_148, tn_149, ln_149, tn_150, ln_150, tn_151, ln_151, tn_152, ln_152, tn_153, ln_153, ob_154, tn_155, ln_155, tn_156, ln_156, tn_157, ln_157, tn_158, ln_158, tn_159, ln_159, tn_160, ln_160, tn_161, ln_161, tn_162, ln_162, tn_163, ln_163, ob_164, tn_165, ln_165, tn_166, ln_166, ob_167, tn_168, ln_168, tn_169, ln_169, tn_170, ln_170, tn_171, ln_171, tn_172, ln_172, tn_173, ln_173, tn_174, ln_174, tn_175, ln_175, tn_176, ln_176, ob_177, tn_178, ln_178, tn_179, ln_179, ob_180, tn_181, ln_181, tn_182, ln_182, tn_183, ln_183, tn_184, ln_184, tn_185, ln_185, tn_186, ln_186, tn_187, ln_187, tn_188, ln_188, tn_189, ln_189, tn_190, ln_190, tn_191, ln_191, tn_192, ln_192, tn_193, ln_193, tn_194, ln_194, tn_195, ln_195, tn_196, ln_196, tn_197, ln_197, tn_198, ln_198, tn_199, ln_199, tn_200, ln_200, tn_201, ln_201, tn_202, ln_202, tn_203, ln_203, tn_204, ln_204, tn_205, ln_205, tn_206, ln_206, tn_207, ln_207, tn_208, ln_208, tn_209, ln_209, tn_210, ln_210, tn_211, ln_211, tn_212, ln_212, tn_213, ln_213, tn_214, ln_214, tn_215, ln_215, tn_216, ln_216, tn_217, ln_217, tn_218, ln_218, tn_219, ln_219, tn_220, ln_220, tn_221, ln_221, tn_222, ln_222, tn_223, ln_223, tn_224, ln_224, tn_225, ln_225, tn_226, ln_226, tn_227, ln_227, tn_228, ln_228, tn_229, ln_229, tn_230, ln_230, lx2, lx3, lx4, lx5, lx6, lx7, lx8, lx9, lx10, lx14, lx15, lx16, lx18, lx20, lx24, lx25, lx27, lx32, lx36, lx40, lx41, lx42, lx43, lx45, lx48, lx52, lx54, lx56, lx57, lx58, lx60, lx61, lx62, lx63, lx64, lx66, lx69, lx73, lx80, lx81, lx84, lx85, lx87, lx94, lx96, lx97, lx120, lx128, lx135, lx160, lx162, lx163, lx165, lx200, lx232, lx242, lx243, lx255, lx256, lx320, lx325, lx400, lx405, lx464, lx512, lx600, lx640, lx752, lx900, lx940, lx1000, lx1024, lx1764, lx3360, lx3840, lx5000, lx6400, lx9050, lx9998, lx9999, lx10000, lx25600, lx76800, lx99999, pI_1]
    exact xE0 (n, 0, 0) ⟨g, ρ, n, n, hn, hM, fun x h => (hx x h).2, hP, fr_rf, Nat.le_refl _, fun x h => (hx x h).1, fun x h1 h2 => absurd h1 (by omega), rfl, rfl, rfl⟩
  · rintro q y A P - μ L st B ⟨g, ρ, n, w, hn, hM, hv, hP, hF, hw, hx, hz, rfl, rfl, rfl⟩
    have h4 := hM.1.1.2.1.1
    have ob : xob xN 8 = 4 := ob_8
    have m0 : xi B 8 0 = nI (vS g) := hM.1.1.2.2.1.1
    simp (disch := omega) only [k_X1_nextRow_0, k_X1_nextRow_4, k_X1_nextRow_39, x_aload, x_dup2, x_getI, x_getR, x_iadd, x_icmp_lt, x_if_ge, x_if_lt, x_iinc, x_iload, x_iret, x_istore, x_isub, x_push, y_getF, y_iald, y_iast, xFT, xbool0, xbool1, Nat.reduceAdd, Nat.zero_add, xgl_0, xgl_s, xgl_n, xst_0, xst_1n, xst_1i, xst_1r, xst_1l, xst_s, set_0, set_s, true_and, and_true, xres, xcat_nil, xcat_i, xcat_r, xcat_l, Nat.add_zero, xble0, xble1, xble2, xble3, xble4, xble5, xble6, xble7, xble8, pk_mul, nI_add, nI_1, nI_leI, nI_ltI, nI_eq, n_in, n_cl, z_eq, z_lt, z_le, z_gt, z_ge, z_qe, o_eq, o_lt, o_le, o_gt, o_ge, vp0, vp1, cl0, cl1, n_sub, n_sub1, n_pm1, n_a0, n_0a, ofn, lN0, Nat.reduceLT, Nat.reduceLeDiff, Nat.reduceMul, Nat.reduceSub, Nat.reduceEqDiff, ne_eq, true_implies, false_implies, not_true_eq_false, not_false_eq_true, and_self, and_true, true_and, and_false, false_and, implies_true, if_true, if_false, i00, i10, i01, i11, ob_0, ob_1, tn_2, ln_2, ob_3, tn_4, ln_4, ob_5, tn_6, ln_6, tn_7, ln_7, ob_8, tn_9, ln_9, tn_10, ln_10, tn_11, ln_11, tn_12, ln_12, tn_13, ln_13, tn_14, ln_14, tn_15, ln_15, tn_16, ln_16, tn_17, ln_17, ob_18, tn_19, ln_19, tn_20, ln_20, tn_21, ln_21, tn_22, ln_22, tn_23, ln_23, tn_24, ln_24, tn_25, ln_25, tn_26, ln_26, tn_27, ln_27, ob_28, tn_29, ln_29, tn_30, ln_30, ob_31, tn_32, ln_32, tn_33, ln_33, ob_34, ob_35, tn_36, ln_36, tn_37, ln_37, tn_38, ln_38, ob_39, tn_40, ln_40, tn_41, ln_41, tn_42, ln_42, tn_43, ln_43, tn_44, ln_44, tn_45, ln_45, tn_46, ln_46, tn_47, ln_47, tn_48, ln_48, tn_49, ln_49, tn_50, ln_50, tn_51, ln_51, ob_52, tn_53, ln_53, tn_54, ln_54, tn_55, ln_55, tn_56, ln_56, ob_57, tn_58, ln_58, tn_59, ln_59, tn_60, ln_60, tn_61, ln_61, tn_62, ln_62, tn_63, ln_63, tn_64, ln_64, tn_65, ln_65, ob_66, tn_67, ln_67, tn_68, ln_68, tn_69, ln_69, tn_70, ln_70, tn_71, ln_71, tn_72, ln_72, tn_73, ln_73, ob_74, tn_75, ln_75, tn_76, ln_76, tn_77, ln_77, tn_78, ln_78, tn_79, ln_79, tn_80, ln_80, tn_81, ln_81, tn_82, ln_82, tn_83, ln_83, ob_84, tn_85, ln_85, tn_86, ln_86, tn_87, ln_87, tn_88, ln_88, tn_89, ln_89, tn_90, ln_90, tn_91, ln_91, tn_92, ln_92, tn_93, ln_93, ob_94, tn_95, ln_95, tn_96, ln_96, tn_97, ln_97, tn_98, ln_98, tn_99, ln_99, tn_100, ln_100, tn_101, ln_101, tn_102, ln_102, tn_103, ln_103, ob_104, tn_105, ln_105, tn_106, ln_106, tn_107, ln_107, tn_108, ln_108, tn_109, ln_109, tn_110, ln_110, tn_111, ln_111, tn_112, ln_112, tn_113, ln_113, ob_114, tn_115, ln_115, tn_116, ln_116, tn_117, ln_117, tn_118, ln_118, tn_119, ln_119, tn_120, ln_120, tn_121, ln_121, tn_122, ln_122, tn_123, ln_123, ob_124, tn_125, ln_125, tn_126, ln_126, tn_127, ln_127, tn_128, ln_128, tn_129, ln_129, tn_130, ln_130, tn_131, ln_131, tn_132, ln_132, tn_133, ln_133, ob_134, tn_135, ln_135, tn_136, ln_136, tn_137, ln_137, tn_138, ln_138, tn_139, ln_139, tn_140, ln_140, tn_141, ln_141, tn_142, ln_142, tn_143, ln_143, ob_144, tn_145, ln_145, tn_146, ln_146, tn_147, ln_147, tn_148, ln_148, tn_149, ln_149, tn_150, ln_150, tn_151, ln_151, tn_152, ln_152, tn_153, ln_153, ob_154, tn_155, ln_155, tn_156, ln_156, tn_157, ln_157, tn_158, ln_158, tn_159, ln_159, tn_160, ln_160, tn_161, ln_161, tn_162, ln_162, tn_163, ln_163, ob_164, tn_165, ln_165, tn_166, ln_166, ob_167, tn_168, ln_168, tn_169, ln_169, tn_170, ln_170, tn_171, ln_171, tn_172, ln_172, tn_173, ln_173, tn_174, ln_174, tn_175, ln_175, tn_176, ln_176, ob_177, tn_178, ln_178, tn_179, ln_179, ob_180, tn_181, ln_181, tn_182, ln_182, tn_183, ln_183, tn_184, ln_184, tn_185, ln_185, tn_186, ln_186, tn_187, ln_187, tn_188, ln_188, tn_189, ln_189, tn_190, ln_190, tn_191, ln_191, tn_192, ln_192, tn_193, ln_193, tn_194, ln_194, tn_195, ln_195, tn_196, ln_196, tn_197, ln_197, tn_198, ln_198, tn_199, ln_199, tn_200, ln_200, tn_201, ln_201, tn_202, ln_202, tn_203, ln_203, tn_204, ln_204, tn_205, ln_205, tn_206, ln_206, tn_207, ln_207, tn_208, ln_208, tn_209, ln_209, tn_210, ln_210, tn_211, ln_211, tn_212, ln_212, tn_213, ln_213, tn_214, ln_214, tn_215, ln_215, tn_216, ln_216, tn_217, ln_217, tn_218, ln_218, tn_219, ln_219, tn_220, ln_220, tn_221, ln_221, tn_222, ln_222, tn_223, ln_223, tn_224, ln_224, tn_225, ln_225, tn_226, ln_226, tn_227, ln_227, tn_228, ln_228, tn_229, ln_229, tn_230, ln_230, lx2, lx3, lx4, lx5, lx6, lx7, lx8, lx9, lx10, lx14, lx15, lx16, lx18, lx20, lx24, lx25, lx27, lx32, lx36, lx40, lx41, lx42, lx43, lx45, lx48, lx52, lx54, lx56, lx57, lx58, lx60, lx61, lx62, lx63, lx64, lx66, lx69, lx73, lx80, lx81, lx84, lx85, lx87, lx94, lx96, lx97, lx120, lx128, lx135, lx160, lx162, lx163, lx165, lx200, lx232, lx242, lx243, lx255, lx256, lx320, lx325, lx400, lx405, lx464, lx512, lx600, lx640, lx752, lx900, lx940, lx1000, lx1024, lx1764, lx3360, lx3840, lx5000, lx6400, lx9050, lx9998, lx9999, lx10000, lx25600, lx76800, lx99999, pI_lt]
    refine ⟨fun q => ?_, fun q => ?_⟩
    · subst q
      exact ⟨fun w => absurd (show (-1 : Int32) < 0 by decide) (Int32.not_lt.mpr w), fun _ => (hP B hF).1 fun x hx2 => (hz x (Nat.zero_le _) hx2).2⟩
    · obtain ⟨a, rfl⟩ : ∃ a, w = a + 1 := ⟨w - 1, by omega⟩
      have ha := hv a (by omega)
      simp (disch := omega) only [k_X1_nextRow_0, k_X1_nextRow_4, k_X1_nextRow_39, x_aload, x_dup2, x_getI, x_getR, x_iadd, x_icmp_lt, x_if_ge, x_if_lt, x_iinc, x_iload, x_iret, x_istore, x_isub, x_push, y_getF, y_iald, y_iast, xFT, xbool0, xbool1, Nat.reduceAdd, Nat.zero_add, xgl_0, xgl_s, xgl_n, xst_0, xst_1n, xst_1i, xst_1r, xst_1l, xst_s, set_0, set_s, true_and, and_true, xres, xcat_nil, xcat_i, xcat_r, xcat_l, Nat.add_zero, xble0, xble1, xble2, xble3, xble4, xble5, xble6, xble7, xble8, pk_mul, nI_add, nI_1, nI_leI, nI_ltI, nI_eq, n_in, n_cl, z_eq, z_lt, z_le, z_gt, z_ge, z_qe, o_eq, o_lt, o_le, o_gt, o_ge, vp0, vp1, cl0, cl1, n_sub, n_sub1, n_pm1, n_a0, n_0a, ofn, lN0, Nat.reduceLT, Nat.reduceLeDiff, Nat.reduceMul, Nat.reduceSub, Nat.reduceEqDiff, ne_eq, true_implies, false_implies, not_true_eq_false, not_false_eq_true, and_self, and_true, true_and, and_false, false_and, implies_true, if_true, if_false, i00, i10, i01, i11, ob_0, ob_1, tn_2, ln_2, ob_3, tn_4, ln_4, ob_5, tn_6, ln_6, tn_7, ln_7, ob_8, tn_9, ln_9, tn_10, ln_10, tn_11, ln_11, tn_12, ln_12, tn_13, ln_13, tn_14, ln_14, tn_15, ln_15, tn_16, ln_16, tn_17, ln_17, ob_18, tn_19, ln_19, tn_20, ln_20, tn_21, ln_21, tn_22, ln_22, tn_23, ln_23, tn_24, ln_24, tn_25, ln_25, tn_26, ln_26, tn_27, ln_27, ob_28, tn_29, ln_29, tn_30, ln_30, ob_31, tn_32, ln_32, tn_33, ln_33, ob_34, ob_35, tn_36, ln_36, tn_37, ln_37, tn_38, ln_38, ob_39, tn_40, ln_40, tn_41, ln_41, tn_42, ln_42, tn_43, ln_43, tn_44, ln_44, tn_45, ln_45, tn_46, ln_46, tn_47, ln_47, tn_48, ln_48, tn_49, ln_49, tn_50, ln_50, tn_51, ln_51, ob_52, tn_53, ln_53, tn_54, ln_54, tn_55, ln_55, tn_56, ln_56, ob_57, tn_58, ln_58, tn_59, ln_59, tn_60, ln_60, tn_61, ln_61, tn_62, ln_62, tn_63, ln_63, tn_64, ln_64, tn_65, ln_65, ob_66, tn_67, ln_67, tn_68, ln_68, tn_69, ln_69, tn_70, ln_70, tn_71, ln_71, tn_72, ln_72, tn_73, ln_73, ob_74, tn_75, ln_75, tn_76, ln_76, tn_77, ln_77, tn_78, ln_78, tn_79, ln_79, tn_80, ln_80, tn_81, ln_81, tn_82, ln_82, tn_83, ln_83, ob_84, tn_85, ln_85, tn_86, ln_86, tn_87, ln_87, tn_88, ln_88, tn_89, ln_89, tn_90, ln_90, tn_91, ln_91, tn_92, ln_92, tn_93, ln_93, ob_94, tn_95, ln_95, tn_96, ln_96, tn_97, ln_97, tn_98, ln_98, tn_99, ln_99, tn_100, ln_100, tn_101, ln_101, tn_102, ln_102, tn_103, ln_103, ob_104, tn_105, ln_105, tn_106, ln_106, tn_107, ln_107, tn_108, ln_108, tn_109, ln_109, tn_110, ln_110, tn_111, ln_111, tn_112, ln_112, tn_113, ln_113, ob_114, tn_115, ln_115, tn_116, ln_116, tn_117, ln_117, tn_118, ln_118, tn_119, ln_119, tn_120, ln_120, tn_121, ln_121, tn_122, ln_122, tn_123, ln_123, ob_124, tn_125, ln_125, tn_126, ln_126, tn_127, ln_127, tn_128, ln_128, tn_129, ln_129, tn_130, ln_130, tn_131, ln_131, tn_132, ln_132, tn_133, ln_133, ob_134, tn_135, ln_135, tn_136, ln_136, tn_137, ln_137, tn_138, ln_138, tn_139, ln_139, tn_140, ln_140, tn_141, ln_141, tn_142, ln_142, tn_143, ln_143, ob_144, tn_145, ln_145, tn_146, ln_146, tn_147, ln_147, tn_148, ln_148, tn_149, ln_149, tn_150, ln_150, tn_151, ln_151, tn_152, ln_152, tn_153, ln_153, ob_154, tn_155, ln_155, tn_156, ln_156, tn_157, ln_157, tn_158, ln_158, tn_159, ln_159, tn_160, ln_160, tn_161, ln_161, tn_162, ln_162, tn_163, ln_163, ob_164, tn_165, ln_165, tn_166, ln_166, ob_167, tn_168, ln_168, tn_169, ln_169, tn_170, ln_170, tn_171, ln_171, tn_172, ln_172, tn_173, ln_173, tn_174, ln_174, tn_175, ln_175, tn_176, ln_176, ob_177, tn_178, ln_178, tn_179, ln_179, ob_180, tn_181, ln_181, tn_182, ln_182, tn_183, ln_183, tn_184, ln_184, tn_185, ln_185, tn_186, ln_186, tn_187, ln_187, tn_188, ln_188, tn_189, ln_189, tn_190, ln_190, tn_191, ln_191, tn_192, ln_192, tn_193, ln_193, tn_194, ln_194, tn_195, ln_195, tn_196, ln_196, tn_197, ln_197, tn_198, ln_198, tn_199, ln_199, tn_200, ln_200, tn_201, ln_201, tn_202, ln_202, tn_203, ln_203, tn_204, ln_204, tn_205, ln_205, tn_206, ln_206, tn_207, ln_207, tn_208, ln_208, tn_209, ln_209, tn_210, ln_210, tn_211, ln_211, tn_212, ln_212, tn_213, ln_213, tn_214, ln_214, tn_215, ln_215, tn_216, ln_216, tn_217, ln_217, tn_218, ln_218, tn_219, ln_219, tn_220, ln_220, tn_221, ln_221, tn_222, ln_222, tn_223, ln_223, tn_224, ln_224, tn_225, ln_225, tn_226, ln_226, tn_227, ln_227, tn_228, ln_228, tn_229, ln_229, tn_230, ln_230, lx2, lx3, lx4, lx5, lx6, lx7, lx8, lx9, lx10, lx14, lx15, lx16, lx18, lx20, lx24, lx25, lx27, lx32, lx36, lx40, lx41, lx42, lx43, lx45, lx48, lx52, lx54, lx56, lx57, lx58, lx60, lx61, lx62, lx63, lx64, lx66, lx69, lx73, lx80, lx81, lx84, lx85, lx87, lx94, lx96, lx97, lx120, lx128, lx135, lx160, lx162, lx163, lx165, lx200, lx232, lx242, lx243, lx255, lx256, lx320, lx325, lx400, lx405, lx464, lx512, lx600, lx640, lx752, lx900, lx940, lx1000, lx1024, lx1764, lx3360, lx3840, lx5000, lx6400, lx9050, lx9998, lx9999, lx10000, lx25600, lx76800, lx99999, si_ne, si_eq, sl_ne, sl_eq, xl_si, xi_sl, sA_ne, sA_eq, xl_sA, pI_s, hM.2.1, rf_8, ob, m0]
      simp (disch := omega) only [k_X1_nextRow_0, k_X1_nextRow_4, k_X1_nextRow_39, x_aload, x_dup2, x_getI, x_getR, x_iadd, x_icmp_lt, x_if_ge, x_if_lt, x_iinc, x_iload, x_iret, x_istore, x_isub, x_push, y_getF, y_iald, y_iast, xFT, xbool0, xbool1, Nat.reduceAdd, Nat.zero_add, xgl_0, xgl_s, xgl_n, xst_0, xst_1n, xst_1i, xst_1r, xst_1l, xst_s, set_0, set_s, true_and, and_true, xres, xcat_nil, xcat_i, xcat_r, xcat_l, Nat.add_zero, xble0, xble1, xble2, xble3, xble4, xble5, xble6, xble7, xble8, pk_mul, nI_add, nI_1, nI_leI, nI_ltI, nI_eq, n_in, n_cl, z_eq, z_lt, z_le, z_gt, z_ge, z_qe, o_eq, o_lt, o_le, o_gt, o_ge, vp0, vp1, cl0, cl1, n_sub, n_sub1, n_pm1, n_a0, n_0a, ofn, lN0, Nat.reduceLT, Nat.reduceLeDiff, Nat.reduceMul, Nat.reduceSub, Nat.reduceEqDiff, ne_eq, true_implies, false_implies, not_true_eq_false, not_false_eq_true, and_self, and_true, true_and, and_false, false_and, implies_true, if_true, if_false, i00, i10, i01, i11, ob_0, ob_1, tn_2, ln_2, ob_3, tn_4, ln_4, ob_5, tn_6, ln_6, tn_7, ln_7, ob_8, tn_9, ln_9, tn_10, ln_10, tn_11, ln_11, tn_12, ln_12, tn_13, ln_13, tn_14, ln_14, tn_15, ln_15, tn_16, ln_16, tn_17, ln_17, ob_18, tn_19, ln_19, tn_20, ln_20, tn_21, ln_21, tn_22, ln_22, tn_23, ln_23, tn_24, ln_24, tn_25, ln_25, tn_26, ln_26, tn_27, ln_27, ob_28, tn_29, ln_29, tn_30, ln_30, ob_31, tn_32, ln_32, tn_33, ln_33, ob_34, ob_35, tn_36, ln_36, tn_37, ln_37, tn_38, ln_38, ob_39, tn_40, ln_40, tn_41, ln_41, tn_42, ln_42, tn_43, ln_43, tn_44, ln_44, tn_45, ln_45, tn_46, ln_46, tn_47, ln_47, tn_48, ln_48, tn_49, ln_49, tn_50, ln_50, tn_51, ln_51, ob_52, tn_53, ln_53, tn_54, ln_54, tn_55, ln_55, tn_56, ln_56, ob_57, tn_58, ln_58, tn_59, ln_59, tn_60, ln_60, tn_61, ln_61, tn_62, ln_62, tn_63, ln_63, tn_64, ln_64, tn_65, ln_65, ob_66, tn_67, ln_67, tn_68, ln_68, tn_69, ln_69, tn_70, ln_70, tn_71, ln_71, tn_72, ln_72, tn_73, ln_73, ob_74, tn_75, ln_75, tn_76, ln_76, tn_77, ln_77, tn_78, ln_78, tn_79, ln_79, tn_80, ln_80, tn_81, ln_81, tn_82, ln_82, tn_83, ln_83, ob_84, tn_85, ln_85, tn_86, ln_86, tn_87, ln_87, tn_88, ln_88, tn_89, ln_89, tn_90, ln_90, tn_91, ln_91, tn_92, ln_92, tn_93, ln_93, ob_94, tn_95, ln_95, tn_96, ln_96, tn_97, ln_97, tn_98, ln_98, tn_99, ln_99, tn_100, ln_100, tn_101, ln_101, tn_102, ln_102, tn_103, ln_103, ob_104, tn_105, ln_105, tn_106, ln_106, tn_107, ln_107, tn_108, ln_108, tn_109, ln_109, tn_110, ln_110, tn_111, ln_111, tn_112, ln_112, tn_113, ln_113, ob_114, tn_115, ln_115, tn_116, ln_116, tn_117, ln_117, tn_118, ln_118, tn_119, ln_119, tn_120, ln_120, tn_121, ln_121, tn_122, ln_122, tn_123, ln_123, ob_124, tn_125, ln_125, tn_126, ln_126, tn_127, ln_127, tn_128, ln_128, tn_129, ln_129, tn_130, ln_130, tn_131, ln_131, tn_132, ln_132, tn_133, ln_133, ob_134, tn_135, ln_135, tn_136, ln_136, tn_137, ln_137, tn_138, ln_138, tn_139, ln_139, tn_140, ln_140, tn_141, ln_141, tn_142, ln_142, tn_143, ln_143, ob_144, tn_145, ln_145, tn_146, ln_146, tn_147, ln_147, tn_148, ln_148, tn_149, ln_149, tn_150, ln_150, tn_151, ln_151, tn_152, ln_152, tn_153, ln_153, ob_154, tn_155, ln_155, tn_156, ln_156, tn_157, ln_157, tn_158, ln_158, tn_159, ln_159, tn_160, ln_160, tn_161, ln_161, tn_162, ln_162, tn_163, ln_163, ob_164, tn_165, ln_165, tn_166, ln_166, ob_167, tn_168, ln_168, tn_169, ln_169, tn_170, ln_170, tn_171, ln_171, tn_172, ln_172, tn_173, ln_173, tn_174, ln_174, tn_175, ln_175, tn_176, ln_176, ob_177, tn_178, ln_178, tn_179, ln_179, ob_180, tn_181, ln_181, tn_182, ln_182, tn_183, ln_183, tn_184, ln_184, tn_185, ln_185, tn_186, ln_186, tn_187, ln_187, tn_188, ln_188, tn_189, ln_189, tn_190, ln_190, tn_191, ln_191, tn_192, ln_192, tn_193, ln_193, tn_194, ln_194, tn_195, ln_195, tn_196, ln_196, tn_197, ln_197, tn_198, ln_198, tn_199, ln_199, tn_200, ln_200, tn_201, ln_201, tn_202, ln_202, tn_203, ln_203, tn_204, ln_204, tn_205, ln_205, tn_206, ln_206, tn_207, ln_207, tn_208, ln_208, tn_209, ln_209, tn_210, ln_210, tn_211, ln_211, tn_212, ln_212, tn_213, ln_213, tn_214, ln_214, tn_215, ln_215, tn_216, ln_216, tn_217, ln_217, tn_218, ln_218, tn_219, ln_219, tn_220, ln_220, tn_221, ln_221, tn_222, ln_222, tn_223, ln_223, tn_224, ln_224, tn_225, ln_225, tn_226, ln_226, tn_227, ln_227, tn_228, ln_228, tn_229, ln_229, tn_230, ln_230, lx2, lx3, lx4, lx5, lx6, lx7, lx8, lx9, lx10, lx14, lx15, lx16, lx18, lx20, lx24, lx25, lx27, lx32, lx36, lx40, lx41, lx42, lx43, lx45, lx48, lx52, lx54, lx56, lx57, lx58, lx60, lx61, lx62, lx63, lx64, lx66, lx69, lx73, lx80, lx81, lx84, lx85, lx87, lx94, lx96, lx97, lx120, lx128, lx135, lx160, lx162, lx163, lx165, lx200, lx232, lx242, lx243, lx255, lx256, lx320, lx325, lx400, lx405, lx464, lx512, lx600, lx640, lx752, lx900, lx940, lx1000, lx1024, lx1764, lx3360, lx3840, lx5000, lx6400, lx9050, lx9998, lx9999, lx10000, lx25600, lx76800, lx99999, si_ne, si_eq, sl_ne, sl_eq, xl_si, xi_sl, sA_ne, sA_eq, xl_sA, pI_s, hM.2.1, rf_8, ob, m0, hx a (show a < a + 1 by omega)]
      have f1 : ∀ y, fr (fun c _ => c = 60) B (xsi B 60 a y) := fun y => fr_si fr_rf rfl
      refine ⟨by omega, fun q => ⟨by omega, by omega, ?_⟩, fun q => ⟨by omega, ?_⟩⟩
      · refine (hP _ (fr_tr hF (f1 _))).2 a (by omega) (by omega) (fun x h1 h2 => (hz x (by omega) h2).2) fun x h1 => ?_
        rcases Nat.lt_trichotomy x a with w | w | w
        · rw [nxR_lt w, si_ne (by omega)]; exact hx x (by omega)
        · subst w; rw [nxR_eq, si_eq]
        · rw [nxR_gt w, si_ne (by omega)]; exact (hz x (by omega) h1).1
      · rw [pI_dec]
        refine xB1 (b := a) (by omega) ⟨g, ρ, n, a, hn, mdC_fr hM (f1 _) (by omega), hv, hP, fr_tr hF (f1 _), by omega, fun x h => by rw [si_ne (by omega)]; exact hx x (by omega), fun x h1 h2 => ?_, rfl, rfl, rfl⟩
        by_cases w : x = a
        · subst w; exact ⟨si_eq, by omega⟩
        · rw [si_ne (by omega)]; exact hz x (by omega) h2

