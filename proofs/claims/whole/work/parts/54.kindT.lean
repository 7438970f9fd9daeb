/-! ===== KINDS: both say the same ===== -/
theorem cnt_le2 {p q : Nat → Prop} [DecidablePred p] [DecidablePred q] : ∀ n, (∀ k, k < n → p k → q k) → cnt p n ≤ cnt q n
  | 0, _ => Nat.le_refl _
  | n + 1, h => by
    have ih := cnt_le2 n (fun k hk => h k (by omega))
    simp only [cnt]
    by_cases a : p n
    · rw [if_pos a, if_pos (h n (by omega) a)]; omega
    · rw [if_neg a]; split <;> omega
theorem cnt_lt2 {p q : Nat → Prop} [DecidablePred p] [DecidablePred q] : ∀ n, (∀ k, k < n → p k → q k) → (∃ k, k < n ∧ q k ∧ ¬ p k) → cnt p n < cnt q n
  | 0, _, ⟨k, hk, _⟩ => by omega
  | n + 1, h, ⟨k, hk, hq, hp⟩ => by
    simp only [cnt]
    rcases Nat.lt_or_ge k n with w | w
    · have ih := cnt_lt2 n (fun k hk => h k (by omega)) ⟨k, w, hq, hp⟩
      by_cases a : p n
      · rw [if_pos a, if_pos (h n (by omega) a)]; omega
      · rw [if_neg a]; split <;> omega
    · have e : k = n := by omega
      subst e
      have ih := cnt_le2 (p := p) (q := q) k (fun j hj => h j (by omega))
      rw [if_neg hp, if_pos hq]; omega
theorem stab {α : Type} {f : α → α} {I : α → Prop} {rk : α → Nat} {N : Nat} (hI : ∀ x, I x → I (f x)) (hN : ∀ x, I x → rk x ≤ N) (hs : ∀ x, I x → f x = x ∨ rk x < rk (f x)) {x : α} (hx : I x) {n : Nat} (hn : N ≤ n) : f (iter f n x) = iter f n x ∧ iter f n x = iter f N x := by
  have all : ∀ k, I (iter f k x) := fun k => by
    induction k with
    | zero => exact hx
    | succ k ih => exact hI _ ih
  have key : ∀ k, f (iter f k x) = iter f k x ∨ k ≤ rk (iter f k x) := fun k => by
    induction k with
    | zero => exact Or.inr (Nat.zero_le _)
    | succ k ih =>
      simp only [iter]
      rcases ih with h | h
      · left; rw [h, h]
      · rcases hs _ (all k) with h2 | h2
        · left; rw [h2, h2]
        · right; omega
  have fx : f (iter f N x) = iter f N x := by
    rcases key N with h | h
    · exact h
    · rcases hs _ (all N) with h2 | h2
      · exact h2
      · have := hN _ (hI _ (all N)); omega
  have e := iter_fix fx n hn
  exact ⟨by rw [e, fx], e⟩
/-- one set in another -/
def sub (a b : Int32) : Prop := ∀ k, k < 32 → tst a k = true → tst b k = true
theorem sub_rf {a : Int32} : sub a a := fun _ _ h => h
theorem sub_tr {a b c : Int32} (h : sub a b) (h2 : sub b c) : sub a c := fun k hk h3 => h2 k hk (h k hk h3)
theorem sub_or {a b : Int32} : sub a (a ||| b) := fun k _ h => by rw [tst_or, h]; rfl
theorem sub_o2 {a b c : Int32} (h : sub a c) (h2 : sub b c) : sub (a ||| b) c := fun k hk h3 => by
  rw [tst_or, Bool.or_eq_true] at h3
  rcases h3 with h3 | h3
  · exact h k hk h3
  · exact h2 k hk h3
theorem sub_or2 {a b : Int32} : sub b (a ||| b) := fun k _ h => by rw [tst_or, h, Bool.or_true]
theorem sub_0 {a : Int32} : sub 0 a := fun k _ h => by rw [tst_0] at h; cases h
theorem sub_eq {a b : Int32} (h : sub a b) (h2 : sub b a) : a = b := tst_ext fun k hk => by
  cases ha : tst a k
  · cases hb : tst b k
    · rfl
    · rw [h2 k hk hb] at ha; cases ha
  · exact (h k hk ha).symm
/-- nothing from a bit on -/
def low (n : Nat) (a : Int32) : Prop := ∀ k, n ≤ k → k < 32 → tst a k = false
theorem low_0 {n : Nat} : low n 0 := fun k _ _ => tst_0
theorem low_or {n : Nat} {a b : Int32} (h : low n a) (h2 : low n b) : low n (a ||| b) := fun k a1 a2 => by rw [tst_or, h k a1 a2, h2 k a1 a2]; rfl
theorem low_bit {n j : Nat} (h : j < n) (hn : n ≤ 32) : low n (bit j) := fun k a1 a2 => by rw [tst_bit (by omega) a2]; exact decide_eq_false (by omega)
def rk5 (x : Int32) : Nat := cnt (fun k => tst x k = true) 5
theorem rk5_lt {a b : Int32} (h : sub a b) (hl : low 5 b) : b = a ∨ rk5 a < rk5 b := by
  by_cases e : sub b a
  · exact Or.inl (sub_eq e h)
  · right
    refine cnt_lt2 5 (fun k hk => h k (by omega)) ?_
    have : ∃ k, ¬ (k < 32 → tst b k = true → tst a k = true) := Classical.byContradiction fun q => e fun k hk hb => Classical.byContradiction fun q2 => q ⟨k, fun w => q2 (w hk hb)⟩
    obtain ⟨k, hk⟩ := this
    have k32 : k < 32 := Classical.byContradiction fun q => hk fun w => absurd w q
    have kb : tst b k = true := Classical.byContradiction fun q => hk fun _ w => absurd w q
    have ka : ¬ tst a k = true := fun q => hk fun _ _ => q
    refine ⟨k, ?_, kb, ka⟩
    rcases Nat.lt_or_ge k 5 with w | w
    · exact w
    · rw [hl k w k32] at kb; cases kb
theorem stab5 {f : Int32 → Int32} (hl : ∀ x, low 5 x → low 5 (f x)) (hs : ∀ x, sub x (f x)) {x : Int32} (hx : low 5 x) {n : Nat} (hn : 5 ≤ n) : f (iter f n x) = iter f n x ∧ iter f n x = iter f 5 x :=
  stab (I := low 5) (rk := rk5) hl (fun x _ => cnt_le _ 5) (fun x h => rk5_lt (hs x) (hl x h)) hx hn
section KT
variable {v : xV} (hw : wfg v)
theorem rndF_sub {s : Bool} {x : Int32} : ∀ r, sub x (rndF v s x r)
  | 0 => sub_rf
  | r + 1 => by
    rw [rndF_s]
    split
    · exact sub_tr (rndF_sub r) sub_or
    · exact rndF_sub r
theorem rndF_low (hw : wfg v) {s : Bool} {x : Int32} (hx : low 5 x) : ∀ r, r ≤ vR v → low 5 (rndF v s x r)
  | 0, _ => hx
  | r + 1, hr => by
    have ih := rndF_low hw (s := s) hx r (by omega)
    have hk := wf_r hw (show r < vR v by omega)
    rw [rndF_s]
    split
    · exact low_or ih (low_bit (by omega) (by omega))
    · exact ih
theorem E5_EM (hw : wfg v) : E5 v = EM v := ((stab5 (f := rnd v false) (fun x h => rndF_low hw h _ (Nat.le_refl _)) (fun x => rndF_sub _) low_0 (n := 64) (by omega)).2).symm
theorem L5_LV (hw : wfg v) : L5 v = LV v := ((stab5 (f := rnd v true) (fun x h => rndF_low hw h _ (Nat.le_refl _)) (fun x => rndF_sub _) low_0 (n := 64) (by omega)).2).symm
theorem LV_low (hw : wfg v) : low 5 (LV v) := by
  rw [← L5_LV hw]
  unfold L5
  have all : ∀ n, low 5 (iter (rnd v true) n 0) := fun n => by
    induction n with
    | zero => exact low_0
    | succ n ih => exact rndF_low hw ih _ (Nat.le_refl _)
  exact all 5
theorem kin_low (hw : wfg v) {r : Nat} (hr : r < vR v) : ∀ t, t ≤ vrs v r → low 5 (kin v r t)
  | 0, _ => low_0
  | t + 1, ht => by
    have hs := wf_s hw hr (show t < vrs v r by omega)
    rw [kin_s]
    refine low_or (kin_low hw hr t (by omega)) ?_
    split
    · exact low_0
    · exact low_bit (by omega) (by omega)
theorem mdF_sub {le x : Int32} : ∀ r, sub x (mdF v le x r)
  | 0 => sub_rf
  | r + 1 => by
    simp only [mdF]
    split
    · exact sub_tr (mdF_sub r) sub_or
    · exact mdF_sub r
theorem mdF_up {le x : Int32} {r : Nat} : ∀ q, r ≤ q → sub (mdF v le x r) (mdF v le x q)
  | 0, h => by rw [show r = 0 by omega]; exact sub_rf
  | q + 1, h => by
    rcases Nat.lt_or_ge q r with w | w
    · rw [show r = q + 1 by omega]; exact sub_rf
    · refine sub_tr (mdF_up q w) ?_
      simp only [mdF]
      split
      · exact sub_or
      · exact sub_rf
theorem mdF_low (hw : wfg v) {le x : Int32} (hx : low 5 x) : ∀ r, r ≤ vR v → low 5 (mdF v le x r)
  | 0, _ => hx
  | r + 1, hr => by
    have ih := mdF_low hw (le := le) hx r (by omega)
    simp only [mdF]
    split
    · exact low_or ih (kin_low hw (by omega) _ (Nat.le_refl _))
    · exact ih
theorem md_stab (hw : wfg v) {le x : Int32} (hx : low 5 x) {n : Nat} (hn : 5 ≤ n) : md v le (iter (md v le) n x) = iter (md v le) n x ∧ iter (md v le) n x = iter (md v le) 5 x :=
  stab5 (f := md v le) (fun x h => mdF_low hw h _ (Nat.le_refl _)) (fun x => mdF_sub _) hx hn
theorem md0_low : low 5 (md0 v) := by
  unfold md0
  split
  · exact low_bit (j := 0) (by omega) (by omega)
  · exact low_0
theorem rnd_kinds (hw : wfg v) {s : Bool} : ∀ x, (∀ k, k < 32 → tst x k = true → k < vK v) → ∀ r, r ≤ vR v → ∀ k, k < 32 → tst (rndF v s x r) k = true → k < vK v
  | x, h, 0, _ => h
  | x, h, r + 1, hr => fun k hk => by
    have ih := rnd_kinds hw (s := s) x h r (by omega)
    have hk2 := wf_r hw (show r < vR v by omega)
    rw [rndF_s]
    split
    · rw [tst_or, Bool.or_eq_true]
      rintro (q | q)
      · exact ih k hk q
      · rw [tst_bit (by omega) hk, decide_eq_true_eq] at q; omega
    · exact ih k hk
theorem US_ref (hw : wfg v) {k : Nat} : tst (iter (md v (L5 v)) 5 (L5 v &&& 1)) k = tst (US v) k := by
  rw [L5_LV hw, and1]
  unfold US
  cases h0 : tst (LV v) 0
  · rw [if_neg (by decide)]
    have z : ∀ r, mdF v (LV v) 0 r = 0 := fun r => by
      induction r with
      | zero => rfl
      | succ r ih => simp only [mdF]; rw [ih, tst_0]; rfl
    have all : ∀ n, iter (md v (LV v)) n (bI false) = 0 := fun n => by
      induction n with
      | zero => rfl
      | succ n ih => simp only [iter]; rw [ih]; exact z _
    rw [all]
  · rw [if_pos rfl]
    have hK : 0 < vK v := by
      have all : ∀ n, ∀ k, k < 32 → tst (iter (rnd v true) n 0) k = true → k < vK v := fun n => by
        induction n with
        | zero => intro k hk q; exact absurd q (by show ¬ tst 0 k = true; rw [tst_0]; decide)
        | succ n ih => exact rnd_kinds hw _ ih _ (Nat.le_refl _)
      exact all 64 0 (by omega) h0
    have e : bI true = md0 v := by unfold md0; rw [if_pos hK]; rfl
    rw [e, ← (md_stab hw (le := LV v) (md0_low (v := v)) (n := 64) (by omega)).2]
end KT
/-! begins -/
def low4 (g : Nat → Int32) : Prop := ∀ k, k < 5 → low 4 (g k)
theorem bF_low {v : xV} (hw : wfg v) {em : Int32} {g : Nat → Int32} (hg : low4 g) {r : Nat} (hr : r < vR v) : ∀ n t, t + n ≤ vrs v r → low 4 (bF v r em g n t)
  | 0, _, _ => low_0
  | n + 1, t, ht => by
    have hs := wf_s hw hr (show t < vrs v r by omega)
    simp only [bF]
    refine low_or ?_ ?_
    · unfold sbg
      by_cases q : vsy v r t < 8
      · rw [if_pos q]; exact low_bit (hs.2 q) (by omega)
      · rw [if_neg q]; exact hg _ (by omega)
    · split
      · exact bF_low hw hg hr n (t + 1) (by omega)
      · exact low_0
theorem bgR_low {v : xV} (hw : wfg v) {em : Int32} {g : Nat → Int32} (hg : low4 g) : ∀ r, r ≤ vR v → low4 (bgR v em g r)
  | 0, _ => hg
  | r + 1, hr => fun k hk => by
    have ih := bgR_low hw (em := em) hg r (by omega)
    simp only [bgR]
    split
    · exact low_or (ih k hk) (bF_low hw ih (by omega) _ _ (by omega))
    · exact ih k hk
theorem bgR_sub {v : xV} {em : Int32} {g : Nat → Int32} (k : Nat) : ∀ r, sub (g k) (bgR v em g r k)
  | 0 => sub_rf
  | r + 1 => by
    simp only [bgR]
    split
    · exact sub_tr (bgR_sub k r) sub_or
    · exact bgR_sub k r
theorem bgR_out {v : xV} (hw : wfg v) {em : Int32} {g : Nat → Int32} {k : Nat} (hk : 5 ≤ k) : ∀ r, r ≤ vR v → bgR v em g r k = g k
  | 0, _ => rfl
  | r + 1, hr => by
    have := wf_r hw (show r < vR v by omega)
    simp only [bgR]
    rw [if_neg (by omega), bgR_out hw hk r (by omega)]
def rk20 (g : Nat → Int32) : Nat := cnt (fun i => tst (g (i / 4)) (i % 4) = true) 20
theorem rk20_lt {g h : Nat → Int32} (hs : ∀ k, k < 5 → sub (g k) (h k)) (hl : low4 h) (ho : ∀ k, 5 ≤ k → h k = g k) : h = g ∨ rk20 g < rk20 h := by
  by_cases e : ∀ k, k < 5 → sub (h k) (g k)
  · left
    funext k
    rcases Nat.lt_or_ge k 5 with w | w
    · exact sub_eq (e k w) (hs k w)
    · exact ho k w
  · right
    refine cnt_lt2 20 (fun i hi => hs (i / 4) (by omega) (i % 4) (by omega)) ?_
    obtain ⟨k, hk, b, hb, h1, h2⟩ : ∃ k, k < 5 ∧ ∃ b, b < 32 ∧ tst (h k) b = true ∧ ¬ tst (g k) b = true := by
      refine Classical.byContradiction fun q => e fun k hk b hb h1 => Classical.byContradiction fun h2 => q ⟨k, hk, b, hb, h1, h2⟩
    have b4 : b < 4 := by
      rcases Nat.lt_or_ge b 4 with w | w
      · exact w
      · rw [hl k hk b w hb] at h1; cases h1
    refine ⟨4 * k + b, by omega, ?_, ?_⟩
    · rw [show (4 * k + b) / 4 = k by omega, show (4 * k + b) % 4 = b by omega]; exact h1
    · rw [show (4 * k + b) / 4 = k by omega, show (4 * k + b) % 4 = b by omega]; exact h2
theorem stab20 {f : (Nat → Int32) → Nat → Int32} (hl : ∀ g, low4 g → low4 (f g)) (hs : ∀ g k, k < 5 → sub (g k) (f g k)) (ho : ∀ g k, 5 ≤ k → f g k = g k) {g : Nat → Int32} (hg : low4 g) {n : Nat} (hn : 20 ≤ n) : f (iter f n g) = iter f n g ∧ iter f n g = iter f 20 g :=
  stab (I := low4) (rk := rk20) hl (fun x _ => cnt_le _ 20) (fun x h => rk20_lt (hs x) (hl x h) (ho x)) hg hn
theorem low4_z {f : Nat → Int32} (h : ∀ k, k < 5 → f k = 0) : low4 f := fun k hk => by rw [h k hk]; exact low_0
theorem BG_ref {A : xH} {v : xV} (hw : wfg v) : ag5 (lbG A v 20) (BG v) := by
  unfold lbG BG
  rw [E5_EM hw]
  have z : ag5 (z5 A 192 5) (fun _ => 0) := fun k hk => by unfold z5; rw [if_pos hk]
  have h := (stab20 (f := bgU v (EM v)) (fun g h => bgR_low hw h _ (Nat.le_refl _)) (fun g k _ => bgR_sub k _) (fun g k hk => bgR_out hw hk _ (Nat.le_refl _)) (low4_z z) (n := 64) (by omega)).2
  rw [← h]
  exact iter_c (R := ag5) (fun g h e => bgR_c hw e _ (Nat.le_refl _)) 64 _ _ z
theorem BG_low {v : xV} (hw : wfg v) : low4 (BG v) := by
  have all : ∀ n, low4 (iter (bgU v (EM v)) n (fun _ => 0)) := fun n => by
    induction n with
    | zero => exact fun k _ => low_0
    | succ n ih => exact bgR_low hw ih _ (Nat.le_refl _)
  exact all 64

