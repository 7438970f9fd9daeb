/-! ===== trees, counted without bound ===== -/
def p3 : Nat → Nat
  | 0 => 1
  | k + 1 => 3 * p3 k
def dgt (v k : Nat) : Nat := v / p3 k % 3
theorem dgt_K : ∀ K, K < 6 → ∀ v, v < p3 K → ∀ k, k < K → dgt v k ≠ 2 → v + p3 k < p3 K := by decide +kernel
theorem p3_5 {k : Nat} (h : k < 5) : 0 < p3 k ∧ p3 k ≤ 81 := by
  have key : ∀ k, k < 5 → 0 < p3 k ∧ p3 k ≤ 81 := by decide +kernel
  exact key k h
theorem dgt_5 {v k : Nat} (hv : v < 243) (hk : k < 5) (h : dgt v k ≠ 2) : v + p3 k < 243 := dgt_K 5 (by omega) v hv k hk h
def sgm (f : Nat → Nat) : Nat → Nat
  | 0 => 0
  | n + 1 => sgm f n + f n
def prd (f : Nat → Nat) : Nat → Nat
  | 0 => 1
  | n + 1 => prd f n * f n
theorem sgm_congr {f g : Nat → Nat} : ∀ {n}, (∀ j, j < n → f j = g j) → sgm f n = sgm g n
  | 0, _ => rfl
  | n + 1, h => by simp only [sgm]; rw [sgm_congr (fun j hj => h j (by omega)), h n (by omega)]
theorem prd_congr {f g : Nat → Nat} : ∀ {n}, (∀ j, j < n → f j = g j) → prd f n = prd g n
  | 0, _ => rfl
  | n + 1, h => by simp only [prd]; rw [prd_congr (fun j hj => h j (by omega)), h n (by omega)]
theorem sgm_z {f : Nat → Nat} {n : Nat} (h : ∀ j, j < n → f j = 0) : sgm f n = 0 := by
  induction n with
  | zero => rfl
  | succ n ih => simp only [sgm]; rw [ih (fun j hj => h j (by omega)), h n (by omega)]
theorem sgm_flat {f : Nat → Nat} {a b : Nat} (h : a ≤ b) (hz : ∀ j, a ≤ j → j < b → f j = 0) : sgm f b = sgm f a := by
  obtain ⟨d, rfl⟩ : ∃ d, b = a + d := ⟨b - a, by omega⟩
  clear h
  induction d with
  | zero => rfl
  | succ d ih =>
    rw [← Nat.add_assoc]
    simp only [sgm]
    rw [ih fun j h1 h2 => hz j h1 (by omega), hz (a + d) (by omega) (by omega), Nat.add_zero]
/-! a bound on both sides of an equation -/
theorem cap_add {N a b : Nat} : min (min a N + min b N) N = min (a + b) N := by omega
theorem cap_ad1 {N a b : Nat} : min (min a N + b) N = min (a + b) N := by omega
theorem cap_ad2 {N a b : Nat} : min (a + min b N) N = min (a + b) N := by omega
theorem cap_mul {N a b : Nat} : min (min a N * min b N) N = min (a * b) N := by
  rcases Nat.le_total a N with ha | ha
  · rw [Nat.min_eq_left ha]
    rcases Nat.le_total b N with hb | hb
    · rw [Nat.min_eq_left hb]
    · rw [Nat.min_eq_right hb]
      rcases Nat.eq_zero_or_pos a with e | e
      · subst e; simp
      · rw [Nat.min_eq_right (Nat.le_mul_of_pos_left N e), Nat.min_eq_right (Nat.le_trans hb (Nat.le_mul_of_pos_left b e))]
  · rw [Nat.min_eq_right ha]
    rcases Nat.eq_zero_or_pos b with e | e
    · subst e; simp
    · rcases Nat.eq_zero_or_pos N with e2 | e2
      · subst e2; simp
      · have h1 : N ≤ N * min b N := Nat.le_mul_of_pos_right N (by omega)
        have h2 : N ≤ a * b := Nat.le_trans ha (Nat.le_mul_of_pos_right a e)
        rw [Nat.min_eq_right h1, Nat.min_eq_right h2]
theorem cap_ml1 {N a b : Nat} : min (min a N * b) N = min (a * b) N := by
  rw [← cap_mul (a := min a N), ← cap_mul (a := a)]
  congr 2
  omega
theorem cap_ml2 {N a b : Nat} : min (a * min b N) N = min (a * b) N := by
  rw [Nat.mul_comm, cap_ml1, Nat.mul_comm]
theorem cap_am {N a b c : Nat} : min (min a N + min b N * min c N) N = min (a + b * c) N := by
  rw [← cap_ad2, cap_mul, cap_add]
theorem cap_0 {N a : Nat} (h : 0 < N) : min a N = 0 ↔ a = 0 := by omega
/-! what is nothing -/
def s0 (E : Nat → Nat) (c : Nat) : Nat := if c < 8 then 0 else E (c - 8)
def oW (E : Nat → Nat) (g : xV) (r but : Nat) : Nat := prd (fun t => if t = but then 1 else s0 E (vsy g r t)) (vrs g r)
def nW (E : Nat → Nat) (g : xV) (k : Nat) : Nat := sgm (fun r => if vrk g r = k then oW E g r 9 else 0) (vR g)
theorem sy_K {g : xV} (hw : wfg g) {r t : Nat} (hr : r < vR g) (ht : t < vrs g r) (h : ¬ vsy g r t < 8) : vsy g r t - 8 < vK g := by
  rcases (hw.2.2.2.2 r hr).2.2 t ht with q | q
  · have := hw.1; omega
  · omega
theorem oW_congr {E F : Nat → Nat} {g : xV} (hw : wfg g) {r but : Nat} (hr : r < vR g) (h : ∀ k, k < vK g → E k = F k) : oW E g r but = oW F g r but := by
  refine prd_congr fun t ht => ?_
  split
  · rfl
  · unfold s0
    split
    · rfl
    · rename_i q; exact h _ (sy_K hw hr ht q)
theorem nW_congr {E F : Nat → Nat} {g : xV} (hw : wfg g) {k : Nat} (h : ∀ k, k < vK g → E k = F k) : nW E g k = nW F g k := sgm_congr fun r hr => by
  split
  · exact oW_congr hw hr h
  · rfl
def ewF (g : xV) : Nat → Nat → Nat → Nat
  | 0, _, _ => 0
  | f + 1, v, k => if dgt v k = 2 then 0 else nW (ewF g f (v + p3 k)) g k
theorem ewF_st {g : xV} (hw : wfg g) : ∀ f f2 v k, v < 243 → k < 5 → 243 - v ≤ f → 243 - v ≤ f2 → ewF g f v k = ewF g f2 v k
  | 0, _, v, _, hv, _, h, _ => by omega
  | f + 1, 0, v, _, hv, _, _, h => by omega
  | f + 1, f2 + 1, v, k, hv, hk, h1, h2 => by
    simp only [ewF]
    split
    · rfl
    · rename_i q
      have h3 := dgt_5 hv hk q
      have h4 := p3_5 hk
      have := hw.2.1
      exact nW_congr hw fun m hm => ewF_st hw f f2 _ m h3 (by omega) (by omega) (by omega)
def eW (g : xV) (v k : Nat) : Nat := ewF g (243 - v) v k
theorem eW_eq {g : xV} (hw : wfg g) {v k : Nat} (hv : v < 243) (hk : k < 5) : eW g v k = if dgt v k = 2 then 0 else nW (eW g (v + p3 k)) g k := by
  have e : 243 - v = 242 - v + 1 := by omega
  show ewF g (243 - v) v k = _
  rw [e]
  simp only [ewF]
  split
  · rfl
  · rename_i q
    have h3 := dgt_5 hv hk q
    have h4 := p3_5 hk
    have := hw.2.1
    exact nW_congr hw fun m hm => ewF_st hw _ _ _ m h3 (by omega) (by omega) (by omega)
/-! from kind to kind while the part stays -/
def lW (g : xV) (k m : Nat) : Nat := sgm (fun r => if vrk g r = k then sgm (fun t => if vsy g r t = 8 + m then oW (eW g 0) g r t else 0) (vrs g r) else 0) (vR g)
def cwF (g : xV) : Nat → Nat → Nat → Nat → Nat
  | 0, _, _, _ => 0
  | f + 1, v, k, m => if dgt v k = 2 then 0 else (if k = m then 1 else 0) + sgm (fun j => lW g k j * cwF g f (v + p3 k) j m) 5
theorem cwF_st {g : xV} : ∀ f f2 v k m, v < 243 → k < 5 → 243 - v ≤ f → 243 - v ≤ f2 → cwF g f v k m = cwF g f2 v k m
  | 0, _, v, _, _, hv, _, h, _ => by omega
  | f + 1, 0, v, _, _, hv, _, _, h => by omega
  | f + 1, f2 + 1, v, k, m, hv, hk, h1, h2 => by
    simp only [cwF]
    split
    · rfl
    · rename_i q
      have h3 := dgt_5 hv hk q
      have h4 := p3_5 hk
      congr 1
      exact sgm_congr fun j hj => by rw [cwF_st f f2 _ j m h3 hj (by omega) (by omega)]
def cW (g : xV) (v k m : Nat) : Nat := cwF g (243 - v) v k m
theorem cW_eq {g : xV} {v k m : Nat} (hv : v < 243) (hk : k < 5) : cW g v k m = if dgt v k = 2 then 0 else (if k = m then 1 else 0) + sgm (fun j => lW g k j * cW g (v + p3 k) j m) 5 := by
  have e : 243 - v = 242 - v + 1 := by omega
  show cwF g (243 - v) v k m = _
  rw [e]
  simp only [cwF]
  split
  · rfl
  · rename_i q
    have h3 := dgt_5 hv hk q
    have h4 := p3_5 hk
    congr 1
    exact sgm_congr fun j hj => by rw [cwF_st _ (243 - (v + p3 k)) _ j m h3 hj (by omega) (by omega)]; rfl
/-- nothing leads to a kind that is none -/
theorem lW_K {g : xV} (hw : wfg g) {k m : Nat} (h : vK g ≤ m) : lW g k m = 0 := sgm_z fun r hr => by
  split
  · refine sgm_z fun t ht => ?_
    rw [if_neg]
    intro e
    have := sy_K hw hr ht (by omega)
    omega
  · rfl
/-! parts of a row -/
def sSy (E : Nat → Nat) (ρ : Nat → Nat) (wh : Nat → Nat → Nat → Nat) (on : Nat → Nat) (i j c x y : Nat) : Nat := if c < 8 then (if y = x + 1 ∧ ρ x = c then 1 else 0) else if x = i ∧ y = j then on (c - 8) else if x = y then E (c - 8) else wh (c - 8) x y
def rD (S : Nat → Nat → Nat → Nat) (n j : Nat) : Nat → Nat → Nat
  | 0, x => if x = j then 1 else 0
  | d + 1, x => sgm (fun e => S (n - (d + 1)) x (x + e) * rD S n j d (x + e)) (j + 1 - x)
/-- in how many ways a rule's symbols are a part, its own ones by S -/
def wW (S : Nat → Nat → Nat → Nat) (n i j : Nat) : Nat := rD S n j n i
def bwF (g : xV) (ρ : Nat → Nat) : Nat → Nat → Nat → Nat → Nat
  | 0, _, _, _ => 0
  | f + 1, k, i, j => sgm (fun r => if vrk g r = k then wW (fun t => sSy (eW g 0) ρ (fun c x y => sgm (fun m => cW g 0 c m * bwF g ρ f m x y) 5) (fun _ => 0) i j (vsy g r t)) (vrs g r) i j else 0) (vR g)
def bW (g : xV) (ρ : Nat → Nat) (k i j : Nat) : Nat := bwF g ρ (j - i) k i j
/-- trees of a kind on a part, by what is above -/
def tW (g : xV) (ρ : Nat → Nat) (v k i j : Nat) : Nat := if i = j then eW g v k else sgm (fun m => cW g v k m * bW g ρ m i j) 5
theorem rD_congr {S T : Nat → Nat → Nat → Nat} {n j i : Nat} (h : ∀ t x y, t < n → i ≤ x → x ≤ y → y ≤ j → S t x y = T t x y) : ∀ d, d ≤ n → ∀ x, i ≤ x → x ≤ j → rD S n j d x = rD T n j d x
  | 0, _, x, _, _ => rfl
  | d + 1, hd, x, hx, hxj => by
    simp only [rD]
    refine sgm_congr fun e he => ?_
    rw [h _ _ _ (by omega) hx (by omega) (by omega), rD_congr h d (by omega) (x + e) (by omega) (by omega)]
theorem wW_congr {S T : Nat → Nat → Nat → Nat} {n i j : Nat} (hij : i ≤ j) (h : ∀ t x y, t < n → i ≤ x → x ≤ y → y ≤ j → S t x y = T t x y) : wW S n i j = wW T n i j := rD_congr h n (Nat.le_refl _) i (Nat.le_refl _) hij
theorem sSy_congr {E : Nat → Nat} {ρ σ : Nat → Nat} {wh wi : Nat → Nat → Nat → Nat} {on : Nat → Nat} {i j c x y : Nat} (h1 : y = x + 1 → ρ x = σ x) (h2 : x ≠ y → ¬ (x = i ∧ y = j) → ¬ c < 8 → wh (c - 8) x y = wi (c - 8) x y) : sSy E ρ wh on i j c x y = sSy E σ wi on i j c x y := by
  unfold sSy
  split
  · by_cases q : y = x + 1
    · rw [h1 q]
    · rw [if_neg fun w => q w.1, if_neg fun w => q w.1]
  · split
    · rfl
    · split
      · rfl
      · rename_i q1 q2 q3; exact h2 q3 q2 q1
theorem bwF_st {g : xV} {ρ σ : Nat → Nat} : ∀ f f2 k i j, i < j → j - i ≤ f → j - i ≤ f2 → (∀ x, i ≤ x → x < j → ρ x = σ x) → bwF g ρ f k i j = bwF g σ f2 k i j
  | 0, _, _, i, j, h, h1, _, _ => by omega
  | f + 1, 0, _, i, j, h, _, h2, _ => by omega
  | f + 1, f2 + 1, k, i, j, h, h1, h2, hr => by
    simp only [bwF]
    refine sgm_congr fun r hr2 => ?_
    split
    · refine wW_congr (by omega) fun t x y ht hx hxy hy => sSy_congr (fun e => hr x hx (by omega)) fun q1 q2 q3 => ?_
      refine sgm_congr fun m hm => ?_
      rw [bwF_st f f2 m x y (by omega) (by omega) (by omega) fun z h3 h4 => hr z (by omega) (by omega)]
    · rfl
theorem bW_congr {g : xV} {ρ σ : Nat → Nat} {k i j : Nat} (h : i < j) (hr : ∀ x, i ≤ x → x < j → ρ x = σ x) : bW g ρ k i j = bW g σ k i j := bwF_st _ _ k i j h (Nat.le_refl _) (Nat.le_refl _) hr
theorem bW_eq {g : xV} {ρ : Nat → Nat} {k i j : Nat} (h : i < j) : bW g ρ k i j = sgm (fun r => if vrk g r = k then wW (fun t => sSy (eW g 0) ρ (tW g ρ 0) (fun _ => 0) i j (vsy g r t)) (vrs g r) i j else 0) (vR g) := by
  have e : j - i = j - i - 1 + 1 := by omega
  show bwF g ρ (j - i) k i j = _
  rw [e]
  simp only [bwF]
  refine sgm_congr fun r hr2 => ?_
  split
  · refine wW_congr (by omega) fun t x y ht hx hxy hy => sSy_congr (fun _ => rfl) fun q1 q2 q3 => ?_
    unfold tW
    rw [if_neg q1]
    refine sgm_congr fun m hm => ?_
    rw [bwF_st _ (y - x) m x y (by omega) (by omega) (by omega) fun z _ _ => rfl]
    rfl
  · rfl
theorem tW_congr {g : xV} {ρ σ : Nat → Nat} {v k i j : Nat} (h : i ≤ j) (hr : ∀ x, i ≤ x → x < j → ρ x = σ x) : tW g ρ v k i j = tW g σ v k i j := by
  unfold tW
  split
  · rfl
  · exact sgm_congr fun m hm => by rw [bW_congr (by omega) hr]
/-- no kind, no part -/
theorem bW_K {g : xV} (hw : wfg g) {ρ : Nat → Nat} {k i j : Nat} (h : i < j) (hk : vK g ≤ k) : bW g ρ k i j = 0 := by
  rw [bW_eq h]
  refine sgm_z fun r hr => ?_
  rw [if_neg]
  have := (hw.2.2.2.2 r hr).1
  omega

