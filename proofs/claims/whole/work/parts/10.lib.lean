/-! ===== numbers, frames, the picture of a grammar ===== -/
theorem n_in {j n : Nat} (hj : j < 2 ^ 31) (hn : n < 2 ^ 31) : vp_in (nI j) n ↔ j < n := by
  rw [vp_in_iff, nI_toInt hj]
  omega
theorem n_cl {n : Nat} (h : n < 2 ^ 31) : (nI n).toNatClampNeg = n := nI_clamp h
theorem n_m1 : (-1 : Int32).toInt = -1 := by decide +kernel
theorem n_lit (n : Nat) : (OfNat.ofNat n : Int32) = nI n := rfl
theorem n_ne1 {n : Nat} (h : n < 2 ^ 31) : nI n ≠ -1 := by
  intro e
  have := congrArg Int32.toInt e
  rw [nI_toInt h, n_m1] at this
  omega
theorem n_sub {a b : Nat} (h : b ≤ a) : nI a - nI b = nI (a - b) := pk_sub h
theorem n_case (x : Int32) : x < 0 ∨ ∃ k : Nat, k < 2 ^ 31 ∧ x = nI k := by
  by_cases h : x < 0
  · exact Or.inl h
  · exact Or.inr (nI_of h)
theorem n_neg {x : Int32} (h : x < 0) : x.toInt < 0 := by
  have := Int32.lt_iff_toInt_lt.mp h
  simpa using this
/-- outside a stretch of cells nothing is changed, and no reference is -/
def xoff (A B : xH) (lo hi : Nat) : Prop := (∀ c, c < lo ∨ hi < c → B.1 c = A.1 c ∧ B.2.1 c = A.2.1 c) ∧ B.2.2 = A.2.2
theorem xoff_rf {A : xH} {lo hi : Nat} : xoff A A lo hi := ⟨fun _ _ => ⟨rfl, rfl⟩, rfl⟩
theorem xoff_tr {A B C : xH} {lo hi : Nat} (h : xoff A B lo hi) (h2 : xoff B C lo hi) : xoff A C lo hi :=
  ⟨fun c hc => ⟨(h2.1 c hc).1.trans (h.1 c hc).1, (h2.1 c hc).2.trans (h.1 c hc).2⟩, h2.2.trans h.2⟩
theorem xoff_si {A B : xH} {lo hi c k : Nat} {x : Int32} (h : xoff A B lo hi) (h1 : lo ≤ c) (h2 : c ≤ hi) : xoff A (xsi B c k x) lo hi := by
  refine ⟨fun d hd => ?_, h.2⟩
  have hne : d ≠ c := by omega
  refine ⟨?_, (h.1 d hd).2⟩
  rw [← (h.1 d hd).1]
  funext j
  simp [xsi, hne]
theorem xoff_sl {A B : xH} {lo hi c k : Nat} {x : Int64} (h : xoff A B lo hi) (h1 : lo ≤ c) (h2 : c ≤ hi) : xoff A (xsl B c k x) lo hi := by
  refine ⟨fun d hd => ?_, h.2⟩
  have hne : d ≠ c := by omega
  refine ⟨(h.1 d hd).1, ?_⟩
  rw [← (h.1 d hd).2]
  funext j
  simp [xsl, hne]
theorem xoff_i {A B : xH} {lo hi c k : Nat} (h : xoff A B lo hi) (hc : c < lo ∨ hi < c) : xi B c k = xi A c k := congrFun (h.1 c hc).1 k
theorem xoff_l {A B : xH} {lo hi c k : Nat} (h : xoff A B lo hi) (hc : c < lo ∨ hi < c) : xl B c k = xl A c k := congrFun (h.1 c hc).2 k
theorem xoff_wide {A B : xH} {lo hi lo2 hi2 : Nat} (h : xoff A B lo hi) (h1 : lo2 ≤ lo) (h2 : hi ≤ hi2) : xoff A B lo2 hi2 := ⟨fun c hc => h.1 c (by omega), h.2⟩
/-! the grammar and all that is so: (SIGNS, KINDS, RULES, DEPTH), names of signs, of kinds, a rule's kind, how many symbols, symbols, classes -/
abbrev xV : Type := (Nat × Nat × Nat × Nat) × (Nat → Int64) × (Nat → Int64) × (Nat → Nat) × (Nat → Nat) × (Nat → Nat → Nat) × (Nat → Nat)
def vS (v : xV) : Nat := v.1.1
def vK (v : xV) : Nat := v.1.2.1
def vR (v : xV) : Nat := v.1.2.2.1
def vD (v : xV) : Nat := v.1.2.2.2
def vsn (v : xV) : Nat → Int64 := v.2.1
def vkn (v : xV) : Nat → Int64 := v.2.2.1
def vrk (v : xV) : Nat → Nat := v.2.2.2.1
def vrs (v : xV) : Nat → Nat := v.2.2.2.2.1
def vsy (v : xV) : Nat → Nat → Nat := v.2.2.2.2.2.1
def vcl (v : xV) : Nat → Nat := v.2.2.2.2.2.2
/-- the first item of a rule -/
def vfst (v : xV) : Nat → Nat
  | 0 => 2
  | r + 1 => vfst v r + vrs v r + 1
def vN (v : xV) : Nat := vfst v (vR v)
theorem vfst_le {v : xV} (h : ∀ r, r < vR v → vrs v r ≤ 3) : ∀ r, r ≤ vR v → vfst v r ≤ 2 + 4 * r
  | 0, _ => by simp [vfst]
  | r + 1, hr => by
    have h1 := vfst_le h r (by omega)
    have h2 := h r (by omega)
    simp only [vfst]
    omega
theorem vfst_ge (v : xV) : ∀ r, 2 + r ≤ vfst v r
  | 0 => by simp [vfst]
  | r + 1 => by have := vfst_ge v r; simp only [vfst]; omega
theorem vfst_mono (v : xV) {r q : Nat} (h : r < q) : vfst v r + vrs v r + 1 ≤ vfst v q := by
  induction q with
  | zero => omega
  | succ q ih =>
    simp only [vfst]
    rcases Nat.lt_or_ge r q with h1 | h1
    · have := ih h1; omega
    · have : r = q := by omega
      subst this; omega
/-- each item from 2 on is of one rule, with one dot -/
theorem vitem {v : xV} {i : Nat} : ∀ R, 2 ≤ i → i < vfst v R → ∃ r d, r < R ∧ d ≤ vrs v r ∧ i = vfst v r + d
  | 0, h1, h2 => by simp only [vfst] at h2; omega
  | R + 1, h1, h2 => by
    rcases Nat.lt_or_ge i (vfst v R) with h3 | h3
    · obtain ⟨r, d, a, b, c⟩ := vitem R h1 h3
      exact ⟨r, d, by omega, b, c⟩
    · simp only [vfst] at h2
      exact ⟨R, i - vfst v R, by omega, by omega, by omega⟩
theorem vitem1 {v : xV} {r q d f : Nat} (hd : d ≤ vrs v r) (hf : f ≤ vrs v q) (h : vfst v r + d = vfst v q + f) : r = q ∧ d = f := by
  have e : r = q := by
    rcases Nat.lt_trichotomy r q with h1 | h1 | h1
    · have := vfst_mono v h1; omega
    · exact h1
    · have := vfst_mono v h1; omega
  subst e
  exact ⟨rfl, by omega⟩
/-- an object of the class Model, by its number -/
def xMod (b : Nat) : Prop := xob xN b = 4 ∧ (xlay b 5 = some (b + 1) ∧ xlay b 6 = some (b + 2) ∧ xlay b 7 = some (b + 3) ∧ xlay b 8 = some (b + 4) ∧ xlay b 9 = some (b + 5) ∧ xlay b 10 = some (b + 6) ∧ xlay b 11 = some (b + 7) ∧ xlay b 12 = some (b + 8) ∧ xlay b 13 = some (b + 9)) ∧
  (xtn xN (b + 1) = 2 ∧ xtn xN (b + 2) = 2 ∧ xtn xN (b + 3) = 1 ∧ xtn xN (b + 4) = 1 ∧ xtn xN (b + 5) = 1 ∧ xtn xN (b + 6) = 1 ∧ xtn xN (b + 7) = 1 ∧ xtn xN (b + 8) = 1 ∧ xtn xN (b + 9) = 1) ∧
  ((xsh (b + 1)).2 = 4 ∧ (xsh (b + 2)).2 = 5 ∧ (xsh (b + 3)).2 = 10 ∧ (xsh (b + 4)).2 = 10 ∧ (xsh (b + 5)).2 = 10 ∧ (xsh (b + 6)).2 = 30 ∧ (xsh (b + 7)).2 = 42 ∧ (xsh (b + 8)).2 = 42 ∧ (xsh (b + 9)).2 = 42) ∧ b < 231
theorem xMod_8 : xMod 8 := by unfold xMod; decide +kernel
theorem xMod_18 : xMod 18 := by unfold xMod; decide +kernel
theorem xMod_74 : xMod 74 := by unfold xMod; decide +kernel
theorem xMod_84 : xMod 84 := by unfold xMod; decide +kernel
theorem xMod_94 : xMod 94 := by unfold xMod; decide +kernel
theorem xMod_104 : xMod 104 := by unfold xMod; decide +kernel
theorem xMod_114 : xMod 114 := by unfold xMod; decide +kernel
theorem xMod_124 : xMod 124 := by unfold xMod; decide +kernel
theorem xMod_134 : xMod 134 := by unfold xMod; decide +kernel
theorem xMod_144 : xMod 144 := by unfold xMod; decide +kernel
theorem xMod_154 : xMod 154 := by unfold xMod; decide +kernel
theorem xMod_167 : xMod 167 := by unfold xMod; decide +kernel
def wfg (v : xV) : Prop := vS v ≤ 4 ∧ vK v ≤ 5 ∧ vR v ≤ 10 ∧ vD v ≤ 1 ∧ ∀ r, r < vR v → vrk v r < vK v ∧ vrs v r ≤ 3 ∧ ∀ t, t < vrs v r → vsy v r t < vS v ∨ (8 ≤ vsy v r t ∧ vsy v r t < 8 + vK v)
def wfc (v : xV) : Prop := ∀ i, i < 42 → vcl v i ≤ i ∧ vcl v (vcl v i) = vcl v i ∧ (i < 2 → vcl v i = i) ∧ (2 ≤ i → 2 ≤ vcl v i) ∧ (vN v ≤ i → vcl v i = i)
def isG (A : xH) (b : Nat) (v : xV) : Prop :=
  xMod b ∧ wfg v ∧ (xi A b 0 = nI (vS v) ∧ xi A b 1 = nI (vK v) ∧ xi A b 2 = nI (vR v) ∧ xi A b 4 = nI (vD v)) ∧
  (∀ j, j < vS v → xl A (b + 1) j = vsn v j) ∧ (∀ j, j < vK v → xl A (b + 2) j = vkn v j) ∧
  (∀ r, r < vR v → xi A (b + 3) r = nI (vrk v r) ∧ xi A (b + 4) r = nI (vrs v r) ∧ ∀ t, t < vrs v r → xi A (b + 6) (r * 3 + t) = nI (vsy v r t))
def isIt (A : xH) (b : Nat) (v : xV) (R : Nat) : Prop := xi A b 3 = nI (vfst v R) ∧ (∀ r, r < R → xi A (b + 5) r = nI (vfst v r)) ∧ (xi A (b + 7) 0 = -1 ∧ xi A (b + 8) 0 = -1 ∧ xi A (b + 7) 1 = -1 ∧ xi A (b + 8) 1 = -1) ∧ ∀ r, r < R → ∀ d, d ≤ vrs v r → xi A (b + 7) (vfst v r + d) = nI r ∧ xi A (b + 8) (vfst v r + d) = nI d
def isM (A : xH) (b : Nat) (v : xV) : Prop := isG A b v ∧ wfc v ∧ isIt A b v (vR v) ∧ ∀ j, j < 42 → xi A (b + 9) j = nI (vcl v j)
theorem isM_mod {A : xH} {b : Nat} {v : xV} (h : isM A b v) : xMod b := h.1.1
theorem isM_N {A : xH} {b : Nat} {v : xV} (h : isM A b v) : vN v ≤ 42 := by
  have h1 := vfst_le (v := v) (fun r hr => (h.1.2.1.2.2.2.2 r hr).2.1) (vR v) (Nat.le_refl _)
  have h2 := h.1.2.1.2.2.1
  unfold vN
  omega
theorem isM_off {A B : xH} {b lo hi : Nat} {v : xV} (h : isM A b v) (hf : xoff A B lo hi) (hd : b + 9 < lo ∨ hi < b) : isM B b v := by
  have ei : ∀ c k, b ≤ c → c ≤ b + 9 → xi B c k = xi A c k := fun c k h1 h2 => xoff_i hf (by omega)
  have el : ∀ c k, b ≤ c → c ≤ b + 9 → xl B c k = xl A c k := fun c k h1 h2 => xoff_l hf (by omega)
  obtain ⟨⟨g1, g2, g3, g4, g5, g6⟩, h2, ⟨i1, i2, i3, i4⟩, h4⟩ := h
  refine ⟨⟨g1, g2, ?_, ?_, ?_, ?_⟩, h2, ⟨?_, ?_, ?_, ?_⟩, ?_⟩
  · simp only [ei b _ (Nat.le_refl _) (by omega)]; exact g3
  · intro j hj; rw [el _ _ (by omega) (by omega)]; exact g4 j hj
  · intro j hj; rw [el _ _ (by omega) (by omega)]; exact g5 j hj
  · intro r hr
    simp only [ei (b + 3) _ (by omega) (by omega), ei (b + 4) _ (by omega) (by omega), ei (b + 6) _ (by omega) (by omega)]; exact g6 r hr
  · rw [ei _ _ (by omega) (by omega)]; exact i1
  · intro r hr; rw [ei _ _ (by omega) (by omega)]; exact i2 r hr
  · simp only [ei (b + 7) _ (by omega) (by omega), ei (b + 8) _ (by omega) (by omega)]; exact i3
  · intro r hr d hd
    simp only [ei (b + 7) _ (by omega) (by omega), ei (b + 8) _ (by omega) (by omega)]; exact i4 r hr d hd
  · intro j hj; rw [ei _ _ (by omega) (by omega)]; exact h4 j hj
theorem isG_si {A : xH} {b c k : Nat} {v : xV} {x : Int32} (h : isG A b v) (hc : c = b + 5 ∨ c = b + 7 ∨ c = b + 8 ∨ c = b + 9 ∨ (c = b ∧ k = 3)) : isG (xsi A c k x) b v := by
  have e : ∀ d j, d ≠ c ∨ j ≠ k → xi (xsi A c k x) d j = xi A d j := by
    intro d j h
    rw [xi_si, if_neg (by omega)]
  obtain ⟨g1, g2, ⟨a0, a1, a2, a4⟩, g4, g5, g6⟩ := h
  refine ⟨g1, g2, ⟨?_, ?_, ?_, ?_⟩, g4, g5, fun r hr => ⟨?_, ?_, fun t ht => ?_⟩⟩
  · rw [e _ _ (by omega)]; exact a0
  · rw [e _ _ (by omega)]; exact a1
  · rw [e _ _ (by omega)]; exact a2
  · rw [e _ _ (by omega)]; exact a4
  · rw [e _ _ (by omega)]; exact (g6 r hr).1
  · rw [e _ _ (by omega)]; exact (g6 r hr).2.1
  · rw [e _ _ (by omega)]; exact (g6 r hr).2.2 t ht
/-- all items alone -/
def vid (v : xV) : xV := (v.1, vsn v, vkn v, vrk v, vrs v, vsy v, fun i => i)
theorem vfst_vid (v : xV) : ∀ r, vfst (vid v) r = vfst v r
  | 0 => rfl
  | r + 1 => by simp only [vfst, vfst_vid v r]; rfl
/-- how many below a bound -/
def cnt (p : Nat → Prop) [DecidablePred p] : Nat → Nat
  | 0 => 0
  | n + 1 => cnt p n + (if p n then 1 else 0)
theorem cnt_le (p : Nat → Prop) [DecidablePred p] : ∀ n, cnt p n ≤ n
  | 0 => Nat.le_refl _
  | n + 1 => by have := cnt_le p n; simp only [cnt]; split <;> omega
theorem xB1 {I : xM → xK} {a b c d e f : Nat} {L : xL} {st : List Value} {A : xH} (h : b < a) (hI : I (b, e, f) L st A) : xB I (a, c, d) L st A := ⟨(b, e, f), Or.inl h, hI⟩
theorem xB2 {I : xM → xK} {a b c d f : Nat} {L : xL} {st : List Value} {A : xH} (h : c < b) (hI : I (a, c, f) L st A) : xB I (a, b, d) L st A := ⟨(a, c, f), Or.inr ⟨rfl, Or.inl h⟩, hI⟩
theorem xB3 {I : xM → xK} {a b c d : Nat} {L : xL} {st : List Value} {A : xH} (h : d < c) (hI : I (a, b, d) L st A) : xB I (a, b, c) L st A := ⟨(a, b, d), Or.inr ⟨rfl, Or.inr ⟨rfl, h⟩⟩, hI⟩
theorem xE0 {I : xM → xK} (μ : xM) {L : xL} {st : List Value} {A : xH} (hI : I μ L st A) : xE I L st A := ⟨μ, hI⟩
/-- what symbolAt answers -/
def vsym (v : xV) (r t : Int32) (x : Int32) : Prop := (∀ r' t' : Nat, r = nI r' → t = nI t' → r' < vR v → t' < vrs v r' → x = nI (vsy v r' t')) ∧ ((¬ ∃ r' t' : Nat, r = nI r' ∧ t = nI t' ∧ r' < vR v ∧ t' < vrs v r') → x = -1)
def vnext (v : xV) (i : Int32) (x : Int32) : Prop := (∀ r d : Nat, r < vR v → d < vrs v r → i = nI (vfst v r + d) → x = nI (vsy v r d)) ∧ (i = 0 → 0 < vK v → x = 8) ∧ ((¬ ∃ r d : Nat, r < vR v ∧ d < vrs v r ∧ i = nI (vfst v r + d)) → ¬ (i = 0 ∧ 0 < vK v) → x = -1)

def idx (f : Nat → Int64) (w : Int64) : Nat → Nat
  | 0 => 0
  | n + 1 => if idx f w n < n then idx f w n else if f n = w then n else n + 1
theorem idx_le (f : Nat → Int64) (w : Int64) : ∀ n, idx f w n ≤ n
  | 0 => Nat.le_refl _
  | n + 1 => by have := idx_le f w n; simp only [idx]; split; omega; split <;> omega
theorem idx_first {f : Nat → Int64} {w : Int64} {j n : Nat} (hj : j < n) (h : ∀ i, i < j → f i ≠ w) (e : f j = w) : idx f w n = j := by
  have key : ∀ m, m ≤ j → idx f w m = m := by
    intro m
    induction m with
    | zero => intro _; rfl
    | succ m ih =>
      intro hm
      have h1 := ih (by omega)
      simp only [idx, h1]
      rw [if_neg (by omega), if_neg (h m (by omega))]
  induction n with
  | zero => omega
  | succ n ih =>
    rcases Nat.lt_or_ge j n with h1 | h1
    · have h2 := ih h1
      simp only [idx, h2]
      rw [if_pos h1]
    · have h2 : j = n := by omega
      subst h2
      simp only [idx, key j (Nat.le_refl _)]
      rw [if_neg (by omega), if_pos e]
theorem idx_none {f : Nat → Int64} {w : Int64} {n : Nat} (h : ∀ i, i < n → f i ≠ w) : idx f w n = n := by
  induction n with
  | zero => rfl
  | succ n ih =>
    have h1 := ih (fun i hi => h i (by omega))
    simp only [idx, h1]
    rw [if_neg (by omega), if_neg (h n (by omega))]
/-- the number of a name: a sign's, or from 8 on a kind's -/
def vfind (v : xV) (w : Int64) : Int32 := if idx (vsn v) w (vS v) < vS v then nI (idx (vsn v) w (vS v)) else if idx (vkn v) w (vK v) < vK v then nI (8 + idx (vkn v) w (vK v)) else -1
/-- the rules of a kind, as bits -/
def vrb (v : xV) (k : Nat) : Nat → Int32
  | 0 => 0
  | n + 1 => if vrk v n = k then vrb v k n ||| ((1 : Int32) <<< (nI n &&& 31)) else vrb v k n
theorem xcat_nil : xcat [] = 0 := rfl
theorem xcat_i {x : Int32} {r : List Value} : xcat (.int x :: r) = 1 + xcat r := by simp [xcat, Value.category]
theorem xcat_r {x : Nat} {r : List Value} : xcat (.ref x :: r) = 1 + xcat r := by simp [xcat, Value.category]
theorem xcat_l {x : Int64} {r : List Value} : xcat (.long x :: r) = 2 + xcat r := by simp [xcat, Value.category]
theorem xble {n : Nat} (h : n ≤ 8) : Nat.ble n 8 = true := Nat.ble_eq_true_of_le h
theorem xble0 : Nat.ble 0 8 = true := rfl
theorem xble1 : Nat.ble 1 8 = true := rfl
theorem xble2 : Nat.ble 2 8 = true := rfl
theorem xble3 : Nat.ble 3 8 = true := rfl
theorem xble4 : Nat.ble 4 8 = true := rfl
theorem xble5 : Nat.ble 5 8 = true := rfl
theorem xble6 : Nat.ble 6 8 = true := rfl
theorem xble7 : Nat.ble 7 8 = true := rfl
theorem xble8 : Nat.ble 8 8 = true := rfl
theorem vpl {k n : Nat} (h : k < n) (hn : n < 2 ^ 31) : vp_in (OfNat.ofNat k : Int32) n := (n_in (by omega) hn).mpr h
theorem i_rng (a : Int32) : -2147483648 ≤ a.toInt ∧ a.toInt < 2147483648 := by
  have h1 := a.le_toInt
  have h2 := a.toInt_lt
  omega
theorem i_sub (a b : Int32) : (a - b).toInt = a.toInt - b.toInt ∨ (a - b).toInt = a.toInt - b.toInt + 4294967296 ∨ (a - b).toInt = a.toInt - b.toInt - 4294967296 := by
  have h1 := i_rng a
  have h2 := i_rng b
  rw [Int32.toInt_sub, Int.bmod_def]
  split <;> omega
theorem i_add (a b : Int32) : (a + b).toInt = a.toInt + b.toInt ∨ (a + b).toInt = a.toInt + b.toInt + 4294967296 ∨ (a + b).toInt = a.toInt + b.toInt - 4294967296 := by
  have h1 := i_rng a
  have h2 := i_rng b
  rw [Int32.toInt_add, Int.bmod_def]
  split <;> omega
theorem xbool0 : xbool 0 := Or.inl rfl
theorem xbool1 : xbool 1 := Or.inr rfl

