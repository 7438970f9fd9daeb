/-! ===== the whole of both sides ===== -/
def gtrC (A : xH) (o : Option (List Nat)) : Prop := match o with
  | none => xi A 66 1 = 0
  | some t => xi A 66 1 = nI t.length ∧ ouA 67 A t
def gtrU (A : xH) (o : Option (List Nat)) : Prop := match o with
  | none => xi A 180 73 = -1
  | some t => xi A 180 73 = nI t.length ∧ ouA 221 A t
def gwtC (A : xH) (o : Option (Nat × (Nat → Nat))) : Prop := match o with
  | none => xi A 57 4 = -1
  | some t => xi A 57 4 = nI t.1 ∧ ∀ x, x < t.1 → xi A 59 x = nI (t.2 x)
def gwtU (A : xH) (o : Option (Nat × (Nat → Nat))) : Prop := match o with
  | none => xi A 180 75 = -1
  | some t => xi A 180 75 = nI t.1 ∧ ∀ x, x < t.1 → xi A 223 x = nI (t.2 x)
def xGI (v : xV) (kg : xKp) (s : xQ) (tg : tB) (tr : Option (List Nat)) (wt : Option (Nat × (Nat → Nat))) : Prop := okV v ∧ okQ0 s ∧ (∀ k w q, k < 2 → kg k = some (w, q) → okQ0 q) ∧ tg.1 ≤ 42 ∧ (∀ t, tr = some t → t.length ≤ 600) ∧ ∀ t, wt = some t → t.1 ≤ 5
def xCI (A : xH) (v : xV) (f : Nat → Nat) (n : Nat) (e : Int32) (um : Nat) (uv : Nat → xV) (kg : xKp) (s : xQ) (o : Option (Nat → Int32)) (tg : tB) (rn : Option Nat) (ar : Nat → Nat) (tr : Option (List Nat)) (wt : Option (Nat × (Nat → Nat))) : Prop :=
  isM A 8 v ∧ isT A f n ∧ xi A 3 3 = e ∧ uC A v um uv ∧ kpC A kg ∧ qC A 28 s ∧ toC A o ∧ tgC A tg ∧ ccC A v rn ar ∧ kcC A v ∧ plcC A v ∧ twcC A v ∧ gtrC A tr ∧ gwtC A wt
def xUI (A : xH) (v : xV) (f : Nat → Nat) (n : Nat) (e : Int32) (um : Nat) (uv : Nat → xV) (kg : xKp) (s : xQ) (o : Option (Nat → Int32)) (tg : tB) (rn : Option Nat) (ar : Nat → Nat) (tr : Option (List Nat)) (wt : Option (Nat × (Nat → Nat))) : Prop :=
  rr A v ∧ isU A f n ∧ xi A 180 15 = e ∧ uU A v um uv ∧ kpU A kg ∧ qU A s ∧ toU A o ∧ tgU A tg ∧ raU A rn ar ∧ plcU A v ∧ twcU A v ∧ ctcU A v ∧ gtrU A tr ∧ gwtU A wt ∧ resU A
def xI (A : xH) : Prop := ∃ v f n e um uv kg s o tg rn ar tr wt, xGI v kg s tg tr wt ∧ xCI A v f n e um uv kg s o tg rn ar tr wt ∧ xUI A v f n e um uv kg s o tg rn ar tr wt
section FRS
variable {S : Nat → Nat → Prop} {A B : xH} {v : xV} {f : Nat → Nat} {n : Nat} {um : Nat} {uv : Nat → xV} {kg : xKp} {s : xQ} {o : Option (Nat → Int32)} {tg : tB} {rn : Option Nat} {ar : Nat → Nat} {tr : Option (List Nat)} {wt : Option (Nat × (Nat → Nat))}
theorem fM (h : isM A 8 v) (hf : fr S A B) (hs : ∀ c k, S c k → ¬ (8 ≤ c ∧ c ≤ 17)) : isM B 8 v := isM_fr h hf fun c k w => by have := hs c k w; omega
theorem fT (h : isT A f n) (hf : fr S A B) (hs : ∀ c k, S c k → c ≠ 2 ∧ ¬ (c = 1 ∧ k = 1)) : isT B f n := ⟨(fr_i hf fun w => (hs _ _ w).2 ⟨rfl, rfl⟩).trans h.1, h.2.1, fun j hj => by rw [fr_i hf fun w => (hs _ _ w).1 rfl]; exact h.2.2 j hj⟩
theorem fE {x : Int32} {c k : Nat} (h : xi A c k = x) (hf : fr S A B) (hs : ∀ c' k', S c' k' → ¬ (c' = c ∧ k' = k)) : xi B c k = x := (fr_i hf fun w => hs _ _ w ⟨rfl, rfl⟩).trans h
theorem fUC (h : uC A v um uv) (hf : fr S A B) (hs : ∀ c k, S c k → ¬ (74 ≤ c ∧ c ≤ 153) ∧ c ≠ 70 ∧ ¬ (c = 0 ∧ k = 16)) : uC B v um uv := uC_fr h hf fun c k w => by have := hs c k w; unfold SPs; omega
theorem fKC (h : kpC A kg) (hf : fr S A B) (hs : ∀ c k, S c k → ¬ (154 ≤ c ∧ c ≤ 179) ∧ ¬ (c = 0 ∧ k = 17) ∧ c ≠ 71 ∧ c ≠ 72) : kpC B kg := kpC_fr h hf fun c k w => by have := hs c k w; unfold SIm; omega
theorem fQC (h : qC A 28 s) (hf : fr S A B) (hs : ∀ c k, S c k → ¬ (28 ≤ c ∧ c ≤ 30)) : qC B 28 s := isSn_fr h hf fun c k w => by have := hs c k w; omega
theorem fOC (h : toC A o) (hf : fr S A B) (hs : ∀ c k, S c k → ¬ (c = 31 ∧ 3 ≤ k ∧ k ≤ 7)) : toC B o := by
  have e : ∀ k, 3 ≤ k → k ≤ 7 → xi B 31 k = xi A 31 k := fun k a b => fr_i hf fun w => hs _ _ w ⟨rfl, a, b⟩
  cases o with
  | none => exact (e 3 (by omega) (by omega)).trans h
  | some t =>
    obtain ⟨h1, h2, h3, h4, h5⟩ := h
    exact ⟨(e 3 (by omega) (by omega)).trans h1, (e 4 (by omega) (by omega)).trans h2, (e 5 (by omega) (by omega)).trans h3, (e 6 (by omega) (by omega)).trans h4, (e 7 (by omega) (by omega)).trans h5⟩
theorem fGC (h : tgC A tg) (hf : fr S A B) (hs : ∀ c k, S c k → c ≠ 73 ∧ ¬ (c = 0 ∧ k = 18)) : tgC B tg := ⟨(fr_i hf fun w => (hs _ _ w).2 ⟨rfl, rfl⟩).trans h.1, fun k hk => (fr_i hf fun w => (hs _ _ w).1 rfl).trans (h.2 k hk)⟩
theorem fDC (h : kcC A v) (hf : fr S A B) (hs : ∀ c k, S c k → ¬ (35 ≤ c ∧ c ≤ 38)) : kcC B v := by
  have e : ∀ c k, 35 ≤ c → c ≤ 38 → xi B c k = xi A c k := fun c k a b => fr_i hf fun w => hs _ _ w ⟨a, b⟩
  rcases h with h | ⟨h, h1, h2, h3, h4, h5⟩
  · exact Or.inl ((e _ _ (by omega) (by omega)).trans h)
  · exact Or.inr ⟨(e _ _ (by omega) (by omega)).trans h, (e _ _ (by omega) (by omega)).trans h1, (e _ _ (by omega) (by omega)).trans h2, (e _ _ (by omega) (by omega)).trans h3, fun k hk => (e _ _ (by omega) (by omega)).trans (h4 k hk), fun k hk => (e _ _ (by omega) (by omega)).trans (h5 k hk)⟩
theorem fPC (h : plcC A v) (hf : fr S A B) (hs : ∀ c k, S c k → ¬ (39 ≤ c ∧ c ≤ 51)) : plcC B v := by
  have e : ∀ c k, 39 ≤ c → c ≤ 51 → xi B c k = xi A c k := fun c k a b => fr_i hf fun w => hs _ _ w ⟨a, b⟩
  rcases h with h | ⟨h, h1, h2⟩
  · exact Or.inl ((e _ _ (by omega) (by omega)).trans h)
  · refine Or.inr ⟨(e _ _ (by omega) (by omega)).trans h, lsC_fr2 h1 hf hs, fun w => ⟨isST_fr (h2 w).1 hf fun c k q => by have := hs c k q; omega, ?_⟩⟩
    intro p hp
    obtain ⟨g1, g2, g3⟩ := (h2 w).2 p hp
    have el : ∀ c k, 39 ≤ c → c ≤ 51 → xl B c k = xl A c k := fun c k a b => (hf c k fun w => hs _ _ w ⟨a, b⟩).2.1
    unfold ga1 ga2 at *
    rw [e 46 p (by omega) (by omega)]
    refine ⟨g1, fun j hj => ?_, fun j hj => ?_⟩
    · rw [el 44 _ (by omega) (by omega), el 45 _ (by omega) (by omega)]; exact g2 j hj
    · rw [el 44 _ (by omega) (by omega), el 45 _ (by omega) (by omega)]; exact g3 j hj
theorem fRC (h : gtrC A tr) (hf : fr S A B) (hs : ∀ c k, S c k → c ≠ 67 ∧ ¬ (c = 66 ∧ k = 1)) : gtrC B tr := by
  have e : xi B 66 1 = xi A 66 1 := fr_i hf fun w => (hs _ _ w).2 ⟨rfl, rfl⟩
  cases tr with
  | none => exact e.trans h
  | some t => exact ⟨e.trans h.1, ouA_fr h.2 fun k _ => fr_i hf fun w => (hs _ _ w).1 rfl⟩
theorem fWC (h : gwtC A wt) (hf : fr S A B) (hs : ∀ c k, S c k → c ≠ 59 ∧ ¬ (c = 57 ∧ k = 4)) : gwtC B wt := by
  have e : xi B 57 4 = xi A 57 4 := fr_i hf fun w => (hs _ _ w).2 ⟨rfl, rfl⟩
  cases wt with
  | none => exact e.trans h
  | some t => exact ⟨e.trans h.1, fun x hx => (fr_i hf fun w => (hs _ _ w).1 rfl).trans (h.2 x hx)⟩
/-! the reference -/
theorem fU (h : isU A f n) (hf : fr S A B) (hs : ∀ c k, S c k → c ≠ 181 ∧ ¬ (c = 180 ∧ k = 1)) : isU B f n := ⟨(fr_i hf fun w => (hs _ _ w).2 ⟨rfl, rfl⟩).trans h.1, h.2.1, fun j hj => by rw [fr_i hf fun w => (hs _ _ w).1 rfl]; exact h.2.2 j hj⟩
theorem fKU (h : kpU A kg) (hf : fr S A B) (hs : ∀ c k, S c k → ¬ (228 ≤ c ∧ c ≤ 230)) : kpU B kg := kpU_fr h hf fun c k w => by have := hs c k w; unfold SIu; omega
theorem fQU (h : qU A s) (hf : fr S A B) (hs : ∀ c k, S c k → ¬ (c = 182 ∧ 96 ≤ k)) : qU B s := qU_fr h fun k a _ => fr_i hf fun w => hs _ _ w ⟨rfl, a⟩
theorem fOU (h : toU A o) (hf : fr S A B) (hs : ∀ c k, S c k → c ≠ 225 ∧ ¬ (c = 180 ∧ k = 81)) : toU B o := by
  have e : xi B 180 81 = xi A 180 81 := fr_i hf fun w => (hs _ _ w).2 ⟨rfl, rfl⟩
  cases o with
  | none => exact e.trans h
  | some t => exact ⟨e.trans h.1, fun k hk => (fr_i hf fun w => (hs _ _ w).1 rfl).trans (h.2 k hk)⟩
theorem fGU (h : tgU A tg) (hf : fr S A B) (hs : ∀ c k, S c k → c ≠ 224 ∧ ¬ (c = 180 ∧ k = 77)) : tgU B tg := ⟨(fr_i hf fun w => (hs _ _ w).2 ⟨rfl, rfl⟩).trans h.1, fun k hk => (fr_i hf fun w => (hs _ _ w).1 rfl).trans (h.2 k hk)⟩
theorem fAU (h : raU A rn ar) (hf : fr S A B) (hs : ∀ c k, S c k → c ≠ 216 ∧ ¬ (c = 180 ∧ k = 66)) : raU B rn ar := by
  have e : xi B 180 66 = xi A 180 66 := fr_i hf fun w => (hs _ _ w).2 ⟨rfl, rfl⟩
  cases rn with
  | none => exact e.trans h
  | some t => exact ⟨e.trans h.1, h.2.1, fun x hx => ⟨(fr_i hf fun w => (hs _ _ w).1 rfl).trans (h.2.2 x hx).1, (h.2.2 x hx).2⟩⟩
theorem fRU (h : gtrU A tr) (hf : fr S A B) (hs : ∀ c k, S c k → c ≠ 221 ∧ ¬ (c = 180 ∧ k = 73)) : gtrU B tr := by
  have e : xi B 180 73 = xi A 180 73 := fr_i hf fun w => (hs _ _ w).2 ⟨rfl, rfl⟩
  cases tr with
  | none => exact e.trans h
  | some t => exact ⟨e.trans h.1, ouA_fr h.2 fun k _ => fr_i hf fun w => (hs _ _ w).1 rfl⟩
theorem fWU (h : gwtU A wt) (hf : fr S A B) (hs : ∀ c k, S c k → c ≠ 223 ∧ ¬ (c = 180 ∧ k = 75)) : gwtU B wt := by
  have e : xi B 180 75 = xi A 180 75 := fr_i hf fun w => (hs _ _ w).2 ⟨rfl, rfl⟩
  cases wt with
  | none => exact e.trans h
  | some t => exact ⟨e.trans h.1, fun x hx => (fr_i hf fun w => (hs _ _ w).1 rfl).trans (h.2 x hx)⟩
theorem fl_ {c k : Nat} (h : fr S A B) (w : ¬ S c k) : xl B c k = xl A c k := (h c k w).2.1
theorem fSU (h : resU A) (hf : fr S A B) (hs : ∀ c k, S c k → c ≠ 187) : resU B := fun k hk => (fl_ hf fun w => hs _ _ w rfl).trans (h k hk)
theorem ePU (h : plcU A v) (hf : fr S A B) (hs : ∀ c k, S c k → ¬ (195 ≤ c ∧ c ≤ 199) ∧ ¬ (c = 180 ∧ k = 40)) (e : xi B 180 26 = xi A 180 26) : plcU B v := by
  rcases h with h | ⟨h, h1⟩
  · exact Or.inl (e.trans h)
  · exact Or.inr ⟨e.trans h, plDU_fr h1 hf hs⟩
theorem eWU (h : twcU A v) (hf : fr S A B) (hs : ∀ c k, S c k → ¬ (201 ≤ c ∧ c ≤ 205) ∧ ¬ (c = 180 ∧ k = 47)) (e : xi B 180 27 = xi A 180 27) : twcU B v := by
  rcases h with h | ⟨h, h1⟩
  · exact Or.inl (e.trans h)
  · exact Or.inr ⟨e.trans h, twDU_fr h1 hf hs⟩
theorem eCU (h : ctcU A v) (hf : fr S A B) (hs : ∀ c k, S c k → ¬ (210 ≤ c ∧ c ≤ 215)) (e : xi B 180 28 = xi A 180 28) : ctcU B v := by
  rcases h with h | ⟨h, h1⟩
  · exact Or.inl (e.trans h)
  · exact Or.inr ⟨e.trans h, ctU_fr h1 hf hs⟩
end FRS

