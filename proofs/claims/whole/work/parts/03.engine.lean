/-! ===== the abstract machine: heap, frames, judgement ===== -/
abbrev xH : Type := (Nat → Nat → Int32) × (Nat → Nat → Int64) × (Nat → Nat → Option Nat)
abbrev xL : Type := List (Option Value)
abbrev xK : Type := xL → List Value → xH → Prop
abbrev xP : Type := Option Value → xH → Prop
abbrev xSp : Type := List Value → xH → xP → Prop
def xi (A : xH) (c k : Nat) : Int32 := A.1 c k
def xl (A : xH) (c k : Nat) : Int64 := A.2.1 c k
def xr (A : xH) (c k : Nat) : Option Nat := A.2.2 c k
def xsi (A : xH) (c k : Nat) (v : Int32) : xH := (fun d j => if d = c ∧ j = k then v else A.1 d j, A.2.1, A.2.2)
def xsl (A : xH) (c k : Nat) (v : Int64) : xH := (A.1, fun d j => if d = c ∧ j = k then v else A.2.1 d j, A.2.2)
def xsr (A : xH) (c k : Nat) (v : Option Nat) : xH := (A.1, A.2.1, fun d j => if d = c ∧ j = k then v else A.2.2 d j)
/-- the geometry: the tables' numbers, the base, the array classes, the static arrays' addresses -/
abbrev xG : Type := va_G × Nat × (Nat → ClassId) × (Nat → Nat)
def xad (g : xG) (q : Nat) : Nat := if q < 1000 then g.2.1 + q else g.2.2.2 (q - 1000)
def xcv (g : xG) (v : Value) : Value := match v with
  | .ref q => .ref (xad g q)
  | v => v
def xFr (g : xG) : Nat → Prop := fun q => g.2.1 ≤ q
def xfv (g : xG) (A : xH) (q : Nat) (t k : Nat) : Value := match t with
  | 0 => .int (xi A q k)
  | 1 => .long (xl A q k)
  | _ => va_rf ((xr A q k).map (xad g))
def xfs (g : xG) (A : xH) (q ci : Nat) : List Value := (List.range (xNf ci)).map (fun k => xfv g A q ((xkd ci).getD k 0) k)
def xrow (g : xG) (A : xH) (q t : Nat) : (Nat → Int32) ⊕ (Nat → Int64) ⊕ (Nat → UInt32) ⊕ (Nat → UInt64) ⊕ (Nat → Option Nat) :=
  if t = 2 then .inr (.inl (xl A q)) else if t = 5 ∨ t = 6 then .inr (.inr (.inr (.inr (fun k => (xr A q k).map (xad g))))) else .inl (xi A q)
def xen (g : xG) (A : xH) (q : Nat) : va_E := if (xsh q).1 = 0 then .inr ((xsh q).2, xfs g A q (xsh q).2) else .inl (g.2.2.1 (xsh q).1, (xsh q).2, xrow g A q (xsh q).1)
def xws (g : xG) (n : Nat) (A : xH) : va_W := (List.range n).map (fun q => (g.2.1 + q, xen g A q))
def xaty : Nat → FieldType := fun t => match t with
  | 0 => .int
  | 1 => .int
  | 2 => .long
  | 3 => .byte
  | 4 => .boolean
  | 5 => .object RX4
  | _ => .object RX8
def xtys (g : xG) : List (ClassId × FieldType) := (List.range 7).map (fun t => (g.2.2.1 t, xaty t))
def xfin (F : Nat → Prop) (A : xH) : Prop := ∀ q, F q → ∀ k, (xlay q k).isSome = true → xr A q k = xlay q k
def xRel (g : xG) (F : Nat → Prop) (n : Nat) (A : xH) (H : Heap) : Prop := va_P g.1 vwCl (xws g n A) H ∧ (n ≠ xN → H.size = g.2.1 + n) ∧ n ≤ 1000 ∧ xfin F A
def xRES (j : Nat) : Int64 := ([0x7369676E, 0x6B696E64, 0x72756C65, 0x64726F70, 0x6D65726765, 0x6465707468, 0x6F72, 0x616E64, 0x6E6F74, 0x6669727374, 0x6C617374, 0x616C6F6E65, 0x6F66, 0x6E657874, 0x646F74, 0x6E756D626572] : List Int64).getD j 0
def xPOW (j : Nat) : Int32 := ([1, 3, 9, 27, 81, 243] : List Int32).getD j 0
def xNF : List (String × Nat × String × String × String × String) := [("TwinTrees$Tape", 48, "TwinTrees", "RESERVED", "[J", "TwinTrees"), ("TwinTrees$Chart", 85, "TwinTrees", "POWER", "[I", "TwinTrees"), ("TwinTrees$Picker", 60, "TwinTrees", "POWER", "[I", "TwinTrees")]
def xNM : List (String × Nat × MethodName × String) := [("TwinTrees", 9, ⟨"TwinTrees$Tape", "<init>", "()V"⟩, "TwinTrees"), ("TwinTrees$Parser", 17, ⟨"TwinTrees$Sentence", "<init>", "()V"⟩, "TwinTrees"), ("TwinTrees", 37, ⟨"TwinTrees$Sentence", "<init>", "()V"⟩, "TwinTrees"), ("TwinTrees", 44, ⟨"TwinTrees$Book", "<init>", "()V"⟩, "TwinTrees"), ("TwinTrees", 51, ⟨"TwinTrees$Draws", "<init>", "()V"⟩, "TwinTrees"), ("TwinTrees", 58, ⟨"TwinTrees$Kinds", "<init>", "()V"⟩, "TwinTrees"), ("TwinTrees", 65, ⟨"TwinTrees$Places", "<init>", "()V"⟩, "TwinTrees"), ("TwinTrees", 81, ⟨"TwinTrees$Chart", "<init>", "()V"⟩, "TwinTrees")]
/-- what the tables and the statics are, at a state -/
def xKs (g : xG) (U : State) (H : Heap) : Prop :=
  va_K g.1 vwCl (xtys g) U ∧
  (va_Z "TwinTrees" "RESERVED" "[J" (.ref (g.2.2.2 0)) (xFr g) U H ∧ va_T .long (g.2.2.2 0) 16 (fun j => .long (xRES j)) (xFr g) U H) ∧
  (va_Z "TwinTrees" "POWER" "[I" (.ref (g.2.2.2 1)) (xFr g) U H ∧ va_T .int (g.2.2.2 1) 6 (fun j => .int (xPOW j)) (xFr g) U H) ∧
  (∀ x ∈ xNF, va_Nw (.fieldLinkNest x.1 x.2.1 x.2.2.1 x.2.2.2.1 x.2.2.2.2.1 x.2.2.2.2.2) U) ∧ (∀ x ∈ xNM, va_Nw (.methodLinkNest x.1 x.2.1 x.2.2.1 x.2.2.2) U) ∧
  va_AO RX4 U ∧ va_AO RX8 U
theorem xKs_moved {g : xG} {s U : State} {H H1 : Heap} (h : xKs g s H) (hw : s.WarmedH U.vm) (hq : ∀ a : Nat, a < H.size → ¬ xFr g a → H1[a]? = H[a]?) : xKs g U H1 := by
  obtain ⟨h1, ⟨h2, h3⟩, ⟨h4, h5⟩, h6, h7, h8, h9⟩ := h
  have al := hw.alike
  exact ⟨h1.moved al, ⟨(h2.moved al).kept hq, (h3.moved al).kept hq⟩, ⟨(h4.moved al).kept hq, (h5.moved al).kept hq⟩, fun x hx => va_Nw.warmF hw (h6 x hx), fun x hx => va_Nw.warmM hw (h7 x hx), h8.moved al, h9.moved al⟩
theorem xKs_same {g : xG} {s U : State} {H : Heap} (h : xKs g s H) (hv : s.vm = U.vm) : xKs g U H := by
  obtain ⟨h1, ⟨h2, h3⟩, ⟨h4, h5⟩, h6, h7, h8, h9⟩ := h
  have al : s.vm.Alike U.vm := hv ▸ Vm.Alike.refl s.vm
  exact ⟨h1.moved al, ⟨(h2.moved al), (h3.moved al)⟩, ⟨(h4.moved al), (h5.moved al)⟩, fun x hx => va_Nw.same rfl hv (h6 x hx), fun x hx => va_Nw.same rfl hv (h7 x hx), h8.moved al, h9.moved al⟩
/-! locals -/
def xgl (L : xL) (i : Nat) : Option Value := L.getD i none
def xas (g : xG) (L : xL) : List (Nat × Value) := (List.range L.length).filterMap (fun k => (xgl L k).map (fun w => (k, xcv g w)))
def xLs (g : xG) (nL : Nat) (L : xL) (ls : Array Slot) : Prop := lv_has ls nL (xas g L)
/-- storing at a place: what stood there as the second half of a long is gone -/
def xst (L : xL) (i : Nat) (v : Value) : xL := match i with
  | 0 => L.set 0 (some v)
  | j + 1 => match xgl L j with
    | some (.long _) => (L.set j none).set (j + 1) (some v)
    | some (.double _) => (L.set j none).set (j + 1) (some v)
    | _ => L.set (j + 1) (some v)
theorem xas_mem {g : xG} {L : xL} {k : Nat} {v : Value} : (k, v) ∈ xas g L ↔ ∃ w, xgl L k = some w ∧ v = xcv g w := by
  unfold xas
  rw [List.mem_filterMap]
  constructor
  · rintro ⟨j, hj, h⟩
    cases hg : xgl L j with
    | none => rw [hg] at h; cases h
    | some w =>
      rw [hg] at h
      simp only [Option.map_some, Option.some.injEq, Prod.mk.injEq] at h
      obtain ⟨rfl, rfl⟩ := h
      exact ⟨w, hg, rfl⟩
  · rintro ⟨w, hw, rfl⟩
    refine ⟨k, List.mem_range.mpr ?_, by rw [hw]; rfl⟩
    rcases Nat.lt_or_ge k L.length with h | h
    · exact h
    · unfold xgl at hw
      rw [List.getD_eq_getElem?_getD, List.getElem?_eq_none h] at hw
      cases hw
theorem xLs_at {g : xG} {nL : Nat} {L : xL} {ls : Array Slot} (h : xLs g nL L ls) {i : Nat} {v : Value} (hi : xgl L i = some v) : ls[i]? = some (.val (xcv g v)) :=
  h.2.2 (i, xcv g v) (xas_mem.mpr ⟨v, hi, rfl⟩)
theorem xgl_set_ne {L : xL} {i k : Nat} {v : Option Value} (h : k ≠ i) : xgl (L.set i v) k = xgl L k := by
  unfold xgl
  simp only [List.getD_eq_getElem?_getD]
  rw [List.getElem?_set_ne (Ne.symm h)]
theorem xgl_set_some {L : xL} {i : Nat} {v w : Option Value} {x : Value} (h : xgl (L.set i v) i = some x) : v = some x := by
  unfold xgl at h
  rw [List.getD_eq_getElem?_getD, List.getElem?_set] at h
  by_cases hl : i < L.length
  · simp [hl] at h; exact h
  · simp [hl] at h
theorem xst_get {L : xL} {i k : Nat} {v w : Value} (h : xgl (xst L i v) k = some w) : (k = i ∧ w = v) ∨ (k ≠ i ∧ xgl L k = some w ∧ ¬ (k + 1 = i ∧ w.category = 2)) := by
  by_cases hk : k = i
  · subst hk
    refine Or.inl ⟨rfl, ?_⟩
    unfold xst at h
    split at h
    · exact (Option.some.inj (xgl_set_some (w := none) h)).symm
    · split at h
      · exact (Option.some.inj (xgl_set_some (w := none) h)).symm
      · exact (Option.some.inj (xgl_set_some (w := none) h)).symm
      · exact (Option.some.inj (xgl_set_some (w := none) h)).symm
  · refine Or.inr ⟨hk, ?_⟩
    unfold xst at h
    split at h
    · rw [xgl_set_ne hk] at h
      exact ⟨h, fun q => by omega⟩
    · rename_i j
      split at h
      · rename_i y hy
        rw [xgl_set_ne hk] at h
        by_cases hkj : k = j
        · subst hkj
          have := xgl_set_some (w := none) h
          cases this
        · rw [xgl_set_ne hkj] at h
          exact ⟨h, fun q => hkj (by omega)⟩
      · rename_i y hy
        rw [xgl_set_ne hk] at h
        by_cases hkj : k = j
        · subst hkj
          have := xgl_set_some (w := none) h
          cases this
        · rw [xgl_set_ne hkj] at h
          exact ⟨h, fun q => hkj (by omega)⟩
      · rename_i hne hne2
        rw [xgl_set_ne hk] at h
        refine ⟨h, fun q => ?_⟩
        obtain ⟨q1, q2⟩ := q
        have hkj : k = j := by omega
        subst hkj
        cases w with
        | long y => exact hne y h
        | double y => exact hne2 y h
        | _ => simp [Value.category] at q2
theorem xLs_st1 {g : xG} {nL i : Nat} {L : xL} {v : Value} {ls : Array Slot} (h : lv_has ls nL ((i, xcv g v) :: (xas g L).filter (fun q => !(q.1 == i) && !(q.1 + 1 == i && q.2.category == 2)))) : xLs g nL (xst L i v) ls := by
  refine ⟨h.1, h.2.1, fun q hq => ?_⟩
  obtain ⟨k, w⟩ := q
  obtain ⟨w', hw, rfl⟩ := xas_mem.mp hq
  rcases xst_get hw with ⟨rfl, rfl⟩ | ⟨h1, h2, h3⟩
  · exact h.2.2 _ List.mem_cons_self
  · refine h.2.2 _ (List.mem_cons_of_mem _ (List.mem_filter.mpr ⟨xas_mem.mpr ⟨w', h2, rfl⟩, ?_⟩))
    have hc : (xcv g w').category = w'.category := by cases w' <;> rfl
    simp only [Bool.and_eq_true, Bool.not_eq_true', beq_eq_false_iff_ne, ne_eq, Bool.and_eq_false_iff, hc]
    refine ⟨h1, ?_⟩
    by_cases h4 : k + 1 = i
    · exact Or.inr (fun h5 => h3 ⟨h4, h5⟩)
    · exact Or.inl h4
theorem xLs_st2 {g : xG} {nL i : Nat} {L : xL} {v : Value} {ls : Array Slot} (h : lv_has ls nL ((i, xcv g v) :: (xas g L).filter (fun q => !(q.1 == i) && (!(q.1 == i + 1) && !(q.1 + 1 == i && q.2.category == 2))))) : xLs g nL ((xst L i v).set (i + 1) none) ls := by
  refine ⟨h.1, h.2.1, fun q hq => ?_⟩
  obtain ⟨k, w⟩ := q
  obtain ⟨w', hw, rfl⟩ := xas_mem.mp hq
  have hk : k ≠ i + 1 := by
    rintro rfl
    have := xgl_set_some (w := none) hw
    cases this
  rw [xgl_set_ne hk] at hw
  rcases xst_get hw with ⟨rfl, rfl⟩ | ⟨h1, h2, h3⟩
  · exact h.2.2 _ List.mem_cons_self
  · refine h.2.2 _ (List.mem_cons_of_mem _ (List.mem_filter.mpr ⟨xas_mem.mpr ⟨w', h2, rfl⟩, ?_⟩))
    have hc : (xcv g w').category = w'.category := by cases w' <;> rfl
    simp only [Bool.and_eq_true, Bool.not_eq_true', beq_eq_false_iff_ne, ne_eq, Bool.and_eq_false_iff, hc]
    refine ⟨h1, hk, ?_⟩
    by_cases h4 : k + 1 = i
    · exact Or.inr (fun h5 => h3 ⟨h4, h5⟩)
    · exact Or.inl h4
/-! the world out of the heap -/
theorem xws_get {g : xG} {n q : Nat} {A : xH} (h : q < n) : (xws g n A)[q]? = some (g.2.1 + q, xen g A q) := by
  simp [xws, h]
theorem xws_D {g : xG} {n : Nat} {A : xH} : va_D (xFr g) (xws g n A) := by
  have key : ∀ (i : Nat) (q : Nat × va_E), (xws g n A)[i]? = some q → q.1 = g.2.1 + i := by
    intro i q h
    have hi : i < n := by
      have := (List.getElem?_eq_some_iff.mp h).1
      simpa [xws] using this
    rw [xws_get hi] at h
    cases h
    rfl
  refine ⟨fun i j p q hi hj h => ?_, fun k q hk => ?_⟩
  · rw [key i p hi, key j q hj] at h
    omega
  · show g.2.1 ≤ q.1
    rw [key k q hk]
    omega
theorem xws_set {g : xG} {n q : Nat} {A B : xH} {en : va_E} (h : q < n) (h1 : xen g B q = en) (h2 : ∀ k, k ≠ q → xen g B k = xen g A k) : (xws g n A).set q (g.2.1 + q, en) = xws g n B := by
  apply List.ext_getElem?
  intro k
  by_cases hk : k = q
  · subst hk
    rw [List.getElem?_set_self (by simp [xws, h]), xws_get h, h1]
  · rw [List.getElem?_set_ne (Ne.symm hk)]
    by_cases hn : k < n
    · rw [xws_get hn, xws_get hn, h2 k hk]
    · rw [List.getElem?_eq_none (by simp [xws]; omega), List.getElem?_eq_none (by simp [xws]; omega)]
theorem xen_o {g : xG} {A : xH} {q ci : Nat} (h : xsh q = (0, ci)) : xen g A q = .inr (ci, xfs g A q ci) := by simp [xen, h]
theorem xen_a {g : xG} {A : xH} {q t : Nat} (h : (xsh q).1 = t) (ht : t ≠ 0) : xen g A q = .inl (g.2.2.1 t, (xsh q).2, xrow g A q t) := by
  simp [xen, h, ht]
theorem xen_same {g : xG} {A B : xH} {q : Nat} (h1 : A.1 q = B.1 q) (h2 : A.2.1 q = B.2.1 q) (h3 : A.2.2 q = B.2.2 q) : xen g A q = xen g B q := by
  unfold xen xfs xrow xfv xi xl xr
  simp [h1, h2, h3]
def xtn (n q : Nat) : Nat := if q < n then (xsh q).1 else 99
def xob (n q : Nat) : Nat := if q < n ∧ (xsh q).1 = 0 then (xsh q).2 else 99
theorem xtn_lt {n q t : Nat} (h : xtn n q = t) (ht : t ≠ 99) : q < n ∧ (xsh q).1 = t := by
  unfold xtn at h
  by_cases hq : q < n
  · rw [if_pos hq] at h
    exact ⟨hq, h⟩
  · rw [if_neg hq] at h
    exact absurd h.symm ht
theorem xob_lt {n q t : Nat} (h : xob n q = t) (ht : t ≠ 99) : q < n ∧ xsh q = (0, t) := by
  unfold xob at h
  by_cases hq : q < n ∧ (xsh q).1 = 0
  · rw [if_pos hq] at h
    exact ⟨hq.1, Prod.ext hq.2 h⟩
  · rw [if_neg hq] at h
    exact absurd h.symm ht
def xFT : Nat → Prop := fun _ => True
def xius (x y : Int32) : Int32 := (x.toUInt32 >>> (y.toUInt32 &&& Int32.toUInt32 31)).toInt32
def xlus (x : Int64) (y : Int32) : Int64 := (x.toUInt64 >>> (y.toInt64.toUInt64 &&& Int64.toUInt64 63)).toInt64
def xlsl (x : Int64) (y : Int32) : Int64 := x <<< (y.toInt64 &&& 63)
def xlsr (x : Int64) (y : Int32) : Int64 := x >>> (y.toInt64 &&& 63)
/-- the judgement: from every state that K allows at this place, the machine comes to Q -/
def xX (p : Program) (s : State) (m : MethodId) (args : Array Value) (c : Code) (meth : Method) (cc : ByteArray) (own : String) (nL : Nat) (g : xG) : Prop :=
  p.tables.exec = Jvm.exec ∧ c.code = cc ∧ c.maxLocals = nL ∧ s.vm.findClass own = some m.cls ∧ (∀ w ∈ xTS, w.before args s = true) ∧ xKs g s s.heap ∧ meth.locks = false ∧ g.2.1 ≤ s.heap.size
def xAt (p : Program) (l : Launch) (e : Env) (R : Room) (s : State) (m : MethodId) (args : Array Value) (below : List Frame) (meth : Method) (c : Code) (g : xG) (nL : Nat) (F : Nat → Prop) (n cells slots : Nat) (Q : State → Prop) (K : xK) (pc : Nat) : Prop :=
  ∀ (L : xL) (st : List Value) (A : xH) (H : Heap) (locs : List Loc) (ls : Array Slot), K L st A → xRel g F n A H → va_S (xFr g) s.heap H locs → xLs g nL L ls → W p l e R s m args below meth c H locs cells slots Q (F0 m pc ls (st.map (xcv g)))
section XR
variable {p : Program} {l : Launch} {e : Env} {R : Room} {s : State} {m : MethodId} {args : Array Value} {below : List Frame} {meth : Method} {c : Code} {Q : State → Prop} {cc : ByteArray} {own : String} {nL n cells slots pc : Nat} {F : Nat → Prop} {g : xG}
def x_iload (i : Nat) (K : xK) : xK := fun L st A => match xgl L i with
  | some (.int x) => K L (.int x :: st) A
  | _ => False
theorem r_iload_n {k : Fin 4} {i : Nat} {K : xK} (X : xX p s m args c meth cc own nL g) (hd : decode cc pc = .ok (.iload_n k, 1)) (hi : (k : Nat) = i) (h : xAt p l e R s m args below meth c g nL F n cells slots Q (K) (pc + 1)) : xAt p l e R s m args below meth c g nL F n cells slots Q (x_iload i K) (pc) := by
  intro L st A H locs ls hK hR hS hL
  unfold x_iload at hK
  split at hK
  · rename_i x hx
    exact lv_iload_n X.1 X.2.1 hd hi (xLs_at hL hx) (h L _ A H locs ls hK hR hS hL)
  · exact hK.elim
theorem r_iload {i : Nat} {K : xK} (X : xX p s m args c meth cc own nL g) (hd : decode cc pc = .ok (.iload i, 2)) (h : xAt p l e R s m args below meth c g nL F n cells slots Q (K) (pc + 2)) : xAt p l e R s m args below meth c g nL F n cells slots Q (x_iload i K) (pc) := by
  intro L st A H locs ls hK hR hS hL
  unfold x_iload at hK
  split at hK
  · rename_i x hx
    exact lv_iload X.1 X.2.1 hd (xLs_at hL hx) (h L _ A H locs ls hK hR hS hL)
  · exact hK.elim
def x_lload (i : Nat) (K : xK) : xK := fun L st A => match xgl L i with
  | some (.long x) => K L (.long x :: st) A
  | _ => False
theorem r_lload_n {k : Fin 4} {i : Nat} {K : xK} (X : xX p s m args c meth cc own nL g) (hd : decode cc pc = .ok (.lload_n k, 1)) (hi : (k : Nat) = i) (h : xAt p l e R s m args below meth c g nL F n cells slots Q (K) (pc + 1)) : xAt p l e R s m args below meth c g nL F n cells slots Q (x_lload i K) (pc) := by
  intro L st A H locs ls hK hR hS hL
  unfold x_lload at hK
  split at hK
  · rename_i x hx
    exact lv_lload_n X.1 X.2.1 hd hi (xLs_at hL hx) (h L _ A H locs ls hK hR hS hL)
  · exact hK.elim
theorem r_lload {i : Nat} {K : xK} (X : xX p s m args c meth cc own nL g) (hd : decode cc pc = .ok (.lload i, 2)) (h : xAt p l e R s m args below meth c g nL F n cells slots Q (K) (pc + 2)) : xAt p l e R s m args below meth c g nL F n cells slots Q (x_lload i K) (pc) := by
  intro L st A H locs ls hK hR hS hL
  unfold x_lload at hK
  split at hK
  · rename_i x hx
    exact lv_lload X.1 X.2.1 hd (xLs_at hL hx) (h L _ A H locs ls hK hR hS hL)
  · exact hK.elim
def x_aload (i : Nat) (K : xK) : xK := fun L st A => match xgl L i with
  | some (.ref x) => K L (.ref x :: st) A
  | _ => False
theorem r_aload_n {k : Fin 4} {i : Nat} {K : xK} (X : xX p s m args c meth cc own nL g) (hd : decode cc pc = .ok (.aload_n k, 1)) (hi : (k : Nat) = i) (h : xAt p l e R s m args below meth c g nL F n cells slots Q (K) (pc + 1)) : xAt p l e R s m args below meth c g nL F n cells slots Q (x_aload i K) (pc) := by
  intro L st A H locs ls hK hR hS hL
  unfold x_aload at hK
  split at hK
  · rename_i x hx
    exact lv_aload_n X.1 X.2.1 hd hi (xLs_at hL hx) (h L _ A H locs ls hK hR hS hL)
  · exact hK.elim
theorem r_aload {i : Nat} {K : xK} (X : xX p s m args c meth cc own nL g) (hd : decode cc pc = .ok (.aload i, 2)) (h : xAt p l e R s m args below meth c g nL F n cells slots Q (K) (pc + 2)) : xAt p l e R s m args below meth c g nL F n cells slots Q (x_aload i K) (pc) := by
  intro L st A H locs ls hK hR hS hL
  unfold x_aload at hK
  split at hK
  · rename_i x hx
    exact lv_aload X.1 X.2.1 hd (xLs_at hL hx) (h L _ A H locs ls hK hR hS hL)
  · exact hK.elim
def x_istore (i : Nat) (K : xK) : xK := fun L st A => match st with
  | .int x :: r => K (xst L i (.int x)) r A
  | _ => False
theorem r_istore_n {k : Fin 4} {i : Nat} {K : xK} (X : xX p s m args c meth cc own nL g) (hd : decode cc pc = .ok (.istore_n k, 1)) (hi : (k : Nat) = i) (hn : i + 0 < nL) (h : xAt p l e R s m args below meth c g nL F n cells slots Q (K) (pc + 1)) : xAt p l e R s m args below meth c g nL F n cells slots Q (x_istore i K) (pc) := by
  intro L st A H locs ls hK hR hS hL
  unfold x_istore at hK
  split at hK
  · rename_i x r
    exact lv_istore_n X.1 X.2.1 hd hi hL hn rfl (fun ls' hl => h _ _ A H locs ls' hK hR hS (xLs_st1 hl))
  · exact hK.elim
theorem r_istore {i : Nat} {K : xK} (X : xX p s m args c meth cc own nL g) (hd : decode cc pc = .ok (.istore i, 2)) (hn : i + 0 < nL) (h : xAt p l e R s m args below meth c g nL F n cells slots Q (K) (pc + 2)) : xAt p l e R s m args below meth c g nL F n cells slots Q (x_istore i K) (pc) := by
  intro L st A H locs ls hK hR hS hL
  unfold x_istore at hK
  split at hK
  · rename_i x r
    exact lv_istore X.1 X.2.1 hd hL hn rfl (fun ls' hl => h _ _ A H locs ls' hK hR hS (xLs_st1 hl))
  · exact hK.elim
def x_astore (i : Nat) (K : xK) : xK := fun L st A => match st with
  | .ref x :: r => K (xst L i (.ref x)) r A
  | _ => False
theorem r_astore_n {k : Fin 4} {i : Nat} {K : xK} (X : xX p s m args c meth cc own nL g) (hd : decode cc pc = .ok (.astore_n k, 1)) (hi : (k : Nat) = i) (hn : i + 0 < nL) (h : xAt p l e R s m args below meth c g nL F n cells slots Q (K) (pc + 1)) : xAt p l e R s m args below meth c g nL F n cells slots Q (x_astore i K) (pc) := by
  intro L st A H locs ls hK hR hS hL
  unfold x_astore at hK
  split at hK
  · rename_i x r
    exact lv_astore_n X.1 X.2.1 hd hi hL hn rfl (fun ls' hl => h _ _ A H locs ls' hK hR hS (xLs_st1 hl))
  · exact hK.elim
theorem r_astore {i : Nat} {K : xK} (X : xX p s m args c meth cc own nL g) (hd : decode cc pc = .ok (.astore i, 2)) (hn : i + 0 < nL) (h : xAt p l e R s m args below meth c g nL F n cells slots Q (K) (pc + 2)) : xAt p l e R s m args below meth c g nL F n cells slots Q (x_astore i K) (pc) := by
  intro L st A H locs ls hK hR hS hL
  unfold x_astore at hK
  split at hK
  · rename_i x r
    exact lv_astore X.1 X.2.1 hd hL hn rfl (fun ls' hl => h _ _ A H locs ls' hK hR hS (xLs_st1 hl))
  · exact hK.elim
def x_lstore (i : Nat) (K : xK) : xK := fun L st A => match st with
  | .long x :: r => K ((xst L i (.long x)).set (i + 1) none) r A
  | _ => False
theorem r_lstore_n {k : Fin 4} {i : Nat} {K : xK} (X : xX p s m args c meth cc own nL g) (hd : decode cc pc = .ok (.lstore_n k, 1)) (hi : (k : Nat) = i) (hn : i + 1 < nL) (h : xAt p l e R s m args below meth c g nL F n cells slots Q (K) (pc + 1)) : xAt p l e R s m args below meth c g nL F n cells slots Q (x_lstore i K) (pc) := by
  intro L st A H locs ls hK hR hS hL
  unfold x_lstore at hK
  split at hK
  · rename_i x r
    exact lv_lstore_n X.1 X.2.1 hd hi hL hn rfl (fun ls' hl => h _ _ A H locs ls' hK hR hS (xLs_st2 hl))
  · exact hK.elim
theorem r_lstore {i : Nat} {K : xK} (X : xX p s m args c meth cc own nL g) (hd : decode cc pc = .ok (.lstore i, 2)) (hn : i + 1 < nL) (h : xAt p l e R s m args below meth c g nL F n cells slots Q (K) (pc + 2)) : xAt p l e R s m args below meth c g nL F n cells slots Q (x_lstore i K) (pc) := by
  intro L st A H locs ls hK hR hS hL
  unfold x_lstore at hK
  split at hK
  · rename_i x r
    exact lv_lstore X.1 X.2.1 hd hL hn rfl (fun ls' hl => h _ _ A H locs ls' hK hR hS (xLs_st2 hl))
  · exact hK.elim
def x_push (v : Value) (K : xK) : xK := fun L st A => K L (v :: st) A
theorem r_iconst {k : Int} {v : Int32} {K : xK} (X : xX p s m args c meth cc own nL g) (hd : decode cc pc = .ok (.iconst k, 1)) (hv : Int32.ofInt k = v) (h : xAt p l e R s m args below meth c g nL F n cells slots Q (K) (pc + 1)) : xAt p l e R s m args below meth c g nL F n cells slots Q (x_push (.int v) K) (pc) := by
  intro L st A H locs ls hK hR hS hL
  exact lv_iconst X.1 X.2.1 hd hv (h L _ A H locs ls hK hR hS hL)
theorem r_bipush {k : Int} {v : Int32} {K : xK} (X : xX p s m args c meth cc own nL g) (hd : decode cc pc = .ok (.bipush k, 2)) (hv : (Int8.ofInt k).toInt32 = v) (h : xAt p l e R s m args below meth c g nL F n cells slots Q (K) (pc + 2)) : xAt p l e R s m args below meth c g nL F n cells slots Q (x_push (.int v) K) (pc) := by
  intro L st A H locs ls hK hR hS hL
  exact lv_bipush X.1 X.2.1 hd hv (h L _ A H locs ls hK hR hS hL)
theorem r_sipush {k : Int} {v : Int32} {K : xK} (X : xX p s m args c meth cc own nL g) (hd : decode cc pc = .ok (.sipush k, 3)) (hv : (Int16.ofInt k).toInt32 = v) (h : xAt p l e R s m args below meth c g nL F n cells slots Q (K) (pc + 3)) : xAt p l e R s m args below meth c g nL F n cells slots Q (x_push (.int v) K) (pc) := by
  intro L st A H locs ls hK hR hS hL
  exact lv_sipush X.1 X.2.1 hd hv (h L _ A H locs ls hK hR hS hL)
theorem r_lconst {k : Fin 2} {v : Int64} {K : xK} (X : xX p s m args c meth cc own nL g) (hd : decode cc pc = .ok (.lconst k, 1)) (hv : Int64.ofNat (k : Nat) = v) (h : xAt p l e R s m args below meth c g nL F n cells slots Q (K) (pc + 1)) : xAt p l e R s m args below meth c g nL F n cells slots Q (x_push (.long v) K) (pc) := by
  intro L st A H locs ls hK hR hS hL
  exact lv_lconst X.1 X.2.1 hd hv (h L _ A H locs ls hK hR hS hL)
theorem r_ldc {index : Nat} {v : Int32} {K : xK} (X : xX p s m args c meth cc own nL g) (hw : Cond.constant own index v ∈ xTS) (hd : decode cc pc = .ok (.ldc index, 2)) (h : xAt p l e R s m args below meth c g nL F n cells slots Q (K) (pc + 2)) : xAt p l e R s m args below meth c g nL F n cells slots Q (x_push (.int v) K) (pc) := by
  intro L st A H locs ls hK hR hS hL
  exact lv_ldc X.1 X.2.1 X.2.2.2.1 (X.2.2.2.2.1 _ hw) hd (h L _ A H locs ls hK hR hS hL)
theorem r_ldcw {index : Nat} {v : Int32} {K : xK} (X : xX p s m args c meth cc own nL g) (hw : Cond.constant own index v ∈ xTS) (hd : decode cc pc = .ok (.ldc_w index, 3)) (h : xAt p l e R s m args below meth c g nL F n cells slots Q (K) (pc + 3)) : xAt p l e R s m args below meth c g nL F n cells slots Q (x_push (.int v) K) (pc) := by
  intro L st A H locs ls hK hR hS hL
  exact lv_ldcw X.1 X.2.1 X.2.2.2.1 (X.2.2.2.2.1 _ hw) hd (h L _ A H locs ls hK hR hS hL)
theorem r_ldc2 {index : Nat} {v : Int64} {K : xK} (X : xX p s m args c meth cc own nL g) (hw : Cond.constantLong own index v ∈ xTS) (hd : decode cc pc = .ok (.ldc2_w index, 3)) (h : xAt p l e R s m args below meth c g nL F n cells slots Q (K) (pc + 3)) : xAt p l e R s m args below meth c g nL F n cells slots Q (x_push (.long v) K) (pc) := by
  intro L st A H locs ls hK hR hS hL
  exact lv_ldc2 X.1 X.2.1 X.2.2.2.1 (X.2.2.2.2.1 _ hw) hd (h L _ A H locs ls hK hR hS hL)
def x_iadd (K : xK) : xK := fun L st A => match st with
  | .int y :: .int x :: r => K L (.int (x + y) :: r) A
  | _ => False
theorem r_iadd {K : xK} (X : xX p s m args c meth cc own nL g) (hd : decode cc pc = .ok (.iadd, 1)) (h : xAt p l e R s m args below meth c g nL F n cells slots Q (K) (pc + 1)) : xAt p l e R s m args below meth c g nL F n cells slots Q (x_iadd K) (pc) := by
  intro L st A H locs ls hK hR hS hL
  unfold x_iadd at hK
  split at hK
  · exact lv_iadd X.1 X.2.1 hd (h L _ A H locs ls hK hR hS hL)
  · exact hK.elim
def x_isub (K : xK) : xK := fun L st A => match st with
  | .int y :: .int x :: r => K L (.int (x - y) :: r) A
  | _ => False
theorem r_isub {K : xK} (X : xX p s m args c meth cc own nL g) (hd : decode cc pc = .ok (.isub, 1)) (h : xAt p l e R s m args below meth c g nL F n cells slots Q (K) (pc + 1)) : xAt p l e R s m args below meth c g nL F n cells slots Q (x_isub K) (pc) := by
  intro L st A H locs ls hK hR hS hL
  unfold x_isub at hK
  split at hK
  · exact lv_isub X.1 X.2.1 hd (h L _ A H locs ls hK hR hS hL)
  · exact hK.elim
def x_imul (K : xK) : xK := fun L st A => match st with
  | .int y :: .int x :: r => K L (.int (x * y) :: r) A
  | _ => False
theorem r_imul {K : xK} (X : xX p s m args c meth cc own nL g) (hd : decode cc pc = .ok (.imul, 1)) (h : xAt p l e R s m args below meth c g nL F n cells slots Q (K) (pc + 1)) : xAt p l e R s m args below meth c g nL F n cells slots Q (x_imul K) (pc) := by
  intro L st A H locs ls hK hR hS hL
  unfold x_imul at hK
  split at hK
  · exact lv_imul X.1 X.2.1 hd (h L _ A H locs ls hK hR hS hL)
  · exact hK.elim
def x_iand (K : xK) : xK := fun L st A => match st with
  | .int y :: .int x :: r => K L (.int (x &&& y) :: r) A
  | _ => False
theorem r_iand {K : xK} (X : xX p s m args c meth cc own nL g) (hd : decode cc pc = .ok (.iand, 1)) (h : xAt p l e R s m args below meth c g nL F n cells slots Q (K) (pc + 1)) : xAt p l e R s m args below meth c g nL F n cells slots Q (x_iand K) (pc) := by
  intro L st A H locs ls hK hR hS hL
  unfold x_iand at hK
  split at hK
  · exact lv_iand X.1 X.2.1 hd (h L _ A H locs ls hK hR hS hL)
  · exact hK.elim
def x_ior (K : xK) : xK := fun L st A => match st with
  | .int y :: .int x :: r => K L (.int (x ||| y) :: r) A
  | _ => False
theorem r_ior {K : xK} (X : xX p s m args c meth cc own nL g) (hd : decode cc pc = .ok (.ior, 1)) (h : xAt p l e R s m args below meth c g nL F n cells slots Q (K) (pc + 1)) : xAt p l e R s m args below meth c g nL F n cells slots Q (x_ior K) (pc) := by
  intro L st A H locs ls hK hR hS hL
  unfold x_ior at hK
  split at hK
  · exact lv_ior X.1 X.2.1 hd (h L _ A H locs ls hK hR hS hL)
  · exact hK.elim
def x_ixor (K : xK) : xK := fun L st A => match st with
  | .int y :: .int x :: r => K L (.int (x ^^^ y) :: r) A
  | _ => False
theorem r_ixor {K : xK} (X : xX p s m args c meth cc own nL g) (hd : decode cc pc = .ok (.ixor, 1)) (h : xAt p l e R s m args below meth c g nL F n cells slots Q (K) (pc + 1)) : xAt p l e R s m args below meth c g nL F n cells slots Q (x_ixor K) (pc) := by
  intro L st A H locs ls hK hR hS hL
  unfold x_ixor at hK
  split at hK
  · exact lv_ixor X.1 X.2.1 hd (h L _ A H locs ls hK hR hS hL)
  · exact hK.elim
def x_ishl (K : xK) : xK := fun L st A => match st with
  | .int y :: .int x :: r => K L (.int (x <<< (y &&& 31)) :: r) A
  | _ => False
theorem r_ishl {K : xK} (X : xX p s m args c meth cc own nL g) (hd : decode cc pc = .ok (.ishl, 1)) (h : xAt p l e R s m args below meth c g nL F n cells slots Q (K) (pc + 1)) : xAt p l e R s m args below meth c g nL F n cells slots Q (x_ishl K) (pc) := by
  intro L st A H locs ls hK hR hS hL
  unfold x_ishl at hK
  split at hK
  · exact lv_ishl X.1 X.2.1 hd (h L _ A H locs ls hK hR hS hL)
  · exact hK.elim
def x_ishr (K : xK) : xK := fun L st A => match st with
  | .int y :: .int x :: r => K L (.int (x >>> (y &&& 31)) :: r) A
  | _ => False
theorem r_ishr {K : xK} (X : xX p s m args c meth cc own nL g) (hd : decode cc pc = .ok (.ishr, 1)) (h : xAt p l e R s m args below meth c g nL F n cells slots Q (K) (pc + 1)) : xAt p l e R s m args below meth c g nL F n cells slots Q (x_ishr K) (pc) := by
  intro L st A H locs ls hK hR hS hL
  unfold x_ishr at hK
  split at hK
  · exact lv_ishr X.1 X.2.1 hd (h L _ A H locs ls hK hR hS hL)
  · exact hK.elim
def x_ladd (K : xK) : xK := fun L st A => match st with
  | .long y :: .long x :: r => K L (.long (x + y) :: r) A
  | _ => False
theorem r_ladd {K : xK} (X : xX p s m args c meth cc own nL g) (hd : decode cc pc = .ok (.ladd, 1)) (h : xAt p l e R s m args below meth c g nL F n cells slots Q (K) (pc + 1)) : xAt p l e R s m args below meth c g nL F n cells slots Q (x_ladd K) (pc) := by
  intro L st A H locs ls hK hR hS hL
  unfold x_ladd at hK
  split at hK
  · exact lv_ladd X.1 X.2.1 hd (h L _ A H locs ls hK hR hS hL)
  · exact hK.elim
def x_lsub (K : xK) : xK := fun L st A => match st with
  | .long y :: .long x :: r => K L (.long (x - y) :: r) A
  | _ => False
theorem r_lsub {K : xK} (X : xX p s m args c meth cc own nL g) (hd : decode cc pc = .ok (.lsub, 1)) (h : xAt p l e R s m args below meth c g nL F n cells slots Q (K) (pc + 1)) : xAt p l e R s m args below meth c g nL F n cells slots Q (x_lsub K) (pc) := by
  intro L st A H locs ls hK hR hS hL
  unfold x_lsub at hK
  split at hK
  · exact lv_lsub X.1 X.2.1 hd (h L _ A H locs ls hK hR hS hL)
  · exact hK.elim
def x_lmul (K : xK) : xK := fun L st A => match st with
  | .long y :: .long x :: r => K L (.long (x * y) :: r) A
  | _ => False
theorem r_lmul {K : xK} (X : xX p s m args c meth cc own nL g) (hd : decode cc pc = .ok (.lmul, 1)) (h : xAt p l e R s m args below meth c g nL F n cells slots Q (K) (pc + 1)) : xAt p l e R s m args below meth c g nL F n cells slots Q (x_lmul K) (pc) := by
  intro L st A H locs ls hK hR hS hL
  unfold x_lmul at hK
  split at hK
  · exact lv_lmul X.1 X.2.1 hd (h L _ A H locs ls hK hR hS hL)
  · exact hK.elim
def x_land (K : xK) : xK := fun L st A => match st with
  | .long y :: .long x :: r => K L (.long (x &&& y) :: r) A
  | _ => False
theorem r_land {K : xK} (X : xX p s m args c meth cc own nL g) (hd : decode cc pc = .ok (.land, 1)) (h : xAt p l e R s m args below meth c g nL F n cells slots Q (K) (pc + 1)) : xAt p l e R s m args below meth c g nL F n cells slots Q (x_land K) (pc) := by
  intro L st A H locs ls hK hR hS hL
  unfold x_land at hK
  split at hK
  · exact lv_land X.1 X.2.1 hd (h L _ A H locs ls hK hR hS hL)
  · exact hK.elim
def x_lor (K : xK) : xK := fun L st A => match st with
  | .long y :: .long x :: r => K L (.long (x ||| y) :: r) A
  | _ => False
theorem r_lor {K : xK} (X : xX p s m args c meth cc own nL g) (hd : decode cc pc = .ok (.lor, 1)) (h : xAt p l e R s m args below meth c g nL F n cells slots Q (K) (pc + 1)) : xAt p l e R s m args below meth c g nL F n cells slots Q (x_lor K) (pc) := by
  intro L st A H locs ls hK hR hS hL
  unfold x_lor at hK
  split at hK
  · exact lv_lor X.1 X.2.1 hd (h L _ A H locs ls hK hR hS hL)
  · exact hK.elim
def x_lxor (K : xK) : xK := fun L st A => match st with
  | .long y :: .long x :: r => K L (.long (x ^^^ y) :: r) A
  | _ => False
theorem r_lxor {K : xK} (X : xX p s m args c meth cc own nL g) (hd : decode cc pc = .ok (.lxor, 1)) (h : xAt p l e R s m args below meth c g nL F n cells slots Q (K) (pc + 1)) : xAt p l e R s m args below meth c g nL F n cells slots Q (x_lxor K) (pc) := by
  intro L st A H locs ls hK hR hS hL
  unfold x_lxor at hK
  split at hK
  · exact lv_lxor X.1 X.2.1 hd (h L _ A H locs ls hK hR hS hL)
  · exact hK.elim
def x_iushr (K : xK) : xK := fun L st A => match st with
  | .int y :: .int x :: r => K L (.int (xius x y) :: r) A
  | _ => False
theorem r_iushr {K : xK} (X : xX p s m args c meth cc own nL g) (hd : decode cc pc = .ok (.iushr, 1)) (h : xAt p l e R s m args below meth c g nL F n cells slots Q (K) (pc + 1)) : xAt p l e R s m args below meth c g nL F n cells slots Q (x_iushr K) (pc) := by
  intro L st A H locs ls hK hR hS hL
  unfold x_iushr at hK
  split at hK
  · exact lv_iushr X.1 X.2.1 hd rfl (h L _ A H locs ls hK hR hS hL)
  · exact hK.elim
def x_lushr (K : xK) : xK := fun L st A => match st with
  | .int y :: .long x :: r => K L (.long (xlus x y) :: r) A
  | _ => False
theorem r_lushr {K : xK} (X : xX p s m args c meth cc own nL g) (hd : decode cc pc = .ok (.lushr, 1)) (h : xAt p l e R s m args below meth c g nL F n cells slots Q (K) (pc + 1)) : xAt p l e R s m args below meth c g nL F n cells slots Q (x_lushr K) (pc) := by
  intro L st A H locs ls hK hR hS hL
  unfold x_lushr at hK
  split at hK
  · exact lv_lushr X.1 X.2.1 hd rfl (h L _ A H locs ls hK hR hS hL)
  · exact hK.elim
def x_lshl (K : xK) : xK := fun L st A => match st with
  | .int y :: .long x :: r => K L (.long (xlsl x y) :: r) A
  | _ => False
theorem r_lshl {K : xK} (X : xX p s m args c meth cc own nL g) (hd : decode cc pc = .ok (.lshl, 1)) (h : xAt p l e R s m args below meth c g nL F n cells slots Q (K) (pc + 1)) : xAt p l e R s m args below meth c g nL F n cells slots Q (x_lshl K) (pc) := by
  intro L st A H locs ls hK hR hS hL
  unfold x_lshl at hK
  split at hK
  · exact lv_lshl X.1 X.2.1 hd rfl (h L _ A H locs ls hK hR hS hL)
  · exact hK.elim
def x_lshr (K : xK) : xK := fun L st A => match st with
  | .int y :: .long x :: r => K L (.long (xlsr x y) :: r) A
  | _ => False
theorem r_lshr {K : xK} (X : xX p s m args c meth cc own nL g) (hd : decode cc pc = .ok (.lshr, 1)) (h : xAt p l e R s m args below meth c g nL F n cells slots Q (K) (pc + 1)) : xAt p l e R s m args below meth c g nL F n cells slots Q (x_lshr K) (pc) := by
  intro L st A H locs ls hK hR hS hL
  unfold x_lshr at hK
  split at hK
  · exact lv_lshr X.1 X.2.1 hd rfl (h L _ A H locs ls hK hR hS hL)
  · exact hK.elim
def x_lcmp (K : xK) : xK := fun L st A => match st with
  | .long y :: .long x :: r => K L (.int (lg_cmp x y) :: r) A
  | _ => False
theorem r_lcmp {K : xK} (X : xX p s m args c meth cc own nL g) (hd : decode cc pc = .ok (.lcmp, 1)) (h : xAt p l e R s m args below meth c g nL F n cells slots Q (K) (pc + 1)) : xAt p l e R s m args below meth c g nL F n cells slots Q (x_lcmp K) (pc) := by
  intro L st A H locs ls hK hR hS hL
  unfold x_lcmp at hK
  split at hK
  · exact W.lcmp X.1 X.2.1 hd (h L _ A H locs ls hK hR hS hL)
  · exact hK.elim
def x_idiv (K : xK) : xK := fun L st A => match st with
  | .int y :: .int x :: r => y ≠ 0 ∧ K L (.int (x / y) :: r) A
  | _ => False
theorem r_idiv {K : xK} (X : xX p s m args c meth cc own nL g) (hd : decode cc pc = .ok (.idiv, 1)) (h : xAt p l e R s m args below meth c g nL F n cells slots Q (K) (pc + 1)) : xAt p l e R s m args below meth c g nL F n cells slots Q (x_idiv K) (pc) := by
  intro L st A H locs ls hK hR hS hL
  unfold x_idiv at hK
  split at hK
  · exact lv_idiv X.1 X.2.1 hd hK.1 (h L _ A H locs ls hK.2 hR hS hL)
  · exact hK.elim
def x_irem (K : xK) : xK := fun L st A => match st with
  | .int y :: .int x :: r => y ≠ 0 ∧ K L (.int (x - x / y * y) :: r) A
  | _ => False
theorem r_irem {K : xK} (X : xX p s m args c meth cc own nL g) (hd : decode cc pc = .ok (.irem, 1)) (h : xAt p l e R s m args below meth c g nL F n cells slots Q (K) (pc + 1)) : xAt p l e R s m args below meth c g nL F n cells slots Q (x_irem K) (pc) := by
  intro L st A H locs ls hK hR hS hL
  unfold x_irem at hK
  split at hK
  · exact lv_irem X.1 X.2.1 hd hK.1 (h L _ A H locs ls hK.2 hR hS hL)
  · exact hK.elim
def x_lneg (K : xK) : xK := fun L st A => match st with
  | .long x :: r => K L (.long (-x) :: r) A
  | _ => False
theorem r_lneg {K : xK} (X : xX p s m args c meth cc own nL g) (hd : decode cc pc = .ok (.lneg, 1)) (h : xAt p l e R s m args below meth c g nL F n cells slots Q (K) (pc + 1)) : xAt p l e R s m args below meth c g nL F n cells slots Q (x_lneg K) (pc) := by
  intro L st A H locs ls hK hR hS hL
  unfold x_lneg at hK
  split at hK
  · exact lv_lneg X.1 X.2.1 hd (h L _ A H locs ls hK hR hS hL)
  · exact hK.elim
def x_i2l (K : xK) : xK := fun L st A => match st with
  | .int x :: r => K L (.long (x.toInt64) :: r) A
  | _ => False
theorem r_i2l {K : xK} (X : xX p s m args c meth cc own nL g) (hd : decode cc pc = .ok (.i2l, 1)) (h : xAt p l e R s m args below meth c g nL F n cells slots Q (K) (pc + 1)) : xAt p l e R s m args below meth c g nL F n cells slots Q (x_i2l K) (pc) := by
  intro L st A H locs ls hK hR hS hL
  unfold x_i2l at hK
  split at hK
  · exact lv_i2l X.1 X.2.1 hd rfl (h L _ A H locs ls hK hR hS hL)
  · exact hK.elim
def x_l2i (K : xK) : xK := fun L st A => match st with
  | .long x :: r => K L (.int (x.toInt32) :: r) A
  | _ => False
theorem r_l2i {K : xK} (X : xX p s m args c meth cc own nL g) (hd : decode cc pc = .ok (.l2i, 1)) (h : xAt p l e R s m args below meth c g nL F n cells slots Q (K) (pc + 1)) : xAt p l e R s m args below meth c g nL F n cells slots Q (x_l2i K) (pc) := by
  intro L st A H locs ls hK hR hS hL
  unfold x_l2i at hK
  split at hK
  · exact lv_l2i X.1 X.2.1 hd rfl (h L _ A H locs ls hK hR hS hL)
  · exact hK.elim
def x_i2b (K : xK) : xK := fun L st A => match st with
  | .int x :: r => K L (.int (x.toInt8.toInt32) :: r) A
  | _ => False
theorem r_i2b {K : xK} (X : xX p s m args c meth cc own nL g) (hd : decode cc pc = .ok (.i2b, 1)) (h : xAt p l e R s m args below meth c g nL F n cells slots Q (K) (pc + 1)) : xAt p l e R s m args below meth c g nL F n cells slots Q (x_i2b K) (pc) := by
  intro L st A H locs ls hK hR hS hL
  unfold x_i2b at hK
  split at hK
  · exact lv_i2b X.1 X.2.1 hd rfl (h L _ A H locs ls hK hR hS hL)
  · exact hK.elim
def x_dup (K : xK) : xK := fun L st A => match st with
  | .int x :: r => K L (.int x :: .int x :: r) A
  | .ref x :: r => K L (.ref x :: .ref x :: r) A
  | _ => False
theorem r_dup {K : xK} (X : xX p s m args c meth cc own nL g) (hd : decode cc pc = .ok (.dup, 1)) (h : xAt p l e R s m args below meth c g nL F n cells slots Q (K) (pc + 1)) : xAt p l e R s m args below meth c g nL F n cells slots Q (x_dup K) (pc) := by
  intro L st A H locs ls hK hR hS hL
  unfold x_dup at hK
  split at hK
  · exact lv_dup X.1 X.2.1 hd rfl (h L _ A H locs ls hK hR hS hL)
  · exact lv_dup X.1 X.2.1 hd rfl (h L _ A H locs ls hK hR hS hL)
  · exact hK.elim
def x_dup2 (K : xK) : xK := fun L st A => match st with
  | .int x :: .ref y :: r => K L (.int x :: .ref y :: .int x :: .ref y :: r) A
  | _ => False
theorem r_dup2 {K : xK} (X : xX p s m args c meth cc own nL g) (hd : decode cc pc = .ok (.dup2, 1)) (h : xAt p l e R s m args below meth c g nL F n cells slots Q (K) (pc + 1)) : xAt p l e R s m args below meth c g nL F n cells slots Q (x_dup2 K) (pc) := by
  intro L st A H locs ls hK hR hS hL
  unfold x_dup2 at hK
  split at hK
  · exact lv_dup2_11 X.1 X.2.1 hd rfl rfl (h L _ A H locs ls hK hR hS hL)
  · exact hK.elim
def x_pop (K : xK) : xK := fun L st A => match st with
  | .int _ :: r => K L r A
  | _ => False
theorem r_pop {K : xK} (X : xX p s m args c meth cc own nL g) (hd : decode cc pc = .ok (.pop, 1)) (h : xAt p l e R s m args below meth c g nL F n cells slots Q (K) (pc + 1)) : xAt p l e R s m args below meth c g nL F n cells slots Q (x_pop K) (pc) := by
  intro L st A H locs ls hK hR hS hL
  unfold x_pop at hK
  split at hK
  · exact lv_pop X.1 X.2.1 hd rfl (h L _ A H locs ls hK hR hS hL)
  · exact hK.elim
def x_if_eq (K1 K2 : xK) : xK := fun L st A => match st with
  | .int x :: r => (x = 0 → K1 L r A) ∧ (¬ x = 0 → K2 L r A)
  | _ => False
theorem r_if_eq {K1 K2 : xK} {off : Int} {tgt : Nat} (X : xX p s m args c meth cc own nL g) (hd : decode cc pc = .ok (.ifCond .eq off, 3)) (ht : (pc : Int) + off = (tgt : Int)) (h1 : xAt p l e R s m args below meth c g nL F n cells slots Q (K1) (tgt)) (h2 : xAt p l e R s m args below meth c g nL F n cells slots Q (K2) (pc + 3)) : xAt p l e R s m args below meth c g nL F n cells slots Q (x_if_eq K1 K2) (pc) := by
  intro L st A H locs ls hK hR hS hL
  unfold x_if_eq at hK
  split at hK
  · exact lv_if_eq X.1 X.2.1 hd ht (fun hc => h1 L _ A H locs ls (hK.1 hc) hR hS hL) (fun hc => h2 L _ A H locs ls (hK.2 hc) hR hS hL)
  · exact hK.elim
def x_icmp_eq (K1 K2 : xK) : xK := fun L st A => match st with
  | .int y :: .int x :: r => (x = y → K1 L r A) ∧ (¬ x = y → K2 L r A)
  | _ => False
theorem r_icmp_eq {K1 K2 : xK} {off : Int} {tgt : Nat} (X : xX p s m args c meth cc own nL g) (hd : decode cc pc = .ok (.if_icmp .eq off, 3)) (ht : (pc : Int) + off = (tgt : Int)) (h1 : xAt p l e R s m args below meth c g nL F n cells slots Q (K1) (tgt)) (h2 : xAt p l e R s m args below meth c g nL F n cells slots Q (K2) (pc + 3)) : xAt p l e R s m args below meth c g nL F n cells slots Q (x_icmp_eq K1 K2) (pc) := by
  intro L st A H locs ls hK hR hS hL
  unfold x_icmp_eq at hK
  split at hK
  · exact lv_icmp_eq X.1 X.2.1 hd ht (fun hc => h1 L _ A H locs ls (hK.1 hc) hR hS hL) (fun hc => h2 L _ A H locs ls (hK.2 hc) hR hS hL)
  · exact hK.elim
def x_if_ne (K1 K2 : xK) : xK := fun L st A => match st with
  | .int x :: r => (x ≠ 0 → K1 L r A) ∧ (x = 0 → K2 L r A)
  | _ => False
theorem r_if_ne {K1 K2 : xK} {off : Int} {tgt : Nat} (X : xX p s m args c meth cc own nL g) (hd : decode cc pc = .ok (.ifCond .ne off, 3)) (ht : (pc : Int) + off = (tgt : Int)) (h1 : xAt p l e R s m args below meth c g nL F n cells slots Q (K1) (tgt)) (h2 : xAt p l e R s m args below meth c g nL F n cells slots Q (K2) (pc + 3)) : xAt p l e R s m args below meth c g nL F n cells slots Q (x_if_ne K1 K2) (pc) := by
  intro L st A H locs ls hK hR hS hL
  unfold x_if_ne at hK
  split at hK
  · exact lv_if_ne X.1 X.2.1 hd ht (fun hc => h1 L _ A H locs ls (hK.1 hc) hR hS hL) (fun hc => h2 L _ A H locs ls (hK.2 hc) hR hS hL)
  · exact hK.elim
def x_icmp_ne (K1 K2 : xK) : xK := fun L st A => match st with
  | .int y :: .int x :: r => (x ≠ y → K1 L r A) ∧ (x = y → K2 L r A)
  | _ => False
theorem r_icmp_ne {K1 K2 : xK} {off : Int} {tgt : Nat} (X : xX p s m args c meth cc own nL g) (hd : decode cc pc = .ok (.if_icmp .ne off, 3)) (ht : (pc : Int) + off = (tgt : Int)) (h1 : xAt p l e R s m args below meth c g nL F n cells slots Q (K1) (tgt)) (h2 : xAt p l e R s m args below meth c g nL F n cells slots Q (K2) (pc + 3)) : xAt p l e R s m args below meth c g nL F n cells slots Q (x_icmp_ne K1 K2) (pc) := by
  intro L st A H locs ls hK hR hS hL
  unfold x_icmp_ne at hK
  split at hK
  · exact lv_icmp_ne X.1 X.2.1 hd ht (fun hc => h1 L _ A H locs ls (hK.1 hc) hR hS hL) (fun hc => h2 L _ A H locs ls (hK.2 hc) hR hS hL)
  · exact hK.elim
def x_if_lt (K1 K2 : xK) : xK := fun L st A => match st with
  | .int x :: r => (x < 0 → K1 L r A) ∧ (¬ x < 0 → K2 L r A)
  | _ => False
theorem r_if_lt {K1 K2 : xK} {off : Int} {tgt : Nat} (X : xX p s m args c meth cc own nL g) (hd : decode cc pc = .ok (.ifCond .lt off, 3)) (ht : (pc : Int) + off = (tgt : Int)) (h1 : xAt p l e R s m args below meth c g nL F n cells slots Q (K1) (tgt)) (h2 : xAt p l e R s m args below meth c g nL F n cells slots Q (K2) (pc + 3)) : xAt p l e R s m args below meth c g nL F n cells slots Q (x_if_lt K1 K2) (pc) := by
  intro L st A H locs ls hK hR hS hL
  unfold x_if_lt at hK
  split at hK
  · exact lv_if_lt X.1 X.2.1 hd ht (fun hc => h1 L _ A H locs ls (hK.1 hc) hR hS hL) (fun hc => h2 L _ A H locs ls (hK.2 hc) hR hS hL)
  · exact hK.elim
def x_icmp_lt (K1 K2 : xK) : xK := fun L st A => match st with
  | .int y :: .int x :: r => (x < y → K1 L r A) ∧ (¬ x < y → K2 L r A)
  | _ => False
theorem r_icmp_lt {K1 K2 : xK} {off : Int} {tgt : Nat} (X : xX p s m args c meth cc own nL g) (hd : decode cc pc = .ok (.if_icmp .lt off, 3)) (ht : (pc : Int) + off = (tgt : Int)) (h1 : xAt p l e R s m args below meth c g nL F n cells slots Q (K1) (tgt)) (h2 : xAt p l e R s m args below meth c g nL F n cells slots Q (K2) (pc + 3)) : xAt p l e R s m args below meth c g nL F n cells slots Q (x_icmp_lt K1 K2) (pc) := by
  intro L st A H locs ls hK hR hS hL
  unfold x_icmp_lt at hK
  split at hK
  · exact lv_icmp_lt X.1 X.2.1 hd ht (fun hc => h1 L _ A H locs ls (hK.1 hc) hR hS hL) (fun hc => h2 L _ A H locs ls (hK.2 hc) hR hS hL)
  · exact hK.elim
def x_if_ge (K1 K2 : xK) : xK := fun L st A => match st with
  | .int x :: r => (0 ≤ x → K1 L r A) ∧ (¬ 0 ≤ x → K2 L r A)
  | _ => False
theorem r_if_ge {K1 K2 : xK} {off : Int} {tgt : Nat} (X : xX p s m args c meth cc own nL g) (hd : decode cc pc = .ok (.ifCond .ge off, 3)) (ht : (pc : Int) + off = (tgt : Int)) (h1 : xAt p l e R s m args below meth c g nL F n cells slots Q (K1) (tgt)) (h2 : xAt p l e R s m args below meth c g nL F n cells slots Q (K2) (pc + 3)) : xAt p l e R s m args below meth c g nL F n cells slots Q (x_if_ge K1 K2) (pc) := by
  intro L st A H locs ls hK hR hS hL
  unfold x_if_ge at hK
  split at hK
  · exact lv_if_ge X.1 X.2.1 hd ht (fun hc => h1 L _ A H locs ls (hK.1 hc) hR hS hL) (fun hc => h2 L _ A H locs ls (hK.2 hc) hR hS hL)
  · exact hK.elim
def x_icmp_ge (K1 K2 : xK) : xK := fun L st A => match st with
  | .int y :: .int x :: r => (y ≤ x → K1 L r A) ∧ (¬ y ≤ x → K2 L r A)
  | _ => False
theorem r_icmp_ge {K1 K2 : xK} {off : Int} {tgt : Nat} (X : xX p s m args c meth cc own nL g) (hd : decode cc pc = .ok (.if_icmp .ge off, 3)) (ht : (pc : Int) + off = (tgt : Int)) (h1 : xAt p l e R s m args below meth c g nL F n cells slots Q (K1) (tgt)) (h2 : xAt p l e R s m args below meth c g nL F n cells slots Q (K2) (pc + 3)) : xAt p l e R s m args below meth c g nL F n cells slots Q (x_icmp_ge K1 K2) (pc) := by
  intro L st A H locs ls hK hR hS hL
  unfold x_icmp_ge at hK
  split at hK
  · exact lv_icmp_ge X.1 X.2.1 hd ht (fun hc => h1 L _ A H locs ls (hK.1 hc) hR hS hL) (fun hc => h2 L _ A H locs ls (hK.2 hc) hR hS hL)
  · exact hK.elim
def x_if_gt (K1 K2 : xK) : xK := fun L st A => match st with
  | .int x :: r => (0 < x → K1 L r A) ∧ (¬ 0 < x → K2 L r A)
  | _ => False
theorem r_if_gt {K1 K2 : xK} {off : Int} {tgt : Nat} (X : xX p s m args c meth cc own nL g) (hd : decode cc pc = .ok (.ifCond .gt off, 3)) (ht : (pc : Int) + off = (tgt : Int)) (h1 : xAt p l e R s m args below meth c g nL F n cells slots Q (K1) (tgt)) (h2 : xAt p l e R s m args below meth c g nL F n cells slots Q (K2) (pc + 3)) : xAt p l e R s m args below meth c g nL F n cells slots Q (x_if_gt K1 K2) (pc) := by
  intro L st A H locs ls hK hR hS hL
  unfold x_if_gt at hK
  split at hK
  · exact lv_if_gt X.1 X.2.1 hd ht (fun hc => h1 L _ A H locs ls (hK.1 hc) hR hS hL) (fun hc => h2 L _ A H locs ls (hK.2 hc) hR hS hL)
  · exact hK.elim
def x_icmp_gt (K1 K2 : xK) : xK := fun L st A => match st with
  | .int y :: .int x :: r => (y < x → K1 L r A) ∧ (¬ y < x → K2 L r A)
  | _ => False
theorem r_icmp_gt {K1 K2 : xK} {off : Int} {tgt : Nat} (X : xX p s m args c meth cc own nL g) (hd : decode cc pc = .ok (.if_icmp .gt off, 3)) (ht : (pc : Int) + off = (tgt : Int)) (h1 : xAt p l e R s m args below meth c g nL F n cells slots Q (K1) (tgt)) (h2 : xAt p l e R s m args below meth c g nL F n cells slots Q (K2) (pc + 3)) : xAt p l e R s m args below meth c g nL F n cells slots Q (x_icmp_gt K1 K2) (pc) := by
  intro L st A H locs ls hK hR hS hL
  unfold x_icmp_gt at hK
  split at hK
  · exact lv_icmp_gt X.1 X.2.1 hd ht (fun hc => h1 L _ A H locs ls (hK.1 hc) hR hS hL) (fun hc => h2 L _ A H locs ls (hK.2 hc) hR hS hL)
  · exact hK.elim
def x_if_le (K1 K2 : xK) : xK := fun L st A => match st with
  | .int x :: r => (x ≤ 0 → K1 L r A) ∧ (¬ x ≤ 0 → K2 L r A)
  | _ => False
theorem r_if_le {K1 K2 : xK} {off : Int} {tgt : Nat} (X : xX p s m args c meth cc own nL g) (hd : decode cc pc = .ok (.ifCond .le off, 3)) (ht : (pc : Int) + off = (tgt : Int)) (h1 : xAt p l e R s m args below meth c g nL F n cells slots Q (K1) (tgt)) (h2 : xAt p l e R s m args below meth c g nL F n cells slots Q (K2) (pc + 3)) : xAt p l e R s m args below meth c g nL F n cells slots Q (x_if_le K1 K2) (pc) := by
  intro L st A H locs ls hK hR hS hL
  unfold x_if_le at hK
  split at hK
  · exact lv_if_le X.1 X.2.1 hd ht (fun hc => h1 L _ A H locs ls (hK.1 hc) hR hS hL) (fun hc => h2 L _ A H locs ls (hK.2 hc) hR hS hL)
  · exact hK.elim
def x_icmp_le (K1 K2 : xK) : xK := fun L st A => match st with
  | .int y :: .int x :: r => (x ≤ y → K1 L r A) ∧ (¬ x ≤ y → K2 L r A)
  | _ => False
theorem r_icmp_le {K1 K2 : xK} {off : Int} {tgt : Nat} (X : xX p s m args c meth cc own nL g) (hd : decode cc pc = .ok (.if_icmp .le off, 3)) (ht : (pc : Int) + off = (tgt : Int)) (h1 : xAt p l e R s m args below meth c g nL F n cells slots Q (K1) (tgt)) (h2 : xAt p l e R s m args below meth c g nL F n cells slots Q (K2) (pc + 3)) : xAt p l e R s m args below meth c g nL F n cells slots Q (x_icmp_le K1 K2) (pc) := by
  intro L st A H locs ls hK hR hS hL
  unfold x_icmp_le at hK
  split at hK
  · exact lv_icmp_le X.1 X.2.1 hd ht (fun hc => h1 L _ A H locs ls (hK.1 hc) hR hS hL) (fun hc => h2 L _ A H locs ls (hK.2 hc) hR hS hL)
  · exact hK.elim
theorem r_goto {K : xK} {off : Int} {tgt : Nat} (X : xX p s m args c meth cc own nL g) (hd : decode cc pc = .ok (.goto off, 3)) (ht : (pc : Int) + off = (tgt : Int)) (h : xAt p l e R s m args below meth c g nL F n cells slots Q (K) (tgt)) : xAt p l e R s m args below meth c g nL F n cells slots Q (K) (pc) := by
  intro L st A H locs ls hK hR hS hL
  exact lv_goto X.1 X.2.1 hd ht (h L _ A H locs ls hK hR hS hL)
end XR
