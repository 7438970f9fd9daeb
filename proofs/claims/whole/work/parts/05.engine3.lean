/-! ===== the abstract machine: contracts, calls, returns, loops ===== -/
def xWS (y : MethodName) (cc : ByteArray) (nL : Nat) (ret : Option FieldType) : List Cond := .code y cc nL ret :: xTS
def xQc (g : xG) (F : Nat → Prop) (n : Nat) (P : xP) : Array Value → State → Outcome → State → Prop := fun _ st oc t => (∃ (r : Option Value) (A : xH), oc = .returned (r.map (xcv g)) ∧ P r A ∧ xRel g F n A t.heap ∧ xKs g t t.heap) ∧ va_F (xFr g) st t
def xPU (g : xG) (F : Nat → Prop) (n : Nat) (A : xH) (U : State) : Prop := xRel g F n A U.heap ∧ xKs g U U.heap ∧ g.2.1 ≤ U.heap.size
/-- a method's contract: a predicate transformer -/
def xCon (l : Launch) (y : MethodName) (cc : ByteArray) (nL : Nat) (ret : Option FieldType) (fr lo n n' ms : Nat) (F F' : Nat → Prop) (sp : xSp) : Prop :=
  ∀ (g : xG) (as : List Value) (A : xH) (P : xP), sp as A P → Met l y (xWS y cc nL ret) { frames := fr, cells := n' - n, slots := ms, locals := lo } (va_Pc (as.map (xcv g)) (xPU g F n A)) (xQc g F' n' P) (n' - n) ms (xFr g)
def xfl (as : List Value) : xL := as.flatMap fun v => if v.category = 2 then [some v, none] else [some v]
def xL0 (as : List Value) (nL : Nat) : xL := xfl as ++ List.replicate (nL - (xfl as).length) none
theorem xcv_cat (g : xG) (v : Value) : (xcv g v).category = v.category := by cases v <;> rfl
theorem xfl_args {g : xG} {pad : xL} (hp : ∀ o ∈ pad, o = none) : ∀ (as : List Value) (i k : Nat) (w : Value), xgl (xfl as ++ pad) k = some w → (i + k, xcv g w) ∈ lv_args i (as.map (xcv g))
  | [], i, k, w, h => by
    unfold xgl at h
    rw [List.getD_eq_getElem?_getD] at h
    cases hk : (xfl [] ++ pad)[k]? with
    | none => rw [hk] at h; cases h
    | some o =>
      rw [hk] at h
      have : o ∈ pad := by simpa [xfl] using List.mem_of_getElem? hk
      rw [hp o this] at h
      cases h
  | v :: as, i, k, w, h => by
    have hcat := xcv_cat g v
    by_cases hc : v.category = 2
    · have e : xfl (v :: as) ++ pad = some v :: none :: (xfl as ++ pad) := by simp [xfl, hc]
      rw [e] at h
      simp only [List.map_cons, lv_args, hcat, if_pos hc]
      match k, h with
      | 0, h => cases h; simp
      | 1, h => cases h
      | k + 2, h =>
        have h2 : xgl (xfl as ++ pad) k = some w := h
        have := xfl_args (g := g) hp as (i + 2) k w h2
        rw [show i + (k + 2) = i + 2 + k by omega]
        exact List.mem_cons_of_mem _ this
    · have e : xfl (v :: as) ++ pad = some v :: (xfl as ++ pad) := by simp [xfl, hc]
      rw [e] at h
      simp only [List.map_cons, lv_args, hcat, if_neg hc]
      match k, h with
      | 0, h => cases h; simp
      | k + 1, h =>
        have h2 : xgl (xfl as ++ pad) k = some w := h
        have := xfl_args (g := g) hp as (i + 1) k w h2
        rw [show i + (k + 1) = i + 1 + k by omega]
        exact List.mem_cons_of_mem _ this
theorem xL0_ls {g : xG} {as : List Value} {nL : Nat} (h : Nat.ble (lg_sl (as.map (xcv g))).length nL = true) : xLs g nL (xL0 as nL) ((lg_sl (as.map (xcv g)) ++ List.replicate (nL - (lg_sl (as.map (xcv g))).length) Slot.unset).toArray) := by
  have h1 := lv_entry (as.map (xcv g)) (n := nL) (Nat.le_of_ble_eq_true h)
  refine ⟨h1.1, h1.2.1, fun q hq => ?_⟩
  obtain ⟨k, v⟩ := q
  obtain ⟨w, hw, rfl⟩ := xas_mem.mp hq
  have := xfl_args (g := g) (pad := List.replicate (nL - (xfl as).length) none) (fun o ho => (List.mem_replicate.mp ho).2) as 0 k w hw
  rw [Nat.zero_add] at this
  exact h1.2.2 _ this
/-- the words that a call needs of the method called -/
def xNm (y : MethodName) (na : Nat) : Prop := y.cls ≠ "java/lang/invoke/MethodHandle" ∧ y.cls ≠ "java/lang/invoke/VarHandle" ∧ (parseMethodDescriptor y.desc).map (fun d => d.parameters.length) = some na
def xMF (y : MethodName) (cy : ByteArray) (nLy : Nat) (ry : Option FieldType) (na : Nat) : Prop := xNm y na ∧ Cond.code y cy nLy ry ∈ xTS ∧ Cond.instanceMethod y ∈ xTS ∧ Cond.selects y.cls y y ∈ xTS ∧ Cond.initialized y.cls ∈ xTS
def xSF (y : MethodName) (cy : ByteArray) (nLy : Nat) (ry : Option FieldType) (na : Nat) : Prop := xNm y na ∧ Cond.code y cy nLy ry ∈ xTS ∧ Cond.static y ∈ xTS ∧ Cond.initialized y.cls ∈ xTS
def xcat (r : List Value) : Nat := (r.map fun v => v.category).sum
def xres (v : Option Value) (r : List Value) : List Value := match v with
  | some x => x :: r
  | none => r
theorem xcat_cv (g : xG) (r : List Value) : ((r.map (xcv g)).map fun v => v.category).sum = xcat r := by
  unfold xcat
  congr 1
  rw [List.map_map]
  apply List.map_congr_left
  intro v _
  exact xcv_cat g v
theorem xgoodS {y : MethodName} {cy : ByteArray} {nLy : Nat} {ry : Option FieldType} (h : Cond.code y cy nLy ry ∈ xTS) : GoodIn xTS (xWS y cy nLy ry) := by
  intro w hw
  rcases List.mem_cons.mp hw with rfl | hw
  · exact ⟨h, xTS_good h⟩
  · exact ⟨hw, xTS_good hw⟩
theorem xgoodA {ws : List Cond} (h : ∀ w ∈ ws, w ∈ xTS) : GoodIn xTS ws := fun w hw => ⟨h w hw, xTS_good (h w hw)⟩
section XR3
variable {p : Program} {l : Launch} {e : Env} {R : Room} {s : State} {m : MethodId} {args : Array Value} {below : List Frame} {meth : Method} {c : Code} {Q : State → Prop} {cc : ByteArray} {own : String} {nL n cells slots pc : Nat} {F : Nat → Prop} {g : xG}
theorem xAt_mono {K K' : xK} (h : xAt p l e R s m args below meth c g nL F n cells slots Q (K) (pc)) (hk : ∀ L st A, K' L st A → K L st A) : xAt p l e R s m args below meth c g nL F n cells slots Q (K') (pc) := fun L st A H locs ls hK hR hS hL => h L st A H locs ls (hk L st A hK) hR hS hL
/-- behind a call -/
theorem xR_ret {H : Heap} {locs : List Loc} {ls : Array Slot} {mc ms n' : Nat} {F' : Nat → Prop} {P : xP} {st0 rest : List Value} {a : Array Value} (hr : va_Run p l e R s m args below meth c H locs cells slots mc ms (F0 m pc ls st0) rest (xQc g F' n' P a) (xFr g)) (hS : va_S (xFr g) s.heap H locs)
    (kk : ∀ (v : Option Value) (B : xH) (H1 : Heap) (locs1 : List Loc), P v B → xRel g F' n' B H1 → va_S (xFr g) s.heap H1 locs1 → W p l e R s m args below meth c H1 locs1 (cells + mc) (slots + ms) Q (F0 m (pc + 3) ls ((v.map (xcv g)).toList ++ rest))) : W p l e R s m args below meth c H locs cells slots Q (F0 m pc ls st0) := by
  intro T hT X
  obtain ⟨v, st₀, t, T', L, h0, X', hL, e1, e2, ⟨⟨v', B, hv, hP, hR, hK⟩, hz, hk⟩, st⟩ := hr T hT X
  cases hv
  rw [h0] at hz hk
  obtain ⟨t2, a1, b1⟩ := kk v' B T'.heap (locs ++ L) hP (by rw [e1]; exact hR)
    ⟨Nat.le_trans hS.1 (by rw [e1]; exact hz), fun q h1 h2 => by rw [e1, hk q (Nat.lt_of_lt_of_le h1 hS.1) h2]; exact hS.2.1 q h1 h2, fun q hq => by
      rcases List.mem_append.mp hq with h | h
      · exact hS.2.2 q h
      · exact hL q h⟩ T' rfl X'
  exact ⟨t2, st t2 a1, b1⟩
theorem xPU_blind {as : List Value} {A : xH} : FrameBlind (va_Pc (as.map (xcv g)) (xPU g F n A)) := by
  intro a U gf mk h
  exact ⟨h.1, h.2.1, xKs_same h.2.2.1 rfl, h.2.2.2⟩
theorem xPU_now {A : xH} {H : Heap} {locs : List Loc} (X : xX p s m args c meth cc own nL g) (hR : xRel g F n A H) (hS : va_S (xFr g) s.heap H locs) : ∀ U : State, U.heap = H → s.WarmedH U.vm → xPU g F n A U := by
  intro U hU hW
  refine ⟨by rw [hU]; exact hR, ?_, by rw [hU]; exact Nat.le_trans X.2.2.2.2.2.2.2 hS.1⟩
  rw [hU]
  exact xKs_moved X.2.2.2.2.2.1 hW (fun a h1 h2 => hS.2.1 a h1 h2)
theorem xR_callV {ci index na : Nat} {sp : xSp} {y : MethodName} {cy : ByteArray} {nLy fr lo : Nat} {ry : Option FieldType} {q : Nat} {As r : List Value} {A : xH} {H : Heap} {locs : List Loc} {ls : Array Slot} {L : xL} {P : xP} (X : xX p s m args c meth cc own nL g) (hok : xOK ci) (hci : ci ≠ 99) (hC : xC ci = y.cls) (con : xCon l y cy nLy ry fr lo n n 0 F F sp) (mf : xMF y cy nLy ry na) (hl : Cond.methodLink own index y ∈ xTS) (hRm : fr + 1 ≤ R.frames ∧ 8 + (nLy + 11) + lo ≤ R.locals) (hcs : cells ≤ R.cells ∧ slots ≤ R.slots) (hd : decode cc pc = .ok (.invokevirtual index, 3))
    (hq : xob n q = ci) (hr : Nat.ble (xcat r) 8 = true) (hR : xRel g F n A H) (hS : va_S (xFr g) s.heap H locs) (hL : xLs g nL L ls) (hsp : sp (.ref q :: As) A P) (hn : As.length = na)
    (kk : ∀ (v : Option Value) (B : xH) (H1 : Heap) (locs1 : List Loc), P v B → xRel g F n B H1 → va_S (xFr g) s.heap H1 locs1 → W p l e R s m args below meth c H1 locs1 cells slots Q (F0 m (pc + 3) ls ((xres v r).map (xcv g)))) : W p l e R s m args below meth c H locs cells slots Q (F0 m pc ls ((As.reverse ++ .ref q :: r).map (xcv g))) := by
  obtain ⟨q1, q2⟩ := xob_lt hq hci
  obtain ⟨⟨n1, n2, n3⟩, w1, w2, w3, w4⟩ := mf
  have hts := X.2.2.2.2.1
  have hM := con g _ A P hsp
  rw [Nat.sub_self] at hM
  have hcat : 2 * (F0 m pc ls ((As.reverse ++ .ref q :: r).map (xcv g))).monitorRoom + ((r.map (xcv g)).map fun v => v.category).sum ≤ 8 := lv_room (by rw [xcat_cv]; exact Nat.le_of_ble_eq_true hr)
  have hGood : GoodIn xTS (wsV own index y.cls y (xWS y cy nLy ry)) := by
    refine xgoodA fun w hw => ?_
    rcases List.mem_append.mp hw with h | h
    · simp only [List.mem_cons, List.not_mem_nil, or_false] at h
      rcases h with rfl | rfl | rfl | rfl
      · exact hl
      · exact w2
      · exact w3
      · exact w4
    · rcases List.mem_cons.mp h with rfl | h
      · exact w1
      · exact h
  refine xR_ret (mc := 0) (ms := 0) (rest := r.map (xcv g)) (va_runV (C := y.cls) (As := As.map (xcv g)) (b := xad g q) (rest := r.map (xcv g)) ⟨X.1, X.2.1, X.2.2.1, X.2.2.2.1, hts⟩ hM (cwV na hts hGood rfl rfl rfl ⟨rfl, n1, n2, n3⟩ hRm) ⟨xPU_blind, ?_, fun U hU hW => ⟨rfl, xPU_now X hR hS U hU hW⟩⟩ rfl (by rw [List.length_map]; exact hn) hL.1 (by simp [xcv]) hcat hd ⟨hcs.1, hcs.2⟩) hS ?_
  · have := va_recv X.2.2.2.2.2.1.1 hR.1 hok.1 (show (xws g n A)[q]? = some (g.2.1 + q, .inr (ci, xfs g A q ci)) by rw [xws_get q1, xen_o q2])
    rw [xad_lt q1 hR.2.2.1, ← hC]
    exact this
  · intro v B H1 locs1 hP hR1 hS1
    have := kk v B H1 locs1 hP hR1 hS1
    cases v <;> exact this
theorem xR_callS {index na : Nat} {sp : xSp} {y : MethodName} {cy : ByteArray} {nLy fr lo : Nat} {ry : Option FieldType} {As r : List Value} {A : xH} {H : Heap} {locs : List Loc} {ls : Array Slot} {L : xL} {P : xP} (X : xX p s m args c meth cc own nL g) (con : xCon l y cy nLy ry fr lo n n 0 F F sp) (mf : xSF y cy nLy ry na) (hl : Cond.methodLink own index y ∈ xTS) (hRm : fr + 1 ≤ R.frames ∧ 8 + (nLy + 11) + lo ≤ R.locals) (hcs : cells ≤ R.cells ∧ slots ≤ R.slots) (hd : decode cc pc = .ok (.invokestatic index, 3))
    (hr : Nat.ble (xcat r) 8 = true) (hR : xRel g F n A H) (hS : va_S (xFr g) s.heap H locs) (hL : xLs g nL L ls) (hsp : sp As A P) (hn : As.length = na)
    (kk : ∀ (v : Option Value) (B : xH) (H1 : Heap) (locs1 : List Loc), P v B → xRel g F n B H1 → va_S (xFr g) s.heap H1 locs1 → W p l e R s m args below meth c H1 locs1 cells slots Q (F0 m (pc + 3) ls ((xres v r).map (xcv g)))) : W p l e R s m args below meth c H locs cells slots Q (F0 m pc ls ((As.reverse ++ r).map (xcv g))) := by
  obtain ⟨⟨n1, n2, n3⟩, w1, w2, w4⟩ := mf
  have hts := X.2.2.2.2.1
  have hM := con g _ A P hsp
  rw [Nat.sub_self] at hM
  have hcat : 2 * (F0 m pc ls ((As.reverse ++ r).map (xcv g))).monitorRoom + ((r.map (xcv g)).map fun v => v.category).sum ≤ 8 := lv_room (by rw [xcat_cv]; exact Nat.le_of_ble_eq_true hr)
  have hGood : GoodIn xTS (va_wsS own index y (xWS y cy nLy ry)) := by
    refine xgoodA fun w hw => ?_
    rcases List.mem_append.mp hw with h | h
    · simp only [List.mem_cons, List.not_mem_nil, or_false] at h
      rcases h with rfl | rfl | rfl
      · exact hl
      · exact w2
      · exact w4
    · rcases List.mem_cons.mp h with rfl | h
      · exact w1
      · exact h
  refine xR_ret (mc := 0) (ms := 0) (rest := r.map (xcv g)) (va_runS (As := As.map (xcv g)) (rest := r.map (xcv g)) ⟨X.1, X.2.1, X.2.2.1, X.2.2.2.1, hts⟩ hM (va_cwS na hts hGood rfl rfl rfl ⟨n1, n2, n3⟩ hRm) ⟨xPU_blind, fun U hU hW => ⟨rfl, xPU_now X hR hS U hU hW⟩⟩ rfl (by rw [List.length_map]; exact hn) hL.1 (by simp) hcat hd ⟨hcs.1, hcs.2⟩) hS ?_
  intro v B H1 locs1 hP hR1 hS1
  have := kk v B H1 locs1 hP hR1 hS1
  cases v <;> exact this
def x_cv0 (n ci : Nat) (sp : xSp) (K : xK) : xK := fun L st A => match st with
  | .ref q :: r => xob n q = ci ∧ Nat.ble (xcat r) 8 = true ∧ sp [.ref q] A (fun v B => K L (xres v r) B)
  | _ => False
theorem r_cv0 {ci index : Nat} {sp : xSp} {K : xK} {y : MethodName} {cy : ByteArray} {nLy fr lo : Nat} {ry : Option FieldType} (X : xX p s m args c meth cc own nL g) (hok : xOK ci) (hci : ci ≠ 99) (hC : xC ci = y.cls) (con : xCon l y cy nLy ry fr lo n n 0 F F sp) (mf : xMF y cy nLy ry 0) (hl : Cond.methodLink own index y ∈ xTS) (hRm : fr + 1 ≤ R.frames ∧ 8 + (nLy + 11) + lo ≤ R.locals) (hcs : cells ≤ R.cells ∧ slots ≤ R.slots) (hd : decode cc pc = .ok (.invokevirtual index, 3)) (h : xAt p l e R s m args below meth c g nL F n cells slots Q (K) (pc + 3)) : xAt p l e R s m args below meth c g nL F n cells slots Q (x_cv0 n ci sp K) (pc) := by
  intro L st A H locs ls hK hR hS hL
  unfold x_cv0 at hK
  split at hK
  · rename_i q r
    obtain ⟨h1, h2, h3⟩ := hK
    exact xR_callV (As := []) X hok hci hC con mf hl hRm hcs hd h1 h2 hR hS hL h3 rfl (fun v B H1 locs1 hP hR1 hS1 => h L _ B H1 locs1 ls hP hR1 hS1 hL)
  · exact hK.elim
def x_cv1 (n ci : Nat) (sp : xSp) (K : xK) : xK := fun L st A => match st with
  | a1 :: .ref q :: r => xob n q = ci ∧ Nat.ble (xcat r) 8 = true ∧ sp [.ref q, a1] A (fun v B => K L (xres v r) B)
  | _ => False
theorem r_cv1 {ci index : Nat} {sp : xSp} {K : xK} {y : MethodName} {cy : ByteArray} {nLy fr lo : Nat} {ry : Option FieldType} (X : xX p s m args c meth cc own nL g) (hok : xOK ci) (hci : ci ≠ 99) (hC : xC ci = y.cls) (con : xCon l y cy nLy ry fr lo n n 0 F F sp) (mf : xMF y cy nLy ry 1) (hl : Cond.methodLink own index y ∈ xTS) (hRm : fr + 1 ≤ R.frames ∧ 8 + (nLy + 11) + lo ≤ R.locals) (hcs : cells ≤ R.cells ∧ slots ≤ R.slots) (hd : decode cc pc = .ok (.invokevirtual index, 3)) (h : xAt p l e R s m args below meth c g nL F n cells slots Q (K) (pc + 3)) : xAt p l e R s m args below meth c g nL F n cells slots Q (x_cv1 n ci sp K) (pc) := by
  intro L st A H locs ls hK hR hS hL
  unfold x_cv1 at hK
  split at hK
  · rename_i a1 q r
    obtain ⟨h1, h2, h3⟩ := hK
    exact xR_callV (As := [a1]) X hok hci hC con mf hl hRm hcs hd h1 h2 hR hS hL h3 rfl (fun v B H1 locs1 hP hR1 hS1 => h L _ B H1 locs1 ls hP hR1 hS1 hL)
  · exact hK.elim
def x_cs1 (sp : xSp) (K : xK) : xK := fun L st A => match st with
  | a1 :: r => Nat.ble (xcat r) 8 = true ∧ sp [a1] A (fun v B => K L (xres v r) B)
  | _ => False
theorem r_cs1 {index : Nat} {sp : xSp} {K : xK} {y : MethodName} {cy : ByteArray} {nLy fr lo : Nat} {ry : Option FieldType} (X : xX p s m args c meth cc own nL g) (con : xCon l y cy nLy ry fr lo n n 0 F F sp) (mf : xSF y cy nLy ry 1) (hl : Cond.methodLink own index y ∈ xTS) (hRm : fr + 1 ≤ R.frames ∧ 8 + (nLy + 11) + lo ≤ R.locals) (hcs : cells ≤ R.cells ∧ slots ≤ R.slots) (hd : decode cc pc = .ok (.invokestatic index, 3)) (h : xAt p l e R s m args below meth c g nL F n cells slots Q (K) (pc + 3)) : xAt p l e R s m args below meth c g nL F n cells slots Q (x_cs1 sp K) (pc) := by
  intro L st A H locs ls hK hR hS hL
  unfold x_cs1 at hK
  split at hK
  · rename_i a1 r
    obtain ⟨h2, h3⟩ := hK
    exact xR_callS (As := [a1]) X con mf hl hRm hcs hd h2 hR hS hL h3 rfl (fun v B H1 locs1 hP hR1 hS1 => h L _ B H1 locs1 ls hP hR1 hS1 hL)
  · exact hK.elim
def x_cv2 (n ci : Nat) (sp : xSp) (K : xK) : xK := fun L st A => match st with
  | a2 :: a1 :: .ref q :: r => xob n q = ci ∧ Nat.ble (xcat r) 8 = true ∧ sp [.ref q, a1, a2] A (fun v B => K L (xres v r) B)
  | _ => False
theorem r_cv2 {ci index : Nat} {sp : xSp} {K : xK} {y : MethodName} {cy : ByteArray} {nLy fr lo : Nat} {ry : Option FieldType} (X : xX p s m args c meth cc own nL g) (hok : xOK ci) (hci : ci ≠ 99) (hC : xC ci = y.cls) (con : xCon l y cy nLy ry fr lo n n 0 F F sp) (mf : xMF y cy nLy ry 2) (hl : Cond.methodLink own index y ∈ xTS) (hRm : fr + 1 ≤ R.frames ∧ 8 + (nLy + 11) + lo ≤ R.locals) (hcs : cells ≤ R.cells ∧ slots ≤ R.slots) (hd : decode cc pc = .ok (.invokevirtual index, 3)) (h : xAt p l e R s m args below meth c g nL F n cells slots Q (K) (pc + 3)) : xAt p l e R s m args below meth c g nL F n cells slots Q (x_cv2 n ci sp K) (pc) := by
  intro L st A H locs ls hK hR hS hL
  unfold x_cv2 at hK
  split at hK
  · rename_i a2 a1 q r
    obtain ⟨h1, h2, h3⟩ := hK
    exact xR_callV (As := [a1, a2]) X hok hci hC con mf hl hRm hcs hd h1 h2 hR hS hL h3 rfl (fun v B H1 locs1 hP hR1 hS1 => h L _ B H1 locs1 ls hP hR1 hS1 hL)
  · exact hK.elim
def x_cs2 (sp : xSp) (K : xK) : xK := fun L st A => match st with
  | a2 :: a1 :: r => Nat.ble (xcat r) 8 = true ∧ sp [a1, a2] A (fun v B => K L (xres v r) B)
  | _ => False
theorem r_cs2 {index : Nat} {sp : xSp} {K : xK} {y : MethodName} {cy : ByteArray} {nLy fr lo : Nat} {ry : Option FieldType} (X : xX p s m args c meth cc own nL g) (con : xCon l y cy nLy ry fr lo n n 0 F F sp) (mf : xSF y cy nLy ry 2) (hl : Cond.methodLink own index y ∈ xTS) (hRm : fr + 1 ≤ R.frames ∧ 8 + (nLy + 11) + lo ≤ R.locals) (hcs : cells ≤ R.cells ∧ slots ≤ R.slots) (hd : decode cc pc = .ok (.invokestatic index, 3)) (h : xAt p l e R s m args below meth c g nL F n cells slots Q (K) (pc + 3)) : xAt p l e R s m args below meth c g nL F n cells slots Q (x_cs2 sp K) (pc) := by
  intro L st A H locs ls hK hR hS hL
  unfold x_cs2 at hK
  split at hK
  · rename_i a2 a1 r
    obtain ⟨h2, h3⟩ := hK
    exact xR_callS (As := [a1, a2]) X con mf hl hRm hcs hd h2 hR hS hL h3 rfl (fun v B H1 locs1 hP hR1 hS1 => h L _ B H1 locs1 ls hP hR1 hS1 hL)
  · exact hK.elim
def x_cv3 (n ci : Nat) (sp : xSp) (K : xK) : xK := fun L st A => match st with
  | a3 :: a2 :: a1 :: .ref q :: r => xob n q = ci ∧ Nat.ble (xcat r) 8 = true ∧ sp [.ref q, a1, a2, a3] A (fun v B => K L (xres v r) B)
  | _ => False
theorem r_cv3 {ci index : Nat} {sp : xSp} {K : xK} {y : MethodName} {cy : ByteArray} {nLy fr lo : Nat} {ry : Option FieldType} (X : xX p s m args c meth cc own nL g) (hok : xOK ci) (hci : ci ≠ 99) (hC : xC ci = y.cls) (con : xCon l y cy nLy ry fr lo n n 0 F F sp) (mf : xMF y cy nLy ry 3) (hl : Cond.methodLink own index y ∈ xTS) (hRm : fr + 1 ≤ R.frames ∧ 8 + (nLy + 11) + lo ≤ R.locals) (hcs : cells ≤ R.cells ∧ slots ≤ R.slots) (hd : decode cc pc = .ok (.invokevirtual index, 3)) (h : xAt p l e R s m args below meth c g nL F n cells slots Q (K) (pc + 3)) : xAt p l e R s m args below meth c g nL F n cells slots Q (x_cv3 n ci sp K) (pc) := by
  intro L st A H locs ls hK hR hS hL
  unfold x_cv3 at hK
  split at hK
  · rename_i a3 a2 a1 q r
    obtain ⟨h1, h2, h3⟩ := hK
    exact xR_callV (As := [a1, a2, a3]) X hok hci hC con mf hl hRm hcs hd h1 h2 hR hS hL h3 rfl (fun v B H1 locs1 hP hR1 hS1 => h L _ B H1 locs1 ls hP hR1 hS1 hL)
  · exact hK.elim
def x_cs3 (sp : xSp) (K : xK) : xK := fun L st A => match st with
  | a3 :: a2 :: a1 :: r => Nat.ble (xcat r) 8 = true ∧ sp [a1, a2, a3] A (fun v B => K L (xres v r) B)
  | _ => False
theorem r_cs3 {index : Nat} {sp : xSp} {K : xK} {y : MethodName} {cy : ByteArray} {nLy fr lo : Nat} {ry : Option FieldType} (X : xX p s m args c meth cc own nL g) (con : xCon l y cy nLy ry fr lo n n 0 F F sp) (mf : xSF y cy nLy ry 3) (hl : Cond.methodLink own index y ∈ xTS) (hRm : fr + 1 ≤ R.frames ∧ 8 + (nLy + 11) + lo ≤ R.locals) (hcs : cells ≤ R.cells ∧ slots ≤ R.slots) (hd : decode cc pc = .ok (.invokestatic index, 3)) (h : xAt p l e R s m args below meth c g nL F n cells slots Q (K) (pc + 3)) : xAt p l e R s m args below meth c g nL F n cells slots Q (x_cs3 sp K) (pc) := by
  intro L st A H locs ls hK hR hS hL
  unfold x_cs3 at hK
  split at hK
  · rename_i a3 a2 a1 r
    obtain ⟨h2, h3⟩ := hK
    exact xR_callS (As := [a1, a2, a3]) X con mf hl hRm hcs hd h2 hR hS hL h3 rfl (fun v B H1 locs1 hP hR1 hS1 => h L _ B H1 locs1 ls hP hR1 hS1 hL)
  · exact hK.elim
def x_cv4 (n ci : Nat) (sp : xSp) (K : xK) : xK := fun L st A => match st with
  | a4 :: a3 :: a2 :: a1 :: .ref q :: r => xob n q = ci ∧ Nat.ble (xcat r) 8 = true ∧ sp [.ref q, a1, a2, a3, a4] A (fun v B => K L (xres v r) B)
  | _ => False
theorem r_cv4 {ci index : Nat} {sp : xSp} {K : xK} {y : MethodName} {cy : ByteArray} {nLy fr lo : Nat} {ry : Option FieldType} (X : xX p s m args c meth cc own nL g) (hok : xOK ci) (hci : ci ≠ 99) (hC : xC ci = y.cls) (con : xCon l y cy nLy ry fr lo n n 0 F F sp) (mf : xMF y cy nLy ry 4) (hl : Cond.methodLink own index y ∈ xTS) (hRm : fr + 1 ≤ R.frames ∧ 8 + (nLy + 11) + lo ≤ R.locals) (hcs : cells ≤ R.cells ∧ slots ≤ R.slots) (hd : decode cc pc = .ok (.invokevirtual index, 3)) (h : xAt p l e R s m args below meth c g nL F n cells slots Q (K) (pc + 3)) : xAt p l e R s m args below meth c g nL F n cells slots Q (x_cv4 n ci sp K) (pc) := by
  intro L st A H locs ls hK hR hS hL
  unfold x_cv4 at hK
  split at hK
  · rename_i a4 a3 a2 a1 q r
    obtain ⟨h1, h2, h3⟩ := hK
    exact xR_callV (As := [a1, a2, a3, a4]) X hok hci hC con mf hl hRm hcs hd h1 h2 hR hS hL h3 rfl (fun v B H1 locs1 hP hR1 hS1 => h L _ B H1 locs1 ls hP hR1 hS1 hL)
  · exact hK.elim
def x_cs4 (sp : xSp) (K : xK) : xK := fun L st A => match st with
  | a4 :: a3 :: a2 :: a1 :: r => Nat.ble (xcat r) 8 = true ∧ sp [a1, a2, a3, a4] A (fun v B => K L (xres v r) B)
  | _ => False
theorem r_cs4 {index : Nat} {sp : xSp} {K : xK} {y : MethodName} {cy : ByteArray} {nLy fr lo : Nat} {ry : Option FieldType} (X : xX p s m args c meth cc own nL g) (con : xCon l y cy nLy ry fr lo n n 0 F F sp) (mf : xSF y cy nLy ry 4) (hl : Cond.methodLink own index y ∈ xTS) (hRm : fr + 1 ≤ R.frames ∧ 8 + (nLy + 11) + lo ≤ R.locals) (hcs : cells ≤ R.cells ∧ slots ≤ R.slots) (hd : decode cc pc = .ok (.invokestatic index, 3)) (h : xAt p l e R s m args below meth c g nL F n cells slots Q (K) (pc + 3)) : xAt p l e R s m args below meth c g nL F n cells slots Q (x_cs4 sp K) (pc) := by
  intro L st A H locs ls hK hR hS hL
  unfold x_cs4 at hK
  split at hK
  · rename_i a4 a3 a2 a1 r
    obtain ⟨h2, h3⟩ := hK
    exact xR_callS (As := [a1, a2, a3, a4]) X con mf hl hRm hcs hd h2 hR hS hL h3 rfl (fun v B H1 locs1 hP hR1 hS1 => h L _ B H1 locs1 ls hP hR1 hS1 hL)
  · exact hK.elim
def x_cv5 (n ci : Nat) (sp : xSp) (K : xK) : xK := fun L st A => match st with
  | a5 :: a4 :: a3 :: a2 :: a1 :: .ref q :: r => xob n q = ci ∧ Nat.ble (xcat r) 8 = true ∧ sp [.ref q, a1, a2, a3, a4, a5] A (fun v B => K L (xres v r) B)
  | _ => False
theorem r_cv5 {ci index : Nat} {sp : xSp} {K : xK} {y : MethodName} {cy : ByteArray} {nLy fr lo : Nat} {ry : Option FieldType} (X : xX p s m args c meth cc own nL g) (hok : xOK ci) (hci : ci ≠ 99) (hC : xC ci = y.cls) (con : xCon l y cy nLy ry fr lo n n 0 F F sp) (mf : xMF y cy nLy ry 5) (hl : Cond.methodLink own index y ∈ xTS) (hRm : fr + 1 ≤ R.frames ∧ 8 + (nLy + 11) + lo ≤ R.locals) (hcs : cells ≤ R.cells ∧ slots ≤ R.slots) (hd : decode cc pc = .ok (.invokevirtual index, 3)) (h : xAt p l e R s m args below meth c g nL F n cells slots Q (K) (pc + 3)) : xAt p l e R s m args below meth c g nL F n cells slots Q (x_cv5 n ci sp K) (pc) := by
  intro L st A H locs ls hK hR hS hL
  unfold x_cv5 at hK
  split at hK
  · rename_i a5 a4 a3 a2 a1 q r
    obtain ⟨h1, h2, h3⟩ := hK
    exact xR_callV (As := [a1, a2, a3, a4, a5]) X hok hci hC con mf hl hRm hcs hd h1 h2 hR hS hL h3 rfl (fun v B H1 locs1 hP hR1 hS1 => h L _ B H1 locs1 ls hP hR1 hS1 hL)
  · exact hK.elim
def x_cs5 (sp : xSp) (K : xK) : xK := fun L st A => match st with
  | a5 :: a4 :: a3 :: a2 :: a1 :: r => Nat.ble (xcat r) 8 = true ∧ sp [a1, a2, a3, a4, a5] A (fun v B => K L (xres v r) B)
  | _ => False
theorem r_cs5 {index : Nat} {sp : xSp} {K : xK} {y : MethodName} {cy : ByteArray} {nLy fr lo : Nat} {ry : Option FieldType} (X : xX p s m args c meth cc own nL g) (con : xCon l y cy nLy ry fr lo n n 0 F F sp) (mf : xSF y cy nLy ry 5) (hl : Cond.methodLink own index y ∈ xTS) (hRm : fr + 1 ≤ R.frames ∧ 8 + (nLy + 11) + lo ≤ R.locals) (hcs : cells ≤ R.cells ∧ slots ≤ R.slots) (hd : decode cc pc = .ok (.invokestatic index, 3)) (h : xAt p l e R s m args below meth c g nL F n cells slots Q (K) (pc + 3)) : xAt p l e R s m args below meth c g nL F n cells slots Q (x_cs5 sp K) (pc) := by
  intro L st A H locs ls hK hR hS hL
  unfold x_cs5 at hK
  split at hK
  · rename_i a5 a4 a3 a2 a1 r
    obtain ⟨h2, h3⟩ := hK
    exact xR_callS (As := [a1, a2, a3, a4, a5]) X con mf hl hRm hcs hd h2 hR hS hL h3 rfl (fun v B H1 locs1 hP hR1 hS1 => h L _ B H1 locs1 ls hP hR1 hS1 hL)
  · exact hK.elim
def x_cv6 (n ci : Nat) (sp : xSp) (K : xK) : xK := fun L st A => match st with
  | a6 :: a5 :: a4 :: a3 :: a2 :: a1 :: .ref q :: r => xob n q = ci ∧ Nat.ble (xcat r) 8 = true ∧ sp [.ref q, a1, a2, a3, a4, a5, a6] A (fun v B => K L (xres v r) B)
  | _ => False
theorem r_cv6 {ci index : Nat} {sp : xSp} {K : xK} {y : MethodName} {cy : ByteArray} {nLy fr lo : Nat} {ry : Option FieldType} (X : xX p s m args c meth cc own nL g) (hok : xOK ci) (hci : ci ≠ 99) (hC : xC ci = y.cls) (con : xCon l y cy nLy ry fr lo n n 0 F F sp) (mf : xMF y cy nLy ry 6) (hl : Cond.methodLink own index y ∈ xTS) (hRm : fr + 1 ≤ R.frames ∧ 8 + (nLy + 11) + lo ≤ R.locals) (hcs : cells ≤ R.cells ∧ slots ≤ R.slots) (hd : decode cc pc = .ok (.invokevirtual index, 3)) (h : xAt p l e R s m args below meth c g nL F n cells slots Q (K) (pc + 3)) : xAt p l e R s m args below meth c g nL F n cells slots Q (x_cv6 n ci sp K) (pc) := by
  intro L st A H locs ls hK hR hS hL
  unfold x_cv6 at hK
  split at hK
  · rename_i a6 a5 a4 a3 a2 a1 q r
    obtain ⟨h1, h2, h3⟩ := hK
    exact xR_callV (As := [a1, a2, a3, a4, a5, a6]) X hok hci hC con mf hl hRm hcs hd h1 h2 hR hS hL h3 rfl (fun v B H1 locs1 hP hR1 hS1 => h L _ B H1 locs1 ls hP hR1 hS1 hL)
  · exact hK.elim
def x_cs6 (sp : xSp) (K : xK) : xK := fun L st A => match st with
  | a6 :: a5 :: a4 :: a3 :: a2 :: a1 :: r => Nat.ble (xcat r) 8 = true ∧ sp [a1, a2, a3, a4, a5, a6] A (fun v B => K L (xres v r) B)
  | _ => False
theorem r_cs6 {index : Nat} {sp : xSp} {K : xK} {y : MethodName} {cy : ByteArray} {nLy fr lo : Nat} {ry : Option FieldType} (X : xX p s m args c meth cc own nL g) (con : xCon l y cy nLy ry fr lo n n 0 F F sp) (mf : xSF y cy nLy ry 6) (hl : Cond.methodLink own index y ∈ xTS) (hRm : fr + 1 ≤ R.frames ∧ 8 + (nLy + 11) + lo ≤ R.locals) (hcs : cells ≤ R.cells ∧ slots ≤ R.slots) (hd : decode cc pc = .ok (.invokestatic index, 3)) (h : xAt p l e R s m args below meth c g nL F n cells slots Q (K) (pc + 3)) : xAt p l e R s m args below meth c g nL F n cells slots Q (x_cs6 sp K) (pc) := by
  intro L st A H locs ls hK hR hS hL
  unfold x_cs6 at hK
  split at hK
  · rename_i a6 a5 a4 a3 a2 a1 r
    obtain ⟨h2, h3⟩ := hK
    exact xR_callS (As := [a1, a2, a3, a4, a5, a6]) X con mf hl hRm hcs hd h2 hR hS hL h3 rfl (fun v B H1 locs1 hP hR1 hS1 => h L _ B H1 locs1 ls hP hR1 hS1 hL)
  · exact hK.elim
def x_cv7 (n ci : Nat) (sp : xSp) (K : xK) : xK := fun L st A => match st with
  | a7 :: a6 :: a5 :: a4 :: a3 :: a2 :: a1 :: .ref q :: r => xob n q = ci ∧ Nat.ble (xcat r) 8 = true ∧ sp [.ref q, a1, a2, a3, a4, a5, a6, a7] A (fun v B => K L (xres v r) B)
  | _ => False
theorem r_cv7 {ci index : Nat} {sp : xSp} {K : xK} {y : MethodName} {cy : ByteArray} {nLy fr lo : Nat} {ry : Option FieldType} (X : xX p s m args c meth cc own nL g) (hok : xOK ci) (hci : ci ≠ 99) (hC : xC ci = y.cls) (con : xCon l y cy nLy ry fr lo n n 0 F F sp) (mf : xMF y cy nLy ry 7) (hl : Cond.methodLink own index y ∈ xTS) (hRm : fr + 1 ≤ R.frames ∧ 8 + (nLy + 11) + lo ≤ R.locals) (hcs : cells ≤ R.cells ∧ slots ≤ R.slots) (hd : decode cc pc = .ok (.invokevirtual index, 3)) (h : xAt p l e R s m args below meth c g nL F n cells slots Q (K) (pc + 3)) : xAt p l e R s m args below meth c g nL F n cells slots Q (x_cv7 n ci sp K) (pc) := by
  intro L st A H locs ls hK hR hS hL
  unfold x_cv7 at hK
  split at hK
  · rename_i a7 a6 a5 a4 a3 a2 a1 q r
    obtain ⟨h1, h2, h3⟩ := hK
    exact xR_callV (As := [a1, a2, a3, a4, a5, a6, a7]) X hok hci hC con mf hl hRm hcs hd h1 h2 hR hS hL h3 rfl (fun v B H1 locs1 hP hR1 hS1 => h L _ B H1 locs1 ls hP hR1 hS1 hL)
  · exact hK.elim
def x_cs7 (sp : xSp) (K : xK) : xK := fun L st A => match st with
  | a7 :: a6 :: a5 :: a4 :: a3 :: a2 :: a1 :: r => Nat.ble (xcat r) 8 = true ∧ sp [a1, a2, a3, a4, a5, a6, a7] A (fun v B => K L (xres v r) B)
  | _ => False
theorem r_cs7 {index : Nat} {sp : xSp} {K : xK} {y : MethodName} {cy : ByteArray} {nLy fr lo : Nat} {ry : Option FieldType} (X : xX p s m args c meth cc own nL g) (con : xCon l y cy nLy ry fr lo n n 0 F F sp) (mf : xSF y cy nLy ry 7) (hl : Cond.methodLink own index y ∈ xTS) (hRm : fr + 1 ≤ R.frames ∧ 8 + (nLy + 11) + lo ≤ R.locals) (hcs : cells ≤ R.cells ∧ slots ≤ R.slots) (hd : decode cc pc = .ok (.invokestatic index, 3)) (h : xAt p l e R s m args below meth c g nL F n cells slots Q (K) (pc + 3)) : xAt p l e R s m args below meth c g nL F n cells slots Q (x_cs7 sp K) (pc) := by
  intro L st A H locs ls hK hR hS hL
  unfold x_cs7 at hK
  split at hK
  · rename_i a7 a6 a5 a4 a3 a2 a1 r
    obtain ⟨h2, h3⟩ := hK
    exact xR_callS (As := [a1, a2, a3, a4, a5, a6, a7]) X con mf hl hRm hcs hd h2 hR hS hL h3 rfl (fun v B H1 locs1 hP hR1 hS1 => h L _ B H1 locs1 ls hP hR1 hS1 hL)
  · exact hK.elim
def x_cs8 (sp : xSp) (K : xK) : xK := fun L st A => match st with
  | a8 :: a7 :: a6 :: a5 :: a4 :: a3 :: a2 :: a1 :: r => Nat.ble (xcat r) 8 = true ∧ sp [a1, a2, a3, a4, a5, a6, a7, a8] A (fun v B => K L (xres v r) B)
  | _ => False
theorem r_cs8 {index : Nat} {sp : xSp} {K : xK} {y : MethodName} {cy : ByteArray} {nLy fr lo : Nat} {ry : Option FieldType} (X : xX p s m args c meth cc own nL g) (con : xCon l y cy nLy ry fr lo n n 0 F F sp) (mf : xSF y cy nLy ry 8) (hl : Cond.methodLink own index y ∈ xTS) (hRm : fr + 1 ≤ R.frames ∧ 8 + (nLy + 11) + lo ≤ R.locals) (hcs : cells ≤ R.cells ∧ slots ≤ R.slots) (hd : decode cc pc = .ok (.invokestatic index, 3)) (h : xAt p l e R s m args below meth c g nL F n cells slots Q (K) (pc + 3)) : xAt p l e R s m args below meth c g nL F n cells slots Q (x_cs8 sp K) (pc) := by
  intro L st A H locs ls hK hR hS hL
  unfold x_cs8 at hK
  split at hK
  · rename_i a8 a7 a6 a5 a4 a3 a2 a1 r
    obtain ⟨h2, h3⟩ := hK
    exact xR_callS (As := [a1, a2, a3, a4, a5, a6, a7, a8]) X con mf hl hRm hcs hd h2 hR hS hL h3 rfl (fun v B H1 locs1 hP hR1 hS1 => h L _ B H1 locs1 ls hP hR1 hS1 hL)
  · exact hK.elim
/-! returns -/
def x_iret (P : xP) : xK := fun _ st A => match st with
  | [.int x] => P (some (.int x)) A
  | _ => False
def x_zret (P : xP) : xK := fun _ st A => match st with
  | [.int x] => xbool x ∧ P (some (.int x)) A
  | _ => False
def x_lret (P : xP) : xK := fun _ st A => match st with
  | [.long x] => P (some (.long x)) A
  | _ => False
def x_vret (P : xP) : xK := fun _ st A => match st with
  | [] => P none A
  | _ => False
theorem xR_end {P : xP} {r : Option Value} {A : xH} {H : Heap} {locs : List Loc} (X : xX p s m args c meth cc own nL g) (hP : P r A) (hR : xRel g F n A H) (hS : va_S (xFr g) s.heap H locs) {r' : Option Value} (hr : r' = r.map (xcv g)) : ∀ t : State, t.heap = H → s.WarmedH t.vm → xQc g F n P args s (.returned r') t := by
  intro t ht hw
  subst hr
  refine ⟨⟨r, A, rfl, hP, by rw [ht]; exact hR, ?_⟩, hS.F ht⟩
  rw [ht]
  exact xKs_moved X.2.2.2.2.2.1 hw (fun a h1 h2 => hS.2.1 a h1 h2)
theorem r_iret {P : xP} (X : xX p s m args c meth cc own nL g) (hr : meth.sig.returnType = some .int) (hd : decode cc pc = .ok (.ireturn, 1)) : xAt p l e R s m args below meth c g nL F n cells slots (MQ below (xQc g F n P) args s cells slots (xFr g)) (x_iret P) pc := by
  intro L st A H locs ls hK hR hS hL
  unfold x_iret at hK
  split at hK
  · exact W.iret X.1 X.2.1 hr (xR_end X hK hR hS rfl) hS.2.2 hd X.2.2.2.2.2.2.1
  · exact hK.elim
theorem r_zret {P : xP} (X : xX p s m args c meth cc own nL g) (hr : meth.sig.returnType = some .boolean) (hd : decode cc pc = .ok (.ireturn, 1)) : xAt p l e R s m args below meth c g nL F n cells slots (MQ below (xQc g F n P) args s cells slots (xFr g)) (x_zret P) pc := by
  intro L st A H locs ls hK hR hS hL
  unfold x_zret at hK
  split at hK
  · obtain ⟨h1, h2⟩ := hK
    exact W.zret X.1 X.2.1 hr (by rcases h1 with rfl | rfl <;> rfl) (xR_end X h2 hR hS rfl) hS.2.2 hd X.2.2.2.2.2.2.1
  · exact hK.elim
theorem r_lret {P : xP} (X : xX p s m args c meth cc own nL g) (hr : meth.sig.returnType = some .long) (hd : decode cc pc = .ok (.lreturn, 1)) : xAt p l e R s m args below meth c g nL F n cells slots (MQ below (xQc g F n P) args s cells slots (xFr g)) (x_lret P) pc := by
  intro L st A H locs ls hK hR hS hL
  unfold x_lret at hK
  split at hK
  · exact W.lret X.1 X.2.1 hr (xR_end X hK hR hS rfl) hS.2.2 hd X.2.2.2.2.2.2.1
  · exact hK.elim
theorem r_vret {P : xP} (X : xX p s m args c meth cc own nL g) (hr : meth.sig.returnType = none) (hd : decode cc pc = .ok (.return_, 1)) : xAt p l e R s m args below meth c g nL F n cells slots (MQ below (xQc g F n P) args s cells slots (xFr g)) (x_vret P) pc := by
  intro L st A H locs ls hK hR hS hL
  unfold x_vret at hK
  split at hK
  · exact W.vret X.1 X.2.1 hr (xR_end X hK hR hS rfl) hS.2.2 hd X.2.2.2.2.2.2.1
  · exact hK.elim
/-! switches -/
def xsw (x : Int) : Int → List xK → xK → xK
  | _, [], Kd => Kd
  | lo, K :: Ks, Kd => fun L st A => (x = lo → K L st A) ∧ (x ≠ lo → xsw x (lo + 1) Ks Kd L st A)
def x_tsw (lo : Int) (Ks : List xK) (Kd : xK) : xK := fun L st A => match st with
  | .int x :: r => xsw x.toInt lo Ks Kd L r A
  | _ => False
def xswOK (p : Program) (l : Launch) (e : Env) (R : Room) (s : State) (m : MethodId) (args : Array Value) (below : List Frame) (meth : Method) (c : Code) (g : xG) (nL : Nat) (F : Nat → Prop) (n cells slots : Nat) (Q : State → Prop) (pc : Nat) : List Int → List xK → Prop
  | [], [] => True
  | o :: os, K :: Ks => (∃ tgt : Nat, (pc : Int) + o = (tgt : Int) ∧ xAt p l e R s m args below meth c g nL F n cells slots Q (K) (tgt)) ∧ xswOK p l e R s m args below meth c g nL F n cells slots Q pc os Ks
  | _, _ => False
theorem xswOK_len : ∀ {os : List Int} {Ks : List xK}, xswOK p l e R s m args below meth c g nL F n cells slots Q pc os Ks → os.length = Ks.length
  | [], [], _ => rfl
  | o :: os, K :: Ks, h => by simp [xswOK_len h.2]
  | [], K :: Ks, h => h.elim
  | o :: os, [], h => h.elim
theorem xswOK_get : ∀ {os : List Int} {Ks : List xK}, xswOK p l e R s m args below meth c g nL F n cells slots Q pc os Ks → ∀ (i : Nat) (o : Int), os[i]? = some o → ∃ (K : xK) (tgt : Nat), Ks[i]? = some K ∧ (pc : Int) + o = (tgt : Int) ∧ xAt p l e R s m args below meth c g nL F n cells slots Q (K) (tgt)
  | [], [], _, i, o, hi => by simp at hi
  | o' :: os, K :: Ks, h, 0, o, hi => by cases hi; obtain ⟨⟨tgt, h1, h2⟩, -⟩ := h; exact ⟨K, tgt, rfl, h1, h2⟩
  | o' :: os, K :: Ks, h, i + 1, o, hi => xswOK_get h.2 i o hi
  | [], K :: Ks, h, _, _, _ => h.elim
  | o :: os, [], h, _, _, _ => h.elim
theorem xsw_out {x : Int} {Kd : xK} {L : xL} {st : List Value} {A : xH} : ∀ (Ks : List xK) (lo : Int), xsw x lo Ks Kd L st A → (x < lo ∨ lo + (Ks.length : Int) ≤ x) → Kd L st A
  | [], _, h, _ => h
  | K :: Ks, lo, h, ho => xsw_out Ks (lo + 1) (h.2 (by simp only [List.length_cons] at ho; omega)) (by simp only [List.length_cons] at ho; omega)
theorem xsw_in {x : Int} {Kd : xK} {L : xL} {st : List Value} {A : xH} : ∀ (Ks : List xK) (lo : Int) (i : Nat) (K : xK), xsw x lo Ks Kd L st A → Ks[i]? = some K → x = lo + i → K L st A
  | [], _, i, K, _, hi, _ => by simp at hi
  | K' :: Ks, lo, 0, K, h, hi, hx => by cases hi; exact h.1 (by omega)
  | K' :: Ks, lo, i + 1, K, h, hi, hx => xsw_in Ks (lo + 1) i K (h.2 (by omega)) hi (by omega)
theorem r_tsw {Ks : List xK} {Kd : xK} {lo hi dflt : Int} {offs : List Int} {len td : Nat} (X : xX p s m args c meth cc own nL g) (hd : decode cc pc = .ok (.tableswitch dflt lo hi offs.toArray, len)) (hlen : lo + (offs.length : Int) = hi + 1) (ht : (pc : Int) + dflt = (td : Int)) (hKd : xAt p l e R s m args below meth c g nL F n cells slots Q (Kd) (td)) (hKs : xswOK p l e R s m args below meth c g nL F n cells slots Q pc offs Ks) : xAt p l e R s m args below meth c g nL F n cells slots Q (x_tsw lo Ks Kd) (pc) := by
  intro L st A H locs ls hK hR hS hL
  unfold x_tsw at hK
  split at hK
  · rename_i x r
    have hl := xswOK_len hKs
    by_cases h1 : x.toInt < lo
    · exact lv_tableOut X.1 X.2.1 hd (Or.inl h1) ht (hKd L r A H locs ls (xsw_out Ks lo hK (Or.inl h1)) hR hS hL)
    · by_cases h2 : hi < x.toInt
      · exact lv_tableOut X.1 X.2.1 hd (Or.inr h2) ht (hKd L r A H locs ls (xsw_out Ks lo hK (Or.inr (by omega))) hR hS hL)
      · have hi' : (x.toInt - lo).toNat < offs.length := by omega
        obtain ⟨K, tgt, k1, k2, k3⟩ := xswOK_get hKs (x.toInt - lo).toNat _ (List.getElem?_eq_getElem hi')
        exact lv_tableIn X.1 X.2.1 hd h1 h2 (by rw [List.getElem?_toArray]; exact List.getElem?_eq_getElem hi') k2 (k3 L r A H locs ls (xsw_in Ks lo _ K hK k1 (by omega)) hR hS hL)
  · exact hK.elim
/-! arraycopy, of ints and of longs, whole heap there -/
def xcpi (A : xH) (q d sp dp k : Nat) : xH := (fun z j => if z = d then va_cpy (xi A q) (xi A d) sp dp k j else A.1 z j, A.2.1, A.2.2)
def xcpl (A : xH) (q d sp dp k : Nat) : xH := (A.1, fun z j => if z = d then va_cpy (xl A q) (xl A d) sp dp k j else A.2.1 z j, A.2.2)
def xcpOK (n t q d : Nat) (sp dp k : Int32) : Prop := xtn n q = t ∧ xtn n d = t ∧ ¬ sp < 0 ∧ ¬ dp < 0 ∧ ¬ k < 0 ∧ sp.toNatClampNeg + k.toNatClampNeg ≤ (xsh q).2 ∧ dp.toNatClampNeg + k.toNatClampNeg ≤ (xsh d).2
def x_copyi (n : Nat) (K : xK) : xK := fun L st A => match st with
  | [.int k, .int dp, .ref d, .int sp, .ref q] => xcpOK n 1 q d sp dp k ∧ K L [] (xcpi A q d sp.toNatClampNeg dp.toNatClampNeg k.toNatClampNeg)
  | _ => False
def x_copyl (n : Nat) (K : xK) : xK := fun L st A => match st with
  | [.int k, .int dp, .ref d, .int sp, .ref q] => xcpOK n 2 q d sp dp k ∧ K L [] (xcpl A q d sp.toNatClampNeg dp.toNatClampNeg k.toNatClampNeg)
  | _ => False
def xAC (own : String) (index : Nat) : Prop := Cond.methodLink own index arraycopyName ∈ xTS ∧ Cond.native arraycopyName ∈ xTS ∧ Cond.static arraycopyName ∈ xTS ∧ Cond.initialized "java/lang/System" ∈ xTS
theorem r_copyi {index : Nat} {K : xK} (X : xX p s m args c meth cc own nL g) (hn : n = xN) (ac : xAC own index) (hfr : 1 ≤ R.frames) (hlo : nativeFrameWords "java/lang/System" "arraycopy" 5 + 11 ≤ R.locals) (hd : decode cc pc = .ok (.invokestatic index, 3)) (h : xAt p l e R s m args below meth c g nL F n cells slots Q (K) (pc + 3)) : xAt p l e R s m args below meth c g nL F n cells slots Q (x_copyi n K) (pc) := by
  intro L st A H locs ls hK hR hS hL
  unfold x_copyi at hK
  split at hK
  · rename_i k dp d sp q
    obtain ⟨⟨h1, h2, h3, h4, h5, h6, h7⟩, hK⟩ := hK
    obtain ⟨q1, q2⟩ := xtn_lt h1 (by omega)
    obtain ⟨d1, d2⟩ := xtn_lt h2 (by omega)
    have hts := X.2.2.2.2.1
    show W p l e R s m args below meth c H locs cells slots Q (F0 m pc ls [.int k, .int dp, .ref (xad g d), .int sp, .ref (xad g q)])
    rw [xad_lt q1 hR.2.2.1, xad_lt d1 hR.2.2.1]
    have hD : va_D (xFr g) (xws g n A) := xws_D
    refine va_copyi X.1 X.2.1 (X.2.2.1.trans hL.1.symm) X.2.2.2.1 (hts _ ac.1) (hts _ ac.2.1) (hts _ ac.2.2.1) (hts _ ac.2.2.2) X.2.2.2.2.2.1.1 hR.1 hD hS q d 1 1 (f := xi A q) (g := xi A d) (by rw [xws_get q1, xen_i q2 (by omega)]) (by rw [xws_get d1, xen_i d2 (by omega)]) (xtys_get (by omega)) (xtys_get (by omega)) rfl h3 h4 h5 h6 h7 (fun _ _ => rfl) hfr (by simpa using hlo) hd (fun H1 locs1 hP1 hD1 hS1 => ?_)
    refine h L [] _ H1 locs1 ls hK ⟨?_, fun hne => absurd hn hne, hR.2.2.1, hR.2.2.2⟩ hS1 hL
    rw [xws_set d1 (B := xcpi A q d sp.toNatClampNeg dp.toNatClampNeg k.toNatClampNeg) ?_ ?_] at hP1
    · exact hP1
    · rw [xen_i d2 (by omega)]
      congr 4
      funext j
      simp [xi, xcpi]
    · intro z hz
      exact xen_same (by funext j; simp [xcpi, hz]) rfl rfl
  · exact hK.elim
theorem r_copyl {index : Nat} {K : xK} (X : xX p s m args c meth cc own nL g) (hn : n = xN) (ac : xAC own index) (hfr : 1 ≤ R.frames) (hlo : nativeFrameWords "java/lang/System" "arraycopy" 5 + 11 ≤ R.locals) (hd : decode cc pc = .ok (.invokestatic index, 3)) (h : xAt p l e R s m args below meth c g nL F n cells slots Q (K) (pc + 3)) : xAt p l e R s m args below meth c g nL F n cells slots Q (x_copyl n K) (pc) := by
  intro L st A H locs ls hK hR hS hL
  unfold x_copyl at hK
  split at hK
  · rename_i k dp d sp q
    obtain ⟨⟨h1, h2, h3, h4, h5, h6, h7⟩, hK⟩ := hK
    obtain ⟨q1, q2⟩ := xtn_lt h1 (by omega)
    obtain ⟨d1, d2⟩ := xtn_lt h2 (by omega)
    have hts := X.2.2.2.2.1
    show W p l e R s m args below meth c H locs cells slots Q (F0 m pc ls [.int k, .int dp, .ref (xad g d), .int sp, .ref (xad g q)])
    rw [xad_lt q1 hR.2.2.1, xad_lt d1 hR.2.2.1]
    have hD : va_D (xFr g) (xws g n A) := xws_D
    refine va_copyl X.1 X.2.1 (X.2.2.1.trans hL.1.symm) X.2.2.2.1 (hts _ ac.1) (hts _ ac.2.1) (hts _ ac.2.2.1) (hts _ ac.2.2.2) X.2.2.2.2.2.1.1 hR.1 hD hS q d 2 2 (f := xl A q) (g := xl A d) (by rw [xws_get q1, xen_j q2]) (by rw [xws_get d1, xen_j d2]) (xtys_get (by omega)) (xtys_get (by omega)) rfl h3 h4 h5 h6 h7 (fun _ _ => rfl) hfr (by simpa using hlo) hd (fun H1 locs1 hP1 hD1 hS1 => ?_)
    refine h L [] _ H1 locs1 ls hK ⟨?_, fun hne => absurd hn hne, hR.2.2.1, hR.2.2.2⟩ hS1 hL
    rw [xws_set d1 (B := xcpl A q d sp.toNatClampNeg dp.toNatClampNeg k.toNatClampNeg) ?_ ?_] at hP1
    · exact hP1
    · rw [xen_j d2]
      congr 5
      funext j
      simp [xl, xcpl]
    · intro z hz
      exact xen_same rfl (by funext j; simp [xcpl, hz]) rfl
  · exact hK.elim
/-! loops: an assertion a head, with a measure -/
abbrev xM : Type := Nat × Nat × Nat
def xlt (a b : xM) : Prop := a.1 < b.1 ∨ (a.1 = b.1 ∧ (a.2.1 < b.2.1 ∨ (a.2.1 = b.2.1 ∧ a.2.2 < b.2.2)))
theorem xlt_ind {C : xM → Prop} (h : ∀ μ, (∀ ν, xlt ν μ → C ν) → C μ) : ∀ μ, C μ := by
  have key : ∀ (a b c : Nat), C (a, b, c) := by
    intro a
    induction a using Nat.strongRecOn with
    | ind a iha =>
      intro b
      induction b using Nat.strongRecOn with
      | ind b ihb =>
        intro c
        induction c using Nat.strongRecOn with
        | ind c ihc =>
          refine h _ fun ν hν => ?_
          obtain ⟨x, y, z⟩ := ν
          rcases hν with h1 | ⟨h1, h2 | ⟨h2, h3⟩⟩
          · exact iha x h1 y z
          · simp only at h1 h2
            subst h1
            exact ihb y h2 z
          · simp only at h1 h2 h3
            subst h1
            subst h2
            exact ihc z h3
  intro μ
  exact key μ.1 μ.2.1 μ.2.2
def xE (I : xM → xK) : xK := fun L st A => ∃ μ, I μ L st A
def xB (I : xM → xK) (μ : xM) : xK := fun L st A => ∃ ν, xlt ν μ ∧ I ν L st A
theorem x_loops (k : Nat) (I : Nat → xM → xK) (pcs : Nat → Nat) (h : ∀ i, i < k → ∀ μ, (∀ j, j < k → xAt p l e R s m args below meth c g nL F n cells slots Q (xB (I j) μ) (pcs j)) → xAt p l e R s m args below meth c g nL F n cells slots Q (I i μ) (pcs i)) : ∀ i, i < k → xAt p l e R s m args below meth c g nL F n cells slots Q (xE (I i)) (pcs i) := by
  have key : ∀ μ, ∀ i, i < k → xAt p l e R s m args below meth c g nL F n cells slots Q (I i μ) (pcs i) := by
    apply xlt_ind
    intro μ ih i hi
    refine h i hi μ fun j hj => ?_
    intro L st A H locs ls ⟨ν, h1, h2⟩ hR hS hL
    exact ih ν h1 j hj L st A H locs ls h2 hR hS hL
  intro i hi L st A H locs ls ⟨μ, h2⟩ hR hS hL
  exact key μ i hi L st A H locs ls h2 hR hS hL
theorem x_loop1 {I : xM → xK} {pc1 : Nat} (h : ∀ μ, xAt p l e R s m args below meth c g nL F n cells slots Q (xB I μ) (pc1) → xAt p l e R s m args below meth c g nL F n cells slots Q (I μ) (pc1)) : xAt p l e R s m args below meth c g nL F n cells slots Q (xE I) (pc1) :=
  x_loops 1 (fun _ => I) (fun _ => pc1) (fun _ _ μ ih => h μ (ih 0 (by omega))) 0 (by omega)
theorem x_loop2 {I1 I2 : xM → xK} {pc1 pc2 : Nat} (h1 : ∀ μ, xAt p l e R s m args below meth c g nL F n cells slots Q (xB I1 μ) (pc1) → xAt p l e R s m args below meth c g nL F n cells slots Q (xB I2 μ) (pc2) → xAt p l e R s m args below meth c g nL F n cells slots Q (I1 μ) (pc1)) (h2 : ∀ μ, xAt p l e R s m args below meth c g nL F n cells slots Q (xB I1 μ) (pc1) → xAt p l e R s m args below meth c g nL F n cells slots Q (xB I2 μ) (pc2) → xAt p l e R s m args below meth c g nL F n cells slots Q (I2 μ) (pc2)) : xAt p l e R s m args below meth c g nL F n cells slots Q (xE I1) (pc1) ∧ xAt p l e R s m args below meth c g nL F n cells slots Q (xE I2) (pc2) := by
  have := x_loops (p := p) (l := l) (e := e) (R := R) (s := s) (m := m) (args := args) (below := below) (meth := meth) (c := c) (g := g) (nL := nL) (F := F) (n := n) (cells := cells) (slots := slots) (Q := Q) 2 (fun i => match i with | 0 => I1 | _ => I2) (fun i => match i with | 0 => pc1 | _ => pc2) (fun i hi μ ih => by
    have a1 := ih 0 (by omega)
    have a2 := ih 1 (by omega)
    match i, hi with
    | 0, _ => exact h1 μ a1 a2
    | 1, _ => exact h2 μ a1 a2)
  exact ⟨this 0 (by omega), this 1 (by omega)⟩
theorem x_loop3 {I1 I2 I3 : xM → xK} {pc1 pc2 pc3 : Nat} (h1 : ∀ μ, xAt p l e R s m args below meth c g nL F n cells slots Q (xB I1 μ) (pc1) → xAt p l e R s m args below meth c g nL F n cells slots Q (xB I2 μ) (pc2) → xAt p l e R s m args below meth c g nL F n cells slots Q (xB I3 μ) (pc3) → xAt p l e R s m args below meth c g nL F n cells slots Q (I1 μ) (pc1)) (h2 : ∀ μ, xAt p l e R s m args below meth c g nL F n cells slots Q (xB I1 μ) (pc1) → xAt p l e R s m args below meth c g nL F n cells slots Q (xB I2 μ) (pc2) → xAt p l e R s m args below meth c g nL F n cells slots Q (xB I3 μ) (pc3) → xAt p l e R s m args below meth c g nL F n cells slots Q (I2 μ) (pc2)) (h3 : ∀ μ, xAt p l e R s m args below meth c g nL F n cells slots Q (xB I1 μ) (pc1) → xAt p l e R s m args below meth c g nL F n cells slots Q (xB I2 μ) (pc2) → xAt p l e R s m args below meth c g nL F n cells slots Q (xB I3 μ) (pc3) → xAt p l e R s m args below meth c g nL F n cells slots Q (I3 μ) (pc3)) : xAt p l e R s m args below meth c g nL F n cells slots Q (xE I1) (pc1) ∧ xAt p l e R s m args below meth c g nL F n cells slots Q (xE I2) (pc2) ∧ xAt p l e R s m args below meth c g nL F n cells slots Q (xE I3) (pc3) := by
  have := x_loops (p := p) (l := l) (e := e) (R := R) (s := s) (m := m) (args := args) (below := below) (meth := meth) (c := c) (g := g) (nL := nL) (F := F) (n := n) (cells := cells) (slots := slots) (Q := Q) 3 (fun i => match i with | 0 => I1 | 1 => I2 | _ => I3) (fun i => match i with | 0 => pc1 | 1 => pc2 | _ => pc3) (fun i hi μ ih => by
    have a1 := ih 0 (by omega)
    have a2 := ih 1 (by omega)
    have a3 := ih 2 (by omega)
    match i, hi with
    | 0, _ => exact h1 μ a1 a2 a3
    | 1, _ => exact h2 μ a1 a2 a3
    | 2, _ => exact h3 μ a1 a2 a3)
  exact ⟨this 0 (by omega), this 1 (by omega), this 2 (by omega)⟩
theorem x_loop4 {I1 I2 I3 I4 : xM → xK} {pc1 pc2 pc3 pc4 : Nat} (h1 : ∀ μ, xAt p l e R s m args below meth c g nL F n cells slots Q (xB I1 μ) (pc1) → xAt p l e R s m args below meth c g nL F n cells slots Q (xB I2 μ) (pc2) → xAt p l e R s m args below meth c g nL F n cells slots Q (xB I3 μ) (pc3) → xAt p l e R s m args below meth c g nL F n cells slots Q (xB I4 μ) (pc4) → xAt p l e R s m args below meth c g nL F n cells slots Q (I1 μ) (pc1)) (h2 : ∀ μ, xAt p l e R s m args below meth c g nL F n cells slots Q (xB I1 μ) (pc1) → xAt p l e R s m args below meth c g nL F n cells slots Q (xB I2 μ) (pc2) → xAt p l e R s m args below meth c g nL F n cells slots Q (xB I3 μ) (pc3) → xAt p l e R s m args below meth c g nL F n cells slots Q (xB I4 μ) (pc4) → xAt p l e R s m args below meth c g nL F n cells slots Q (I2 μ) (pc2)) (h3 : ∀ μ, xAt p l e R s m args below meth c g nL F n cells slots Q (xB I1 μ) (pc1) → xAt p l e R s m args below meth c g nL F n cells slots Q (xB I2 μ) (pc2) → xAt p l e R s m args below meth c g nL F n cells slots Q (xB I3 μ) (pc3) → xAt p l e R s m args below meth c g nL F n cells slots Q (xB I4 μ) (pc4) → xAt p l e R s m args below meth c g nL F n cells slots Q (I3 μ) (pc3)) (h4 : ∀ μ, xAt p l e R s m args below meth c g nL F n cells slots Q (xB I1 μ) (pc1) → xAt p l e R s m args below meth c g nL F n cells slots Q (xB I2 μ) (pc2) → xAt p l e R s m args below meth c g nL F n cells slots Q (xB I3 μ) (pc3) → xAt p l e R s m args below meth c g nL F n cells slots Q (xB I4 μ) (pc4) → xAt p l e R s m args below meth c g nL F n cells slots Q (I4 μ) (pc4)) : xAt p l e R s m args below meth c g nL F n cells slots Q (xE I1) (pc1) ∧ xAt p l e R s m args below meth c g nL F n cells slots Q (xE I2) (pc2) ∧ xAt p l e R s m args below meth c g nL F n cells slots Q (xE I3) (pc3) ∧ xAt p l e R s m args below meth c g nL F n cells slots Q (xE I4) (pc4) := by
  have := x_loops (p := p) (l := l) (e := e) (R := R) (s := s) (m := m) (args := args) (below := below) (meth := meth) (c := c) (g := g) (nL := nL) (F := F) (n := n) (cells := cells) (slots := slots) (Q := Q) 4 (fun i => match i with | 0 => I1 | 1 => I2 | 2 => I3 | _ => I4) (fun i => match i with | 0 => pc1 | 1 => pc2 | 2 => pc3 | _ => pc4) (fun i hi μ ih => by
    have a1 := ih 0 (by omega)
    have a2 := ih 1 (by omega)
    have a3 := ih 2 (by omega)
    have a4 := ih 3 (by omega)
    match i, hi with
    | 0, _ => exact h1 μ a1 a2 a3 a4
    | 1, _ => exact h2 μ a1 a2 a3 a4
    | 2, _ => exact h3 μ a1 a2 a3 a4
    | 3, _ => exact h4 μ a1 a2 a3 a4)
  exact ⟨this 0 (by omega), this 1 (by omega), this 2 (by omega), this 3 (by omega)⟩
end XR3
/-- a contract out of the walk of the body -/
theorem xCon_of {l : Launch} {y : MethodName} {cc : ByteArray} {nL na : Nat} {ret : Option FieldType} {fr lo n n' ms : Nat} {F F' : Nat → Prop} {sp : xSp} (hy : plainFor y = true) (hna : ∀ as A P, sp as A P → Nat.ble (xfl as).length nL = true)
    (h : ∀ (p : Program) (e : Env) (s : State) (m : MethodId) (args : Array Value) (below : List Frame) (meth : Method) (c : Code) (g : xG) (as : List Value) (A : xH) (P : xP), sp as A P → xX p s m args c meth cc y.cls nL g → meth.sig.returnType = ret → meth.name = y.name →
      ∃ K : xK, K (xL0 as nL) [] A ∧ xAt p l e { frames := fr, cells := n' - n, slots := ms, locals := lo } s m args below meth c g nL F n 0 0 (MQ below (xQc g F' n' P) args s (n' - n) ms (xFr g)) K 0) : xCon l y cc nL ret fr lo n n' ms F F' sp := by
  intro g as A P hsp
  refine va_MetF (cc := cc) (maxL := nL) (ret := ret) hy rfl ?_
  intro p e s m args below meth c s₁ B hml hv
  obtain ⟨rfl, hR, hK, hb⟩ := hv
  have hts0 := atoms_spec (ws := xWS y cc nL ret) B.pre
  have hts : ∀ w ∈ xTS, w.before (as.map (xcv g)).toArray s = true := fun w hw => hts0 w (List.mem_cons_of_mem _ hw)
  have hown : s.vm.findClass y.cls = some m.cls := findClass_of_methodNamed B.named
  obtain ⟨K, k1, k2⟩ := h p e s m _ below meth c g as A P hsp ⟨B.exec, B.bytes, hml, hown, hts, hK, B.notSynchronized, hb⟩ B.returns (name_of_methodNamed B.named B.method).1
  rw [lg_entry_eq]
  have hlen : (lg_sl (as.map (xcv g))).length = (xfl as).length := by
    unfold lg_sl xfl
    have : ∀ as : List Value, ((as.map (xcv g)).flatMap fun v => if v.category = 2 then [Slot.val v, .second] else [.val v]).length = (as.flatMap fun v => if v.category = 2 then [some v, none] else [some v]).length := by
      intro as
      induction as with
      | nil => rfl
      | cons v as ih =>
        simp only [List.map_cons, List.flatMap_cons, List.length_append, ih, xcv_cat]
        by_cases hc : v.category = 2 <;> simp [hc]
    exact this as
  exact k2 _ [] A s.heap [] _ k1 hR va_S.rf (xL0_ls (by rw [hlen]; exact hna as A P hsp))
