/-! ===== the abstract machine: fields, arrays, calls, returns, contracts, loops ===== -/
theorem xi_si {A : xH} {c k d j : Nat} {v : Int32} : xi (xsi A c k v) d j = if d = c ∧ j = k then v else xi A d j := rfl
theorem xl_si {A : xH} {c k d j : Nat} {v : Int32} : xl (xsi A c k v) d j = xl A d j := rfl
theorem xr_si {A : xH} {c k d j : Nat} {v : Int32} : xr (xsi A c k v) d j = xr A d j := rfl
theorem xi_sl {A : xH} {c k d j : Nat} {v : Int64} : xi (xsl A c k v) d j = xi A d j := rfl
theorem xl_sl {A : xH} {c k d j : Nat} {v : Int64} : xl (xsl A c k v) d j = if d = c ∧ j = k then v else xl A d j := rfl
theorem xr_sl {A : xH} {c k d j : Nat} {v : Int64} : xr (xsl A c k v) d j = xr A d j := rfl
theorem xi_sr {A : xH} {c k d j : Nat} {v : Option Nat} : xi (xsr A c k v) d j = xi A d j := rfl
theorem xl_sr {A : xH} {c k d j : Nat} {v : Option Nat} : xl (xsr A c k v) d j = xl A d j := rfl
theorem xr_sr {A : xH} {c k d j : Nat} {v : Option Nat} : xr (xsr A c k v) d j = if d = c ∧ j = k then v else xr A d j := rfl
theorem xcv_rf (g : xG) (r : Option Nat) : xcv g (va_rf r) = va_rf (r.map (xad g)) := by cases r <;> rfl
theorem xad_lt {g : xG} {n q : Nat} (hq : q < n) (hn : n ≤ 1000) : xad g q = g.2.1 + q := by unfold xad; rw [if_pos (by omega)]
theorem xfs_get {g : xG} {A : xH} {q ci k t : Nat} (h : (xkd ci)[k]? = some t) : (xfs g A q ci)[k]? = some (xfv g A q t k) := by
  have hk : k < xNf ci := (List.getElem?_eq_some_iff.mp h).1
  unfold xfs
  rw [List.getElem?_map, List.getElem?_range hk]
  simp [List.getD_eq_getElem?_getD, h]
theorem xfs_len {g : xG} {A : xH} {q ci : Nat} : (xfs g A q ci).length = xNf ci := by simp [xfs]
theorem xfs_set {g : xG} {A B : xH} {q ci k t : Nat} {v : Value} (h : (xkd ci)[k]? = some t) (hv : xfv g B q t k = v) (ho : ∀ j, j ≠ k → ∀ t, xfv g B q t j = xfv g A q t j) : (xfs g A q ci).set k v = xfs g B q ci := by
  have hk : k < xNf ci := (List.getElem?_eq_some_iff.mp h).1
  apply List.ext_getElem?
  intro j
  by_cases hj : j = k
  · subst hj
    rw [List.getElem?_set_self (by rw [xfs_len]; exact hk), xfs_get h, hv]
  · rw [List.getElem?_set_ne (Ne.symm hj)]
    unfold xfs
    simp only [List.getElem?_map]
    by_cases hl : j < xNf ci
    · rw [List.getElem?_range hl]
      simp [ho j hj]
    · rw [List.getElem?_eq_none (by simp; omega)]
      rfl
theorem xlay_arr {q k : Nat} (h : (xsh q).1 ≠ 0) : xlay q k = none := by
  have key : ∀ q, q < 231 → (xsh q).1 ≠ 0 → xlayT.getD q [] = [] := by decide +kernel
  have key2 : xlayT.length = 231 := by decide +kernel
  unfold xlay
  by_cases hq : q < 231
  · rw [key q hq h]; rfl
  · have e : xlayT.getD q [] = [] := by rw [List.getD_eq_getElem?_getD, List.getElem?_eq_none (by omega)]; rfl
    rw [e]; rfl
theorem xlay_lt {q k r : Nat} (h : xlay q k = some r) : r < q ∨ r < 231 := by
  have key : (xlayT.all fun l => l.all fun o => match o with | some r => decide (r < 231) | none => true) = true := by decide +kernel
  right
  unfold xlay at h
  rw [List.getD_eq_getElem?_getD, List.getD_eq_getElem?_getD] at h
  cases h1 : xlayT[q]? with
  | none => rw [h1] at h; simp at h
  | some row =>
    rw [h1] at h
    simp only [Option.getD_some] at h
    cases h2 : row[k]? with
    | none => rw [h2] at h; simp at h
    | some o =>
      rw [h2] at h
      simp only [Option.getD_some] at h
      subst h
      have a1 := List.all_eq_true.mp key row (List.mem_of_getElem? h1)
      have a2 := List.all_eq_true.mp a1 _ (List.mem_of_getElem? h2)
      simpa using a2
def xlink (own : String) (index ci k : Nat) : Prop := Cond.fieldLink own index (xT ci k).1 (xT ci k).2.1 (xT ci k).2.2.1 ∈ xTS
section XR2
variable {p : Program} {l : Launch} {e : Env} {R : Room} {s : State} {m : MethodId} {args : Array Value} {below : List Frame} {meth : Method} {c : Code} {Q : State → Prop} {cc : ByteArray} {own : String} {nL n cells slots pc : Nat} {F : Nat → Prop} {g : xG}
/-- an int, a boolean of an object -/
def x_getI (n ci k : Nat) (K : xK) : xK := fun L st A => match st with
  | .ref q :: r => xob n q = ci ∧ K L (.int (xi A q k) :: r) A
  | _ => False
def x_getJ (n ci k : Nat) (K : xK) : xK := fun L st A => match st with
  | .ref q :: r => xob n q = ci ∧ K L (.long (xl A q k) :: r) A
  | _ => False
/-- a reference that is never changed once it is there -/
def x_getF (n : Nat) (F : Nat → Prop) (ci k : Nat) (K : xK) : xK := fun L st A => match st with
  | .ref q :: r => xob n q = ci ∧ F q ∧ (match xlay q k with
    | some d => K L (.ref d :: r) A
    | none => False)
  | _ => False
def x_getR (n ci k : Nat) (K : xK) : xK := fun L st A => match st with
  | .ref q :: r => xob n q = ci ∧ K L (va_rf (xr A q k) :: r) A
  | _ => False
theorem xR_getv {ci k t index : Nat} (X : xX p s m args c meth cc own nL g) (hok : xOK ci) (hci : ci ≠ 99) (hk : (xkd ci)[k]? = some t) (hw : xlink own index ci k) (hd : decode cc pc = .ok (.getfield index, 3)) {q : Nat} {A : xH} {H : Heap} {locs : List Loc} {ls : Array Slot} {r : List Value} (hq : xob n q = ci) (hR : xRel g F n A H)
    (h : W p l e R s m args below meth c H locs cells slots Q (F0 m (pc + 3) ls (xfv g A q t k :: r))) : W p l e R s m args below meth c H locs cells slots Q (F0 m pc ls (.ref (xad g q) :: r)) := by
  obtain ⟨o1, o2, o3, o4⟩ := hok
  obtain ⟨q1, q2⟩ := xob_lt hq hci
  rw [xad_lt q1 hR.2.2.1]
  exact va_get (C := xC ci) (T := xT ci) (N := xNf ci) X.1 X.2.1 X.2.2.2.2.1 o2 X.2.2.2.1 X.2.2.2.2.2.1.1 hR.1 q (fs := xfs g A q ci) (by rw [xws_get q1, xen_o q2]) o1 k (List.getElem?_eq_some_iff.mp hk).1 (X.2.2.2.2.1 _ hw) (fun _ h => h) (xfs_get hk) hd h
theorem r_getI {ci k index : Nat} {K : xK} (X : xX p s m args c meth cc own nL g) (hok : xOK ci) (hci : ci ≠ 99) (hk : (xkd ci)[k]? = some 0) (hw : xlink own index ci k) (hd : decode cc pc = .ok (.getfield index, 3)) (h : xAt p l e R s m args below meth c g nL F n cells slots Q (K) (pc + 3)) : xAt p l e R s m args below meth c g nL F n cells slots Q (x_getI n ci k K) (pc) := by
  intro L st A H locs ls hK hR hS hL
  unfold x_getI at hK
  split at hK
  · exact xR_getv X hok hci hk hw hd hK.1 hR (h L _ A H locs ls hK.2 hR hS hL)
  · exact hK.elim
theorem r_getJ {ci k index : Nat} {K : xK} (X : xX p s m args c meth cc own nL g) (hok : xOK ci) (hci : ci ≠ 99) (hk : (xkd ci)[k]? = some 1) (hw : xlink own index ci k) (hd : decode cc pc = .ok (.getfield index, 3)) (h : xAt p l e R s m args below meth c g nL F n cells slots Q (K) (pc + 3)) : xAt p l e R s m args below meth c g nL F n cells slots Q (x_getJ n ci k K) (pc) := by
  intro L st A H locs ls hK hR hS hL
  unfold x_getJ at hK
  split at hK
  · exact xR_getv X hok hci hk hw hd hK.1 hR (h L _ A H locs ls hK.2 hR hS hL)
  · exact hK.elim
theorem r_getF {ci k index : Nat} {K : xK} (X : xX p s m args c meth cc own nL g) (hok : xOK ci) (hci : ci ≠ 99) (hk : (xkd ci)[k]? = some 2) (hw : xlink own index ci k) (hd : decode cc pc = .ok (.getfield index, 3)) (h : xAt p l e R s m args below meth c g nL F n cells slots Q (K) (pc + 3)) : xAt p l e R s m args below meth c g nL F n cells slots Q (x_getF n F ci k K) (pc) := by
  intro L st A H locs ls hK hR hS hL
  unfold x_getF at hK
  split at hK
  · rename_i q r
    obtain ⟨h1, h2, h3⟩ := hK
    split at h3
    · rename_i d hd2
      refine xR_getv X hok hci hk hw hd h1 hR ?_
      have e1 : xr A q k = some d := by rw [hR.2.2.2 q h2 k (by rw [hd2]; rfl), hd2]
      have e2 : xfv g A q 2 k = .ref (xad g d) := by show va_rf _ = _; rw [e1]; rfl
      rw [e2]
      exact h L _ A H locs ls h3 hR hS hL
    · exact h3.elim
  · exact hK.elim
theorem r_getR {ci k index : Nat} {K : xK} (X : xX p s m args c meth cc own nL g) (hok : xOK ci) (hci : ci ≠ 99) (hk : (xkd ci)[k]? = some 2) (hw : xlink own index ci k) (hd : decode cc pc = .ok (.getfield index, 3)) (h : xAt p l e R s m args below meth c g nL F n cells slots Q (K) (pc + 3)) : xAt p l e R s m args below meth c g nL F n cells slots Q (x_getR n ci k K) (pc) := by
  intro L st A H locs ls hK hR hS hL
  unfold x_getR at hK
  split at hK
  · rename_i q r
    refine xR_getv X hok hci hk hw hd hK.1 hR ?_
    have e2 : xfv g A q 2 k = xcv g (va_rf (xr A q k)) := (xcv_rf g _).symm
    rw [e2]
    exact h L _ A H locs ls hK.2 hR hS hL
  · exact hK.elim
def xbool (x : Int32) : Prop := x = 0 ∨ x = 1
/-- putfield, not final -/
def x_putI (n ci k : Nat) (K : xK) : xK := fun L st A => match st with
  | .int x :: .ref q :: r => xob n q = ci ∧ K L r (xsi A q k x)
  | _ => False
def x_putZ (n ci k : Nat) (K : xK) : xK := fun L st A => match st with
  | .int x :: .ref q :: r => xob n q = ci ∧ xbool x ∧ K L r (xsi A q k x)
  | _ => False
def x_putJ (n ci k : Nat) (K : xK) : xK := fun L st A => match st with
  | .long x :: .ref q :: r => xob n q = ci ∧ K L r (xsl A q k x)
  | _ => False
def x_putR (n ci k : Nat) (K : xK) : xK := fun L st A => match st with
  | .ref d :: .ref q :: r => xob n q = ci ∧ xlay q k = none ∧ K L r (xsr A q k (some d))
  | _ => False
theorem xRel_upd {q : Nat} {A B : xH} {H H1 : Heap} (hR : xRel g F n A H) (hq : q < n) (hB : ∀ z, z ≠ q → xen g B z = xen g A z) (hF : xfin F B) (e1 : va_at g.1 vwCl (g.2.1 + q, xen g B q) H1) (e2 : H1.size = H.size) (e3 : ∀ z, z ≠ g.2.1 + q → H1[z]? = H[z]?) : xRel g F n B H1 := by
  have hD : va_D (xFr g) (xws g n A) := xws_D
  have h1 := hR.1.set hD (xws_get hq) e1 e3
  rw [xws_set hq rfl hB] at h1
  exact ⟨h1, fun h => by rw [e2]; exact hR.2.1 h, hR.2.2.1, hF⟩
theorem xR_putv {ci k t index : Nat} {ty : FieldType} {v : Value} (X : xX p s m args c meth cc own nL g) (hok : xOK ci) (hci : ci ≠ 99) (hk : (xkd ci)[k]? = some t) (hfin : (xT ci k).2.2.2 = false) (hty : xty ci k = ty) (hw : xlink own index ci k) (hd : decode cc pc = .ok (.putfield index, 3)) {q : Nat} {A B : xH} {H : Heap} {locs : List Loc} {ls : Array Slot} {r : List Value} (hq : xob n q = ci) (hR : xRel g F n A H) (hS : va_S (xFr g) s.heap H locs)
    (hn : narrow ty v = v) (hf : fits ty v = true) (hv : xfv g B q t k = v) (ho : ∀ j, j ≠ k → ∀ t, xfv g B q t j = xfv g A q t j) (hoo : ∀ z, z ≠ q → xen g B z = xen g A z) (hfF : xfin F B)
    (h : ∀ (H : Heap) (locs : List Loc), xRel g F n B H → va_S (xFr g) s.heap H locs → W p l e R s m args below meth c H locs cells slots Q (F0 m (pc + 3) ls r)) : W p l e R s m args below meth c H locs cells slots Q (F0 m pc ls (v :: .ref (xad g q) :: r)) := by
  obtain ⟨o1, o2, o3, o4⟩ := hok
  obtain ⟨q1, q2⟩ := xob_lt hq hci
  rw [xad_lt q1 hR.2.2.1]
  subst hty
  have hkN : k < xNf ci := (List.getElem?_eq_some_iff.mp hk).1
  have hts := X.2.2.2.2.1
  have hK := X.2.2.2.2.2.1.1
  have hat := hR.1 q _ (xws_get q1)
  rw [xen_o q2] at hat
  obtain ⟨rr, g1, cell, g2, g3, g4, g5⟩ := hat
  cases g1.symm.trans o1
  obtain ⟨hSl, hfc, kC, hkC, hkind⟩ := hK.1 ci _ o1
  obtain ⟨cf, kf, fi, f, hi, hsl⟩ := hSl k hkN
  have hlay : (Cond.lays (xC ci) (xT ci k).1 (xT ci k).2.1 (xT ci k).2.2.1).before args s = true := by
    have := hts _ (o2 _ (u_in_lay hkN))
    unfold u_lay at this
    rwa [if_neg (by rw [hfin]; decide)] at this
  have hap := va_apart (own := own) hts o2 (xty ci) o3 o4 hK o1
  have hsd := u_store hfc hkC hkind hlay hi (o3 k hkN) hn hf
  refine W.putK X.1 X.2.1 (f := f) ⟨X.2.2.2.1, hts _ hw, ⟨_, _, _, hi⟩, (u_facts hfc hkC (u_lays hts o2 hkN) hi).1⟩ (by rw [g3]; exact hsd) g2 g4 (by rw [hsl]; exact k2_hasslot (g5 k hkN)) rfl rfl hd fun H1 e1 e2 e3 => ?_
  rw [hsl] at e1 ⊢
  refine h H1 _ (xRel_upd hR q1 hoo hfF ?_ e2 e3) (hS.put e2 e3 (show g.2.1 ≤ g.2.1 + q by omega))
  rw [xen_o q2, ← xfs_set hk hv ho]
  exact ⟨_, o1, t_OB.to (V := updV (vp_V (xfs g A q ci)) k v) ⟨_, e1, g3, g4, t_set g5 hap hkN v⟩ (fun j _ => vp_updV_set (by rw [xfs_len]; exact hkN) v j)⟩
theorem xen_si {A : xH} {q k z : Nat} {v : Int32} (h : z ≠ q) : xen g (xsi A q k v) z = xen g A z := xen_same (by funext j; simp [xsi, h]) rfl rfl
theorem xen_sl {A : xH} {q k z : Nat} {v : Int64} (h : z ≠ q) : xen g (xsl A q k v) z = xen g A z := xen_same rfl (by funext j; simp [xsl, h]) rfl
theorem xen_sr {A : xH} {q k z : Nat} {v : Option Nat} (h : z ≠ q) : xen g (xsr A q k v) z = xen g A z := xen_same rfl rfl (by funext j; simp [xsr, h])
theorem xfv_si {A : xH} {q k : Nat} {v : Int32} : xfv g (xsi A q k v) q 0 k = .int v := by simp [xfv, xi, xsi]
theorem xfv_sl {A : xH} {q k : Nat} {v : Int64} : xfv g (xsl A q k v) q 1 k = .long v := by simp [xfv, xl, xsl]
theorem xfv_sr {A : xH} {q k : Nat} {d : Nat} : xfv g (xsr A q k (some d)) q 2 k = .ref (xad g d) := by simp [xfv, xr, xsr, va_rf]
theorem xfv_sio {A : xH} {q k : Nat} {v : Int32} : ∀ j, j ≠ k → ∀ t, xfv g (xsi A q k v) q t j = xfv g A q t j := by
  intro j hj t
  unfold xfv xi xl xr xsi
  simp [hj]
theorem xfv_slo {A : xH} {q k : Nat} {v : Int64} : ∀ j, j ≠ k → ∀ t, xfv g (xsl A q k v) q t j = xfv g A q t j := by
  intro j hj t
  unfold xfv xi xl xr xsl
  simp [hj]
theorem xfv_sro {A : xH} {q k : Nat} {v : Option Nat} : ∀ j, j ≠ k → ∀ t, xfv g (xsr A q k v) q t j = xfv g A q t j := by
  intro j hj t
  unfold xfv xi xl xr xsr
  simp [hj]
theorem xfin_sr {A : xH} {q k : Nat} {v : Option Nat} (h : xfin F A) (hk : xlay q k = none) : xfin F (xsr A q k v) := by
  intro z hz j hj
  have : ¬ (z = q ∧ j = k) := by
    rintro ⟨rfl, rfl⟩
    rw [hk] at hj
    cases hj
  show (if z = q ∧ j = k then v else A.2.2 z j) = _
  rw [if_neg this]
  exact h z hz j hj
theorem r_putI {ci k index : Nat} {K : xK} (X : xX p s m args c meth cc own nL g) (hok : xOK ci) (hci : ci ≠ 99) (hk : (xkd ci)[k]? = some 0) (hfin : (xT ci k).2.2.2 = false) (hty : xty ci k = .int) (hw : xlink own index ci k) (hd : decode cc pc = .ok (.putfield index, 3)) (h : xAt p l e R s m args below meth c g nL F n cells slots Q (K) (pc + 3)) : xAt p l e R s m args below meth c g nL F n cells slots Q (x_putI n ci k K) (pc) := by
  intro L st A H locs ls hK hR hS hL
  unfold x_putI at hK
  split at hK
  · exact xR_putv X hok hci hk hfin hty hw hd hK.1 hR hS rfl rfl xfv_si xfv_sio (fun z hz => xen_si hz) hR.2.2.2 (fun H locs hR hS => h L _ _ H locs ls hK.2 hR hS hL)
  · exact hK.elim
theorem r_putZ {ci k index : Nat} {K : xK} (X : xX p s m args c meth cc own nL g) (hok : xOK ci) (hci : ci ≠ 99) (hk : (xkd ci)[k]? = some 0) (hfin : (xT ci k).2.2.2 = false) (hty : xty ci k = .boolean) (hw : xlink own index ci k) (hd : decode cc pc = .ok (.putfield index, 3)) (h : xAt p l e R s m args below meth c g nL F n cells slots Q (K) (pc + 3)) : xAt p l e R s m args below meth c g nL F n cells slots Q (x_putZ n ci k K) (pc) := by
  intro L st A H locs ls hK hR hS hL
  unfold x_putZ at hK
  split at hK
  · obtain ⟨h1, h2, h3⟩ := hK
    exact xR_putv X hok hci hk hfin hty hw hd h1 hR hS (by rcases h2 with rfl | rfl <;> rfl) (by rcases h2 with rfl | rfl <;> rfl) xfv_si xfv_sio (fun z hz => xen_si hz) hR.2.2.2 (fun H locs hR hS => h L _ _ H locs ls h3 hR hS hL)
  · exact hK.elim
theorem r_putJ {ci k index : Nat} {K : xK} (X : xX p s m args c meth cc own nL g) (hok : xOK ci) (hci : ci ≠ 99) (hk : (xkd ci)[k]? = some 1) (hfin : (xT ci k).2.2.2 = false) (hty : xty ci k = .long) (hw : xlink own index ci k) (hd : decode cc pc = .ok (.putfield index, 3)) (h : xAt p l e R s m args below meth c g nL F n cells slots Q (K) (pc + 3)) : xAt p l e R s m args below meth c g nL F n cells slots Q (x_putJ n ci k K) (pc) := by
  intro L st A H locs ls hK hR hS hL
  unfold x_putJ at hK
  split at hK
  · exact xR_putv X hok hci hk hfin hty hw hd hK.1 hR hS rfl rfl xfv_sl xfv_slo (fun z hz => xen_sl hz) hR.2.2.2 (fun H locs hR hS => h L _ _ H locs ls hK.2 hR hS hL)
  · exact hK.elim
theorem r_putR {ci k index : Nat} {K : xK} {ty : FieldType} (X : xX p s m args c meth cc own nL g) (hok : xOK ci) (hci : ci ≠ 99) (hk : (xkd ci)[k]? = some 2) (hfin : (xT ci k).2.2.2 = false) (hty : xty ci k = ty) (hrf : ∀ a, narrow ty (.ref a) = .ref a ∧ fits ty (.ref a) = true) (hw : xlink own index ci k) (hd : decode cc pc = .ok (.putfield index, 3)) (h : xAt p l e R s m args below meth c g nL F n cells slots Q (K) (pc + 3)) : xAt p l e R s m args below meth c g nL F n cells slots Q (x_putR n ci k K) (pc) := by
  intro L st A H locs ls hK hR hS hL
  unfold x_putR at hK
  split at hK
  · obtain ⟨h1, h2, h3⟩ := hK
    exact xR_putv X hok hci hk hfin hty hw hd h1 hR hS (hrf _).1 (hrf _).2 xfv_sr xfv_sro (fun z hz => xen_sr hz) (xfin_sr hR.2.2.2 h2) (fun H locs hR hS => h L _ _ H locs ls h3 hR hS hL)
  · exact hK.elim
/-! arrays -/
theorem xtys_get {t : Nat} (ht : t < 7) : (xtys g)[t]? = some (g.2.2.1 t, xaty t) := by simp [xtys, ht]
theorem xen_i {A : xH} {q t : Nat} (h : (xsh q).1 = t) (ht : t = 1 ∨ t = 3 ∨ t = 4) : xen g A q = .inl (g.2.2.1 t, (xsh q).2, .inl (xi A q)) := by
  rw [xen_a h (by omega)]
  unfold xrow
  rw [if_neg (by omega), if_neg (by omega)]
theorem xen_j {A : xH} {q : Nat} (h : (xsh q).1 = 2) : xen g A q = .inl (g.2.2.1 2, (xsh q).2, .inr (.inl (xl A q))) := by
  rw [xen_a h (by omega)]
  rfl
theorem xen_q {A : xH} {q t : Nat} (h : (xsh q).1 = t) (ht : t = 5 ∨ t = 6) : xen g A q = .inl (g.2.2.1 t, (xsh q).2, .inr (.inr (.inr (.inr (fun k => (xr A q k).map (xad g)))))) := by
  rw [xen_a h (by omega)]
  unfold xrow
  rw [if_neg (by omega), if_pos ht]
def x_iald (n : Nat) (K : xK) : xK := fun L st A => match st with
  | .int j :: .ref q :: r => xtn n q = 1 ∧ vp_in j (xsh q).2 ∧ K L (.int (xi A q j.toNatClampNeg) :: r) A
  | _ => False
/-- bytes, booleans -/
def x_bald (n t : Nat) (K : xK) : xK := fun L st A => match st with
  | .int j :: .ref q :: r => xtn n q = t ∧ vp_in j (xsh q).2 ∧ K L (.int (xi A q j.toNatClampNeg) :: r) A
  | _ => False
def x_lald (n : Nat) (K : xK) : xK := fun L st A => match st with
  | .int j :: .ref q :: r => xtn n q = 2 ∧ vp_in j (xsh q).2 ∧ K L (.long (xl A q j.toNatClampNeg) :: r) A
  | _ => False
def x_aald (n t : Nat) (K : xK) : xK := fun L st A => match st with
  | .int j :: .ref q :: r => xtn n q = t ∧ vp_in j (xsh q).2 ∧ (match xr A q j.toNatClampNeg with
    | some d => K L (.ref d :: r) A
    | none => False)
  | _ => False
def x_alen (n : Nat) (K : xK) : xK := fun L st A => match st with
  | .ref q :: r => xtn n q ≠ 0 ∧ xtn n q < 7 ∧ K L (.int (Int32.ofNat (xsh q).2) :: r) A
  | _ => False
def x_iast (n : Nat) (K : xK) : xK := fun L st A => match st with
  | .int x :: .int j :: .ref q :: r => xtn n q = 1 ∧ vp_in j (xsh q).2 ∧ K L r (xsi A q j.toNatClampNeg x)
  | _ => False
def x_bast (n t : Nat) (K : xK) : xK := fun L st A => match st with
  | .int x :: .int j :: .ref q :: r => xtn n q = t ∧ vp_in j (xsh q).2 ∧ K L r (xsi A q j.toNatClampNeg (vp_nar (xaty t) x))
  | _ => False
def x_last (n : Nat) (K : xK) : xK := fun L st A => match st with
  | .long x :: .int j :: .ref q :: r => xtn n q = 2 ∧ vp_in j (xsh q).2 ∧ K L r (xsl A q j.toNatClampNeg x)
  | _ => False
def x_aast (n t ci : Nat) (K : xK) : xK := fun L st A => match st with
  | .ref d :: .int j :: .ref q :: r => xtn n q = t ∧ vp_in j (xsh q).2 ∧ xob n d = ci ∧ K L r (xsr A q j.toNatClampNeg (some d))
  | _ => False
theorem r_iald {K : xK} (X : xX p s m args c meth cc own nL g) (hd : decode cc pc = .ok (.iaload, 1)) (h : xAt p l e R s m args below meth c g nL F n cells slots Q (K) (pc + 1)) : xAt p l e R s m args below meth c g nL F n cells slots Q (x_iald n K) (pc) := by
  intro L st A H locs ls hK hR hS hL
  unfold x_iald at hK
  split at hK
  · rename_i j q r
    obtain ⟨q1, q2⟩ := xtn_lt hK.1 (by omega)
    show W p l e R s m args below meth c H locs cells slots Q (F0 m pc ls (.int j :: .ref (xad g q) :: r.map (xcv g)))
    rw [xad_lt q1 hR.2.2.1]
    exact va_iald X.1 X.2.1 X.2.2.2.2.2.1.1 hR.1 q 1 (f := xi A q) (by rw [xws_get q1, xen_i q2 (by omega)]) (xtys_get (by omega)) hK.2.1 hd (h L _ A H locs ls hK.2.2 hR hS hL)
  · exact hK.elim
theorem r_bald {K : xK} (X : xX p s m args c meth cc own nL g) (hd : decode cc pc = .ok (.baload, 1)) (h : xAt p l e R s m args below meth c g nL F n cells slots Q (K) (pc + 1)) : xAt p l e R s m args below meth c g nL F n cells slots Q (x_bald n 3 K) (pc) := by
  intro L st A H locs ls hK hR hS hL
  unfold x_bald at hK
  split at hK
  · rename_i j q r
    obtain ⟨q1, q2⟩ := xtn_lt hK.1 (by omega)
    show W p l e R s m args below meth c H locs cells slots Q (F0 m pc ls (.int j :: .ref (xad g q) :: r.map (xcv g)))
    rw [xad_lt q1 hR.2.2.1]
    exact va_bald X.1 X.2.1 X.2.2.2.2.2.1.1 hR.1 q 3 (f := xi A q) (by rw [xws_get q1, xen_i q2 (by omega)]) (xtys_get (by omega)) hK.2.1 hd (h L _ A H locs ls hK.2.2 hR hS hL)
  · exact hK.elim
theorem r_zald {K : xK} (X : xX p s m args c meth cc own nL g) (hd : decode cc pc = .ok (.baload, 1)) (h : xAt p l e R s m args below meth c g nL F n cells slots Q (K) (pc + 1)) : xAt p l e R s m args below meth c g nL F n cells slots Q (x_bald n 4 K) (pc) := by
  intro L st A H locs ls hK hR hS hL
  unfold x_bald at hK
  split at hK
  · rename_i j q r
    obtain ⟨q1, q2⟩ := xtn_lt hK.1 (by omega)
    show W p l e R s m args below meth c H locs cells slots Q (F0 m pc ls (.int j :: .ref (xad g q) :: r.map (xcv g)))
    rw [xad_lt q1 hR.2.2.1]
    exact va_zald X.1 X.2.1 X.2.2.2.2.2.1.1 hR.1 q 4 (f := xi A q) (by rw [xws_get q1, xen_i q2 (by omega)]) (xtys_get (by omega)) hK.2.1 hd (h L _ A H locs ls hK.2.2 hR hS hL)
  · exact hK.elim
theorem r_lald {K : xK} (X : xX p s m args c meth cc own nL g) (hd : decode cc pc = .ok (.laload, 1)) (h : xAt p l e R s m args below meth c g nL F n cells slots Q (K) (pc + 1)) : xAt p l e R s m args below meth c g nL F n cells slots Q (x_lald n K) (pc) := by
  intro L st A H locs ls hK hR hS hL
  unfold x_lald at hK
  split at hK
  · rename_i j q r
    obtain ⟨q1, q2⟩ := xtn_lt hK.1 (by omega)
    show W p l e R s m args below meth c H locs cells slots Q (F0 m pc ls (.int j :: .ref (xad g q) :: r.map (xcv g)))
    rw [xad_lt q1 hR.2.2.1]
    exact va_lald X.1 X.2.1 X.2.2.2.2.2.1.1 hR.1 q 2 (f := xl A q) (by rw [xws_get q1, xen_j q2]) (xtys_get (by omega)) hK.2.1 hd (h L _ A H locs ls hK.2.2 hR hS hL)
  · exact hK.elim
theorem r_aald {t : Nat} {C : String} {K : xK} (X : xX p s m args c meth cc own nL g) (ht : t = 5 ∨ t = 6) (hC : xaty t = .object C) (hd : decode cc pc = .ok (.aaload, 1)) (h : xAt p l e R s m args below meth c g nL F n cells slots Q (K) (pc + 1)) : xAt p l e R s m args below meth c g nL F n cells slots Q (x_aald n t K) (pc) := by
  intro L st A H locs ls hK hR hS hL
  unfold x_aald at hK
  split at hK
  · rename_i j q r
    obtain ⟨h1, h2, h3⟩ := hK
    obtain ⟨q1, q2⟩ := xtn_lt h1 (by omega)
    show W p l e R s m args below meth c H locs cells slots Q (F0 m pc ls (.int j :: .ref (xad g q) :: r.map (xcv g)))
    rw [xad_lt q1 hR.2.2.1]
    split at h3
    · rename_i d hd2
      refine va_aldq (C := C) X.1 X.2.1 X.2.2.2.2.2.1.1 hR.1 q t (f := fun k => (xr A q k).map (xad g)) (by rw [xws_get q1, xen_q q2 ht]) (by rw [xtys_get (by omega), hC]) h2 hd ?_
      rw [hd2]
      exact h L _ A H locs ls h3 hR hS hL
    · exact h3.elim
  · exact hK.elim
theorem r_alen {K : xK} (X : xX p s m args c meth cc own nL g) (hd : decode cc pc = .ok (.arraylength, 1)) (h : xAt p l e R s m args below meth c g nL F n cells slots Q (K) (pc + 1)) : xAt p l e R s m args below meth c g nL F n cells slots Q (x_alen n K) (pc) := by
  intro L st A H locs ls hK hR hS hL
  unfold x_alen at hK
  split at hK
  · rename_i q r
    obtain ⟨h0, h1, h2⟩ := hK
    obtain ⟨q1, q2⟩ := xtn_lt (rfl : xtn n q = xtn n q) (by omega)
    show W p l e R s m args below meth c H locs cells slots Q (F0 m pc ls (.ref (xad g q) :: r.map (xcv g)))
    rw [xad_lt q1 hR.2.2.1]
    exact va_alen X.1 X.2.1 X.2.2.2.2.2.1.1 hR.1 q (xtn n q) (x := ((xsh q).2, xrow g A q (xtn n q))) (by rw [xws_get q1, xen_a q2 h0]) (xtys_get h1) rfl hd (h L _ A H locs ls h2 hR hS hL)
  · exact hK.elim
theorem r_iast {K : xK} (X : xX p s m args c meth cc own nL g) (hd : decode cc pc = .ok (.iastore, 1)) (h : xAt p l e R s m args below meth c g nL F n cells slots Q (K) (pc + 1)) : xAt p l e R s m args below meth c g nL F n cells slots Q (x_iast n K) (pc) := by
  intro L st A H locs ls hK hR hS hL
  unfold x_iast at hK
  split at hK
  · rename_i x j q r
    obtain ⟨h1, h2, h3⟩ := hK
    obtain ⟨q1, q2⟩ := xtn_lt h1 (by omega)
    show W p l e R s m args below meth c H locs cells slots Q (F0 m pc ls (.int x :: .int j :: .ref (xad g q) :: r.map (xcv g)))
    rw [xad_lt q1 hR.2.2.1]
    have hat := hR.1 q _ (xws_get q1)
    rw [xen_i q2 (by omega)] at hat
    refine W.iast X.1 X.2.1 hat ((X.2.2.2.2.2.1.1.2 1 _ (xtys_get (by omega))).1 _ (fun j => .int (xi A q j))) (fun q => by cases q) (by show ¬ (j < 0 ∨ (arrV _ _ _).slots.size ≤ _); rw [arrV_size]; exact h2) rfl rfl hd fun H1 e z oq => ?_
    refine h L _ _ H1 _ ls h3 (xRel_upd hR q1 (fun z hz => xen_si hz) hR.2.2.2 ?_ z oq) (hS.put z oq (show g.2.1 ≤ g.2.1 + q by omega)) hL
    rw [xen_i q2 (by omega)]
    show H1[_]? = some (vp_cell _ _)
    rw [e, vp_cell_i, vp_cell_i, arrV_store]
    congr 2
    funext i
    simp only [updV, xi, xsi]
    by_cases hi : i = j.toNatClampNeg <;> simp [hi]
  · exact hK.elim
theorem xR_bast {t : Nat} {K : xK} (ht : t = 3 ∨ t = 4) (X : xX p s m args c meth cc own nL g) (hd : decode cc pc = .ok (.bastore, 1)) (h : xAt p l e R s m args below meth c g nL F n cells slots Q (K) (pc + 1)) : xAt p l e R s m args below meth c g nL F n cells slots Q (x_bast n t K) (pc) := by
  intro L st A H locs ls hK hR hS hL
  unfold x_bast at hK
  split at hK
  · rename_i x j q r
    obtain ⟨h1, h2, h3⟩ := hK
    obtain ⟨q1, q2⟩ := xtn_lt h1 (by omega)
    show W p l e R s m args below meth c H locs cells slots Q (F0 m pc ls (.int x :: .int j :: .ref (xad g q) :: r.map (xcv g)))
    rw [xad_lt q1 hR.2.2.1]
    have hat := hR.1 q _ (xws_get q1)
    rw [xen_i q2 (by omega)] at hat
    have harr := (X.2.2.2.2.2.1.1.2 t _ (xtys_get (by omega))).1 (xsh q).2 (fun j => .int (xi A q j))
    have hin : ¬ (j < 0 ∨ (arrV (g.2.2.1 t) (xsh q).2 (fun j => .int (xi A q j))).slots.size ≤ j.toNatClampNeg) := by rw [arrV_size]; exact h2
    have fin : ∀ H1 : Heap, H1[g.2.1 + q]? = some ((arrV (g.2.2.1 t) (xsh q).2 (fun j => .int (xi A q j))).setSlot j.toNatClampNeg (.int (vp_nar (xaty t) x))) → H1.size = H.size → (∀ z, z ≠ g.2.1 + q → H1[z]? = H[z]?) → W p l e R s m args below meth c H1 (locs ++ [⟨g.2.1 + q, j.toNatClampNeg⟩]) cells slots Q (F0 m (pc + 1) ls (r.map (xcv g))) := by
      intro H1 e z oq
      refine h L _ _ H1 _ ls h3 (xRel_upd hR q1 (fun z hz => xen_si hz) hR.2.2.2 ?_ z oq) (hS.put z oq (show g.2.1 ≤ g.2.1 + q by omega)) hL
      rw [xen_i q2 (by omega)]
      show H1[_]? = some (vp_cell _ _)
      rw [e, vp_cell_i, arrV_store]
      congr 2
      funext i
      simp only [updV, xi, xsi]
      by_cases hi : i = j.toNatClampNeg <;> simp [hi]
    rcases ht with rfl | rfl
    · exact W.bast X.1 X.2.1 hat harr (fun q => by cases q) hin rfl rfl hd fun H1 e z oq => fin H1 e z oq
    · exact W.zast X.1 X.2.1 hat harr (fun q => by cases q) hin rfl rfl hd fun H1 e z oq => fin H1 e z oq
  · exact hK.elim
theorem r_bast {K : xK} (X : xX p s m args c meth cc own nL g) (hd : decode cc pc = .ok (.bastore, 1)) (h : xAt p l e R s m args below meth c g nL F n cells slots Q (K) (pc + 1)) : xAt p l e R s m args below meth c g nL F n cells slots Q (x_bast n 3 K) (pc) := xR_bast (by omega) X hd h
theorem r_zast {K : xK} (X : xX p s m args c meth cc own nL g) (hd : decode cc pc = .ok (.bastore, 1)) (h : xAt p l e R s m args below meth c g nL F n cells slots Q (K) (pc + 1)) : xAt p l e R s m args below meth c g nL F n cells slots Q (x_bast n 4 K) (pc) := xR_bast (by omega) X hd h
theorem r_last {K : xK} (X : xX p s m args c meth cc own nL g) (hd : decode cc pc = .ok (.lastore, 1)) (h : xAt p l e R s m args below meth c g nL F n cells slots Q (K) (pc + 1)) : xAt p l e R s m args below meth c g nL F n cells slots Q (x_last n K) (pc) := by
  intro L st A H locs ls hK hR hS hL
  unfold x_last at hK
  split at hK
  · rename_i x j q r
    obtain ⟨h1, h2, h3⟩ := hK
    obtain ⟨q1, q2⟩ := xtn_lt h1 (by omega)
    show W p l e R s m args below meth c H locs cells slots Q (F0 m pc ls (.long x :: .int j :: .ref (xad g q) :: r.map (xcv g)))
    rw [xad_lt q1 hR.2.2.1]
    have hat := hR.1 q _ (xws_get q1)
    rw [xen_j q2] at hat
    refine W.last X.1 X.2.1 hat ((X.2.2.2.2.2.1.1.2 2 _ (xtys_get (by omega))).1 _ (fun j => .long (xl A q j))) (fun q => by cases q) (by show ¬ (j < 0 ∨ (arrV _ _ _).slots.size ≤ _); rw [arrV_size]; exact h2) rfl rfl hd fun H1 e z oq => ?_
    refine h L _ _ H1 _ ls h3 (xRel_upd hR q1 (fun z hz => xen_sl hz) hR.2.2.2 ?_ z oq) (hS.put z oq (show g.2.1 ≤ g.2.1 + q by omega)) hL
    rw [xen_j q2]
    show H1[_]? = some (vp_cell _ _)
    rw [e, vp_cell_l, vp_cell_l, arrV_store]
    congr 2
    funext i
    simp only [updV, xl, xsl]
    by_cases hi : i = j.toNatClampNeg <;> simp [hi]
  · exact hK.elim
theorem r_aast {t ci : Nat} {K : xK} (ht : t = 5 ∨ t = 6) (hok : xOK ci) (hci : ci ≠ 99) (hC : xaty t = .object (xC ci)) (X : xX p s m args c meth cc own nL g) (hd : decode cc pc = .ok (.aastore, 1)) (h : xAt p l e R s m args below meth c g nL F n cells slots Q (K) (pc + 1)) : xAt p l e R s m args below meth c g nL F n cells slots Q (x_aast n t ci K) (pc) := by
  intro L st A H locs ls hK hR hS hL
  unfold x_aast at hK
  split at hK
  · rename_i d j q r
    obtain ⟨h1, h2, h3, h4⟩ := hK
    obtain ⟨q1, q2⟩ := xtn_lt h1 (by omega)
    obtain ⟨d1, d2⟩ := xob_lt h3 hci
    show W p l e R s m args below meth c H locs cells slots Q (F0 m pc ls (.ref (xad g d) :: .int j :: .ref (xad g q) :: r.map (xcv g)))
    have ead := xad_lt (g := g) d1 hR.2.2.1
    rw [xad_lt q1 hR.2.2.1, ead]
    have hat := hR.1 q _ (xws_get q1)
    rw [xen_q q2 ht] at hat
    have hav := hR.1 d _ (xws_get d1)
    rw [xen_o d2] at hav
    obtain ⟨rr, v1, cellV, v2, v3, v4, v5⟩ := hav
    cases v1.symm.trans hok.1
    have hK := X.2.2.2.2.2.1.1
    have hcls := (hK.1 ci _ hok.1).2
    have hra := (hK.2 t _ (xtys_get (by omega))).2
    rw [hC] at hra
    obtain ⟨kA, comp, k1, k2, k3, -⟩ := hra
    have hcomp : comp = g.1.1 ci := Option.some.inj (k3.symm.trans hcls.1)
    subst hcomp
    obtain ⟨kC, hkC, -⟩ := hcls.2
    have h0 : ¬ j < 0 := fun q => h2 (Or.inl q)
    have hlt : j.toNatClampNeg < (xsh q).2 := Nat.not_le.mp fun q => h2 (Or.inr q)
    refine W.aast X.1 X.2.1 hat (fun q h => by cases h) (fun h => by cases h) k1 k2 rfl hkC ⟨h0, by show _ < (arrV _ _ _).slots.size; rw [arrV_size]; exact hlt⟩ v2 (fun q h => by rw [v4] at h; cases h) (by rw [v3]; exact hkC) (by rw [v3]; exact va_assign hcls) rfl rfl hd fun H1 e z oq => ?_
    refine h L _ _ H1 _ ls h4 (xRel_upd hR q1 (fun z hz => xen_sr hz) (xfin_sr hR.2.2.2 (xlay_arr (by omega))) ?_ z oq) (hS.put z oq (show g.2.1 ≤ g.2.1 + q by omega)) hL
    rw [xen_q q2 ht]
    show H1[_]? = some (vp_cell _ _)
    rw [e, vp_cell_q, vp_cell_q, arrV_store]
    congr 2
    funext i
    simp only [updV, xr, xsr]
    by_cases hi : i = j.toNatClampNeg
    · simp [hi, va_rf, ead]
    · simp [hi]
  · exact hK.elim
/-! static arrays -/
def x_gets (q : Nat) (K : xK) : xK := fun L st A => K L (.ref q :: st) A
def x_laldS (K : xK) : xK := fun L st A => match st with
  | .int j :: .ref q :: r => q = 1000 ∧ vp_in j 16 ∧ K L (.long (xRES j.toNatClampNeg) :: r) A
  | _ => False
def x_ialdS (K : xK) : xK := fun L st A => match st with
  | .int j :: .ref q :: r => q = 1001 ∧ vp_in j 6 ∧ K L (.int (xPOW j.toNatClampNeg) :: r) A
  | _ => False
def x_alenS (K : xK) : xK := fun L st A => match st with
  | .ref q :: r => q = 1000 ∧ K L (.int 16 :: r) A
  | _ => False
theorem r_getsR {index : Nat} {host : String} {K : xK} (X : xX p s m args c meth cc own nL g) (hx : (own, index, "TwinTrees", "RESERVED", "[J", host) ∈ xNF) (hd : decode cc pc = .ok (.getstatic index, 3)) (h : xAt p l e R s m args below meth c g nL F n cells slots Q (K) (pc + 3)) : xAt p l e R s m args below meth c g nL F n cells slots Q (x_gets 1000 K) (pc) := by
  intro L st A H locs ls hK hR hS hL
  obtain ⟨-, ⟨z1, -⟩, -, z3, -⟩ := X.2.2.2.2.2.1
  exact va_getsN X.1 X.2.1 z1 hS X.2.2.2.1 (va_Nw.use rfl (z3 _ hx)) (fun _ h => h) hd (h L _ A H locs ls hK hR hS hL)
theorem r_getsP {index : Nat} {host : String} {K : xK} (X : xX p s m args c meth cc own nL g) (hx : (own, index, "TwinTrees", "POWER", "[I", host) ∈ xNF) (hd : decode cc pc = .ok (.getstatic index, 3)) (h : xAt p l e R s m args below meth c g nL F n cells slots Q (K) (pc + 3)) : xAt p l e R s m args below meth c g nL F n cells slots Q (x_gets 1001 K) (pc) := by
  intro L st A H locs ls hK hR hS hL
  obtain ⟨-, -, ⟨z1, -⟩, z3, -⟩ := X.2.2.2.2.2.1
  exact va_getsN X.1 X.2.1 z1 hS X.2.2.2.1 (va_Nw.use rfl (z3 _ hx)) (fun _ h => h) hd (h L _ A H locs ls hK hR hS hL)
theorem r_laldS {K : xK} (X : xX p s m args c meth cc own nL g) (hd : decode cc pc = .ok (.laload, 1)) (h : xAt p l e R s m args below meth c g nL F n cells slots Q (K) (pc + 1)) : xAt p l e R s m args below meth c g nL F n cells slots Q (x_laldS K) (pc) := by
  intro L st A H locs ls hK hR hS hL
  unfold x_laldS at hK
  split at hK
  · obtain ⟨rfl, h2, h3⟩ := hK
    obtain ⟨-, ⟨-, z2⟩, -⟩ := X.2.2.2.2.2.1
    exact va_tl X.1 X.2.1 z2 hS h2 rfl hd (h L _ A H locs ls h3 hR hS hL)
  · exact hK.elim
theorem r_ialdS {K : xK} (X : xX p s m args c meth cc own nL g) (hd : decode cc pc = .ok (.iaload, 1)) (h : xAt p l e R s m args below meth c g nL F n cells slots Q (K) (pc + 1)) : xAt p l e R s m args below meth c g nL F n cells slots Q (x_ialdS K) (pc) := by
  intro L st A H locs ls hK hR hS hL
  unfold x_ialdS at hK
  split at hK
  · obtain ⟨rfl, h2, h3⟩ := hK
    obtain ⟨-, -, ⟨-, z2⟩, -⟩ := X.2.2.2.2.2.1
    exact va_ti X.1 X.2.1 z2 hS h2 rfl hd (h L _ A H locs ls h3 hR hS hL)
  · exact hK.elim
theorem r_alenS {K : xK} (X : xX p s m args c meth cc own nL g) (hd : decode cc pc = .ok (.arraylength, 1)) (h : xAt p l e R s m args below meth c g nL F n cells slots Q (K) (pc + 1)) : xAt p l e R s m args below meth c g nL F n cells slots Q (x_alenS K) (pc) := by
  intro L st A H locs ls hK hR hS hL
  unfold x_alenS at hK
  split at hK
  · obtain ⟨rfl, h3⟩ := hK
    obtain ⟨-, ⟨-, z2⟩, -⟩ := X.2.2.2.2.2.1
    exact va_tlen X.1 X.2.1 z2 hS rfl hd (h L _ A H locs ls h3 hR hS hL)
  · exact hK.elim
end XR2
