/-! ===== the abstract machine: objects and arrays that are made ===== -/
def xFF : Nat → Prop := fun _ => False
/-- a new cell: all zero -/
def xz (A : xH) (q : Nat) : xH := (fun c k => if c = q then 0 else A.1 c k, fun c k => if c = q then 0 else A.2.1 c k, fun c k => if c = q then none else A.2.2 c k)
theorem xi_z {A : xH} {q c k : Nat} : xi (xz A q) c k = if c = q then 0 else xi A c k := rfl
theorem xl_z {A : xH} {q c k : Nat} : xl (xz A q) c k = if c = q then 0 else xl A c k := rfl
theorem xr_z {A : xH} {q c k : Nat} : xr (xz A q) c k = if c = q then none else xr A c k := rfl
theorem xen_z {g : xG} {A : xH} {q z : Nat} (h : z ≠ q) : xen g (xz A q) z = xen g A z := xen_same (by funext j; simp [xz, h]) (by funext j; simp [xz, h]) (by funext j; simp [xz, h])
theorem xborn : ∀ ci, ci < 13 → ∀ j, j < xNf ci → defaultValue (xty ci j) = (match (xkd ci).getD j 0 with | 0 => Value.int 0 | 1 => Value.long 0 | _ => Value.null) := by decide +kernel
theorem xok_lt {ci : Nat} (h : xOK ci) : ci < 13 := (List.getElem?_eq_some_iff.mp h.1).1
/-- what a call of a constructor needs of the tables -/
def xIF (y : MethodName) (cy : ByteArray) (nLy na : Nat) : Prop := xNm y na ∧ Cond.code y cy nLy none ∈ xTS ∧ Cond.instanceMethod y ∈ xTS ∧ Cond.initialized y.cls ∈ xTS ∧ y.name = "<init>"
def xNW (own : String) (index ci : Nat) : Prop := Cond.classLink own index (xC ci) ∈ xTS ∧ Cond.instantiable (xC ci) (xNf ci) ∈ xTS ∧ Cond.initialized (xC ci) ∈ xTS
section XR4
variable {p : Program} {l : Launch} {e : Env} {R : Room} {s : State} {m : MethodId} {args : Array Value} {below : List Frame} {meth : Method} {c : Code} {Q : State → Prop} {cc : ByteArray} {own : String} {nL n cells slots pc : Nat} {F : Nat → Prop} {g : xG}
theorem xRel_push {A : xH} {H H1 : Heap} (hR : xRel g xFF n A H) (hn : n < 1000) (hne : n ≠ xN) (e : va_at g.1 vwCl (g.2.1 + n, xen g (xz A n) n) H1) (z : H1.size = H.size + 1) (o : ∀ q, q < H.size → H1[q]? = H[q]?) : xRel g xFF (n + 1) (xz A n) H1 := by
  have hs := hR.2.1 hne
  refine ⟨fun k q hk => ?_, fun _ => by omega, by omega, fun q h => h.elim⟩
  have hkn : k < n + 1 := by
    have := (List.getElem?_eq_some_iff.mp hk).1
    simpa [xws] using this
  rw [xws_get hkn] at hk
  cases hk
  by_cases q : k = n
  · subst q; exact e
  · rw [xen_z q]
    exact (hR.1 k _ (xws_get (show k < n by omega))).kept (o _ (show g.2.1 + k < H.size by omega))
def x_new (n ci : Nat) (K : xK) : xK := fun L st A => xsh n = (0, ci) ∧ K L (.ref n :: st) (xz A n)
theorem xcv_new (hn : n < 1000) {st : List Value} : (Value.ref n :: st).map (xcv g) = .ref (g.2.1 + n) :: st.map (xcv g) := by
  show Value.ref (xad g n) :: _ = _
  rw [show xad g n = g.2.1 + n by unfold xad; rw [if_pos hn]]
theorem r_new {ci index : Nat} {K : xK} (X : xX p s m args c meth cc own nL g) (hok : xOK ci) (hn : n < 1000) (hne : n ≠ xN) (hw : xNW own index ci) (hcells : cells + 1 ≤ R.cells) (hslots : slots + xNf ci ≤ R.slots) (hd : decode cc pc = .ok (.new index, 3)) (h : xAt p l e R s m args below meth c g nL xFF (n + 1) (cells + 1) (slots + xNf ci) Q K (pc + 3)) : xAt p l e R s m args below meth c g nL xFF n cells slots Q (x_new n ci K) pc := by
  intro L st A H locs ls hK hR hS hL
  obtain ⟨h1, hK⟩ := hK
  have hts := X.2.2.2.2.1
  have hKn := X.2.2.2.2.2.1.1.1 ci _ hok.1
  refine W.newcK X.1 X.2.1 X.2.2.2.1 (hts _ hw.1) (hts _ hw.2.1) (hts _ hw.2.2) rfl hd hcells hslots hKn.2.1 (hR.2.1 hne) fun H1 kC hkC e1 z1 o1 => ?_
  have z2 : H1.size = H.size + 1 := by rw [z1, hR.2.1 hne]
  have o2 : ∀ q, q < H.size → H1[q]? = H[q]? := fun q hq => o1 q (by rw [← hR.2.1 hne]; exact hq)
  have := h L _ _ H1 locs ls hK (xRel_push hR hn hne ?_ z2 o2) ⟨Nat.le_trans hS.1 (by omega), fun x a1 a2 => (o2 x (Nat.lt_of_lt_of_le a1 hS.1)).trans (hS.2.1 x a1 a2), hS.2.2⟩ hL
  · rw [xcv_new hn] at this
    exact this
  · rw [xen_o h1]
    refine ⟨_, hok.1, (u_born (xty ci) hts hok.2.1 hKn hkC e1 hok.2.2.1).to fun j hj => ?_⟩
    rw [xborn ci (xok_lt hok) j hj]
    show _ = (xfs g (xz A n) n ci).getD j .null
    have hj2 : (xfs g (xz A n) n ci)[j]? = some (xfv g (xz A n) n ((xkd ci).getD j 0) j) := by
      unfold xfs
      rw [List.getElem?_map, List.getElem?_range hj]
      rfl
    have e3 : (xfs g (xz A n) n ci).getD j .null = xfv g (xz A n) n ((xkd ci).getD j 0) j := by rw [List.getD_eq_getElem?_getD, hj2]; rfl
    rw [e3]
    unfold xfv
    rw [xi_z, xl_z, xr_z, if_pos rfl, if_pos rfl, if_pos rfl]
    generalize (xkd ci).getD j 0 = t
    match t with
    | 0 => rfl
    | 1 => rfl
    | t + 2 => rfl
/-! arrays -/
def x_newa (n t len : Nat) (K : xK) : xK := fun L st A => match st with
  | .int x :: r => x = Int32.ofNat len ∧ xsh n = (t, len) ∧ K L (.ref n :: r) (xz A n)
  | _ => False
theorem r_newa {t len : Nat} {atype : ArrayType} {K : xK} (X : xX p s m args c meth cc own nL g) (ht : (newarray.typeOf atype = xaty t ∧ (t = 1 ∨ t = 2 ∨ t = 3 ∨ t = 4)) ) (hlen : len < 100000) (hn : n < 1000) (hne : n ≠ xN) (hw : Cond.arrayClass (newarray.typeOf atype) ∈ xTS) (hcells : cells + 1 ≤ R.cells) (hslots : slots + len ≤ R.slots) (hd : decode cc pc = .ok (.newarray atype, 2)) (h : xAt p l e R s m args below meth c g nL xFF (n + 1) (cells + 1) (slots + len) Q K (pc + 2)) : xAt p l e R s m args below meth c g nL xFF n cells slots Q (x_newa n t len K) pc := by
  intro L st A H locs ls hK hR hS hL
  unfold x_newa at hK
  split at hK
  · rename_i x r
    obtain ⟨rfl, h1, hK⟩ := hK
    have hts := X.2.2.2.2.1
    obtain ⟨ht1, ht2⟩ := ht
    have hN : (Int32.ofNat len).toNatClampNeg = len := nI_clamp (by omega)
    have hb : componentBytes (newarray.typeOf atype) ≤ 8 := by cases atype <;> decide
    refine va_newaK X.1 X.2.1 (hts _ hw) rfl hd rfl (nI_pos (by omega)) hN (Nat.le_trans (Nat.mul_le_mul (Nat.le_of_lt hlen) hb) (by decide)) hcells hslots (hR.2.1 hne) fun H1 cA e1 z1 o1 hAr hNm => ?_
    have z2 : H1.size = H.size + 1 := by rw [z1, hR.2.1 hne]
    have o2 : ∀ q, q < H.size → H1[q]? = H[q]? := fun q hq => o1 q (by rw [← hR.2.1 hne]; exact hq)
    have hcA : cA = g.2.2.1 t := by
      have hra := (X.2.2.2.2.2.1.1.2 t _ (xtys_get (by omega))).2
      rw [ht1] at hNm
      have : s.vm.findClass ("[" ++ (xaty t).toString) = some (g.2.2.1 t) := by
        rcases ht2 with rfl | rfl | rfl | rfl <;> exact hra
      exact Option.some.inj (hNm.symm.trans this)
    subst hcA
    have := h L _ _ H1 locs ls hK (xRel_push hR hn hne ?_ z2 o2) ⟨Nat.le_trans hS.1 (by omega), fun x a1 a2 => (o2 x (Nat.lt_of_lt_of_le a1 hS.1)).trans (hS.2.1 x a1 a2), hS.2.2⟩ hL
    · rw [xcv_new hn] at this
      exact this
    · have hs1 : (xsh n).1 = t := by rw [h1]
      have hs2 : (xsh n).2 = len := by rw [h1]
      have ei : ∀ j, xi (xz A n) n j = 0 := fun j => by rw [xi_z, if_pos rfl]
      have el : ∀ j, xl (xz A n) n j = 0 := fun j => by rw [xl_z, if_pos rfl]
      rw [ht1] at e1
      rcases ht2 with rfl | rfl | rfl | rfl
      · rw [xen_i hs1 (by omega), hs2]
        show H1[_]? = some (vp_cell _ _)
        rw [vp_cell_i, e1]
        simp only [ei]
        rfl
      · rw [xen_j hs1, hs2]
        show H1[_]? = some (vp_cell _ _)
        rw [vp_cell_l, e1]
        simp only [el]
        rfl
      · rw [xen_i hs1 (by omega), hs2]
        show H1[_]? = some (vp_cell _ _)
        rw [vp_cell_i, e1]
        simp only [ei]
        rfl
      · rw [xen_i hs1 (by omega), hs2]
        show H1[_]? = some (vp_cell _ _)
        rw [vp_cell_i, e1]
        simp only [ei]
        rfl
  · exact hK.elim
/-- an array of references -/
theorem r_newq {t ci len index : Nat} {K : xK} (X : xX p s m args c meth cc own nL g) (ht : t = 5 ∨ t = 6) (hC : xaty t = .object (xC ci)) (hao : va_AO (xC ci) s) (hlen : len < 100000) (hn : n < 1000) (hne : n ≠ xN) (hw : Cond.classLink own index (xC ci) ∈ xTS) (hcells : cells + 1 ≤ R.cells) (hslots : slots + len ≤ R.slots) (hd : decode cc pc = .ok (.anewarray index, 3)) (h : xAt p l e R s m args below meth c g nL xFF (n + 1) (cells + 1) (slots + len) Q K (pc + 3)) : xAt p l e R s m args below meth c g nL xFF n cells slots Q (x_newa n t len K) pc := by
  intro L st A H locs ls hK hR hS hL
  unfold x_newa at hK
  split at hK
  · rename_i x r
    obtain ⟨rfl, h1, hK⟩ := hK
    have hts := X.2.2.2.2.1
    have hN : (Int32.ofNat len).toNatClampNeg = len := nI_clamp (by omega)
    refine W.anew X.1 X.2.1 X.2.2.2.1 (hts _ hw) (va_AO.use hao) rfl hd rfl (nI_pos (by omega)) (by rw [hN]; omega) hcells (by rw [hN]; exact hslots) fun cA kA comp f1 f2 f3 f4 => ?_
    rw [hN]
    generalize hH1 : H.push ({ cls := cA, slots := Array.replicate len .null, vm := .none } : Cell) = H1
    have z2 : H1.size = H.size + 1 := by rw [← hH1, Array.size_push]
    have e1 : H1[H.size]? = some (arrV cA len (fun _ => .null)) := by rw [← hH1, Array.getElem?_push_size, ← arrV_new]
    have o2 : ∀ q : Nat, q < H.size → H1[q]? = H[q]? := fun q hq => by rw [← hH1, Array.getElem?_push, if_neg (Nat.ne_of_lt hq)]
    have hcA : cA = g.2.2.1 t := by
      have hra := (X.2.2.2.2.2.1.1.2 t _ (xtys_get (by omega))).2
      rw [hC] at hra
      obtain ⟨kA', comp', k1, k2, k3, k4⟩ := hra
      exact Option.some.inj (f1.symm.trans k4)
    subst hcA
    have hsz := hR.2.1 hne
    have := h L _ _ H1 locs ls hK (xRel_push hR hn hne ?_ z2 o2) ⟨Nat.le_trans hS.1 (by omega), fun x a1 a2 => (o2 x (Nat.lt_of_lt_of_le a1 hS.1)).trans (hS.2.1 x a1 a2), hS.2.2⟩ hL
    · rw [xcv_new hn, ← hsz] at this
      exact this
    · have hs1 : (xsh n).1 = t := by rw [h1]
      have hs2 : (xsh n).2 = len := by rw [h1]
      rw [xen_q hs1 ht, hs2]
      show H1[_]? = some (vp_cell _ _)
      rw [vp_cell_q, ← hsz, e1]
      have er : ∀ j, xr (xz A n) n j = none := fun j => by rw [xr_z, if_pos rfl]
      simp only [er]
      rfl
  · exact hK.elim
/-! a final field, in its constructor -/
def x_putF (n ci k : Nat) (K : xK) : xK := fun L st A => match st with
  | .ref d :: .ref q :: r => xob n q = ci ∧ K L r (xsr A q k (some d))
  | _ => False
theorem r_putF {ci k index : Nat} {K : xK} {ty : FieldType} (X : xX p s m args c meth cc own nL g) (hin : meth.name = "<init>") (hok : xOK ci) (hci : ci ≠ 99) (hk : (xkd ci)[k]? = some 2) (hfin : (xT ci k).2.2.2 = true) (hdecl : (xT ci k).1 = own) (hty : xty ci k = ty) (hrf : ∀ a, narrow ty (.ref a) = .ref a ∧ fits ty (.ref a) = true) (hw : xlink own index ci k) (hd : decode cc pc = .ok (.putfield index, 3)) (h : xAt p l e R s m args below meth c g nL xFF n cells slots Q K (pc + 3)) : xAt p l e R s m args below meth c g nL xFF n cells slots Q (x_putF n ci k K) pc := by
  intro L st A H locs ls hK hR hS hL
  unfold x_putF at hK
  split at hK
  · rename_i d q r
    obtain ⟨hq, hK⟩ := hK
    obtain ⟨o1, o2, o3, o4⟩ := hok
    obtain ⟨q1, q2⟩ := xob_lt hq hci
    show W p l e R s m args below meth c H locs cells slots Q (F0 m pc ls (.ref (xad g d) :: .ref (xad g q) :: r.map (xcv g)))
    rw [xad_lt q1 hR.2.2.1]
    subst hty
    have hkN : k < xNf ci := (List.getElem?_eq_some_iff.mp hk).1
    have hts := X.2.2.2.2.1
    have hKk := X.2.2.2.2.2.1.1
    have hat := hR.1 q _ (xws_get q1)
    rw [xen_o q2] at hat
    obtain ⟨rr, g1, cell, g2, g3, g4, g5⟩ := hat
    cases g1.symm.trans o1
    obtain ⟨hSl, hfc, kC, hkC, hkind⟩ := hKk.1 ci _ o1
    obtain ⟨cf, kf, fi, f, hi, hsl⟩ := hSl k hkN
    have hlay := hts _ (o2 _ (u_in_lay hkN))
    unfold u_lay at hlay
    rw [if_pos hfin] at hlay
    have hap := va_apart (own := own) hts o2 (xty ci) o3 o4 hKk o1
    have hst := (u_facts hfc hkC (u_lays hts o2 hkN) hi).1
    have hcf : m.cls = cf := by
      obtain ⟨_, _, c', _, _, _, -, -, hf', -, -, -, hown2, -⟩ := Cond.laysFinal_spec hlay
      have e1 : c' = cf := by have := hi.symm.trans hf'; simp at this; exact this.1.symm
      rw [hdecl] at hown2
      rw [← e1]; exact Option.some.inj (X.2.2.2.1.symm.trans hown2)
    have h6 := u_fits hfc hkC hkind (Or.inr hlay) hi (o3 k hkN) (hrf (xad g d)).1 (hrf (xad g d)).2
    refine W.putFinK X.1 X.2.1 X.2.2.2.1 (hts _ hw) hi hst hcf hin (by rw [g3]; exact h6) g2 g4 (by rw [hsl]; exact k2_hasslot (g5 k hkN)) rfl rfl hd fun H1 e1 e2 e3 => ?_
    rw [hsl] at e1 ⊢
    have hv : xfv g (xsr A q k (some d)) q 2 k = .ref (xad g d) := xfv_sr
    refine h L _ _ H1 _ ls hK (xRel_upd hR q1 (fun z hz => xen_sr hz) (fun z hz => hz.elim) ?_ e2 e3) (hS.put e2 e3 (show g.2.1 ≤ g.2.1 + q by omega)) hL
    rw [xen_o q2, ← xfs_set hk hv xfv_sro]
    exact ⟨_, o1, t_OB.to (V := updV (vp_V (xfs g A q ci)) k (.ref (xad g d))) ⟨_, e1, g3, g4, t_set g5 hap hkN _⟩ (fun j _ => vp_updV_set (by rw [xfs_len]; exact hkN) _ j)⟩
  · exact hK.elim
/-! Object() -/
def x_oini (K : xK) : xK := fun L st A => match st with
  | .ref _ :: r => Nat.ble (xcat r) 8 = true ∧ K L r A
  | _ => False
theorem r_oini {index : Nat} {K : xK} (X : xX p s m args c meth cc own nL g) (hl : Cond.methodLink own index objectInit ∈ xTS) (hi : Cond.instanceMethod objectInit ∈ xTS) (hc : Cond.code objectInit ⟨#[0xb1]⟩ 1 none ∈ xTS) (hfr : 1 ≤ R.frames) (hlo : 20 ≤ R.locals) (hd : decode cc pc = .ok (.invokespecial index, 3)) (h : xAt p l e R s m args below meth c g nL F n cells slots Q (K) (pc + 3)) : xAt p l e R s m args below meth c g nL F n cells slots Q (x_oini K) (pc) := by
  intro L st A H locs ls hK hR hS hL
  unfold x_oini at hK
  split at hK
  · rename_i q r
    have hts := X.2.2.2.2.1
    have hcat : 2 * (F0 m pc ls ((Value.ref q :: r).map (xcv g))).monitorRoom + ((r.map (xcv g)).map fun v => v.category).sum ≤ 8 := lv_room (by rw [xcat_cv]; exact Nat.le_of_ble_eq_true hK.1)
    exact W.objInit X.1 X.2.1 X.2.2.2.1 (hts _ hl) (hts _ hi) (hts _ hc) rfl (hL.1.trans X.2.2.1.symm) (a := xad g q) (rest := r.map (xcv g)) rfl hd hfr (by omega) (h L _ A H locs ls hK.2 hR hS hL)
  · exact hK.elim
/-! a constructor is called -/
theorem xR_callI {index na n' ms : Nat} {F' : Nat → Prop} {sp : xSp} {y : MethodName} {cy : ByteArray} {nLy fr lo : Nat} {q : Nat} {As r : List Value} {A : xH} {H : Heap} {locs : List Loc} {ls : Array Slot} {L : xL} {P : xP} (X : xX p s m args c meth cc own nL g) (con : xCon l y cy nLy none fr lo n n' ms F F' sp) (mi : xIF y cy nLy na) (hl : Cond.methodLink own index y ∈ xTS) (hRm : fr + 1 ≤ R.frames ∧ 8 + (nLy + 11) + lo ≤ R.locals) (hcs : cells + (n' - n) ≤ R.cells ∧ slots + ms ≤ R.slots) (hd : decode cc pc = .ok (.invokespecial index, 3))
    (hr : Nat.ble (xcat r) 8 = true) (hR : xRel g F n A H) (hS : va_S (xFr g) s.heap H locs) (hL : xLs g nL L ls) (hsp : sp (.ref q :: As) A P) (hn : As.length = na)
    (kk : ∀ (v : Option Value) (B : xH) (H1 : Heap) (locs1 : List Loc), P v B → xRel g F' n' B H1 → va_S (xFr g) s.heap H1 locs1 → W p l e R s m args below meth c H1 locs1 (cells + (n' - n)) (slots + ms) Q (F0 m (pc + 3) ls ((xres v r).map (xcv g)))) : W p l e R s m args below meth c H locs cells slots Q (F0 m pc ls ((As.reverse ++ .ref q :: r).map (xcv g))) := by
  obtain ⟨⟨n1, n2, n3⟩, w1, w2, w3, w4⟩ := mi
  have hts := X.2.2.2.2.1
  have hM := con g _ A P hsp
  have hcat : 2 * (F0 m pc ls ((As.reverse ++ .ref q :: r).map (xcv g))).monitorRoom + ((r.map (xcv g)).map fun v => v.category).sum ≤ 8 := lv_room (by rw [xcat_cv]; exact Nat.le_of_ble_eq_true hr)
  refine xR_ret (mc := n' - n) (ms := ms) (rest := r.map (xcv g)) (va_runI (As := As.map (xcv g)) (b := xad g q) (rest := r.map (xcv g)) ⟨X.1, X.2.1, X.2.2.1, X.2.2.2.1, hts⟩ hM (cwI na hts (xgoodS w1) rfl rfl rfl (hts _ w3) (hts _ hl) (hts _ w2) w4 ⟨n1, n2, n3⟩ hRm) ⟨xPU_blind, fun U hU hW => ⟨rfl, xPU_now X hR hS U hU hW⟩⟩ rfl (by rw [List.length_map]; exact hn) hL.1 (by simp [xcv]) hcat hd ⟨hcs.1, hcs.2⟩) hS ?_
  intro v B H1 locs1 hP hR1 hS1
  have := kk v B H1 locs1 hP hR1 hS1
  cases v <;> exact this
def x_ci0 (sp : xSp) (K : xK) : xK := fun L st A => match st with
  | .ref q :: r => Nat.ble (xcat r) 8 = true ∧ sp [.ref q] A (fun _ B => K L r B)
  | _ => False
def x_ci1 (sp : xSp) (K : xK) : xK := fun L st A => match st with
  | .ref a :: .ref q :: r => Nat.ble (xcat r) 8 = true ∧ sp [.ref q, .ref a] A (fun _ B => K L r B)
  | _ => False
theorem r_ci0 {index n' ms : Nat} {F' : Nat → Prop} {sp : xSp} {y : MethodName} {cy : ByteArray} {nLy fr lo : Nat} {K : xK} (X : xX p s m args c meth cc own nL g) (con : xCon l y cy nLy none fr lo n n' ms F F' sp) (mi : xIF y cy nLy 0) (hl : Cond.methodLink own index y ∈ xTS) (hRm : fr + 1 ≤ R.frames ∧ 8 + (nLy + 11) + lo ≤ R.locals) (hcs : cells + (n' - n) ≤ R.cells ∧ slots + ms ≤ R.slots) (hd : decode cc pc = .ok (.invokespecial index, 3)) (hv : ∀ as A (P : xP), sp as A P → sp as A (fun v B => v = none ∧ P v B)) (h : xAt p l e R s m args below meth c g nL F' n' (cells + (n' - n)) (slots + ms) Q K (pc + 3)) : xAt p l e R s m args below meth c g nL F n cells slots Q (x_ci0 sp K) (pc) := by
  intro L st A H locs ls hK hR hS hL
  unfold x_ci0 at hK
  split at hK
  · rename_i q r
    obtain ⟨h1, h2⟩ := hK
    refine xR_callI (As := []) (L := L) (P := fun v B => v = none ∧ K L r B) X con mi hl hRm hcs hd h1 hR hS hL (hv _ _ _ h2) rfl fun v B H1 locs1 hP hR1 hS1 => ?_
    obtain ⟨rfl, hP⟩ := hP
    exact h L r B H1 locs1 ls hP hR1 hS1 hL
  · exact hK.elim
theorem r_ci1 {index n' ms : Nat} {F' : Nat → Prop} {sp : xSp} {y : MethodName} {cy : ByteArray} {nLy fr lo : Nat} {K : xK} (X : xX p s m args c meth cc own nL g) (con : xCon l y cy nLy none fr lo n n' ms F F' sp) (mi : xIF y cy nLy 1) (hl : Cond.methodLink own index y ∈ xTS) (hRm : fr + 1 ≤ R.frames ∧ 8 + (nLy + 11) + lo ≤ R.locals) (hcs : cells + (n' - n) ≤ R.cells ∧ slots + ms ≤ R.slots) (hd : decode cc pc = .ok (.invokespecial index, 3)) (hv : ∀ as A (P : xP), sp as A P → sp as A (fun v B => v = none ∧ P v B)) (h : xAt p l e R s m args below meth c g nL F' n' (cells + (n' - n)) (slots + ms) Q K (pc + 3)) : xAt p l e R s m args below meth c g nL F n cells slots Q (x_ci1 sp K) (pc) := by
  intro L st A H locs ls hK hR hS hL
  unfold x_ci1 at hK
  split at hK
  · rename_i a q r
    obtain ⟨h1, h2⟩ := hK
    refine xR_callI (As := [.ref a]) (L := L) (P := fun v B => v = none ∧ K L r B) X con mi hl hRm hcs hd h1 hR hS hL (hv _ _ _ h2) rfl fun v B H1 locs1 hP hR1 hS1 => ?_
    obtain ⟨rfl, hP⟩ := hP
    exact h L r B H1 locs1 ls hP hR1 hS1 hL
  · exact hK.elim
theorem r_vretN {P : xP} {cs ss : Nat} (hc : cells = cs) (hs : slots = ss) (X : xX p s m args c meth cc own nL g) (hr : meth.sig.returnType = none) (hd : decode cc pc = .ok (.return_, 1)) : xAt p l e R s m args below meth c g nL F n cells slots (MQ below (xQc g F n P) args s cs ss (xFr g)) (x_vret P) pc := by
  subst hc; subst hs
  exact r_vret X hr hd
end XR4

