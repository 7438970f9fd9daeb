/-! ===== rows for cells that are known by their number; locals by place; counters ===== -/
theorem xgl_0 {o : Option Value} {L : xL} : xgl (o :: L) 0 = o := rfl
theorem xgl_s {o : Option Value} {L : xL} {i : Nat} : xgl (o :: L) (i + 1) = xgl L i := rfl
theorem xgl_n {i : Nat} : xgl [] i = none := by cases i <;> rfl
theorem set_0 {o v : Option Value} {L : xL} : List.set (o :: L) 0 v = v :: L := rfl
theorem set_s {o v : Option Value} {L : xL} {i : Nat} : List.set (o :: L) (i + 1) v = o :: List.set L i v := rfl
theorem xst_0 {o : Option Value} {L : xL} {v : Value} : xst (o :: L) 0 v = some v :: L := rfl
theorem xst_1n {L : xL} {v : Value} : xst (none :: L) 1 v = none :: L.set 0 (some v) := rfl
theorem xst_1i {L : xL} {x : Int32} {v : Value} : xst (some (.int x) :: L) 1 v = some (.int x) :: L.set 0 (some v) := rfl
theorem xst_1r {L : xL} {x : Nat} {v : Value} : xst (some (.ref x) :: L) 1 v = some (.ref x) :: L.set 0 (some v) := rfl
theorem xst_1l {L : xL} {x : Int64} {v : Value} : xst (some (.long x) :: L) 1 v = none :: L.set 0 (some v) := rfl
theorem xst_e {L : xL} {j : Nat} {v : Value} : xst L (j + 1) v = match xgl L j with
    | some (.long _) => (L.set j none).set (j + 1) (some v)
    | some (.double _) => (L.set j none).set (j + 1) (some v)
    | _ => L.set (j + 1) (some v) := rfl
theorem xst_s {o : Option Value} {L : xL} {j : Nat} {v : Value} : xst (o :: L) (j + 2) v = o :: xst L (j + 1) v := by
  rw [xst_e (L := o :: L) (j := j + 1), xst_e (L := L) (j := j), xgl_s]
  split <;> rfl
def x_iinc (i : Nat) (v : Int32) (K : xK) : xK := fun L st A => match xgl L i with
  | some (.int x) => K (xst L i (.int (x + v))) st A
  | _ => False
def y_getI (q k : Nat) (K : xK) : xK := fun L st A => match st with
  | .ref z :: r => z = q ∧ K L (.int (xi A q k) :: r) A
  | _ => False
def y_getJ (q k : Nat) (K : xK) : xK := fun L st A => match st with
  | .ref z :: r => z = q ∧ K L (.long (xl A q k) :: r) A
  | _ => False
def y_getF (q d : Nat) (K : xK) : xK := fun L st A => match st with
  | .ref z :: r => z = q ∧ K L (.ref d :: r) A
  | _ => False
def y_putI (q k : Nat) (K : xK) : xK := fun L st A => match st with
  | .int x :: .ref z :: r => z = q ∧ K L r (xsi A q k x)
  | _ => False
def y_putZ (q k : Nat) (K : xK) : xK := fun L st A => match st with
  | .int x :: .ref z :: r => z = q ∧ xbool x ∧ K L r (xsi A q k x)
  | _ => False
def y_putJ (q k : Nat) (K : xK) : xK := fun L st A => match st with
  | .long x :: .ref z :: r => z = q ∧ K L r (xsl A q k x)
  | _ => False
def y_iald (q len : Nat) (K : xK) : xK := fun L st A => match st with
  | .int j :: .ref z :: r => z = q ∧ vp_in j len ∧ K L (.int (xi A q j.toNatClampNeg) :: r) A
  | _ => False
def y_lald (q len : Nat) (K : xK) : xK := fun L st A => match st with
  | .int j :: .ref z :: r => z = q ∧ vp_in j len ∧ K L (.long (xl A q j.toNatClampNeg) :: r) A
  | _ => False
def y_alen (q len : Nat) (K : xK) : xK := fun L st A => match st with
  | .ref z :: r => z = q ∧ K L (.int (Int32.ofNat len) :: r) A
  | _ => False
def y_iast (q len : Nat) (K : xK) : xK := fun L st A => match st with
  | .int x :: .int j :: .ref z :: r => z = q ∧ vp_in j len ∧ K L r (xsi A q j.toNatClampNeg x)
  | _ => False
def y_bast (q t len : Nat) (K : xK) : xK := fun L st A => match st with
  | .int x :: .int j :: .ref z :: r => z = q ∧ vp_in j len ∧ K L r (xsi A q j.toNatClampNeg (vp_nar (xaty t) x))
  | _ => False
def y_last (q len : Nat) (K : xK) : xK := fun L st A => match st with
  | .long x :: .int j :: .ref z :: r => z = q ∧ vp_in j len ∧ K L r (xsl A q j.toNatClampNeg x)
  | _ => False
section XR4
variable {p : Program} {l : Launch} {e : Env} {R : Room} {s : State} {m : MethodId} {args : Array Value} {below : List Frame} {meth : Method} {c : Code} {Q : State → Prop} {cc : ByteArray} {own : String} {nL n cells slots pc : Nat} {F : Nat → Prop} {g : xG}
theorem r_iinc {i : Nat} {k : Int} {v : Int32} {K : xK} (X : xX p s m args c meth cc own nL g) (hd : decode cc pc = .ok (.iinc i k, 3)) (hv : Int32.ofInt k = v) (hn : i < nL) (h : xAt p l e R s m args below meth c g nL F n cells slots Q (K) (pc + 3)) : xAt p l e R s m args below meth c g nL F n cells slots Q (x_iinc i v K) (pc) := by
  intro L st A H locs ls hK hR hS hL
  unfold x_iinc at hK
  split at hK
  · rename_i x hx
    have hm : (i, xcv g (.int x)) ∈ xas g L := xas_mem.mpr ⟨_, hx, rfl⟩
    obtain ⟨j, hj⟩ := List.getElem?_of_mem hm
    exact lv_iinc X.1 X.2.1 hd hL hj (by rw [hv]) hn rfl (fun ls' hl => h _ st A H locs ls' hK hR hS (xLs_st1 (v := .int (x + v)) hl))
  · exact hK.elim
theorem s_getI {ci q k index : Nat} {K : xK} (X : xX p s m args c meth cc own nL g) (hok : xOK ci) (hci : ci ≠ 99) (hq : xob n q = ci) (hk : (xkd ci)[k]? = some 0) (hw : xlink own index ci k) (hd : decode cc pc = .ok (.getfield index, 3)) (h : xAt p l e R s m args below meth c g nL F n cells slots Q (K) (pc + 3)) : xAt p l e R s m args below meth c g nL F n cells slots Q (y_getI q k K) (pc) :=
  xAt_mono (r_getI X hok hci hk hw hd h) (fun L st A hK => by
    unfold y_getI at hK; unfold x_getI
    split at hK
    · obtain ⟨rfl, hK⟩ := hK; exact ⟨hq, hK⟩
    · exact hK.elim)
theorem s_getJ {ci q k index : Nat} {K : xK} (X : xX p s m args c meth cc own nL g) (hok : xOK ci) (hci : ci ≠ 99) (hq : xob n q = ci) (hk : (xkd ci)[k]? = some 1) (hw : xlink own index ci k) (hd : decode cc pc = .ok (.getfield index, 3)) (h : xAt p l e R s m args below meth c g nL F n cells slots Q (K) (pc + 3)) : xAt p l e R s m args below meth c g nL F n cells slots Q (y_getJ q k K) (pc) :=
  xAt_mono (r_getJ X hok hci hk hw hd h) (fun L st A hK => by
    unfold y_getJ at hK; unfold x_getJ
    split at hK
    · obtain ⟨rfl, hK⟩ := hK; exact ⟨hq, hK⟩
    · exact hK.elim)
theorem s_getF {ci q k d index : Nat} {K : xK} (X : xX p s m args c meth cc own nL g) (hok : xOK ci) (hci : ci ≠ 99) (hq : xob n q = ci) (hF : F q) (hly : xlay q k = some d) (hk : (xkd ci)[k]? = some 2) (hw : xlink own index ci k) (hd : decode cc pc = .ok (.getfield index, 3)) (h : xAt p l e R s m args below meth c g nL F n cells slots Q (K) (pc + 3)) : xAt p l e R s m args below meth c g nL F n cells slots Q (y_getF q d K) (pc) :=
  xAt_mono (r_getF X hok hci hk hw hd h) (fun L st A hK => by
    unfold y_getF at hK; unfold x_getF
    split at hK
    · obtain ⟨rfl, hK⟩ := hK
      simp only [hly]
      exact ⟨hq, hF, hK⟩
    · exact hK.elim)
theorem s_putI {ci q k index : Nat} {K : xK} (X : xX p s m args c meth cc own nL g) (hok : xOK ci) (hci : ci ≠ 99) (hq : xob n q = ci) (hk : (xkd ci)[k]? = some 0) (hfin : (xT ci k).2.2.2 = false) (hty : xty ci k = .int) (hw : xlink own index ci k) (hd : decode cc pc = .ok (.putfield index, 3)) (h : xAt p l e R s m args below meth c g nL F n cells slots Q (K) (pc + 3)) : xAt p l e R s m args below meth c g nL F n cells slots Q (y_putI q k K) (pc) :=
  xAt_mono (r_putI X hok hci hk hfin hty hw hd h) (fun L st A hK => by
    unfold y_putI at hK; unfold x_putI
    split at hK
    · obtain ⟨rfl, hK⟩ := hK; exact ⟨hq, hK⟩
    · exact hK.elim)
theorem s_putZ {ci q k index : Nat} {K : xK} (X : xX p s m args c meth cc own nL g) (hok : xOK ci) (hci : ci ≠ 99) (hq : xob n q = ci) (hk : (xkd ci)[k]? = some 0) (hfin : (xT ci k).2.2.2 = false) (hty : xty ci k = .boolean) (hw : xlink own index ci k) (hd : decode cc pc = .ok (.putfield index, 3)) (h : xAt p l e R s m args below meth c g nL F n cells slots Q (K) (pc + 3)) : xAt p l e R s m args below meth c g nL F n cells slots Q (y_putZ q k K) (pc) :=
  xAt_mono (r_putZ X hok hci hk hfin hty hw hd h) (fun L st A hK => by
    unfold y_putZ at hK; unfold x_putZ
    split at hK
    · obtain ⟨rfl, hK⟩ := hK; exact ⟨hq, hK⟩
    · exact hK.elim)
theorem s_putJ {ci q k index : Nat} {K : xK} (X : xX p s m args c meth cc own nL g) (hok : xOK ci) (hci : ci ≠ 99) (hq : xob n q = ci) (hk : (xkd ci)[k]? = some 1) (hfin : (xT ci k).2.2.2 = false) (hty : xty ci k = .long) (hw : xlink own index ci k) (hd : decode cc pc = .ok (.putfield index, 3)) (h : xAt p l e R s m args below meth c g nL F n cells slots Q (K) (pc + 3)) : xAt p l e R s m args below meth c g nL F n cells slots Q (y_putJ q k K) (pc) :=
  xAt_mono (r_putJ X hok hci hk hfin hty hw hd h) (fun L st A hK => by
    unfold y_putJ at hK; unfold x_putJ
    split at hK
    · obtain ⟨rfl, hK⟩ := hK; exact ⟨hq, hK⟩
    · exact hK.elim)
theorem s_iald {q len : Nat} {K : xK} (X : xX p s m args c meth cc own nL g) (hq : xtn n q = 1) (hlen : (xsh q).2 = len) (hd : decode cc pc = .ok (.iaload, 1)) (h : xAt p l e R s m args below meth c g nL F n cells slots Q (K) (pc + 1)) : xAt p l e R s m args below meth c g nL F n cells slots Q (y_iald q len K) (pc) :=
  xAt_mono (r_iald X hd h) (fun L st A hK => by
    unfold y_iald at hK; unfold x_iald
    split at hK
    · obtain ⟨rfl, h2, hK⟩ := hK; exact ⟨hq, by rw [hlen]; exact h2, hK⟩
    · exact hK.elim)
theorem s_bald {q len : Nat} {K : xK} (X : xX p s m args c meth cc own nL g) (hq : xtn n q = 3) (hlen : (xsh q).2 = len) (hd : decode cc pc = .ok (.baload, 1)) (h : xAt p l e R s m args below meth c g nL F n cells slots Q (K) (pc + 1)) : xAt p l e R s m args below meth c g nL F n cells slots Q (y_iald q len K) (pc) :=
  xAt_mono (r_bald X hd h) (fun L st A hK => by
    unfold y_iald at hK; unfold x_bald
    split at hK
    · obtain ⟨rfl, h2, hK⟩ := hK; exact ⟨hq, by rw [hlen]; exact h2, hK⟩
    · exact hK.elim)
theorem s_zald {q len : Nat} {K : xK} (X : xX p s m args c meth cc own nL g) (hq : xtn n q = 4) (hlen : (xsh q).2 = len) (hd : decode cc pc = .ok (.baload, 1)) (h : xAt p l e R s m args below meth c g nL F n cells slots Q (K) (pc + 1)) : xAt p l e R s m args below meth c g nL F n cells slots Q (y_iald q len K) (pc) :=
  xAt_mono (r_zald X hd h) (fun L st A hK => by
    unfold y_iald at hK; unfold x_bald
    split at hK
    · obtain ⟨rfl, h2, hK⟩ := hK; exact ⟨hq, by rw [hlen]; exact h2, hK⟩
    · exact hK.elim)
theorem s_lald {q len : Nat} {K : xK} (X : xX p s m args c meth cc own nL g) (hq : xtn n q = 2) (hlen : (xsh q).2 = len) (hd : decode cc pc = .ok (.laload, 1)) (h : xAt p l e R s m args below meth c g nL F n cells slots Q (K) (pc + 1)) : xAt p l e R s m args below meth c g nL F n cells slots Q (y_lald q len K) (pc) :=
  xAt_mono (r_lald X hd h) (fun L st A hK => by
    unfold y_lald at hK; unfold x_lald
    split at hK
    · obtain ⟨rfl, h2, hK⟩ := hK; exact ⟨hq, by rw [hlen]; exact h2, hK⟩
    · exact hK.elim)
theorem s_alen {q len : Nat} {K : xK} (X : xX p s m args c meth cc own nL g) (hq : xtn n q ≠ 0 ∧ xtn n q < 7) (hlen : (xsh q).2 = len) (hd : decode cc pc = .ok (.arraylength, 1)) (h : xAt p l e R s m args below meth c g nL F n cells slots Q (K) (pc + 1)) : xAt p l e R s m args below meth c g nL F n cells slots Q (y_alen q len K) (pc) :=
  xAt_mono (r_alen X hd h) (fun L st A hK => by
    unfold y_alen at hK; unfold x_alen
    split at hK
    · obtain ⟨rfl, hK⟩ := hK; exact ⟨hq.1, hq.2, by rw [hlen]; exact hK⟩
    · exact hK.elim)
theorem s_iast {q len : Nat} {K : xK} (X : xX p s m args c meth cc own nL g) (hq : xtn n q = 1) (hlen : (xsh q).2 = len) (hd : decode cc pc = .ok (.iastore, 1)) (h : xAt p l e R s m args below meth c g nL F n cells slots Q (K) (pc + 1)) : xAt p l e R s m args below meth c g nL F n cells slots Q (y_iast q len K) (pc) :=
  xAt_mono (r_iast X hd h) (fun L st A hK => by
    unfold y_iast at hK; unfold x_iast
    split at hK
    · obtain ⟨rfl, h2, hK⟩ := hK; exact ⟨hq, by rw [hlen]; exact h2, hK⟩
    · exact hK.elim)
theorem s_bast {q len : Nat} {K : xK} (X : xX p s m args c meth cc own nL g) (hq : xtn n q = 3) (hlen : (xsh q).2 = len) (hd : decode cc pc = .ok (.bastore, 1)) (h : xAt p l e R s m args below meth c g nL F n cells slots Q (K) (pc + 1)) : xAt p l e R s m args below meth c g nL F n cells slots Q (y_bast q 3 len K) (pc) :=
  xAt_mono (r_bast X hd h) (fun L st A hK => by
    unfold y_bast at hK; unfold x_bast
    split at hK
    · obtain ⟨rfl, h2, hK⟩ := hK; exact ⟨hq, by rw [hlen]; exact h2, hK⟩
    · exact hK.elim)
theorem s_zast {q len : Nat} {K : xK} (X : xX p s m args c meth cc own nL g) (hq : xtn n q = 4) (hlen : (xsh q).2 = len) (hd : decode cc pc = .ok (.bastore, 1)) (h : xAt p l e R s m args below meth c g nL F n cells slots Q (K) (pc + 1)) : xAt p l e R s m args below meth c g nL F n cells slots Q (y_bast q 4 len K) (pc) :=
  xAt_mono (r_zast X hd h) (fun L st A hK => by
    unfold y_bast at hK; unfold x_bast
    split at hK
    · obtain ⟨rfl, h2, hK⟩ := hK; exact ⟨hq, by rw [hlen]; exact h2, hK⟩
    · exact hK.elim)
theorem s_last {q len : Nat} {K : xK} (X : xX p s m args c meth cc own nL g) (hq : xtn n q = 2) (hlen : (xsh q).2 = len) (hd : decode cc pc = .ok (.lastore, 1)) (h : xAt p l e R s m args below meth c g nL F n cells slots Q (K) (pc + 1)) : xAt p l e R s m args below meth c g nL F n cells slots Q (y_last q len K) (pc) :=
  xAt_mono (r_last X hd h) (fun L st A hK => by
    unfold y_last at hK; unfold x_last
    split at hK
    · obtain ⟨rfl, h2, hK⟩ := hK; exact ⟨hq, by rw [hlen]; exact h2, hK⟩
    · exact hK.elim)
def y_cv0 (q : Nat) (sp : xSp) (K : xK) : xK := fun L st A => match st with
  | .ref z :: r => z = q ∧ Nat.ble (xcat r) 8 = true ∧ sp [.ref q] A (fun v B => K L (xres v r) B)
  | _ => False
theorem s_cv0 {ci q index : Nat} {sp : xSp} {K : xK} {y : MethodName} {cy : ByteArray} {nLy fr lo : Nat} {ry : Option FieldType} (X : xX p s m args c meth cc own nL g) (hok : xOK ci) (hci : ci ≠ 99) (hq : xob n q = ci) (hC : xC ci = y.cls) (con : xCon l y cy nLy ry fr lo n n 0 F F sp) (mf : xMF y cy nLy ry 0) (hl : Cond.methodLink own index y ∈ xTS) (hRm : fr + 1 ≤ R.frames ∧ 8 + (nLy + 11) + lo ≤ R.locals) (hcs : cells ≤ R.cells ∧ slots ≤ R.slots) (hd : decode cc pc = .ok (.invokevirtual index, 3)) (h : xAt p l e R s m args below meth c g nL F n cells slots Q (K) (pc + 3)) : xAt p l e R s m args below meth c g nL F n cells slots Q (y_cv0 q sp K) (pc) :=
  xAt_mono (r_cv0 X hok hci hC con mf hl hRm hcs hd h) (fun L st A hK => by
    unfold y_cv0 at hK; unfold x_cv0
    split at hK
    · obtain ⟨rfl, h2, hK⟩ := hK; exact ⟨hq, h2, hK⟩
    · exact hK.elim)
def y_cv1 (q : Nat) (sp : xSp) (K : xK) : xK := fun L st A => match st with
  | a1 :: .ref z :: r => z = q ∧ Nat.ble (xcat r) 8 = true ∧ sp [.ref q, a1] A (fun v B => K L (xres v r) B)
  | _ => False
theorem s_cv1 {ci q index : Nat} {sp : xSp} {K : xK} {y : MethodName} {cy : ByteArray} {nLy fr lo : Nat} {ry : Option FieldType} (X : xX p s m args c meth cc own nL g) (hok : xOK ci) (hci : ci ≠ 99) (hq : xob n q = ci) (hC : xC ci = y.cls) (con : xCon l y cy nLy ry fr lo n n 0 F F sp) (mf : xMF y cy nLy ry 1) (hl : Cond.methodLink own index y ∈ xTS) (hRm : fr + 1 ≤ R.frames ∧ 8 + (nLy + 11) + lo ≤ R.locals) (hcs : cells ≤ R.cells ∧ slots ≤ R.slots) (hd : decode cc pc = .ok (.invokevirtual index, 3)) (h : xAt p l e R s m args below meth c g nL F n cells slots Q (K) (pc + 3)) : xAt p l e R s m args below meth c g nL F n cells slots Q (y_cv1 q sp K) (pc) :=
  xAt_mono (r_cv1 X hok hci hC con mf hl hRm hcs hd h) (fun L st A hK => by
    unfold y_cv1 at hK; unfold x_cv1
    split at hK
    · obtain ⟨rfl, h2, hK⟩ := hK; exact ⟨hq, h2, hK⟩
    · exact hK.elim)
def y_cv2 (q : Nat) (sp : xSp) (K : xK) : xK := fun L st A => match st with
  | a2 :: a1 :: .ref z :: r => z = q ∧ Nat.ble (xcat r) 8 = true ∧ sp [.ref q, a1, a2] A (fun v B => K L (xres v r) B)
  | _ => False
theorem s_cv2 {ci q index : Nat} {sp : xSp} {K : xK} {y : MethodName} {cy : ByteArray} {nLy fr lo : Nat} {ry : Option FieldType} (X : xX p s m args c meth cc own nL g) (hok : xOK ci) (hci : ci ≠ 99) (hq : xob n q = ci) (hC : xC ci = y.cls) (con : xCon l y cy nLy ry fr lo n n 0 F F sp) (mf : xMF y cy nLy ry 2) (hl : Cond.methodLink own index y ∈ xTS) (hRm : fr + 1 ≤ R.frames ∧ 8 + (nLy + 11) + lo ≤ R.locals) (hcs : cells ≤ R.cells ∧ slots ≤ R.slots) (hd : decode cc pc = .ok (.invokevirtual index, 3)) (h : xAt p l e R s m args below meth c g nL F n cells slots Q (K) (pc + 3)) : xAt p l e R s m args below meth c g nL F n cells slots Q (y_cv2 q sp K) (pc) :=
  xAt_mono (r_cv2 X hok hci hC con mf hl hRm hcs hd h) (fun L st A hK => by
    unfold y_cv2 at hK; unfold x_cv2
    split at hK
    · obtain ⟨rfl, h2, hK⟩ := hK; exact ⟨hq, h2, hK⟩
    · exact hK.elim)
def y_cv3 (q : Nat) (sp : xSp) (K : xK) : xK := fun L st A => match st with
  | a3 :: a2 :: a1 :: .ref z :: r => z = q ∧ Nat.ble (xcat r) 8 = true ∧ sp [.ref q, a1, a2, a3] A (fun v B => K L (xres v r) B)
  | _ => False
theorem s_cv3 {ci q index : Nat} {sp : xSp} {K : xK} {y : MethodName} {cy : ByteArray} {nLy fr lo : Nat} {ry : Option FieldType} (X : xX p s m args c meth cc own nL g) (hok : xOK ci) (hci : ci ≠ 99) (hq : xob n q = ci) (hC : xC ci = y.cls) (con : xCon l y cy nLy ry fr lo n n 0 F F sp) (mf : xMF y cy nLy ry 3) (hl : Cond.methodLink own index y ∈ xTS) (hRm : fr + 1 ≤ R.frames ∧ 8 + (nLy + 11) + lo ≤ R.locals) (hcs : cells ≤ R.cells ∧ slots ≤ R.slots) (hd : decode cc pc = .ok (.invokevirtual index, 3)) (h : xAt p l e R s m args below meth c g nL F n cells slots Q (K) (pc + 3)) : xAt p l e R s m args below meth c g nL F n cells slots Q (y_cv3 q sp K) (pc) :=
  xAt_mono (r_cv3 X hok hci hC con mf hl hRm hcs hd h) (fun L st A hK => by
    unfold y_cv3 at hK; unfold x_cv3
    split at hK
    · obtain ⟨rfl, h2, hK⟩ := hK; exact ⟨hq, h2, hK⟩
    · exact hK.elim)
def y_cv4 (q : Nat) (sp : xSp) (K : xK) : xK := fun L st A => match st with
  | a4 :: a3 :: a2 :: a1 :: .ref z :: r => z = q ∧ Nat.ble (xcat r) 8 = true ∧ sp [.ref q, a1, a2, a3, a4] A (fun v B => K L (xres v r) B)
  | _ => False
theorem s_cv4 {ci q index : Nat} {sp : xSp} {K : xK} {y : MethodName} {cy : ByteArray} {nLy fr lo : Nat} {ry : Option FieldType} (X : xX p s m args c meth cc own nL g) (hok : xOK ci) (hci : ci ≠ 99) (hq : xob n q = ci) (hC : xC ci = y.cls) (con : xCon l y cy nLy ry fr lo n n 0 F F sp) (mf : xMF y cy nLy ry 4) (hl : Cond.methodLink own index y ∈ xTS) (hRm : fr + 1 ≤ R.frames ∧ 8 + (nLy + 11) + lo ≤ R.locals) (hcs : cells ≤ R.cells ∧ slots ≤ R.slots) (hd : decode cc pc = .ok (.invokevirtual index, 3)) (h : xAt p l e R s m args below meth c g nL F n cells slots Q (K) (pc + 3)) : xAt p l e R s m args below meth c g nL F n cells slots Q (y_cv4 q sp K) (pc) :=
  xAt_mono (r_cv4 X hok hci hC con mf hl hRm hcs hd h) (fun L st A hK => by
    unfold y_cv4 at hK; unfold x_cv4
    split at hK
    · obtain ⟨rfl, h2, hK⟩ := hK; exact ⟨hq, h2, hK⟩
    · exact hK.elim)
def y_cv5 (q : Nat) (sp : xSp) (K : xK) : xK := fun L st A => match st with
  | a5 :: a4 :: a3 :: a2 :: a1 :: .ref z :: r => z = q ∧ Nat.ble (xcat r) 8 = true ∧ sp [.ref q, a1, a2, a3, a4, a5] A (fun v B => K L (xres v r) B)
  | _ => False
theorem s_cv5 {ci q index : Nat} {sp : xSp} {K : xK} {y : MethodName} {cy : ByteArray} {nLy fr lo : Nat} {ry : Option FieldType} (X : xX p s m args c meth cc own nL g) (hok : xOK ci) (hci : ci ≠ 99) (hq : xob n q = ci) (hC : xC ci = y.cls) (con : xCon l y cy nLy ry fr lo n n 0 F F sp) (mf : xMF y cy nLy ry 5) (hl : Cond.methodLink own index y ∈ xTS) (hRm : fr + 1 ≤ R.frames ∧ 8 + (nLy + 11) + lo ≤ R.locals) (hcs : cells ≤ R.cells ∧ slots ≤ R.slots) (hd : decode cc pc = .ok (.invokevirtual index, 3)) (h : xAt p l e R s m args below meth c g nL F n cells slots Q (K) (pc + 3)) : xAt p l e R s m args below meth c g nL F n cells slots Q (y_cv5 q sp K) (pc) :=
  xAt_mono (r_cv5 X hok hci hC con mf hl hRm hcs hd h) (fun L st A hK => by
    unfold y_cv5 at hK; unfold x_cv5
    split at hK
    · obtain ⟨rfl, h2, hK⟩ := hK; exact ⟨hq, h2, hK⟩
    · exact hK.elim)
def y_cv6 (q : Nat) (sp : xSp) (K : xK) : xK := fun L st A => match st with
  | a6 :: a5 :: a4 :: a3 :: a2 :: a1 :: .ref z :: r => z = q ∧ Nat.ble (xcat r) 8 = true ∧ sp [.ref q, a1, a2, a3, a4, a5, a6] A (fun v B => K L (xres v r) B)
  | _ => False
theorem s_cv6 {ci q index : Nat} {sp : xSp} {K : xK} {y : MethodName} {cy : ByteArray} {nLy fr lo : Nat} {ry : Option FieldType} (X : xX p s m args c meth cc own nL g) (hok : xOK ci) (hci : ci ≠ 99) (hq : xob n q = ci) (hC : xC ci = y.cls) (con : xCon l y cy nLy ry fr lo n n 0 F F sp) (mf : xMF y cy nLy ry 6) (hl : Cond.methodLink own index y ∈ xTS) (hRm : fr + 1 ≤ R.frames ∧ 8 + (nLy + 11) + lo ≤ R.locals) (hcs : cells ≤ R.cells ∧ slots ≤ R.slots) (hd : decode cc pc = .ok (.invokevirtual index, 3)) (h : xAt p l e R s m args below meth c g nL F n cells slots Q (K) (pc + 3)) : xAt p l e R s m args below meth c g nL F n cells slots Q (y_cv6 q sp K) (pc) :=
  xAt_mono (r_cv6 X hok hci hC con mf hl hRm hcs hd h) (fun L st A hK => by
    unfold y_cv6 at hK; unfold x_cv6
    split at hK
    · obtain ⟨rfl, h2, hK⟩ := hK; exact ⟨hq, h2, hK⟩
    · exact hK.elim)
def y_cv7 (q : Nat) (sp : xSp) (K : xK) : xK := fun L st A => match st with
  | a7 :: a6 :: a5 :: a4 :: a3 :: a2 :: a1 :: .ref z :: r => z = q ∧ Nat.ble (xcat r) 8 = true ∧ sp [.ref q, a1, a2, a3, a4, a5, a6, a7] A (fun v B => K L (xres v r) B)
  | _ => False
theorem s_cv7 {ci q index : Nat} {sp : xSp} {K : xK} {y : MethodName} {cy : ByteArray} {nLy fr lo : Nat} {ry : Option FieldType} (X : xX p s m args c meth cc own nL g) (hok : xOK ci) (hci : ci ≠ 99) (hq : xob n q = ci) (hC : xC ci = y.cls) (con : xCon l y cy nLy ry fr lo n n 0 F F sp) (mf : xMF y cy nLy ry 7) (hl : Cond.methodLink own index y ∈ xTS) (hRm : fr + 1 ≤ R.frames ∧ 8 + (nLy + 11) + lo ≤ R.locals) (hcs : cells ≤ R.cells ∧ slots ≤ R.slots) (hd : decode cc pc = .ok (.invokevirtual index, 3)) (h : xAt p l e R s m args below meth c g nL F n cells slots Q (K) (pc + 3)) : xAt p l e R s m args below meth c g nL F n cells slots Q (y_cv7 q sp K) (pc) :=
  xAt_mono (r_cv7 X hok hci hC con mf hl hRm hcs hd h) (fun L st A hK => by
    unfold y_cv7 at hK; unfold x_cv7
    split at hK
    · obtain ⟨rfl, h2, hK⟩ := hK; exact ⟨hq, h2, hK⟩
    · exact hK.elim)
end XR4
theorem ob_0 : xob xN 0 = 11 := by decide +kernel
theorem ob_1 : xob xN 1 = 9 := by decide +kernel
theorem tn_2 : xtn xN 2 = 1 := by decide +kernel
theorem ln_2 : (xsh 2).2 = 940 := by decide +kernel
theorem ob_3 : xob xN 3 = 5 := by decide +kernel
theorem tn_4 : xtn xN 4 = 1 := by decide +kernel
theorem ln_4 : (xsh 4).2 = 5 := by decide +kernel
theorem ob_5 : xob xN 5 = 8 := by decide +kernel
theorem tn_6 : xtn xN 6 = 1 := by decide +kernel
theorem ln_6 : (xsh 6).2 = 40 := by decide +kernel
theorem tn_7 : xtn xN 7 = 1 := by decide +kernel
theorem ln_7 : (xsh 7).2 = 40 := by decide +kernel
theorem ob_8 : xob xN 8 = 4 := by decide +kernel
theorem tn_9 : xtn xN 9 = 2 := by decide +kernel
theorem ln_9 : (xsh 9).2 = 4 := by decide +kernel
theorem tn_10 : xtn xN 10 = 2 := by decide +kernel
theorem ln_10 : (xsh 10).2 = 5 := by decide +kernel
theorem tn_11 : xtn xN 11 = 1 := by decide +kernel
theorem ln_11 : (xsh 11).2 = 10 := by decide +kernel
theorem tn_12 : xtn xN 12 = 1 := by decide +kernel
theorem ln_12 : (xsh 12).2 = 10 := by decide +kernel
theorem tn_13 : xtn xN 13 = 1 := by decide +kernel
theorem ln_13 : (xsh 13).2 = 10 := by decide +kernel
theorem tn_14 : xtn xN 14 = 1 := by decide +kernel
theorem ln_14 : (xsh 14).2 = 30 := by decide +kernel
theorem tn_15 : xtn xN 15 = 1 := by decide +kernel
theorem ln_15 : (xsh 15).2 = 42 := by decide +kernel
theorem tn_16 : xtn xN 16 = 1 := by decide +kernel
theorem ln_16 : (xsh 16).2 = 42 := by decide +kernel
theorem tn_17 : xtn xN 17 = 1 := by decide +kernel
theorem ln_17 : (xsh 17).2 = 42 := by decide +kernel
theorem ob_18 : xob xN 18 = 4 := by decide +kernel
theorem tn_19 : xtn xN 19 = 2 := by decide +kernel
theorem ln_19 : (xsh 19).2 = 4 := by decide +kernel
theorem tn_20 : xtn xN 20 = 2 := by decide +kernel
theorem ln_20 : (xsh 20).2 = 5 := by decide +kernel
theorem tn_21 : xtn xN 21 = 1 := by decide +kernel
theorem ln_21 : (xsh 21).2 = 10 := by decide +kernel
theorem tn_22 : xtn xN 22 = 1 := by decide +kernel
theorem ln_22 : (xsh 22).2 = 10 := by decide +kernel
theorem tn_23 : xtn xN 23 = 1 := by decide +kernel
theorem ln_23 : (xsh 23).2 = 10 := by decide +kernel
theorem tn_24 : xtn xN 24 = 1 := by decide +kernel
theorem ln_24 : (xsh 24).2 = 30 := by decide +kernel
theorem tn_25 : xtn xN 25 = 1 := by decide +kernel
theorem ln_25 : (xsh 25).2 = 42 := by decide +kernel
theorem tn_26 : xtn xN 26 = 1 := by decide +kernel
theorem ln_26 : (xsh 26).2 = 42 := by decide +kernel
theorem tn_27 : xtn xN 27 = 1 := by decide +kernel
theorem ln_27 : (xsh 27).2 = 42 := by decide +kernel
theorem ob_28 : xob xN 28 = 8 := by decide +kernel
theorem tn_29 : xtn xN 29 = 1 := by decide +kernel
theorem ln_29 : (xsh 29).2 = 40 := by decide +kernel
theorem tn_30 : xtn xN 30 = 1 := by decide +kernel
theorem ln_30 : (xsh 30).2 = 40 := by decide +kernel
theorem ob_31 : xob xN 31 = 0 := by decide +kernel
theorem tn_32 : xtn xN 32 = 1 := by decide +kernel
theorem ln_32 : (xsh 32).2 = 40 := by decide +kernel
theorem tn_33 : xtn xN 33 = 1 := by decide +kernel
theorem ln_33 : (xsh 33).2 = 200 := by decide +kernel
theorem ob_34 : xob xN 34 = 2 := by decide +kernel
theorem ob_35 : xob xN 35 = 3 := by decide +kernel
theorem tn_36 : xtn xN 36 = 1 := by decide +kernel
theorem ln_36 : (xsh 36).2 = 5 := by decide +kernel
theorem tn_37 : xtn xN 37 = 1 := by decide +kernel
theorem ln_37 : (xsh 37).2 = 5 := by decide +kernel
theorem tn_38 : xtn xN 38 = 1 := by decide +kernel
theorem ln_38 : (xsh 38).2 = 5 := by decide +kernel
theorem ob_39 : xob xN 39 = 7 := by decide +kernel
theorem tn_40 : xtn xN 40 = 1 := by decide +kernel
theorem ln_40 : (xsh 40).2 = 80 := by decide +kernel
theorem tn_41 : xtn xN 41 = 1 := by decide +kernel
theorem ln_41 : (xsh 41).2 = 80 := by decide +kernel
theorem tn_42 : xtn xN 42 = 2 := by decide +kernel
theorem ln_42 : (xsh 42).2 = 3840 := by decide +kernel
theorem tn_43 : xtn xN 43 = 2 := by decide +kernel
theorem ln_43 : (xsh 43).2 = 800 := by decide +kernel
theorem tn_44 : xtn xN 44 = 2 := by decide +kernel
theorem ln_44 : (xsh 44).2 = 160 := by decide +kernel
theorem tn_45 : xtn xN 45 = 2 := by decide +kernel
theorem ln_45 : (xsh 45).2 = 160 := by decide +kernel
theorem tn_46 : xtn xN 46 = 4 := by decide +kernel
theorem ln_46 : (xsh 46).2 = 80 := by decide +kernel
theorem tn_47 : xtn xN 47 = 1 := by decide +kernel
theorem ln_47 : (xsh 47).2 = 1764 := by decide +kernel
theorem tn_48 : xtn xN 48 = 1 := by decide +kernel
theorem ln_48 : (xsh 48).2 = 42 := by decide +kernel
theorem tn_49 : xtn xN 49 = 1 := by decide +kernel
theorem ln_49 : (xsh 49).2 = 42 := by decide +kernel
theorem tn_50 : xtn xN 50 = 1 := by decide +kernel
theorem ln_50 : (xsh 50).2 = 42 := by decide +kernel
theorem tn_51 : xtn xN 51 = 1 := by decide +kernel
theorem ln_51 : (xsh 51).2 = 42 := by decide +kernel
theorem ob_52 : xob xN 52 = 10 := by decide +kernel
theorem tn_53 : xtn xN 53 = 2 := by decide +kernel
theorem ln_53 : (xsh 53).2 = 640 := by decide +kernel
theorem tn_54 : xtn xN 54 = 2 := by decide +kernel
theorem ln_54 : (xsh 54).2 = 640 := by decide +kernel
theorem tn_55 : xtn xN 55 = 2 := by decide +kernel
theorem ln_55 : (xsh 55).2 = 640 := by decide +kernel
theorem tn_56 : xtn xN 56 = 1 := by decide +kernel
theorem ln_56 : (xsh 56).2 = 25600 := by decide +kernel
theorem ob_57 : xob xN 57 = 1 := by decide +kernel
theorem tn_58 : xtn xN 58 = 1 := by decide +kernel
theorem ln_58 : (xsh 58).2 = 8 := by decide +kernel
theorem tn_59 : xtn xN 59 = 1 := by decide +kernel
theorem ln_59 : (xsh 59).2 = 5 := by decide +kernel
theorem tn_60 : xtn xN 60 = 1 := by decide +kernel
theorem ln_60 : (xsh 60).2 = 8 := by decide +kernel
theorem tn_61 : xtn xN 61 = 1 := by decide +kernel
theorem ln_61 : (xsh 61).2 = 1215 := by decide +kernel
theorem tn_62 : xtn xN 62 = 1 := by decide +kernel
theorem ln_62 : (xsh 62).2 = 25 := by decide +kernel
theorem tn_63 : xtn xN 63 = 1 := by decide +kernel
theorem ln_63 : (xsh 63).2 = 6075 := by decide +kernel
theorem tn_64 : xtn xN 64 = 1 := by decide +kernel
theorem ln_64 : (xsh 64).2 = 405 := by decide +kernel
theorem tn_65 : xtn xN 65 = 1 := by decide +kernel
theorem ln_65 : (xsh 65).2 = 405 := by decide +kernel
theorem ob_66 : xob xN 66 = 6 := by decide +kernel
theorem tn_67 : xtn xN 67 = 1 := by decide +kernel
theorem ln_67 : (xsh 67).2 = 600 := by decide +kernel
theorem tn_68 : xtn xN 68 = 1 := by decide +kernel
theorem ln_68 : (xsh 68).2 = 600 := by decide +kernel
theorem tn_69 : xtn xN 69 = 1 := by decide +kernel
theorem ln_69 : (xsh 69).2 = 3020 := by decide +kernel
theorem tn_70 : xtn xN 70 = 5 := by decide +kernel
theorem ln_70 : (xsh 70).2 = 8 := by decide +kernel
theorem tn_71 : xtn xN 71 = 5 := by decide +kernel
theorem ln_71 : (xsh 71).2 = 2 := by decide +kernel
theorem tn_72 : xtn xN 72 = 6 := by decide +kernel
theorem ln_72 : (xsh 72).2 = 2 := by decide +kernel
theorem tn_73 : xtn xN 73 = 1 := by decide +kernel
theorem ln_73 : (xsh 73).2 = 42 := by decide +kernel
theorem ob_74 : xob xN 74 = 4 := by decide +kernel
theorem tn_75 : xtn xN 75 = 2 := by decide +kernel
theorem ln_75 : (xsh 75).2 = 4 := by decide +kernel
theorem tn_76 : xtn xN 76 = 2 := by decide +kernel
theorem ln_76 : (xsh 76).2 = 5 := by decide +kernel
theorem tn_77 : xtn xN 77 = 1 := by decide +kernel
theorem ln_77 : (xsh 77).2 = 10 := by decide +kernel
theorem tn_78 : xtn xN 78 = 1 := by decide +kernel
theorem ln_78 : (xsh 78).2 = 10 := by decide +kernel
theorem tn_79 : xtn xN 79 = 1 := by decide +kernel
theorem ln_79 : (xsh 79).2 = 10 := by decide +kernel
theorem tn_80 : xtn xN 80 = 1 := by decide +kernel
theorem ln_80 : (xsh 80).2 = 30 := by decide +kernel
theorem tn_81 : xtn xN 81 = 1 := by decide +kernel
theorem ln_81 : (xsh 81).2 = 42 := by decide +kernel
theorem tn_82 : xtn xN 82 = 1 := by decide +kernel
theorem ln_82 : (xsh 82).2 = 42 := by decide +kernel
theorem tn_83 : xtn xN 83 = 1 := by decide +kernel
theorem ln_83 : (xsh 83).2 = 42 := by decide +kernel
theorem ob_84 : xob xN 84 = 4 := by decide +kernel
theorem tn_85 : xtn xN 85 = 2 := by decide +kernel
theorem ln_85 : (xsh 85).2 = 4 := by decide +kernel
theorem tn_86 : xtn xN 86 = 2 := by decide +kernel
theorem ln_86 : (xsh 86).2 = 5 := by decide +kernel
theorem tn_87 : xtn xN 87 = 1 := by decide +kernel
theorem ln_87 : (xsh 87).2 = 10 := by decide +kernel
theorem tn_88 : xtn xN 88 = 1 := by decide +kernel
theorem ln_88 : (xsh 88).2 = 10 := by decide +kernel
theorem tn_89 : xtn xN 89 = 1 := by decide +kernel
theorem ln_89 : (xsh 89).2 = 10 := by decide +kernel
theorem tn_90 : xtn xN 90 = 1 := by decide +kernel
theorem ln_90 : (xsh 90).2 = 30 := by decide +kernel
theorem tn_91 : xtn xN 91 = 1 := by decide +kernel
theorem ln_91 : (xsh 91).2 = 42 := by decide +kernel
theorem tn_92 : xtn xN 92 = 1 := by decide +kernel
theorem ln_92 : (xsh 92).2 = 42 := by decide +kernel
theorem tn_93 : xtn xN 93 = 1 := by decide +kernel
theorem ln_93 : (xsh 93).2 = 42 := by decide +kernel
theorem ob_94 : xob xN 94 = 4 := by decide +kernel
theorem tn_95 : xtn xN 95 = 2 := by decide +kernel
theorem ln_95 : (xsh 95).2 = 4 := by decide +kernel
theorem tn_96 : xtn xN 96 = 2 := by decide +kernel
theorem ln_96 : (xsh 96).2 = 5 := by decide +kernel
theorem tn_97 : xtn xN 97 = 1 := by decide +kernel
theorem ln_97 : (xsh 97).2 = 10 := by decide +kernel
theorem tn_98 : xtn xN 98 = 1 := by decide +kernel
theorem ln_98 : (xsh 98).2 = 10 := by decide +kernel
theorem tn_99 : xtn xN 99 = 1 := by decide +kernel
theorem ln_99 : (xsh 99).2 = 10 := by decide +kernel
theorem tn_100 : xtn xN 100 = 1 := by decide +kernel
theorem ln_100 : (xsh 100).2 = 30 := by decide +kernel
theorem tn_101 : xtn xN 101 = 1 := by decide +kernel
theorem ln_101 : (xsh 101).2 = 42 := by decide +kernel
theorem tn_102 : xtn xN 102 = 1 := by decide +kernel
theorem ln_102 : (xsh 102).2 = 42 := by decide +kernel
theorem tn_103 : xtn xN 103 = 1 := by decide +kernel
theorem ln_103 : (xsh 103).2 = 42 := by decide +kernel
theorem ob_104 : xob xN 104 = 4 := by decide +kernel
theorem tn_105 : xtn xN 105 = 2 := by decide +kernel
theorem ln_105 : (xsh 105).2 = 4 := by decide +kernel
theorem tn_106 : xtn xN 106 = 2 := by decide +kernel
theorem ln_106 : (xsh 106).2 = 5 := by decide +kernel
theorem tn_107 : xtn xN 107 = 1 := by decide +kernel
theorem ln_107 : (xsh 107).2 = 10 := by decide +kernel
theorem tn_108 : xtn xN 108 = 1 := by decide +kernel
theorem ln_108 : (xsh 108).2 = 10 := by decide +kernel
theorem tn_109 : xtn xN 109 = 1 := by decide +kernel
theorem ln_109 : (xsh 109).2 = 10 := by decide +kernel
theorem tn_110 : xtn xN 110 = 1 := by decide +kernel
theorem ln_110 : (xsh 110).2 = 30 := by decide +kernel
theorem tn_111 : xtn xN 111 = 1 := by decide +kernel
theorem ln_111 : (xsh 111).2 = 42 := by decide +kernel
theorem tn_112 : xtn xN 112 = 1 := by decide +kernel
theorem ln_112 : (xsh 112).2 = 42 := by decide +kernel
theorem tn_113 : xtn xN 113 = 1 := by decide +kernel
theorem ln_113 : (xsh 113).2 = 42 := by decide +kernel
theorem ob_114 : xob xN 114 = 4 := by decide +kernel
theorem tn_115 : xtn xN 115 = 2 := by decide +kernel
theorem ln_115 : (xsh 115).2 = 4 := by decide +kernel
theorem tn_116 : xtn xN 116 = 2 := by decide +kernel
theorem ln_116 : (xsh 116).2 = 5 := by decide +kernel
theorem tn_117 : xtn xN 117 = 1 := by decide +kernel
theorem ln_117 : (xsh 117).2 = 10 := by decide +kernel
theorem tn_118 : xtn xN 118 = 1 := by decide +kernel
theorem ln_118 : (xsh 118).2 = 10 := by decide +kernel
theorem tn_119 : xtn xN 119 = 1 := by decide +kernel
theorem ln_119 : (xsh 119).2 = 10 := by decide +kernel
theorem tn_120 : xtn xN 120 = 1 := by decide +kernel
theorem ln_120 : (xsh 120).2 = 30 := by decide +kernel
theorem tn_121 : xtn xN 121 = 1 := by decide +kernel
theorem ln_121 : (xsh 121).2 = 42 := by decide +kernel
theorem tn_122 : xtn xN 122 = 1 := by decide +kernel
theorem ln_122 : (xsh 122).2 = 42 := by decide +kernel
theorem tn_123 : xtn xN 123 = 1 := by decide +kernel
theorem ln_123 : (xsh 123).2 = 42 := by decide +kernel
theorem ob_124 : xob xN 124 = 4 := by decide +kernel
theorem tn_125 : xtn xN 125 = 2 := by decide +kernel
theorem ln_125 : (xsh 125).2 = 4 := by decide +kernel
theorem tn_126 : xtn xN 126 = 2 := by decide +kernel
theorem ln_126 : (xsh 126).2 = 5 := by decide +kernel
theorem tn_127 : xtn xN 127 = 1 := by decide +kernel
theorem ln_127 : (xsh 127).2 = 10 := by decide +kernel
theorem tn_128 : xtn xN 128 = 1 := by decide +kernel
theorem ln_128 : (xsh 128).2 = 10 := by decide +kernel
theorem tn_129 : xtn xN 129 = 1 := by decide +kernel
theorem ln_129 : (xsh 129).2 = 10 := by decide +kernel
theorem tn_130 : xtn xN 130 = 1 := by decide +kernel
theorem ln_130 : (xsh 130).2 = 30 := by decide +kernel
theorem tn_131 : xtn xN 131 = 1 := by decide +kernel
theorem ln_131 : (xsh 131).2 = 42 := by decide +kernel
theorem tn_132 : xtn xN 132 = 1 := by decide +kernel
theorem ln_132 : (xsh 132).2 = 42 := by decide +kernel
theorem tn_133 : xtn xN 133 = 1 := by decide +kernel
theorem ln_133 : (xsh 133).2 = 42 := by decide +kernel
theorem ob_134 : xob xN 134 = 4 := by decide +kernel
theorem tn_135 : xtn xN 135 = 2 := by decide +kernel
theorem ln_135 : (xsh 135).2 = 4 := by decide +kernel
theorem tn_136 : xtn xN 136 = 2 := by decide +kernel
theorem ln_136 : (xsh 136).2 = 5 := by decide +kernel
theorem tn_137 : xtn xN 137 = 1 := by decide +kernel
theorem ln_137 : (xsh 137).2 = 10 := by decide +kernel
theorem tn_138 : xtn xN 138 = 1 := by decide +kernel
theorem ln_138 : (xsh 138).2 = 10 := by decide +kernel
theorem tn_139 : xtn xN 139 = 1 := by decide +kernel
theorem ln_139 : (xsh 139).2 = 10 := by decide +kernel
theorem tn_140 : xtn xN 140 = 1 := by decide +kernel
theorem ln_140 : (xsh 140).2 = 30 := by decide +kernel
theorem tn_141 : xtn xN 141 = 1 := by decide +kernel
theorem ln_141 : (xsh 141).2 = 42 := by decide +kernel
theorem tn_142 : xtn xN 142 = 1 := by decide +kernel
theorem ln_142 : (xsh 142).2 = 42 := by decide +kernel
theorem tn_143 : xtn xN 143 = 1 := by decide +kernel
theorem ln_143 : (xsh 143).2 = 42 := by decide +kernel
theorem ob_144 : xob xN 144 = 4 := by decide +kernel
theorem tn_145 : xtn xN 145 = 2 := by decide +kernel
theorem ln_145 : (xsh 145).2 = 4 := by decide +kernel
theorem tn_146 : xtn xN 146 = 2 := by decide +kernel
theorem ln_146 : (xsh 146).2 = 5 := by decide +kernel
theorem tn_147 : xtn xN 147 = 1 := by decide +kernel
theorem ln_147 : (xsh 147).2 = 10 := by decide +kernel
theorem tn_148 : xtn xN 148 = 1 := by decide +kernel
theorem ln_148 : (xsh 148).2 = 10 := by decide +kernel
theorem tn_149 : xtn xN 149 = 1 := by decide +kernel
theorem ln_149 : (xsh 149).2 = 10 := by decide +kernel
theorem tn_150 : xtn xN 150 = 1 := by decide +kernel
theorem ln_150 : (xsh 150).2 = 30 := by decide +kernel
theorem tn_151 : xtn xN 151 = 1 := by decide +kernel
theorem ln_151 : (xsh 151).2 = 42 := by decide +kernel
theorem tn_152 : xtn xN 152 = 1 := by decide +kernel
theorem ln_152 : (xsh 152).2 = 42 := by decide +kernel
theorem tn_153 : xtn xN 153 = 1 := by decide +kernel
theorem ln_153 : (xsh 153).2 = 42 := by decide +kernel
theorem ob_154 : xob xN 154 = 4 := by decide +kernel
theorem tn_155 : xtn xN 155 = 2 := by decide +kernel
theorem ln_155 : (xsh 155).2 = 4 := by decide +kernel
theorem tn_156 : xtn xN 156 = 2 := by decide +kernel
theorem ln_156 : (xsh 156).2 = 5 := by decide +kernel
theorem tn_157 : xtn xN 157 = 1 := by decide +kernel
theorem ln_157 : (xsh 157).2 = 10 := by decide +kernel
theorem tn_158 : xtn xN 158 = 1 := by decide +kernel
theorem ln_158 : (xsh 158).2 = 10 := by decide +kernel
theorem tn_159 : xtn xN 159 = 1 := by decide +kernel
theorem ln_159 : (xsh 159).2 = 10 := by decide +kernel
theorem tn_160 : xtn xN 160 = 1 := by decide +kernel
theorem ln_160 : (xsh 160).2 = 30 := by decide +kernel
theorem tn_161 : xtn xN 161 = 1 := by decide +kernel
theorem ln_161 : (xsh 161).2 = 42 := by decide +kernel
theorem tn_162 : xtn xN 162 = 1 := by decide +kernel
theorem ln_162 : (xsh 162).2 = 42 := by decide +kernel
theorem tn_163 : xtn xN 163 = 1 := by decide +kernel
theorem ln_163 : (xsh 163).2 = 42 := by decide +kernel
theorem ob_164 : xob xN 164 = 8 := by decide +kernel
theorem tn_165 : xtn xN 165 = 1 := by decide +kernel
theorem ln_165 : (xsh 165).2 = 40 := by decide +kernel
theorem tn_166 : xtn xN 166 = 1 := by decide +kernel
theorem ln_166 : (xsh 166).2 = 40 := by decide +kernel
theorem ob_167 : xob xN 167 = 4 := by decide +kernel
theorem tn_168 : xtn xN 168 = 2 := by decide +kernel
theorem ln_168 : (xsh 168).2 = 4 := by decide +kernel
theorem tn_169 : xtn xN 169 = 2 := by decide +kernel
theorem ln_169 : (xsh 169).2 = 5 := by decide +kernel
theorem tn_170 : xtn xN 170 = 1 := by decide +kernel
theorem ln_170 : (xsh 170).2 = 10 := by decide +kernel
theorem tn_171 : xtn xN 171 = 1 := by decide +kernel
theorem ln_171 : (xsh 171).2 = 10 := by decide +kernel
theorem tn_172 : xtn xN 172 = 1 := by decide +kernel
theorem ln_172 : (xsh 172).2 = 10 := by decide +kernel
theorem tn_173 : xtn xN 173 = 1 := by decide +kernel
theorem ln_173 : (xsh 173).2 = 30 := by decide +kernel
theorem tn_174 : xtn xN 174 = 1 := by decide +kernel
theorem ln_174 : (xsh 174).2 = 42 := by decide +kernel
theorem tn_175 : xtn xN 175 = 1 := by decide +kernel
theorem ln_175 : (xsh 175).2 = 42 := by decide +kernel
theorem tn_176 : xtn xN 176 = 1 := by decide +kernel
theorem ln_176 : (xsh 176).2 = 42 := by decide +kernel
theorem ob_177 : xob xN 177 = 8 := by decide +kernel
theorem tn_178 : xtn xN 178 = 1 := by decide +kernel
theorem ln_178 : (xsh 178).2 = 40 := by decide +kernel
theorem tn_179 : xtn xN 179 = 1 := by decide +kernel
theorem ln_179 : (xsh 179).2 = 40 := by decide +kernel
theorem ob_180 : xob xN 180 = 12 := by decide +kernel
theorem tn_181 : xtn xN 181 = 3 := by decide +kernel
theorem ln_181 : (xsh 181).2 = 940 := by decide +kernel
theorem tn_182 : xtn xN 182 = 1 := by decide +kernel
theorem ln_182 : (xsh 182).2 = 232 := by decide +kernel
theorem tn_183 : xtn xN 183 = 1 := by decide +kernel
theorem ln_183 : (xsh 183).2 = 54 := by decide +kernel
theorem tn_184 : xtn xN 184 = 1 := by decide +kernel
theorem ln_184 : (xsh 184).2 = 135 := by decide +kernel
theorem tn_185 : xtn xN 185 = 1 := by decide +kernel
theorem ln_185 : (xsh 185).2 = 246 := by decide +kernel
theorem tn_186 : xtn xN 186 = 2 := by decide +kernel
theorem ln_186 : (xsh 186).2 = 18 := by decide +kernel
theorem tn_187 : xtn xN 187 = 2 := by decide +kernel
theorem ln_187 : (xsh 187).2 = 16 := by decide +kernel
theorem tn_188 : xtn xN 188 = 1 := by decide +kernel
theorem ln_188 : (xsh 188).2 = 42 := by decide +kernel
theorem tn_189 : xtn xN 189 = 1 := by decide +kernel
theorem ln_189 : (xsh 189).2 = 42 := by decide +kernel
theorem tn_190 : xtn xN 190 = 1 := by decide +kernel
theorem ln_190 : (xsh 190).2 = 42 := by decide +kernel
theorem tn_191 : xtn xN 191 = 1 := by decide +kernel
theorem ln_191 : (xsh 191).2 = 10 := by decide +kernel
theorem tn_192 : xtn xN 192 = 1 := by decide +kernel
theorem ln_192 : (xsh 192).2 = 5 := by decide +kernel
theorem tn_193 : xtn xN 193 = 1 := by decide +kernel
theorem ln_193 : (xsh 193).2 = 5 := by decide +kernel
theorem tn_194 : xtn xN 194 = 1 := by decide +kernel
theorem ln_194 : (xsh 194).2 = 5 := by decide +kernel
theorem tn_195 : xtn xN 195 = 1 := by decide +kernel
theorem ln_195 : (xsh 195).2 = 80 := by decide +kernel
theorem tn_196 : xtn xN 196 = 1 := by decide +kernel
theorem ln_196 : (xsh 196).2 = 80 := by decide +kernel
theorem tn_197 : xtn xN 197 = 1 := by decide +kernel
theorem ln_197 : (xsh 197).2 = 1764 := by decide +kernel
theorem tn_198 : xtn xN 198 = 1 := by decide +kernel
theorem ln_198 : (xsh 198).2 = 81 := by decide +kernel
theorem tn_199 : xtn xN 199 = 1 := by decide +kernel
theorem ln_199 : (xsh 199).2 = 76800 := by decide +kernel
theorem tn_200 : xtn xN 200 = 4 := by decide +kernel
theorem ln_200 : (xsh 200).2 = 3360 := by decide +kernel
theorem tn_201 : xtn xN 201 = 1 := by decide +kernel
theorem ln_201 : (xsh 201).2 = 25600 := by decide +kernel
theorem tn_202 : xtn xN 202 = 1 := by decide +kernel
theorem ln_202 : (xsh 202).2 = 25600 := by decide +kernel
theorem tn_203 : xtn xN 203 = 1 := by decide +kernel
theorem ln_203 : (xsh 203).2 = 25600 := by decide +kernel
theorem tn_204 : xtn xN 204 = 1 := by decide +kernel
theorem ln_204 : (xsh 204).2 = 25600 := by decide +kernel
theorem tn_205 : xtn xN 205 = 4 := by decide +kernel
theorem ln_205 : (xsh 205).2 = 25600 := by decide +kernel
theorem tn_206 : xtn xN 206 = 1 := by decide +kernel
theorem ln_206 : (xsh 206).2 = 5 := by decide +kernel
theorem tn_207 : xtn xN 207 = 1 := by decide +kernel
theorem ln_207 : (xsh 207).2 = 752 := by decide +kernel
theorem tn_208 : xtn xN 208 = 1 := by decide +kernel
theorem ln_208 : (xsh 208).2 = 94 := by decide +kernel
theorem tn_209 : xtn xN 209 = 1 := by decide +kernel
theorem ln_209 : (xsh 209).2 = 94 := by decide +kernel
theorem tn_210 : xtn xN 210 = 1 := by decide +kernel
theorem ln_210 : (xsh 210).2 = 1215 := by decide +kernel
theorem tn_211 : xtn xN 211 = 1 := by decide +kernel
theorem ln_211 : (xsh 211).2 = 6075 := by decide +kernel
theorem tn_212 : xtn xN 212 = 1 := by decide +kernel
theorem ln_212 : (xsh 212).2 = 25 := by decide +kernel
theorem tn_213 : xtn xN 213 = 1 := by decide +kernel
theorem ln_213 : (xsh 213).2 = 405 := by decide +kernel
theorem tn_214 : xtn xN 214 = 1 := by decide +kernel
theorem ln_214 : (xsh 214).2 = 405 := by decide +kernel
theorem tn_215 : xtn xN 215 = 1 := by decide +kernel
theorem ln_215 : (xsh 215).2 = 5 := by decide +kernel
theorem tn_216 : xtn xN 216 = 1 := by decide +kernel
theorem ln_216 : (xsh 216).2 = 8 := by decide +kernel
theorem tn_217 : xtn xN 217 = 1 := by decide +kernel
theorem ln_217 : (xsh 217).2 = 8 := by decide +kernel
theorem tn_218 : xtn xN 218 = 1 := by decide +kernel
theorem ln_218 : (xsh 218).2 = 36 := by decide +kernel
theorem tn_219 : xtn xN 219 = 1 := by decide +kernel
theorem ln_219 : (xsh 219).2 = 9050 := by decide +kernel
theorem tn_220 : xtn xN 220 = 1 := by decide +kernel
theorem ln_220 : (xsh 220).2 = 600 := by decide +kernel
theorem tn_221 : xtn xN 221 = 1 := by decide +kernel
theorem ln_221 : (xsh 221).2 = 600 := by decide +kernel
theorem tn_222 : xtn xN 222 = 1 := by decide +kernel
theorem ln_222 : (xsh 222).2 = 4 := by decide +kernel
theorem tn_223 : xtn xN 223 = 1 := by decide +kernel
theorem ln_223 : (xsh 223).2 = 5 := by decide +kernel
theorem tn_224 : xtn xN 224 = 3 := by decide +kernel
theorem ln_224 : (xsh 224).2 = 60 := by decide +kernel
theorem tn_225 : xtn xN 225 = 1 := by decide +kernel
theorem ln_225 : (xsh 225).2 = 4 := by decide +kernel
theorem tn_226 : xtn xN 226 = 1 := by decide +kernel
theorem ln_226 : (xsh 226).2 = 45 := by decide +kernel
theorem tn_227 : xtn xN 227 = 4 := by decide +kernel
theorem ln_227 : (xsh 227).2 = 45 := by decide +kernel
theorem tn_228 : xtn xN 228 = 1 := by decide +kernel
theorem ln_228 : (xsh 228).2 = 464 := by decide +kernel
theorem tn_229 : xtn xN 229 = 2 := by decide +kernel
theorem ln_229 : (xsh 229).2 = 18 := by decide +kernel
theorem tn_230 : xtn xN 230 = 4 := by decide +kernel
theorem ln_230 : (xsh 230).2 = 2 := by decide +kernel
theorem fn0 : ((0 : Fin 4) : Nat) = 0 := rfl
theorem fn1 : ((1 : Fin 4) : Nat) = 1 := rfl
theorem fn2 : ((2 : Fin 4) : Nat) = 2 := rfl
theorem fn3 : ((3 : Fin 4) : Nat) = 3 := rfl
def w_I (f : Int32 → xH → xP → Prop) : xSp := fun as A P => match as with
  | [.int a0] => f a0 A P
  | _ => False
def w_II (f : Int32 → Int32 → xH → xP → Prop) : xSp := fun as A P => match as with
  | [.int a0, .int a1] => f a0 a1 A P
  | _ => False
def w_III (f : Int32 → Int32 → Int32 → xH → xP → Prop) : xSp := fun as A P => match as with
  | [.int a0, .int a1, .int a2] => f a0 a1 a2 A P
  | _ => False
def w_J (f : Int64 → xH → xP → Prop) : xSp := fun as A P => match as with
  | [.long a0] => f a0 A P
  | _ => False
def w_JI (f : Int64 → Int32 → xH → xP → Prop) : xSp := fun as A P => match as with
  | [.long a0, .int a1] => f a0 a1 A P
  | _ => False
def w_R (f : Nat → xH → xP → Prop) : xSp := fun as A P => match as with
  | [.ref a0] => f a0 A P
  | _ => False
def w_RI (f : Nat → Int32 → xH → xP → Prop) : xSp := fun as A P => match as with
  | [.ref a0, .int a1] => f a0 a1 A P
  | _ => False
def w_RII (f : Nat → Int32 → Int32 → xH → xP → Prop) : xSp := fun as A P => match as with
  | [.ref a0, .int a1, .int a2] => f a0 a1 a2 A P
  | _ => False
def w_RIII (f : Nat → Int32 → Int32 → Int32 → xH → xP → Prop) : xSp := fun as A P => match as with
  | [.ref a0, .int a1, .int a2, .int a3] => f a0 a1 a2 a3 A P
  | _ => False
def w_RIIII (f : Nat → Int32 → Int32 → Int32 → Int32 → xH → xP → Prop) : xSp := fun as A P => match as with
  | [.ref a0, .int a1, .int a2, .int a3, .int a4] => f a0 a1 a2 a3 a4 A P
  | _ => False
def w_RIIIII (f : Nat → Int32 → Int32 → Int32 → Int32 → Int32 → xH → xP → Prop) : xSp := fun as A P => match as with
  | [.ref a0, .int a1, .int a2, .int a3, .int a4, .int a5] => f a0 a1 a2 a3 a4 a5 A P
  | _ => False
def w_RIJIJJ (f : Nat → Int32 → Int64 → Int32 → Int64 → Int64 → xH → xP → Prop) : xSp := fun as A P => match as with
  | [.ref a0, .int a1, .long a2, .int a3, .long a4, .long a5] => f a0 a1 a2 a3 a4 a5 A P
  | _ => False
def w_RIJJ (f : Nat → Int32 → Int64 → Int64 → xH → xP → Prop) : xSp := fun as A P => match as with
  | [.ref a0, .int a1, .long a2, .long a3] => f a0 a1 a2 a3 A P
  | _ => False
def w_RIR (f : Nat → Int32 → Nat → xH → xP → Prop) : xSp := fun as A P => match as with
  | [.ref a0, .int a1, .ref a2] => f a0 a1 a2 A P
  | _ => False
def w_RJ (f : Nat → Int64 → xH → xP → Prop) : xSp := fun as A P => match as with
  | [.ref a0, .long a1] => f a0 a1 A P
  | _ => False
def w_RR (f : Nat → Nat → xH → xP → Prop) : xSp := fun as A P => match as with
  | [.ref a0, .ref a1] => f a0 a1 A P
  | _ => False
def w_RRI (f : Nat → Nat → Int32 → xH → xP → Prop) : xSp := fun as A P => match as with
  | [.ref a0, .ref a1, .int a2] => f a0 a1 a2 A P
  | _ => False
def w_RRII (f : Nat → Nat → Int32 → Int32 → xH → xP → Prop) : xSp := fun as A P => match as with
  | [.ref a0, .ref a1, .int a2, .int a3] => f a0 a1 a2 a3 A P
  | _ => False
def w_RRIII (f : Nat → Nat → Int32 → Int32 → Int32 → xH → xP → Prop) : xSp := fun as A P => match as with
  | [.ref a0, .ref a1, .int a2, .int a3, .int a4] => f a0 a1 a2 a3 a4 A P
  | _ => False
def w_RRIIII (f : Nat → Nat → Int32 → Int32 → Int32 → Int32 → xH → xP → Prop) : xSp := fun as A P => match as with
  | [.ref a0, .ref a1, .int a2, .int a3, .int a4, .int a5] => f a0 a1 a2 a3 a4 a5 A P
  | _ => False
def w_RRIIIIII (f : Nat → Nat → Int32 → Int32 → Int32 → Int32 → Int32 → Int32 → xH → xP → Prop) : xSp := fun as A P => match as with
  | [.ref a0, .ref a1, .int a2, .int a3, .int a4, .int a5, .int a6, .int a7] => f a0 a1 a2 a3 a4 a5 a6 a7 A P
  | _ => False
def w_RRIJ (f : Nat → Nat → Int32 → Int64 → xH → xP → Prop) : xSp := fun as A P => match as with
  | [.ref a0, .ref a1, .int a2, .long a3] => f a0 a1 a2 a3 A P
  | _ => False
def w_RRJ (f : Nat → Nat → Int64 → xH → xP → Prop) : xSp := fun as A P => match as with
  | [.ref a0, .ref a1, .long a2] => f a0 a1 a2 A P
  | _ => False
def w_RRR (f : Nat → Nat → Nat → xH → xP → Prop) : xSp := fun as A P => match as with
  | [.ref a0, .ref a1, .ref a2] => f a0 a1 a2 A P
  | _ => False
def w_RRRI (f : Nat → Nat → Nat → Int32 → xH → xP → Prop) : xSp := fun as A P => match as with
  | [.ref a0, .ref a1, .ref a2, .int a3] => f a0 a1 a2 a3 A P
  | _ => False
theorem xc_I {l : Launch} {y : MethodName} {cc : ByteArray} {nL : Nat} {ret : Option FieldType} {fr lo n n' ms : Nat} {F F' : Nat → Prop} {f : Int32 → xH → xP → Prop} (hy : plainFor y = true) (hna : Nat.ble 1 nL = true)
    (h : ∀ (p : Program) (e : Env) (s : State) (m : MethodId) (args : Array Value) (below : List Frame) (meth : Method) (c : Code) (g : xG) (a0 : Int32) (A : xH) (P : xP), f a0 A P → xX p s m args c meth cc y.cls nL g → meth.sig.returnType = ret → meth.name = y.name →
      ∃ K : xK, K ([some (.int a0)] ++ List.replicate (nL - 1) none) [] A ∧ xAt p l e { frames := fr, cells := n' - n, slots := ms, locals := lo } s m args below meth c g nL F n 0 0 (MQ below (xQc g F' n' P) args s (n' - n) ms (xFr g)) K 0) : xCon l y cc nL ret fr lo n n' ms F F' (w_I f) := by
  refine xCon_of (na := 0) hy ?_ ?_
  · intro as A P h
    unfold w_I at h
    split at h
    · exact hna
    · exact h.elim
  · intro p e s m args below meth c g as A P hf X hr hn
    unfold w_I at hf
    split at hf
    · exact h p e s m args below meth c g _  A P hf X hr hn
    · exact hf.elim
theorem xc_II {l : Launch} {y : MethodName} {cc : ByteArray} {nL : Nat} {ret : Option FieldType} {fr lo n n' ms : Nat} {F F' : Nat → Prop} {f : Int32 → Int32 → xH → xP → Prop} (hy : plainFor y = true) (hna : Nat.ble 2 nL = true)
    (h : ∀ (p : Program) (e : Env) (s : State) (m : MethodId) (args : Array Value) (below : List Frame) (meth : Method) (c : Code) (g : xG) (a0 : Int32) (a1 : Int32) (A : xH) (P : xP), f a0 a1 A P → xX p s m args c meth cc y.cls nL g → meth.sig.returnType = ret → meth.name = y.name →
      ∃ K : xK, K ([some (.int a0), some (.int a1)] ++ List.replicate (nL - 2) none) [] A ∧ xAt p l e { frames := fr, cells := n' - n, slots := ms, locals := lo } s m args below meth c g nL F n 0 0 (MQ below (xQc g F' n' P) args s (n' - n) ms (xFr g)) K 0) : xCon l y cc nL ret fr lo n n' ms F F' (w_II f) := by
  refine xCon_of (na := 0) hy ?_ ?_
  · intro as A P h
    unfold w_II at h
    split at h
    · exact hna
    · exact h.elim
  · intro p e s m args below meth c g as A P hf X hr hn
    unfold w_II at hf
    split at hf
    · exact h p e s m args below meth c g _ _ A P hf X hr hn
    · exact hf.elim
theorem xc_III {l : Launch} {y : MethodName} {cc : ByteArray} {nL : Nat} {ret : Option FieldType} {fr lo n n' ms : Nat} {F F' : Nat → Prop} {f : Int32 → Int32 → Int32 → xH → xP → Prop} (hy : plainFor y = true) (hna : Nat.ble 3 nL = true)
    (h : ∀ (p : Program) (e : Env) (s : State) (m : MethodId) (args : Array Value) (below : List Frame) (meth : Method) (c : Code) (g : xG) (a0 : Int32) (a1 : Int32) (a2 : Int32) (A : xH) (P : xP), f a0 a1 a2 A P → xX p s m args c meth cc y.cls nL g → meth.sig.returnType = ret → meth.name = y.name →
      ∃ K : xK, K ([some (.int a0), some (.int a1), some (.int a2)] ++ List.replicate (nL - 3) none) [] A ∧ xAt p l e { frames := fr, cells := n' - n, slots := ms, locals := lo } s m args below meth c g nL F n 0 0 (MQ below (xQc g F' n' P) args s (n' - n) ms (xFr g)) K 0) : xCon l y cc nL ret fr lo n n' ms F F' (w_III f) := by
  refine xCon_of (na := 0) hy ?_ ?_
  · intro as A P h
    unfold w_III at h
    split at h
    · exact hna
    · exact h.elim
  · intro p e s m args below meth c g as A P hf X hr hn
    unfold w_III at hf
    split at hf
    · exact h p e s m args below meth c g _ _ _ A P hf X hr hn
    · exact hf.elim
theorem xc_J {l : Launch} {y : MethodName} {cc : ByteArray} {nL : Nat} {ret : Option FieldType} {fr lo n n' ms : Nat} {F F' : Nat → Prop} {f : Int64 → xH → xP → Prop} (hy : plainFor y = true) (hna : Nat.ble 2 nL = true)
    (h : ∀ (p : Program) (e : Env) (s : State) (m : MethodId) (args : Array Value) (below : List Frame) (meth : Method) (c : Code) (g : xG) (a0 : Int64) (A : xH) (P : xP), f a0 A P → xX p s m args c meth cc y.cls nL g → meth.sig.returnType = ret → meth.name = y.name →
      ∃ K : xK, K ([some (.long a0), none] ++ List.replicate (nL - 2) none) [] A ∧ xAt p l e { frames := fr, cells := n' - n, slots := ms, locals := lo } s m args below meth c g nL F n 0 0 (MQ below (xQc g F' n' P) args s (n' - n) ms (xFr g)) K 0) : xCon l y cc nL ret fr lo n n' ms F F' (w_J f) := by
  refine xCon_of (na := 0) hy ?_ ?_
  · intro as A P h
    unfold w_J at h
    split at h
    · exact hna
    · exact h.elim
  · intro p e s m args below meth c g as A P hf X hr hn
    unfold w_J at hf
    split at hf
    · exact h p e s m args below meth c g _  A P hf X hr hn
    · exact hf.elim
theorem xc_JI {l : Launch} {y : MethodName} {cc : ByteArray} {nL : Nat} {ret : Option FieldType} {fr lo n n' ms : Nat} {F F' : Nat → Prop} {f : Int64 → Int32 → xH → xP → Prop} (hy : plainFor y = true) (hna : Nat.ble 3 nL = true)
    (h : ∀ (p : Program) (e : Env) (s : State) (m : MethodId) (args : Array Value) (below : List Frame) (meth : Method) (c : Code) (g : xG) (a0 : Int64) (a1 : Int32) (A : xH) (P : xP), f a0 a1 A P → xX p s m args c meth cc y.cls nL g → meth.sig.returnType = ret → meth.name = y.name →
      ∃ K : xK, K ([some (.long a0), none, some (.int a1)] ++ List.replicate (nL - 3) none) [] A ∧ xAt p l e { frames := fr, cells := n' - n, slots := ms, locals := lo } s m args below meth c g nL F n 0 0 (MQ below (xQc g F' n' P) args s (n' - n) ms (xFr g)) K 0) : xCon l y cc nL ret fr lo n n' ms F F' (w_JI f) := by
  refine xCon_of (na := 0) hy ?_ ?_
  · intro as A P h
    unfold w_JI at h
    split at h
    · exact hna
    · exact h.elim
  · intro p e s m args below meth c g as A P hf X hr hn
    unfold w_JI at hf
    split at hf
    · exact h p e s m args below meth c g _ _ A P hf X hr hn
    · exact hf.elim
theorem xc_R {l : Launch} {y : MethodName} {cc : ByteArray} {nL : Nat} {ret : Option FieldType} {fr lo n n' ms : Nat} {F F' : Nat → Prop} {f : Nat → xH → xP → Prop} (hy : plainFor y = true) (hna : Nat.ble 1 nL = true)
    (h : ∀ (p : Program) (e : Env) (s : State) (m : MethodId) (args : Array Value) (below : List Frame) (meth : Method) (c : Code) (g : xG) (a0 : Nat) (A : xH) (P : xP), f a0 A P → xX p s m args c meth cc y.cls nL g → meth.sig.returnType = ret → meth.name = y.name →
      ∃ K : xK, K ([some (.ref a0)] ++ List.replicate (nL - 1) none) [] A ∧ xAt p l e { frames := fr, cells := n' - n, slots := ms, locals := lo } s m args below meth c g nL F n 0 0 (MQ below (xQc g F' n' P) args s (n' - n) ms (xFr g)) K 0) : xCon l y cc nL ret fr lo n n' ms F F' (w_R f) := by
  refine xCon_of (na := 0) hy ?_ ?_
  · intro as A P h
    unfold w_R at h
    split at h
    · exact hna
    · exact h.elim
  · intro p e s m args below meth c g as A P hf X hr hn
    unfold w_R at hf
    split at hf
    · exact h p e s m args below meth c g _  A P hf X hr hn
    · exact hf.elim
theorem xc_RI {l : Launch} {y : MethodName} {cc : ByteArray} {nL : Nat} {ret : Option FieldType} {fr lo n n' ms : Nat} {F F' : Nat → Prop} {f : Nat → Int32 → xH → xP → Prop} (hy : plainFor y = true) (hna : Nat.ble 2 nL = true)
    (h : ∀ (p : Program) (e : Env) (s : State) (m : MethodId) (args : Array Value) (below : List Frame) (meth : Method) (c : Code) (g : xG) (a0 : Nat) (a1 : Int32) (A : xH) (P : xP), f a0 a1 A P → xX p s m args c meth cc y.cls nL g → meth.sig.returnType = ret → meth.name = y.name →
      ∃ K : xK, K ([some (.ref a0), some (.int a1)] ++ List.replicate (nL - 2) none) [] A ∧ xAt p l e { frames := fr, cells := n' - n, slots := ms, locals := lo } s m args below meth c g nL F n 0 0 (MQ below (xQc g F' n' P) args s (n' - n) ms (xFr g)) K 0) : xCon l y cc nL ret fr lo n n' ms F F' (w_RI f) := by
  refine xCon_of (na := 0) hy ?_ ?_
  · intro as A P h
    unfold w_RI at h
    split at h
    · exact hna
    · exact h.elim
  · intro p e s m args below meth c g as A P hf X hr hn
    unfold w_RI at hf
    split at hf
    · exact h p e s m args below meth c g _ _ A P hf X hr hn
    · exact hf.elim
theorem xc_RII {l : Launch} {y : MethodName} {cc : ByteArray} {nL : Nat} {ret : Option FieldType} {fr lo n n' ms : Nat} {F F' : Nat → Prop} {f : Nat → Int32 → Int32 → xH → xP → Prop} (hy : plainFor y = true) (hna : Nat.ble 3 nL = true)
    (h : ∀ (p : Program) (e : Env) (s : State) (m : MethodId) (args : Array Value) (below : List Frame) (meth : Method) (c : Code) (g : xG) (a0 : Nat) (a1 : Int32) (a2 : Int32) (A : xH) (P : xP), f a0 a1 a2 A P → xX p s m args c meth cc y.cls nL g → meth.sig.returnType = ret → meth.name = y.name →
      ∃ K : xK, K ([some (.ref a0), some (.int a1), some (.int a2)] ++ List.replicate (nL - 3) none) [] A ∧ xAt p l e { frames := fr, cells := n' - n, slots := ms, locals := lo } s m args below meth c g nL F n 0 0 (MQ below (xQc g F' n' P) args s (n' - n) ms (xFr g)) K 0) : xCon l y cc nL ret fr lo n n' ms F F' (w_RII f) := by
  refine xCon_of (na := 0) hy ?_ ?_
  · intro as A P h
    unfold w_RII at h
    split at h
    · exact hna
    · exact h.elim
  · intro p e s m args below meth c g as A P hf X hr hn
    unfold w_RII at hf
    split at hf
    · exact h p e s m args below meth c g _ _ _ A P hf X hr hn
    · exact hf.elim
theorem xc_RIII {l : Launch} {y : MethodName} {cc : ByteArray} {nL : Nat} {ret : Option FieldType} {fr lo n n' ms : Nat} {F F' : Nat → Prop} {f : Nat → Int32 → Int32 → Int32 → xH → xP → Prop} (hy : plainFor y = true) (hna : Nat.ble 4 nL = true)
    (h : ∀ (p : Program) (e : Env) (s : State) (m : MethodId) (args : Array Value) (below : List Frame) (meth : Method) (c : Code) (g : xG) (a0 : Nat) (a1 : Int32) (a2 : Int32) (a3 : Int32) (A : xH) (P : xP), f a0 a1 a2 a3 A P → xX p s m args c meth cc y.cls nL g → meth.sig.returnType = ret → meth.name = y.name →
      ∃ K : xK, K ([some (.ref a0), some (.int a1), some (.int a2), some (.int a3)] ++ List.replicate (nL - 4) none) [] A ∧ xAt p l e { frames := fr, cells := n' - n, slots := ms, locals := lo } s m args below meth c g nL F n 0 0 (MQ below (xQc g F' n' P) args s (n' - n) ms (xFr g)) K 0) : xCon l y cc nL ret fr lo n n' ms F F' (w_RIII f) := by
  refine xCon_of (na := 0) hy ?_ ?_
  · intro as A P h
    unfold w_RIII at h
    split at h
    · exact hna
    · exact h.elim
  · intro p e s m args below meth c g as A P hf X hr hn
    unfold w_RIII at hf
    split at hf
    · exact h p e s m args below meth c g _ _ _ _ A P hf X hr hn
    · exact hf.elim
theorem xc_RIIII {l : Launch} {y : MethodName} {cc : ByteArray} {nL : Nat} {ret : Option FieldType} {fr lo n n' ms : Nat} {F F' : Nat → Prop} {f : Nat → Int32 → Int32 → Int32 → Int32 → xH → xP → Prop} (hy : plainFor y = true) (hna : Nat.ble 5 nL = true)
    (h : ∀ (p : Program) (e : Env) (s : State) (m : MethodId) (args : Array Value) (below : List Frame) (meth : Method) (c : Code) (g : xG) (a0 : Nat) (a1 : Int32) (a2 : Int32) (a3 : Int32) (a4 : Int32) (A : xH) (P : xP), f a0 a1 a2 a3 a4 A P → xX p s m args c meth cc y.cls nL g → meth.sig.returnType = ret → meth.name = y.name →
      ∃ K : xK, K ([some (.ref a0), some (.int a1), some (.int a2), some (.int a3), some (.int a4)] ++ List.replicate (nL - 5) none) [] A ∧ xAt p l e { frames := fr, cells := n' - n, slots := ms, locals := lo } s m args below meth c g nL F n 0 0 (MQ below (xQc g F' n' P) args s (n' - n) ms (xFr g)) K 0) : xCon l y cc nL ret fr lo n n' ms F F' (w_RIIII f) := by
  refine xCon_of (na := 0) hy ?_ ?_
  · intro as A P h
    unfold w_RIIII at h
    split at h
    · exact hna
    · exact h.elim
  · intro p e s m args below meth c g as A P hf X hr hn
    unfold w_RIIII at hf
    split at hf
    · exact h p e s m args below meth c g _ _ _ _ _ A P hf X hr hn
    · exact hf.elim
theorem xc_RIIIII {l : Launch} {y : MethodName} {cc : ByteArray} {nL : Nat} {ret : Option FieldType} {fr lo n n' ms : Nat} {F F' : Nat → Prop} {f : Nat → Int32 → Int32 → Int32 → Int32 → Int32 → xH → xP → Prop} (hy : plainFor y = true) (hna : Nat.ble 6 nL = true)
    (h : ∀ (p : Program) (e : Env) (s : State) (m : MethodId) (args : Array Value) (below : List Frame) (meth : Method) (c : Code) (g : xG) (a0 : Nat) (a1 : Int32) (a2 : Int32) (a3 : Int32) (a4 : Int32) (a5 : Int32) (A : xH) (P : xP), f a0 a1 a2 a3 a4 a5 A P → xX p s m args c meth cc y.cls nL g → meth.sig.returnType = ret → meth.name = y.name →
      ∃ K : xK, K ([some (.ref a0), some (.int a1), some (.int a2), some (.int a3), some (.int a4), some (.int a5)] ++ List.replicate (nL - 6) none) [] A ∧ xAt p l e { frames := fr, cells := n' - n, slots := ms, locals := lo } s m args below meth c g nL F n 0 0 (MQ below (xQc g F' n' P) args s (n' - n) ms (xFr g)) K 0) : xCon l y cc nL ret fr lo n n' ms F F' (w_RIIIII f) := by
  refine xCon_of (na := 0) hy ?_ ?_
  · intro as A P h
    unfold w_RIIIII at h
    split at h
    · exact hna
    · exact h.elim
  · intro p e s m args below meth c g as A P hf X hr hn
    unfold w_RIIIII at hf
    split at hf
    · exact h p e s m args below meth c g _ _ _ _ _ _ A P hf X hr hn
    · exact hf.elim
theorem xc_RIJIJJ {l : Launch} {y : MethodName} {cc : ByteArray} {nL : Nat} {ret : Option FieldType} {fr lo n n' ms : Nat} {F F' : Nat → Prop} {f : Nat → Int32 → Int64 → Int32 → Int64 → Int64 → xH → xP → Prop} (hy : plainFor y = true) (hna : Nat.ble 9 nL = true)
    (h : ∀ (p : Program) (e : Env) (s : State) (m : MethodId) (args : Array Value) (below : List Frame) (meth : Method) (c : Code) (g : xG) (a0 : Nat) (a1 : Int32) (a2 : Int64) (a3 : Int32) (a4 : Int64) (a5 : Int64) (A : xH) (P : xP), f a0 a1 a2 a3 a4 a5 A P → xX p s m args c meth cc y.cls nL g → meth.sig.returnType = ret → meth.name = y.name →
      ∃ K : xK, K ([some (.ref a0), some (.int a1), some (.long a2), none, some (.int a3), some (.long a4), none, some (.long a5), none] ++ List.replicate (nL - 9) none) [] A ∧ xAt p l e { frames := fr, cells := n' - n, slots := ms, locals := lo } s m args below meth c g nL F n 0 0 (MQ below (xQc g F' n' P) args s (n' - n) ms (xFr g)) K 0) : xCon l y cc nL ret fr lo n n' ms F F' (w_RIJIJJ f) := by
  refine xCon_of (na := 0) hy ?_ ?_
  · intro as A P h
    unfold w_RIJIJJ at h
    split at h
    · exact hna
    · exact h.elim
  · intro p e s m args below meth c g as A P hf X hr hn
    unfold w_RIJIJJ at hf
    split at hf
    · exact h p e s m args below meth c g _ _ _ _ _ _ A P hf X hr hn
    · exact hf.elim
theorem xc_RIJJ {l : Launch} {y : MethodName} {cc : ByteArray} {nL : Nat} {ret : Option FieldType} {fr lo n n' ms : Nat} {F F' : Nat → Prop} {f : Nat → Int32 → Int64 → Int64 → xH → xP → Prop} (hy : plainFor y = true) (hna : Nat.ble 6 nL = true)
    (h : ∀ (p : Program) (e : Env) (s : State) (m : MethodId) (args : Array Value) (below : List Frame) (meth : Method) (c : Code) (g : xG) (a0 : Nat) (a1 : Int32) (a2 : Int64) (a3 : Int64) (A : xH) (P : xP), f a0 a1 a2 a3 A P → xX p s m args c meth cc y.cls nL g → meth.sig.returnType = ret → meth.name = y.name →
      ∃ K : xK, K ([some (.ref a0), some (.int a1), some (.long a2), none, some (.long a3), none] ++ List.replicate (nL - 6) none) [] A ∧ xAt p l e { frames := fr, cells := n' - n, slots := ms, locals := lo } s m args below meth c g nL F n 0 0 (MQ below (xQc g F' n' P) args s (n' - n) ms (xFr g)) K 0) : xCon l y cc nL ret fr lo n n' ms F F' (w_RIJJ f) := by
  refine xCon_of (na := 0) hy ?_ ?_
  · intro as A P h
    unfold w_RIJJ at h
    split at h
    · exact hna
    · exact h.elim
  · intro p e s m args below meth c g as A P hf X hr hn
    unfold w_RIJJ at hf
    split at hf
    · exact h p e s m args below meth c g _ _ _ _ A P hf X hr hn
    · exact hf.elim
theorem xc_RIR {l : Launch} {y : MethodName} {cc : ByteArray} {nL : Nat} {ret : Option FieldType} {fr lo n n' ms : Nat} {F F' : Nat → Prop} {f : Nat → Int32 → Nat → xH → xP → Prop} (hy : plainFor y = true) (hna : Nat.ble 3 nL = true)
    (h : ∀ (p : Program) (e : Env) (s : State) (m : MethodId) (args : Array Value) (below : List Frame) (meth : Method) (c : Code) (g : xG) (a0 : Nat) (a1 : Int32) (a2 : Nat) (A : xH) (P : xP), f a0 a1 a2 A P → xX p s m args c meth cc y.cls nL g → meth.sig.returnType = ret → meth.name = y.name →
      ∃ K : xK, K ([some (.ref a0), some (.int a1), some (.ref a2)] ++ List.replicate (nL - 3) none) [] A ∧ xAt p l e { frames := fr, cells := n' - n, slots := ms, locals := lo } s m args below meth c g nL F n 0 0 (MQ below (xQc g F' n' P) args s (n' - n) ms (xFr g)) K 0) : xCon l y cc nL ret fr lo n n' ms F F' (w_RIR f) := by
  refine xCon_of (na := 0) hy ?_ ?_
  · intro as A P h
    unfold w_RIR at h
    split at h
    · exact hna
    · exact h.elim
  · intro p e s m args below meth c g as A P hf X hr hn
    unfold w_RIR at hf
    split at hf
    · exact h p e s m args below meth c g _ _ _ A P hf X hr hn
    · exact hf.elim
theorem xc_RJ {l : Launch} {y : MethodName} {cc : ByteArray} {nL : Nat} {ret : Option FieldType} {fr lo n n' ms : Nat} {F F' : Nat → Prop} {f : Nat → Int64 → xH → xP → Prop} (hy : plainFor y = true) (hna : Nat.ble 3 nL = true)
    (h : ∀ (p : Program) (e : Env) (s : State) (m : MethodId) (args : Array Value) (below : List Frame) (meth : Method) (c : Code) (g : xG) (a0 : Nat) (a1 : Int64) (A : xH) (P : xP), f a0 a1 A P → xX p s m args c meth cc y.cls nL g → meth.sig.returnType = ret → meth.name = y.name →
      ∃ K : xK, K ([some (.ref a0), some (.long a1), none] ++ List.replicate (nL - 3) none) [] A ∧ xAt p l e { frames := fr, cells := n' - n, slots := ms, locals := lo } s m args below meth c g nL F n 0 0 (MQ below (xQc g F' n' P) args s (n' - n) ms (xFr g)) K 0) : xCon l y cc nL ret fr lo n n' ms F F' (w_RJ f) := by
  refine xCon_of (na := 0) hy ?_ ?_
  · intro as A P h
    unfold w_RJ at h
    split at h
    · exact hna
    · exact h.elim
  · intro p e s m args below meth c g as A P hf X hr hn
    unfold w_RJ at hf
    split at hf
    · exact h p e s m args below meth c g _ _ A P hf X hr hn
    · exact hf.elim
theorem xc_RR {l : Launch} {y : MethodName} {cc : ByteArray} {nL : Nat} {ret : Option FieldType} {fr lo n n' ms : Nat} {F F' : Nat → Prop} {f : Nat → Nat → xH → xP → Prop} (hy : plainFor y = true) (hna : Nat.ble 2 nL = true)
    (h : ∀ (p : Program) (e : Env) (s : State) (m : MethodId) (args : Array Value) (below : List Frame) (meth : Method) (c : Code) (g : xG) (a0 : Nat) (a1 : Nat) (A : xH) (P : xP), f a0 a1 A P → xX p s m args c meth cc y.cls nL g → meth.sig.returnType = ret → meth.name = y.name →
      ∃ K : xK, K ([some (.ref a0), some (.ref a1)] ++ List.replicate (nL - 2) none) [] A ∧ xAt p l e { frames := fr, cells := n' - n, slots := ms, locals := lo } s m args below meth c g nL F n 0 0 (MQ below (xQc g F' n' P) args s (n' - n) ms (xFr g)) K 0) : xCon l y cc nL ret fr lo n n' ms F F' (w_RR f) := by
  refine xCon_of (na := 0) hy ?_ ?_
  · intro as A P h
    unfold w_RR at h
    split at h
    · exact hna
    · exact h.elim
  · intro p e s m args below meth c g as A P hf X hr hn
    unfold w_RR at hf
    split at hf
    · exact h p e s m args below meth c g _ _ A P hf X hr hn
    · exact hf.elim
theorem xc_RRI {l : Launch} {y : MethodName} {cc : ByteArray} {nL : Nat} {ret : Option FieldType} {fr lo n n' ms : Nat} {F F' : Nat → Prop} {f : Nat → Nat → Int32 → xH → xP → Prop} (hy : plainFor y = true) (hna : Nat.ble 3 nL = true)
    (h : ∀ (p : Program) (e : Env) (s : State) (m : MethodId) (args : Array Value) (below : List Frame) (meth : Method) (c : Code) (g : xG) (a0 : Nat) (a1 : Nat) (a2 : Int32) (A : xH) (P : xP), f a0 a1 a2 A P → xX p s m args c meth cc y.cls nL g → meth.sig.returnType = ret → meth.name = y.name →
      ∃ K : xK, K ([some (.ref a0), some (.ref a1), some (.int a2)] ++ List.replicate (nL - 3) none) [] A ∧ xAt p l e { frames := fr, cells := n' - n, slots := ms, locals := lo } s m args below meth c g nL F n 0 0 (MQ below (xQc g F' n' P) args s (n' - n) ms (xFr g)) K 0) : xCon l y cc nL ret fr lo n n' ms F F' (w_RRI f) := by
  refine xCon_of (na := 0) hy ?_ ?_
  · intro as A P h
    unfold w_RRI at h
    split at h
    · exact hna
    · exact h.elim
  · intro p e s m args below meth c g as A P hf X hr hn
    unfold w_RRI at hf
    split at hf
    · exact h p e s m args below meth c g _ _ _ A P hf X hr hn
    · exact hf.elim
theorem xc_RRII {l : Launch} {y : MethodName} {cc : ByteArray} {nL : Nat} {ret : Option FieldType} {fr lo n n' ms : Nat} {F F' : Nat → Prop} {f : Nat → Nat → Int32 → Int32 → xH → xP → Prop} (hy : plainFor y = true) (hna : Nat.ble 4 nL = true)
    (h : ∀ (p : Program) (e : Env) (s : State) (m : MethodId) (args : Array Value) (below : List Frame) (meth : Method) (c : Code) (g : xG) (a0 : Nat) (a1 : Nat) (a2 : Int32) (a3 : Int32) (A : xH) (P : xP), f a0 a1 a2 a3 A P → xX p s m args c meth cc y.cls nL g → meth.sig.returnType = ret → meth.name = y.name →
      ∃ K : xK, K ([some (.ref a0), some (.ref a1), some (.int a2), some (.int a3)] ++ List.replicate (nL - 4) none) [] A ∧ xAt p l e { frames := fr, cells := n' - n, slots := ms, locals := lo } s m args below meth c g nL F n 0 0 (MQ below (xQc g F' n' P) args s (n' - n) ms (xFr g)) K 0) : xCon l y cc nL ret fr lo n n' ms F F' (w_RRII f) := by
  refine xCon_of (na := 0) hy ?_ ?_
  · intro as A P h
    unfold w_RRII at h
    split at h
    · exact hna
    · exact h.elim
  · intro p e s m args below meth c g as A P hf X hr hn
    unfold w_RRII at hf
    split at hf
    · exact h p e s m args below meth c g _ _ _ _ A P hf X hr hn
    · exact hf.elim
theorem xc_RRIII {l : Launch} {y : MethodName} {cc : ByteArray} {nL : Nat} {ret : Option FieldType} {fr lo n n' ms : Nat} {F F' : Nat → Prop} {f : Nat → Nat → Int32 → Int32 → Int32 → xH → xP → Prop} (hy : plainFor y = true) (hna : Nat.ble 5 nL = true)
    (h : ∀ (p : Program) (e : Env) (s : State) (m : MethodId) (args : Array Value) (below : List Frame) (meth : Method) (c : Code) (g : xG) (a0 : Nat) (a1 : Nat) (a2 : Int32) (a3 : Int32) (a4 : Int32) (A : xH) (P : xP), f a0 a1 a2 a3 a4 A P → xX p s m args c meth cc y.cls nL g → meth.sig.returnType = ret → meth.name = y.name →
      ∃ K : xK, K ([some (.ref a0), some (.ref a1), some (.int a2), some (.int a3), some (.int a4)] ++ List.replicate (nL - 5) none) [] A ∧ xAt p l e { frames := fr, cells := n' - n, slots := ms, locals := lo } s m args below meth c g nL F n 0 0 (MQ below (xQc g F' n' P) args s (n' - n) ms (xFr g)) K 0) : xCon l y cc nL ret fr lo n n' ms F F' (w_RRIII f) := by
  refine xCon_of (na := 0) hy ?_ ?_
  · intro as A P h
    unfold w_RRIII at h
    split at h
    · exact hna
    · exact h.elim
  · intro p e s m args below meth c g as A P hf X hr hn
    unfold w_RRIII at hf
    split at hf
    · exact h p e s m args below meth c g _ _ _ _ _ A P hf X hr hn
    · exact hf.elim
theorem xc_RRIIII {l : Launch} {y : MethodName} {cc : ByteArray} {nL : Nat} {ret : Option FieldType} {fr lo n n' ms : Nat} {F F' : Nat → Prop} {f : Nat → Nat → Int32 → Int32 → Int32 → Int32 → xH → xP → Prop} (hy : plainFor y = true) (hna : Nat.ble 6 nL = true)
    (h : ∀ (p : Program) (e : Env) (s : State) (m : MethodId) (args : Array Value) (below : List Frame) (meth : Method) (c : Code) (g : xG) (a0 : Nat) (a1 : Nat) (a2 : Int32) (a3 : Int32) (a4 : Int32) (a5 : Int32) (A : xH) (P : xP), f a0 a1 a2 a3 a4 a5 A P → xX p s m args c meth cc y.cls nL g → meth.sig.returnType = ret → meth.name = y.name →
      ∃ K : xK, K ([some (.ref a0), some (.ref a1), some (.int a2), some (.int a3), some (.int a4), some (.int a5)] ++ List.replicate (nL - 6) none) [] A ∧ xAt p l e { frames := fr, cells := n' - n, slots := ms, locals := lo } s m args below meth c g nL F n 0 0 (MQ below (xQc g F' n' P) args s (n' - n) ms (xFr g)) K 0) : xCon l y cc nL ret fr lo n n' ms F F' (w_RRIIII f) := by
  refine xCon_of (na := 0) hy ?_ ?_
  · intro as A P h
    unfold w_RRIIII at h
    split at h
    · exact hna
    · exact h.elim
  · intro p e s m args below meth c g as A P hf X hr hn
    unfold w_RRIIII at hf
    split at hf
    · exact h p e s m args below meth c g _ _ _ _ _ _ A P hf X hr hn
    · exact hf.elim
theorem xc_RRIIIIII {l : Launch} {y : MethodName} {cc : ByteArray} {nL : Nat} {ret : Option FieldType} {fr lo n n' ms : Nat} {F F' : Nat → Prop} {f : Nat → Nat → Int32 → Int32 → Int32 → Int32 → Int32 → Int32 → xH → xP → Prop} (hy : plainFor y = true) (hna : Nat.ble 8 nL = true)
    (h : ∀ (p : Program) (e : Env) (s : State) (m : MethodId) (args : Array Value) (below : List Frame) (meth : Method) (c : Code) (g : xG) (a0 : Nat) (a1 : Nat) (a2 : Int32) (a3 : Int32) (a4 : Int32) (a5 : Int32) (a6 : Int32) (a7 : Int32) (A : xH) (P : xP), f a0 a1 a2 a3 a4 a5 a6 a7 A P → xX p s m args c meth cc y.cls nL g → meth.sig.returnType = ret → meth.name = y.name →
      ∃ K : xK, K ([some (.ref a0), some (.ref a1), some (.int a2), some (.int a3), some (.int a4), some (.int a5), some (.int a6), some (.int a7)] ++ List.replicate (nL - 8) none) [] A ∧ xAt p l e { frames := fr, cells := n' - n, slots := ms, locals := lo } s m args below meth c g nL F n 0 0 (MQ below (xQc g F' n' P) args s (n' - n) ms (xFr g)) K 0) : xCon l y cc nL ret fr lo n n' ms F F' (w_RRIIIIII f) := by
  refine xCon_of (na := 0) hy ?_ ?_
  · intro as A P h
    unfold w_RRIIIIII at h
    split at h
    · exact hna
    · exact h.elim
  · intro p e s m args below meth c g as A P hf X hr hn
    unfold w_RRIIIIII at hf
    split at hf
    · exact h p e s m args below meth c g _ _ _ _ _ _ _ _ A P hf X hr hn
    · exact hf.elim
theorem xc_RRIJ {l : Launch} {y : MethodName} {cc : ByteArray} {nL : Nat} {ret : Option FieldType} {fr lo n n' ms : Nat} {F F' : Nat → Prop} {f : Nat → Nat → Int32 → Int64 → xH → xP → Prop} (hy : plainFor y = true) (hna : Nat.ble 5 nL = true)
    (h : ∀ (p : Program) (e : Env) (s : State) (m : MethodId) (args : Array Value) (below : List Frame) (meth : Method) (c : Code) (g : xG) (a0 : Nat) (a1 : Nat) (a2 : Int32) (a3 : Int64) (A : xH) (P : xP), f a0 a1 a2 a3 A P → xX p s m args c meth cc y.cls nL g → meth.sig.returnType = ret → meth.name = y.name →
      ∃ K : xK, K ([some (.ref a0), some (.ref a1), some (.int a2), some (.long a3), none] ++ List.replicate (nL - 5) none) [] A ∧ xAt p l e { frames := fr, cells := n' - n, slots := ms, locals := lo } s m args below meth c g nL F n 0 0 (MQ below (xQc g F' n' P) args s (n' - n) ms (xFr g)) K 0) : xCon l y cc nL ret fr lo n n' ms F F' (w_RRIJ f) := by
  refine xCon_of (na := 0) hy ?_ ?_
  · intro as A P h
    unfold w_RRIJ at h
    split at h
    · exact hna
    · exact h.elim
  · intro p e s m args below meth c g as A P hf X hr hn
    unfold w_RRIJ at hf
    split at hf
    · exact h p e s m args below meth c g _ _ _ _ A P hf X hr hn
    · exact hf.elim
theorem xc_RRJ {l : Launch} {y : MethodName} {cc : ByteArray} {nL : Nat} {ret : Option FieldType} {fr lo n n' ms : Nat} {F F' : Nat → Prop} {f : Nat → Nat → Int64 → xH → xP → Prop} (hy : plainFor y = true) (hna : Nat.ble 4 nL = true)
    (h : ∀ (p : Program) (e : Env) (s : State) (m : MethodId) (args : Array Value) (below : List Frame) (meth : Method) (c : Code) (g : xG) (a0 : Nat) (a1 : Nat) (a2 : Int64) (A : xH) (P : xP), f a0 a1 a2 A P → xX p s m args c meth cc y.cls nL g → meth.sig.returnType = ret → meth.name = y.name →
      ∃ K : xK, K ([some (.ref a0), some (.ref a1), some (.long a2), none] ++ List.replicate (nL - 4) none) [] A ∧ xAt p l e { frames := fr, cells := n' - n, slots := ms, locals := lo } s m args below meth c g nL F n 0 0 (MQ below (xQc g F' n' P) args s (n' - n) ms (xFr g)) K 0) : xCon l y cc nL ret fr lo n n' ms F F' (w_RRJ f) := by
  refine xCon_of (na := 0) hy ?_ ?_
  · intro as A P h
    unfold w_RRJ at h
    split at h
    · exact hna
    · exact h.elim
  · intro p e s m args below meth c g as A P hf X hr hn
    unfold w_RRJ at hf
    split at hf
    · exact h p e s m args below meth c g _ _ _ A P hf X hr hn
    · exact hf.elim
theorem xc_RRR {l : Launch} {y : MethodName} {cc : ByteArray} {nL : Nat} {ret : Option FieldType} {fr lo n n' ms : Nat} {F F' : Nat → Prop} {f : Nat → Nat → Nat → xH → xP → Prop} (hy : plainFor y = true) (hna : Nat.ble 3 nL = true)
    (h : ∀ (p : Program) (e : Env) (s : State) (m : MethodId) (args : Array Value) (below : List Frame) (meth : Method) (c : Code) (g : xG) (a0 : Nat) (a1 : Nat) (a2 : Nat) (A : xH) (P : xP), f a0 a1 a2 A P → xX p s m args c meth cc y.cls nL g → meth.sig.returnType = ret → meth.name = y.name →
      ∃ K : xK, K ([some (.ref a0), some (.ref a1), some (.ref a2)] ++ List.replicate (nL - 3) none) [] A ∧ xAt p l e { frames := fr, cells := n' - n, slots := ms, locals := lo } s m args below meth c g nL F n 0 0 (MQ below (xQc g F' n' P) args s (n' - n) ms (xFr g)) K 0) : xCon l y cc nL ret fr lo n n' ms F F' (w_RRR f) := by
  refine xCon_of (na := 0) hy ?_ ?_
  · intro as A P h
    unfold w_RRR at h
    split at h
    · exact hna
    · exact h.elim
  · intro p e s m args below meth c g as A P hf X hr hn
    unfold w_RRR at hf
    split at hf
    · exact h p e s m args below meth c g _ _ _ A P hf X hr hn
    · exact hf.elim
theorem xc_RRRI {l : Launch} {y : MethodName} {cc : ByteArray} {nL : Nat} {ret : Option FieldType} {fr lo n n' ms : Nat} {F F' : Nat → Prop} {f : Nat → Nat → Nat → Int32 → xH → xP → Prop} (hy : plainFor y = true) (hna : Nat.ble 4 nL = true)
    (h : ∀ (p : Program) (e : Env) (s : State) (m : MethodId) (args : Array Value) (below : List Frame) (meth : Method) (c : Code) (g : xG) (a0 : Nat) (a1 : Nat) (a2 : Nat) (a3 : Int32) (A : xH) (P : xP), f a0 a1 a2 a3 A P → xX p s m args c meth cc y.cls nL g → meth.sig.returnType = ret → meth.name = y.name →
      ∃ K : xK, K ([some (.ref a0), some (.ref a1), some (.ref a2), some (.int a3)] ++ List.replicate (nL - 4) none) [] A ∧ xAt p l e { frames := fr, cells := n' - n, slots := ms, locals := lo } s m args below meth c g nL F n 0 0 (MQ below (xQc g F' n' P) args s (n' - n) ms (xFr g)) K 0) : xCon l y cc nL ret fr lo n n' ms F F' (w_RRRI f) := by
  refine xCon_of (na := 0) hy ?_ ?_
  · intro as A P h
    unfold w_RRRI at h
    split at h
    · exact hna
    · exact h.elim
  · intro p e s m args below meth c g as A P hf X hr hn
    unfold w_RRRI at hf
    split at hf
    · exact h p e s m args below meth c g _ _ _ _ A P hf X hr hn
    · exact hf.elim
theorem pn_RX0 : plainName RX0 = true := by decide +kernel
theorem pn_RX1 : plainName RX1 = true := by decide +kernel
theorem pn_RX2 : plainName RX2 = true := by decide +kernel
theorem pn_RX3 : plainName RX3 = true := by decide +kernel
theorem pn_RX4 : plainName RX4 = true := by decide +kernel
theorem pn_RX5 : plainName RX5 = true := by decide +kernel
theorem pn_RX6 : plainName RX6 = true := by decide +kernel
theorem pn_RX7 : plainName RX7 = true := by decide +kernel
theorem pn_RX8 : plainName RX8 = true := by decide +kernel
theorem pn_RX9 : plainName RX9 = true := by decide +kernel
theorem pn_RX10 : plainName RX10 = true := by decide +kernel
theorem pn_RX11 : plainName RX11 = true := by decide +kernel
theorem pn_RX12 : plainName RX12 = true := by decide +kernel
