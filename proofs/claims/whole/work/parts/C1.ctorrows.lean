/-! ===== rows for constructors ===== -/
def xKF : xK := fun _ _ _ => False
section XR5
variable {p : Program} {l : Launch} {e : Env} {R : Room} {s : State} {m : MethodId} {args : Array Value} {below : List Frame} {meth : Method} {c : Code} {Q : State → Prop} {cc : ByteArray} {own : String} {nL n cells slots pc : Nat} {F : Nat → Prop} {g : xG}
theorem r_KF : xAt p l e R s m args below meth c g nL F n cells slots Q (xKF) (pc) := fun _ _ _ _ _ _ h => h.elim
def z_ci0 (sp : xSp) (K : xK) : xK := fun L st A => match st with
  | .ref q :: r => Nat.ble (xcat r) 8 = true ∧ sp [.ref q] A (fun v B => K L (xres v r) B)
  | _ => False
def z_ci1 (sp : xSp) (K : xK) : xK := fun L st A => match st with
  | .ref a :: .ref q :: r => Nat.ble (xcat r) 8 = true ∧ sp [.ref q, .ref a] A (fun v B => K L (xres v r) B)
  | _ => False
theorem q_ci0 {index n' ms : Nat} {F' : Nat → Prop} {sp : xSp} {y : MethodName} {cy : ByteArray} {nLy fr lo : Nat} {K : xK} (X : xX p s m args c meth cc own nL g) (con : xCon l y cy nLy none fr lo n n' ms F F' sp) (mi : xIF y cy nLy 0) (hl : Cond.methodLink own index y ∈ xTS) (hRm : fr + 1 ≤ R.frames ∧ 8 + (nLy + 11) + lo ≤ R.locals) (hcs : cells + (n' - n) ≤ R.cells ∧ slots + ms ≤ R.slots) (hd : decode cc pc = .ok (.invokespecial index, 3)) (h : xAt p l e R s m args below meth c g nL F' n' (cells + (n' - n)) (slots + ms) Q K (pc + 3)) : xAt p l e R s m args below meth c g nL F n cells slots Q (z_ci0 sp K) (pc) := by
  intro L st A H locs ls hK hR hS hL
  unfold z_ci0 at hK
  split at hK
  · rename_i q r
    obtain ⟨h1, h2⟩ := hK
    exact xR_callI (As := []) (L := L) X con mi hl hRm hcs hd h1 hR hS hL h2 rfl fun v B H1 locs1 hP hR1 hS1 => h L (xres v r) B H1 locs1 ls hP hR1 hS1 hL
  · exact hK.elim
theorem q_ci1 {index n' ms : Nat} {F' : Nat → Prop} {sp : xSp} {y : MethodName} {cy : ByteArray} {nLy fr lo : Nat} {K : xK} (X : xX p s m args c meth cc own nL g) (con : xCon l y cy nLy none fr lo n n' ms F F' sp) (mi : xIF y cy nLy 1) (hl : Cond.methodLink own index y ∈ xTS) (hRm : fr + 1 ≤ R.frames ∧ 8 + (nLy + 11) + lo ≤ R.locals) (hcs : cells + (n' - n) ≤ R.cells ∧ slots + ms ≤ R.slots) (hd : decode cc pc = .ok (.invokespecial index, 3)) (h : xAt p l e R s m args below meth c g nL F' n' (cells + (n' - n)) (slots + ms) Q K (pc + 3)) : xAt p l e R s m args below meth c g nL F n cells slots Q (z_ci1 sp K) (pc) := by
  intro L st A H locs ls hK hR hS hL
  unfold z_ci1 at hK
  split at hK
  · rename_i a q r
    obtain ⟨h1, h2⟩ := hK
    exact xR_callI (As := [.ref a]) (L := L) X con mi hl hRm hcs hd h1 hR hS hL h2 rfl fun v B H1 locs1 hP hR1 hS1 => h L (xres v r) B H1 locs1 ls hP hR1 hS1 hL
  · exact hK.elim
/-- a nest mate's constructor -/
theorem q_ciN {index n' ms : Nat} {F' : Nat → Prop} {sp : xSp} {y : MethodName} {cy : ByteArray} {host : String} {nLy fr lo : Nat} {K : xK} (X : xX p s m args c meth cc own nL g) (con : xCon l y cy nLy none fr lo n n' ms F F' sp) (mi : xIF y cy nLy 0) (hl : (own, index, y, host) ∈ xNM) (hRm : fr + 1 ≤ R.frames ∧ 8 + (nLy + 11) + lo ≤ R.locals) (hcs : cells + (n' - n) ≤ R.cells ∧ slots + ms ≤ R.slots) (hd : decode cc pc = .ok (.invokespecial index, 3)) (h : xAt p l e R s m args below meth c g nL F' n' (cells + (n' - n)) (slots + ms) Q K (pc + 3)) : xAt p l e R s m args below meth c g nL F n cells slots Q (z_ci0 sp K) (pc) := by
  intro L st A H locs ls hK hR hS hL
  unfold z_ci0 at hK
  split at hK
  · rename_i q r
    obtain ⟨hr, hsp⟩ := hK
    obtain ⟨⟨n1, n2, n3⟩, w1, w2, w3, w4⟩ := mi
    have hts := X.2.2.2.2.1
    have hM := con g _ A _ hsp
    have hnw := X.2.2.2.2.2.1.2.2.2.2.1 _ hl
    have hcat : 2 * (F0 m pc ls ((([] : List Value).reverse ++ .ref q :: r).map (xcv g))).monitorRoom + ((r.map (xcv g)).map fun v => v.category).sum ≤ 8 := lv_room (by rw [xcat_cv]; exact Nat.le_of_ble_eq_true hr)
    refine xR_ret (mc := n' - n) (ms := ms) (rest := r.map (xcv g)) (va_runIN (As := []) (b := xad g q) (rest := r.map (xcv g)) ⟨X.1, X.2.1, X.2.2.1, X.2.2.2.1, hts⟩ hM ⟨va_cnB 0 hts (xgoodS w1) rfl rfl rfl hnw (hts _ w3) ⟨n1, n2, n3⟩ hRm, w4, hts _ w2⟩ ⟨xPU_blind, fun U hU hW => ⟨rfl, xPU_now X hR hS U hU hW⟩⟩ rfl rfl hL.1 (by simp [xcv]) hcat hd ⟨hcs.1, hcs.2⟩) hS ?_
    intro v B H1 locs1 hP hR1 hS1
    have := h L (xres v r) B H1 locs1 ls hP hR1 hS1 hL
    cases v <;> exact this
  · exact hK.elim
/-- all has been made: what is final is as it was laid -/
theorem xAt_fin {K : xK} (hK : ∀ L st A, K L st A → xfin xFT A) (h : xAt p l e R s m args below meth c g nL xFT n cells slots Q K pc) : xAt p l e R s m args below meth c g nL xFF n cells slots Q K pc := fun L st A H locs ls h1 hR hS hL => h L st A H locs ls h1 ⟨hR.1, hR.2.1, hR.2.2.1, hK L st A h1⟩ hS hL
end XR5

