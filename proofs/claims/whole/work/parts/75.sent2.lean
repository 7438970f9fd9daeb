/-! ===== a sentence: the machine that both sides follow ===== -/
abbrev xCs : Type := Nat × (Nat → Nat × Nat × Nat)
def pC (s : xCs) (x : Nat × Nat × Nat) : xCs := (s.1 + 1, fun i => if i = s.1 then x else s.2 i)
def ntF : List Nat → xCs → xCs × List Nat
  | [], s => (s, [])
  | a :: r, s => if a = 20 then ntF r (pC s (20, 0, 0)) else (s, a :: r)
def jnF (z : Nat) : List Nat → xCs → xCs × List Nat
  | [], s => (s, [])
  | a :: r, s => if a = 21 ∨ (a = 22 ∧ z = 22) then jnF z r (pC s (a, 0, 0)) else (s, a :: r)
/-- how deep -/
def dp : List Nat → Nat
  | [] => 1
  | a :: r => if a = 20 ∨ a = 23 then dp r + 1 else dp r
def WNT : Int64 := 7237492
def WAN : Int64 := 6385252
def WOR : Int64 := 28530
def WFI : Int64 := 439855772532
def WLA : Int64 := 1818325876
def WAL : Int64 := 418431069797
def WOFX : Int64 := 28518
def WNE : Int64 := 1852143732
def WDO : Int64 := 6582132
def WNU : Int64 := 121450625394034
abbrev xTk : Type := Nat × Nat × Nat × Nat
def lfO (t : xTk) : Nat := if isWd t WFI then 0 else if isWd t WLA then 1 else if isWd t WAL then 2 else if isWd t WOFX then 3 else if isWd t WNE then 4 else if isWd t WRU then 5 else if isWd t WDO then 6 else if isWd t WNU then 7 else 8
abbrev xSt : Type := Nat × xCs × List Nat × Nat × Bool
/-- an operand's beginning: not, a bracket, or all of it -/
def opF (v : xV) (f : Nat → Nat) (n lim p : Nat) (s : xCs) (σ : List Nat) (o : Nat) : (Nat × Nat) ⊕ xSt :=
  if isWd (tk f n lim p) WNT = false ∧ isMk (tk f n lim p) 40 = false ∧ lfO (tk f n lim p) = 8 then .inl (1, (tk f n lim p).2.1)
  else if o = 20 ∨ 8 < dp σ then .inl (4, (tk f n lim p).2.1)
  else if isWd (tk f n lim p) WNT then .inr ((tk f n lim p).2.2.1, s, 20 :: σ, o + 1, false)
  else if isMk (tk f n lim p) 40 then .inr ((tk f n lim p).2.2.1, s, 23 :: σ, o + 1, false)
  else if lfO (tk f n lim p) < 3 then .inr ((tk f n lim p).2.2.1, pC s (lfO (tk f n lim p), 0, 0), σ, o + 1, true)
  else if lfO (tk f n lim p) < 5 then
    if isNa (tk f n lim (tk f n lim p).2.2.1) = false then .inl (1, (tk f n lim (tk f n lim p).2.2.1).2.1)
    else if (if lfO (tk f n lim p) = 3 then vfind v (lN (tk f n lim (tk f n lim p).2.2.1).2.2.2) < 8 else vfind v (lN (tk f n lim (tk f n lim p).2.2.1).2.2.2) = -1) then .inl (3, (tk f n lim (tk f n lim p).2.2.1).2.1)
    else .inr ((tk f n lim (tk f n lim p).2.2.1).2.2.1, pC s (lfO (tk f n lim p), 0, (vfind v (lN (tk f n lim (tk f n lim p).2.2.1).2.2.2)).toNatClampNeg), σ, o + 1, true)
  else if ¬ ((tk f n lim (tk f n lim p).2.2.1).1 = 3 ∧ 60 ≤ (tk f n lim (tk f n lim p).2.2.1).2.2.2 ∧ (tk f n lim (tk f n lim p).2.2.1).2.2.2 ≤ 62) then .inl (1, (tk f n lim (tk f n lim p).2.2.1).2.1)
  else if (tk f n lim (tk f n lim (tk f n lim p).2.2.1).2.2.1).1 ≠ 2 then .inl (1, (tk f n lim (tk f n lim (tk f n lim p).2.2.1).2.2.1).2.1)
  else .inr ((tk f n lim (tk f n lim (tk f n lim p).2.2.1).2.2.1).2.2.1, pC s (lfO (tk f n lim p), (tk f n lim (tk f n lim p).2.2.1).2.2.2, (tk f n lim (tk f n lim (tk f n lim p).2.2.1).2.2.1).2.2.2), σ, o + 1, true)
/-- what comes behind an operand -/
def bhF (f : Nat → Nat) (n lim p : Nat) (s : xCs) (σ : List Nat) (o : Nat) : (Nat × Nat) ⊕ xSt :=
  if isWd (tk f n lim p) WAN then .inr ((tk f n lim p).2.2.1, (jnF 21 (ntF σ s).2 (ntF σ s).1).1, 21 :: (jnF 21 (ntF σ s).2 (ntF σ s).1).2, o, false)
  else if isWd (tk f n lim p) WOR then .inr ((tk f n lim p).2.2.1, (jnF 22 (ntF σ s).2 (ntF σ s).1).1, 22 :: (jnF 22 (ntF σ s).2 (ntF σ s).1).2, o, false)
  else if isMk (tk f n lim p) 41 = false ∨ (jnF 22 (ntF σ s).2 (ntF σ s).1).2 = [] then .inl (1, (tk f n lim p).2.1)
  else .inr ((tk f n lim p).2.2.1, (jnF 22 (ntF σ s).2 (ntF σ s).1).1, (jnF 22 (ntF σ s).2 (ntF σ s).1).2.tail, o, true)
def endF (f : Nat → Nat) (n lim p : Nat) (s : xCs) (σ : List Nat) (o : Nat) : (Nat × Nat) ⊕ (xCs × Nat) :=
  if (jnF 22 (ntF σ s).2 (ntF σ s).1).2 = [] then .inr ((jnF 22 (ntF σ s).2 (ntF σ s).1).1, o) else .inl (1, (tk f n lim p).2.1)
def snR (v : xV) (f : Nat → Nat) (n lim : Nat) : Nat → xSt → Option ((Nat × Nat) ⊕ (xCs × Nat))
  | 0, _ => none
  | k + 1, (p, s, σ, o, true) => if (tk f n lim p).1 = 0 then some (endF f n lim p s σ o) else match bhF f n lim p s σ o with
    | .inl e => some (.inl e)
    | .inr z => snR v f n lim k z
  | k + 1, (p, s, σ, o, false) => match opF v f n lim p s σ o with
    | .inl e => some (.inl e)
    | .inr z => snR v f n lim k z
/-! the reference's rows -/
def cdU (A : xH) (s : xCs) : Prop := xi A 180 83 = nI s.1 ∧ ∀ i, i < s.1 → xi A 184 (3 * i) = nI (s.2 i).1 ∧ xi A 184 (3 * i + 1) = nI (s.2 i).2.1 ∧ xi A 184 (3 * i + 2) = nI (s.2 i).2.2
def stU' (A : xH) : List Nat → Prop
  | [] => True
  | a :: r => xi A 226 r.length = nI a ∧ (20 ≤ a ∧ a < 24) ∧ stU' A r
def skU (A : xH) (σ : List Nat) : Prop := xi A 180 85 = nI σ.length ∧ stU' A σ ∧ xi A 180 86 = nI (dp σ)
theorem dp_le : ∀ σ : List Nat, dp σ ≤ σ.length + 1
  | [] => by simp [dp]
  | a :: r => by have := dp_le r; simp only [dp, List.length_cons]; split <;> omega
theorem dp_pos : ∀ σ : List Nat, 1 ≤ dp σ
  | [] => by simp [dp]
  | a :: r => by have := dp_pos r; simp only [dp]; split <;> omega
theorem stU_fr {S : Nat → Nat → Prop} {A B : xH} (hf : fr S A B) (hs : ∀ c k, S c k → c ≠ 226) : ∀ {σ : List Nat}, stU' A σ → stU' B σ
  | [], _ => trivial
  | a :: r, h => ⟨(fr_i hf fun q => hs _ _ q rfl).trans h.1, h.2.1, stU_fr hf hs h.2.2⟩
theorem cdU_fr {S : Nat → Nat → Prop} {A B : xH} {s : xCs} (h : cdU A s) (hf : fr S A B) (hs : ∀ c k, S c k → c ≠ 184 ∧ ¬ (c = 180 ∧ k = 83)) : cdU B s :=
  ⟨(fr_i hf fun q => (hs _ _ q).2 ⟨rfl, rfl⟩).trans h.1, fun i hi => ⟨(fr_i hf fun q => (hs _ _ q).1 rfl).trans (h.2 i hi).1, (fr_i hf fun q => (hs _ _ q).1 rfl).trans (h.2 i hi).2.1, (fr_i hf fun q => (hs _ _ q).1 rfl).trans (h.2 i hi).2.2⟩⟩
theorem skU_fr {S : Nat → Nat → Prop} {A B : xH} {σ : List Nat} (h : skU A σ) (hf : fr S A B) (hs : ∀ c k, S c k → c ≠ 226 ∧ ¬ (c = 180 ∧ (k = 85 ∨ k = 86))) : skU B σ :=
  ⟨(fr_i hf fun q => (hs _ _ q).2 ⟨rfl, Or.inl rfl⟩).trans h.1, stU_fr hf (fun c k q => (hs c k q).1) h.2.1, (fr_i hf fun q => (hs _ _ q).2 ⟨rfl, Or.inr rfl⟩).trans h.2.2⟩
theorem lx21 : (21 : Int32) = nI 21 := rfl
theorem lx22 : (22 : Int32) = nI 22 := rfl
theorem lx23 : (23 : Int32) = nI 23 := rfl
theorem d_X12_code_0 : decode cX12_code 0 = .ok (.aload_n 0, 1) := by decide +kernel
theorem d_X12_code_1 : decode cX12_code 1 = .ok (.getfield 37, 3) := by decide +kernel
theorem d_X12_code_4 : decode cX12_code 4 = .ok (.iconst 3, 1) := by decide +kernel
theorem d_X12_code_5 : decode cX12_code 5 = .ok (.aload_n 0, 1) := by decide +kernel
theorem d_X12_code_6 : decode cX12_code 6 = .ok (.getfield 612, 3) := by decide +kernel
theorem d_X12_code_9 : decode cX12_code 9 = .ok (.imul, 1) := by decide +kernel
theorem d_X12_code_10 : decode cX12_code 10 = .ok (.iload_n 1, 1) := by decide +kernel
theorem d_X12_code_11 : decode cX12_code 11 = .ok (.iastore, 1) := by decide +kernel
theorem d_X12_code_12 : decode cX12_code 12 = .ok (.aload_n 0, 1) := by decide +kernel
theorem d_X12_code_13 : decode cX12_code 13 = .ok (.getfield 37, 3) := by decide +kernel
theorem d_X12_code_16 : decode cX12_code 16 = .ok (.iconst 3, 1) := by decide +kernel
theorem d_X12_code_17 : decode cX12_code 17 = .ok (.aload_n 0, 1) := by decide +kernel
theorem d_X12_code_18 : decode cX12_code 18 = .ok (.getfield 612, 3) := by decide +kernel
theorem d_X12_code_21 : decode cX12_code 21 = .ok (.imul, 1) := by decide +kernel
theorem d_X12_code_22 : decode cX12_code 22 = .ok (.iconst 1, 1) := by decide +kernel
theorem d_X12_code_23 : decode cX12_code 23 = .ok (.iadd, 1) := by decide +kernel
theorem d_X12_code_24 : decode cX12_code 24 = .ok (.iload_n 2, 1) := by decide +kernel
theorem d_X12_code_25 : decode cX12_code 25 = .ok (.iastore, 1) := by decide +kernel
theorem d_X12_code_26 : decode cX12_code 26 = .ok (.aload_n 0, 1) := by decide +kernel
theorem d_X12_code_27 : decode cX12_code 27 = .ok (.getfield 37, 3) := by decide +kernel
theorem d_X12_code_30 : decode cX12_code 30 = .ok (.iconst 3, 1) := by decide +kernel
theorem d_X12_code_31 : decode cX12_code 31 = .ok (.aload_n 0, 1) := by decide +kernel
theorem d_X12_code_32 : decode cX12_code 32 = .ok (.getfield 612, 3) := by decide +kernel
theorem d_X12_code_35 : decode cX12_code 35 = .ok (.imul, 1) := by decide +kernel
theorem d_X12_code_36 : decode cX12_code 36 = .ok (.iconst 2, 1) := by decide +kernel
theorem d_X12_code_37 : decode cX12_code 37 = .ok (.iadd, 1) := by decide +kernel
theorem d_X12_code_38 : decode cX12_code 38 = .ok (.iload_n 3, 1) := by decide +kernel
theorem d_X12_code_39 : decode cX12_code 39 = .ok (.iastore, 1) := by decide +kernel
theorem d_X12_code_40 : decode cX12_code 40 = .ok (.aload_n 0, 1) := by decide +kernel
theorem d_X12_code_41 : decode cX12_code 41 = .ok (.dup, 1) := by decide +kernel
theorem d_X12_code_42 : decode cX12_code 42 = .ok (.getfield 612, 3) := by decide +kernel
theorem d_X12_code_45 : decode cX12_code 45 = .ok (.iconst 1, 1) := by decide +kernel
theorem d_X12_code_46 : decode cX12_code 46 = .ok (.iadd, 1) := by decide +kernel
theorem d_X12_code_47 : decode cX12_code 47 = .ok (.putfield 612, 3) := by decide +kernel
theorem d_X12_code_50 : decode cX12_code 50 = .ok (.return_, 1) := by decide +kernel
def k_X12_code_0 (P : xP) : xK := x_aload 0 (y_getF 180 184 (x_push (.int 3) (x_aload 0 (y_getI 180 83 (x_imul (x_iload 1 (y_iast 184 135 (x_aload 0 (y_getF 180 184 (x_push (.int 3) (x_aload 0 (y_getI 180 83 (x_imul (x_push (.int 1) (x_iadd (x_iload 2 (y_iast 184 135 (x_aload 0 (y_getF 180 184 (x_push (.int 3) (x_aload 0 (y_getI 180 83 (x_imul (x_push (.int 2) (x_iadd (x_iload 3 (y_iast 184 135 (x_aload 0 (x_dup (y_getI 180 83 (x_push (.int 1) (x_iadd (y_putI 180 83 (x_vret P))))))))))))))))))))))))))))))))))
set_option maxRecDepth 20000 in
theorem t_X12_code_0 {p : Program} {l : Launch} {e : Env} {s : State} {m : MethodId} {args : Array Value} {below : List Frame} {meth : Method} {c : Code} {g : xG} (X : xX p s m args c meth cX12_code RX12 4 g) (hr : meth.sig.returnType = none) {P : xP} : xAt p l e { frames := 0, cells := 0, slots := 0, locals := 0 } s m args below meth c g 4 xFT xN 0 0 (MQ below (xQc g xFT xN P) args s 0 0 (xFr g)) (k_X12_code_0 P) 0 := by
  unfold k_X12_code_0
  refine r_aload_n (pc := 0) X d_X12_code_0 fn0 ?_
  refine s_getF (pc := 1) (ci := 12) (k := 7) X xok12 (by decide +kernel) ob_180 trivial ly_180_7 (by decide +kernel) fl_RX12_37 d_X12_code_1 ?_
  refine r_iconst (pc := 4) X d_X12_code_4 (by decide +kernel) ?_
  refine r_aload_n (pc := 5) X d_X12_code_5 fn0 ?_
  refine s_getI (pc := 6) (ci := 12) X xok12 (by decide +kernel) ob_180 (by decide +kernel) fl_RX12_612 d_X12_code_6 ?_
  refine r_imul (pc := 9) X d_X12_code_9 ?_
  refine r_iload_n (pc := 10) X d_X12_code_10 fn1 ?_
  refine s_iast (pc := 11) X tn_184 ln_184 d_X12_code_11 ?_
  refine r_aload_n (pc := 12) X d_X12_code_12 fn0 ?_
  refine s_getF (pc := 13) (ci := 12) (k := 7) X xok12 (by decide +kernel) ob_180 trivial ly_180_7 (by decide +kernel) fl_RX12_37 d_X12_code_13 ?_
  refine r_iconst (pc := 16) X d_X12_code_16 (by decide +kernel) ?_
  refine r_aload_n (pc := 17) X d_X12_code_17 fn0 ?_
  refine s_getI (pc := 18) (ci := 12) X xok12 (by decide +kernel) ob_180 (by decide +kernel) fl_RX12_612 d_X12_code_18 ?_
  refine r_imul (pc := 21) X d_X12_code_21 ?_
  refine r_iconst (pc := 22) X d_X12_code_22 (by decide +kernel) ?_
  refine r_iadd (pc := 23) X d_X12_code_23 ?_
  refine r_iload_n (pc := 24) X d_X12_code_24 fn2 ?_
  refine s_iast (pc := 25) X tn_184 ln_184 d_X12_code_25 ?_
  refine r_aload_n (pc := 26) X d_X12_code_26 fn0 ?_
  refine s_getF (pc := 27) (ci := 12) (k := 7) X xok12 (by decide +kernel) ob_180 trivial ly_180_7 (by decide +kernel) fl_RX12_37 d_X12_code_27 ?_
  refine r_iconst (pc := 30) X d_X12_code_30 (by decide +kernel) ?_
  refine r_aload_n (pc := 31) X d_X12_code_31 fn0 ?_
  refine s_getI (pc := 32) (ci := 12) X xok12 (by decide +kernel) ob_180 (by decide +kernel) fl_RX12_612 d_X12_code_32 ?_
  refine r_imul (pc := 35) X d_X12_code_35 ?_
  refine r_iconst (pc := 36) X d_X12_code_36 (by decide +kernel) ?_
  refine r_iadd (pc := 37) X d_X12_code_37 ?_
  refine r_iload_n (pc := 38) X d_X12_code_38 fn3 ?_
  refine s_iast (pc := 39) X tn_184 ln_184 d_X12_code_39 ?_
  refine r_aload_n (pc := 40) X d_X12_code_40 fn0 ?_
  refine r_dup (pc := 41) X d_X12_code_41 ?_
  refine s_getI (pc := 42) (ci := 12) X xok12 (by decide +kernel) ob_180 (by decide +kernel) fl_RX12_612 d_X12_code_42 ?_
  refine r_iconst (pc := 45) X d_X12_code_45 (by decide +kernel) ?_
  refine r_iadd (pc := 46) X d_X12_code_46 ?_
  refine s_putI (pc := 47) (ci := 12) X xok12 (by decide +kernel) ob_180 (by decide +kernel) (by decide +kernel) (by decide +kernel) fl_RX12_612 d_X12_code_47 ?_
  exact r_vret (pc := 50) X hr d_X12_code_50
def f_X12_code (a0 : Nat) (a1 : Int32) (a2 : Int32) (a3 : Int32) (A : xH) (P : xP) : Prop := k_X12_code_0 P [some (.ref a0), some (.int a1), some (.int a2), some (.int a3)] [] A
set_option maxRecDepth 20000 in
theorem con_X12_code (l : Launch) : xCon l yX12_code cX12_code 4 none 0 0 xN xN 0 xFT xFT (w_RIII f_X12_code) :=
  xc_RIII (plainFor_of_name pn_RX12) (by decide +kernel) (fun p e s m args below meth c g a0 a1 a2 a3 A P h X hr _ => ⟨_, h, t_X12_code_0 X hr⟩)
theorem d_X12_nots_0 : decode cX12_nots 0 = .ok (.aload_n 0, 1) := by decide +kernel
theorem d_X12_nots_1 : decode cX12_nots 1 = .ok (.getfield 615, 3) := by decide +kernel
theorem d_X12_nots_4 : decode cX12_nots 4 = .ok (.ifCond .le 50, 3) := by decide +kernel
theorem d_X12_nots_7 : decode cX12_nots 7 = .ok (.aload_n 0, 1) := by decide +kernel
theorem d_X12_nots_8 : decode cX12_nots 8 = .ok (.getfield 175, 3) := by decide +kernel
theorem d_X12_nots_11 : decode cX12_nots 11 = .ok (.aload_n 0, 1) := by decide +kernel
theorem d_X12_nots_12 : decode cX12_nots 12 = .ok (.getfield 615, 3) := by decide +kernel
theorem d_X12_nots_15 : decode cX12_nots 15 = .ok (.iconst 1, 1) := by decide +kernel
theorem d_X12_nots_16 : decode cX12_nots 16 = .ok (.isub, 1) := by decide +kernel
theorem d_X12_nots_17 : decode cX12_nots 17 = .ok (.iaload, 1) := by decide +kernel
theorem d_X12_nots_18 : decode cX12_nots 18 = .ok (.bipush 20, 2) := by decide +kernel
theorem d_X12_nots_20 : decode cX12_nots 20 = .ok (.if_icmp .ne 34, 3) := by decide +kernel
theorem d_X12_nots_23 : decode cX12_nots 23 = .ok (.aload_n 0, 1) := by decide +kernel
theorem d_X12_nots_24 : decode cX12_nots 24 = .ok (.dup, 1) := by decide +kernel
theorem d_X12_nots_25 : decode cX12_nots 25 = .ok (.getfield 615, 3) := by decide +kernel
theorem d_X12_nots_28 : decode cX12_nots 28 = .ok (.iconst 1, 1) := by decide +kernel
theorem d_X12_nots_29 : decode cX12_nots 29 = .ok (.isub, 1) := by decide +kernel
theorem d_X12_nots_30 : decode cX12_nots 30 = .ok (.putfield 615, 3) := by decide +kernel
theorem d_X12_nots_33 : decode cX12_nots 33 = .ok (.aload_n 0, 1) := by decide +kernel
theorem d_X12_nots_34 : decode cX12_nots 34 = .ok (.dup, 1) := by decide +kernel
theorem d_X12_nots_35 : decode cX12_nots 35 = .ok (.getfield 621, 3) := by decide +kernel
theorem d_X12_nots_38 : decode cX12_nots 38 = .ok (.iconst 1, 1) := by decide +kernel
theorem d_X12_nots_39 : decode cX12_nots 39 = .ok (.isub, 1) := by decide +kernel
theorem d_X12_nots_40 : decode cX12_nots 40 = .ok (.putfield 621, 3) := by decide +kernel
theorem d_X12_nots_43 : decode cX12_nots 43 = .ok (.aload_n 0, 1) := by decide +kernel
theorem d_X12_nots_44 : decode cX12_nots 44 = .ok (.bipush 20, 2) := by decide +kernel
theorem d_X12_nots_46 : decode cX12_nots 46 = .ok (.iconst 0, 1) := by decide +kernel
theorem d_X12_nots_47 : decode cX12_nots 47 = .ok (.iconst 0, 1) := by decide +kernel
theorem d_X12_nots_48 : decode cX12_nots 48 = .ok (.invokevirtual 618, 3) := by decide +kernel
theorem d_X12_nots_51 : decode cX12_nots 51 = .ok (.goto (-51), 3) := by decide +kernel
theorem d_X12_nots_54 : decode cX12_nots 54 = .ok (.return_, 1) := by decide +kernel
def k_X12_nots_54 (P : xP) : xK := x_vret P
set_option maxRecDepth 20000 in
theorem t_X12_nots_54 {p : Program} {l : Launch} {e : Env} {s : State} {m : MethodId} {args : Array Value} {below : List Frame} {meth : Method} {c : Code} {g : xG} (X : xX p s m args c meth cX12_nots RX12 1 g) (hr : meth.sig.returnType = none) {P : xP} : xAt p l e { frames := 1, cells := 0, slots := 0, locals := 23 } s m args below meth c g 1 xFT xN 0 0 (MQ below (xQc g xFT xN P) args s 0 0 (xFr g)) (k_X12_nots_54 P) 54 := by
  unfold k_X12_nots_54
  exact r_vret (pc := 54) X hr d_X12_nots_54
def k_X12_nots_0 (P : xP) (C0 : xK) : xK := x_aload 0 (y_getI 180 85 (x_if_le ((k_X12_nots_54 P)) (x_aload 0 (y_getF 180 226 (x_aload 0 (y_getI 180 85 (x_push (.int 1) (x_isub (y_iald 226 45 (x_push (.int 20) (x_icmp_ne ((k_X12_nots_54 P)) (x_aload 0 (x_dup (y_getI 180 85 (x_push (.int 1) (x_isub (y_putI 180 85 (x_aload 0 (x_dup (y_getI 180 86 (x_push (.int 1) (x_isub (y_putI 180 86 (x_aload 0 (x_push (.int 20) (x_push (.int 0) (x_push (.int 0) (y_cv3 180 (w_RIII f_X12_code) (C0)))))))))))))))))))))))))))))
set_option maxRecDepth 20000 in
theorem t_X12_nots_0 {p : Program} {l : Launch} {e : Env} {s : State} {m : MethodId} {args : Array Value} {below : List Frame} {meth : Method} {c : Code} {g : xG} (X : xX p s m args c meth cX12_nots RX12 1 g) (hr : meth.sig.returnType = none) {P : xP} {C0 : xK} (h0 : xAt p l e { frames := 1, cells := 0, slots := 0, locals := 23 } s m args below meth c g 1 xFT xN 0 0 (MQ below (xQc g xFT xN P) args s 0 0 (xFr g)) C0 0) : xAt p l e { frames := 1, cells := 0, slots := 0, locals := 23 } s m args below meth c g 1 xFT xN 0 0 (MQ below (xQc g xFT xN P) args s 0 0 (xFr g)) (k_X12_nots_0 P C0) 0 := by
  unfold k_X12_nots_0
  refine r_aload_n (pc := 0) X d_X12_nots_0 fn0 ?_
  refine s_getI (pc := 1) (ci := 12) X xok12 (by decide +kernel) ob_180 (by decide +kernel) fl_RX12_615 d_X12_nots_1 ?_
  refine r_if_le (pc := 4) (tgt := 54) X d_X12_nots_4 (by decide +kernel) ?_ ?_
  · exact t_X12_nots_54 X hr
  · refine r_aload_n (pc := 7) X d_X12_nots_7 fn0 ?_
    refine s_getF (pc := 8) (ci := 12) (k := 82) X xok12 (by decide +kernel) ob_180 trivial ly_180_82 (by decide +kernel) fl_RX12_175 d_X12_nots_8 ?_
    refine r_aload_n (pc := 11) X d_X12_nots_11 fn0 ?_
    refine s_getI (pc := 12) (ci := 12) X xok12 (by decide +kernel) ob_180 (by decide +kernel) fl_RX12_615 d_X12_nots_12 ?_
    refine r_iconst (pc := 15) X d_X12_nots_15 (by decide +kernel) ?_
    refine r_isub (pc := 16) X d_X12_nots_16 ?_
    refine s_iald (pc := 17) X tn_226 ln_226 d_X12_nots_17 ?_
    refine r_bipush (pc := 18) X d_X12_nots_18 (by decide +kernel) ?_
    refine r_icmp_ne (pc := 20) (tgt := 54) X d_X12_nots_20 (by decide +kernel) ?_ ?_
    · exact t_X12_nots_54 X hr
    · refine r_aload_n (pc := 23) X d_X12_nots_23 fn0 ?_
      refine r_dup (pc := 24) X d_X12_nots_24 ?_
      refine s_getI (pc := 25) (ci := 12) X xok12 (by decide +kernel) ob_180 (by decide +kernel) fl_RX12_615 d_X12_nots_25 ?_
      refine r_iconst (pc := 28) X d_X12_nots_28 (by decide +kernel) ?_
      refine r_isub (pc := 29) X d_X12_nots_29 ?_
      refine s_putI (pc := 30) (ci := 12) X xok12 (by decide +kernel) ob_180 (by decide +kernel) (by decide +kernel) (by decide +kernel) fl_RX12_615 d_X12_nots_30 ?_
      refine r_aload_n (pc := 33) X d_X12_nots_33 fn0 ?_
      refine r_dup (pc := 34) X d_X12_nots_34 ?_
      refine s_getI (pc := 35) (ci := 12) X xok12 (by decide +kernel) ob_180 (by decide +kernel) fl_RX12_621 d_X12_nots_35 ?_
      refine r_iconst (pc := 38) X d_X12_nots_38 (by decide +kernel) ?_
      refine r_isub (pc := 39) X d_X12_nots_39 ?_
      refine s_putI (pc := 40) (ci := 12) X xok12 (by decide +kernel) ob_180 (by decide +kernel) (by decide +kernel) (by decide +kernel) fl_RX12_621 d_X12_nots_40 ?_
      refine r_aload_n (pc := 43) X d_X12_nots_43 fn0 ?_
      refine r_bipush (pc := 44) X d_X12_nots_44 (by decide +kernel) ?_
      refine r_iconst (pc := 46) X d_X12_nots_46 (by decide +kernel) ?_
      refine r_iconst (pc := 47) X d_X12_nots_47 (by decide +kernel) ?_
      refine s_cv3 (pc := 48) (ci := 12) X xok12 (by decide +kernel) ob_180 rfl (con_X12_code l) mf_X12_code ml_RX12_618 (by decide +kernel) (by decide +kernel) d_X12_nots_48 ?_
      refine r_goto (pc := 51) (tgt := 0) X d_X12_nots_51 (by decide +kernel) ?_
      exact h0
set_option maxRecDepth 20000 in
theorem m_X12_nots {l : Launch} {f : Nat → xH → xP → Prop}  {I0 : Nat → xH → xP → xM → xK}
    (vs : ∀ (a0 : Nat) (A : xH) (P : xP), f a0 A P → xE (I0 a0 A P) [some (.ref a0)] [] A)
    (v0 : ∀ (a0 : Nat) (A : xH) (P : xP), f a0 A P → ∀ (μ : xM) (L : xL) (st : List Value) (B : xH), I0 a0 A P μ L st B → k_X12_nots_0 P (xB (I0 a0 A P) μ) L st B) : xCon l yX12_nots cX12_nots 1 none 1 23 xN xN 0 xFT xFT (w_R f) := by
  refine xc_R (plainFor_of_name pn_RX12) (by decide +kernel) (fun p e s m args below meth c g a0 A P h X hr _ => ?_)
  have h0 := x_loop1 (p := p) (l := l) (e := e) (R := { frames := 1, cells := 0, slots := 0, locals := 23 }) (s := s) (m := m) (args := args) (below := below) (meth := meth) (c := c) (g := g) (nL := 1) (F := xFT) (n := xN) (cells := 0) (slots := 0) (Q := MQ below (xQc g xFT xN P) args s 0 0 (xFr g)) (I := I0 a0 A P) (pc1 := 0) (fun μ i0 => xAt_mono (t_X12_nots_0 (P := P) X hr i0) (v0 a0 A P h μ))
  exact ⟨_, vs a0 A P h, h0⟩
theorem d_X12_joins_0 : decode cX12_joins 0 = .ok (.aload_n 0, 1) := by decide +kernel
theorem d_X12_joins_1 : decode cX12_joins 1 = .ok (.getfield 615, 3) := by decide +kernel
theorem d_X12_joins_4 : decode cX12_joins 4 = .ok (.ifCond .le 69, 3) := by decide +kernel
theorem d_X12_joins_7 : decode cX12_joins 7 = .ok (.aload_n 0, 1) := by decide +kernel
theorem d_X12_joins_8 : decode cX12_joins 8 = .ok (.getfield 175, 3) := by decide +kernel
theorem d_X12_joins_11 : decode cX12_joins 11 = .ok (.aload_n 0, 1) := by decide +kernel
theorem d_X12_joins_12 : decode cX12_joins 12 = .ok (.getfield 615, 3) := by decide +kernel
theorem d_X12_joins_15 : decode cX12_joins 15 = .ok (.iconst 1, 1) := by decide +kernel
theorem d_X12_joins_16 : decode cX12_joins 16 = .ok (.isub, 1) := by decide +kernel
theorem d_X12_joins_17 : decode cX12_joins 17 = .ok (.iaload, 1) := by decide +kernel
theorem d_X12_joins_18 : decode cX12_joins 18 = .ok (.bipush 21, 2) := by decide +kernel
theorem d_X12_joins_20 : decode cX12_joins 20 = .ok (.if_icmp .eq 25, 3) := by decide +kernel
theorem d_X12_joins_23 : decode cX12_joins 23 = .ok (.aload_n 0, 1) := by decide +kernel
theorem d_X12_joins_24 : decode cX12_joins 24 = .ok (.getfield 175, 3) := by decide +kernel
theorem d_X12_joins_27 : decode cX12_joins 27 = .ok (.aload_n 0, 1) := by decide +kernel
theorem d_X12_joins_28 : decode cX12_joins 28 = .ok (.getfield 615, 3) := by decide +kernel
theorem d_X12_joins_31 : decode cX12_joins 31 = .ok (.iconst 1, 1) := by decide +kernel
theorem d_X12_joins_32 : decode cX12_joins 32 = .ok (.isub, 1) := by decide +kernel
theorem d_X12_joins_33 : decode cX12_joins 33 = .ok (.iaload, 1) := by decide +kernel
theorem d_X12_joins_34 : decode cX12_joins 34 = .ok (.bipush 22, 2) := by decide +kernel
theorem d_X12_joins_36 : decode cX12_joins 36 = .ok (.if_icmp .ne 37, 3) := by decide +kernel
theorem d_X12_joins_39 : decode cX12_joins 39 = .ok (.iload_n 1, 1) := by decide +kernel
theorem d_X12_joins_40 : decode cX12_joins 40 = .ok (.bipush 22, 2) := by decide +kernel
theorem d_X12_joins_42 : decode cX12_joins 42 = .ok (.if_icmp .ne 31, 3) := by decide +kernel
theorem d_X12_joins_45 : decode cX12_joins 45 = .ok (.aload_n 0, 1) := by decide +kernel
theorem d_X12_joins_46 : decode cX12_joins 46 = .ok (.dup, 1) := by decide +kernel
theorem d_X12_joins_47 : decode cX12_joins 47 = .ok (.getfield 615, 3) := by decide +kernel
theorem d_X12_joins_50 : decode cX12_joins 50 = .ok (.iconst 1, 1) := by decide +kernel
theorem d_X12_joins_51 : decode cX12_joins 51 = .ok (.isub, 1) := by decide +kernel
theorem d_X12_joins_52 : decode cX12_joins 52 = .ok (.putfield 615, 3) := by decide +kernel
theorem d_X12_joins_55 : decode cX12_joins 55 = .ok (.aload_n 0, 1) := by decide +kernel
theorem d_X12_joins_56 : decode cX12_joins 56 = .ok (.aload_n 0, 1) := by decide +kernel
theorem d_X12_joins_57 : decode cX12_joins 57 = .ok (.getfield 175, 3) := by decide +kernel
theorem d_X12_joins_60 : decode cX12_joins 60 = .ok (.aload_n 0, 1) := by decide +kernel
theorem d_X12_joins_61 : decode cX12_joins 61 = .ok (.getfield 615, 3) := by decide +kernel
theorem d_X12_joins_64 : decode cX12_joins 64 = .ok (.iaload, 1) := by decide +kernel
theorem d_X12_joins_65 : decode cX12_joins 65 = .ok (.iconst 0, 1) := by decide +kernel
theorem d_X12_joins_66 : decode cX12_joins 66 = .ok (.iconst 0, 1) := by decide +kernel
theorem d_X12_joins_67 : decode cX12_joins 67 = .ok (.invokevirtual 618, 3) := by decide +kernel
theorem d_X12_joins_70 : decode cX12_joins 70 = .ok (.goto (-70), 3) := by decide +kernel
theorem d_X12_joins_73 : decode cX12_joins 73 = .ok (.return_, 1) := by decide +kernel
def k_X12_joins_73 (P : xP) : xK := x_vret P
set_option maxRecDepth 20000 in
theorem t_X12_joins_73 {p : Program} {l : Launch} {e : Env} {s : State} {m : MethodId} {args : Array Value} {below : List Frame} {meth : Method} {c : Code} {g : xG} (X : xX p s m args c meth cX12_joins RX12 2 g) (hr : meth.sig.returnType = none) {P : xP} : xAt p l e { frames := 1, cells := 0, slots := 0, locals := 23 } s m args below meth c g 2 xFT xN 0 0 (MQ below (xQc g xFT xN P) args s 0 0 (xFr g)) (k_X12_joins_73 P) 73 := by
  unfold k_X12_joins_73
  exact r_vret (pc := 73) X hr d_X12_joins_73
def k_X12_joins_45 (P : xP) (C0 : xK) : xK := x_aload 0 (x_dup (y_getI 180 85 (x_push (.int 1) (x_isub (y_putI 180 85 (x_aload 0 (x_aload 0 (y_getF 180 226 (x_aload 0 (y_getI 180 85 (y_iald 226 45 (x_push (.int 0) (x_push (.int 0) (y_cv3 180 (w_RIII f_X12_code) (C0)))))))))))))))
set_option maxRecDepth 20000 in
theorem t_X12_joins_45 {p : Program} {l : Launch} {e : Env} {s : State} {m : MethodId} {args : Array Value} {below : List Frame} {meth : Method} {c : Code} {g : xG} (X : xX p s m args c meth cX12_joins RX12 2 g) (hr : meth.sig.returnType = none) {P : xP} {C0 : xK} (h0 : xAt p l e { frames := 1, cells := 0, slots := 0, locals := 23 } s m args below meth c g 2 xFT xN 0 0 (MQ below (xQc g xFT xN P) args s 0 0 (xFr g)) C0 0) : xAt p l e { frames := 1, cells := 0, slots := 0, locals := 23 } s m args below meth c g 2 xFT xN 0 0 (MQ below (xQc g xFT xN P) args s 0 0 (xFr g)) (k_X12_joins_45 P C0) 45 := by
  unfold k_X12_joins_45
  refine r_aload_n (pc := 45) X d_X12_joins_45 fn0 ?_
  refine r_dup (pc := 46) X d_X12_joins_46 ?_
  refine s_getI (pc := 47) (ci := 12) X xok12 (by decide +kernel) ob_180 (by decide +kernel) fl_RX12_615 d_X12_joins_47 ?_
  refine r_iconst (pc := 50) X d_X12_joins_50 (by decide +kernel) ?_
  refine r_isub (pc := 51) X d_X12_joins_51 ?_
  refine s_putI (pc := 52) (ci := 12) X xok12 (by decide +kernel) ob_180 (by decide +kernel) (by decide +kernel) (by decide +kernel) fl_RX12_615 d_X12_joins_52 ?_
  refine r_aload_n (pc := 55) X d_X12_joins_55 fn0 ?_
  refine r_aload_n (pc := 56) X d_X12_joins_56 fn0 ?_
  refine s_getF (pc := 57) (ci := 12) (k := 82) X xok12 (by decide +kernel) ob_180 trivial ly_180_82 (by decide +kernel) fl_RX12_175 d_X12_joins_57 ?_
  refine r_aload_n (pc := 60) X d_X12_joins_60 fn0 ?_
  refine s_getI (pc := 61) (ci := 12) X xok12 (by decide +kernel) ob_180 (by decide +kernel) fl_RX12_615 d_X12_joins_61 ?_
  refine s_iald (pc := 64) X tn_226 ln_226 d_X12_joins_64 ?_
  refine r_iconst (pc := 65) X d_X12_joins_65 (by decide +kernel) ?_
  refine r_iconst (pc := 66) X d_X12_joins_66 (by decide +kernel) ?_
  refine s_cv3 (pc := 67) (ci := 12) X xok12 (by decide +kernel) ob_180 rfl (con_X12_code l) mf_X12_code ml_RX12_618 (by decide +kernel) (by decide +kernel) d_X12_joins_67 ?_
  refine r_goto (pc := 70) (tgt := 0) X d_X12_joins_70 (by decide +kernel) ?_
  exact h0
def k_X12_joins_0 (P : xP) (C0 : xK) : xK := x_aload 0 (y_getI 180 85 (x_if_le ((k_X12_joins_73 P)) (x_aload 0 (y_getF 180 226 (x_aload 0 (y_getI 180 85 (x_push (.int 1) (x_isub (y_iald 226 45 (x_push (.int 21) (x_icmp_eq ((k_X12_joins_45 P C0)) (x_aload 0 (y_getF 180 226 (x_aload 0 (y_getI 180 85 (x_push (.int 1) (x_isub (y_iald 226 45 (x_push (.int 22) (x_icmp_ne ((k_X12_joins_73 P)) (x_iload 1 (x_push (.int 22) (x_icmp_ne ((k_X12_joins_73 P)) ((k_X12_joins_45 P C0)))))))))))))))))))))))))
set_option maxRecDepth 20000 in
theorem t_X12_joins_0 {p : Program} {l : Launch} {e : Env} {s : State} {m : MethodId} {args : Array Value} {below : List Frame} {meth : Method} {c : Code} {g : xG} (X : xX p s m args c meth cX12_joins RX12 2 g) (hr : meth.sig.returnType = none) {P : xP} {C0 : xK} (h0 : xAt p l e { frames := 1, cells := 0, slots := 0, locals := 23 } s m args below meth c g 2 xFT xN 0 0 (MQ below (xQc g xFT xN P) args s 0 0 (xFr g)) C0 0) : xAt p l e { frames := 1, cells := 0, slots := 0, locals := 23 } s m args below meth c g 2 xFT xN 0 0 (MQ below (xQc g xFT xN P) args s 0 0 (xFr g)) (k_X12_joins_0 P C0) 0 := by
  unfold k_X12_joins_0
  refine r_aload_n (pc := 0) X d_X12_joins_0 fn0 ?_
  refine s_getI (pc := 1) (ci := 12) X xok12 (by decide +kernel) ob_180 (by decide +kernel) fl_RX12_615 d_X12_joins_1 ?_
  refine r_if_le (pc := 4) (tgt := 73) X d_X12_joins_4 (by decide +kernel) ?_ ?_
  · exact t_X12_joins_73 X hr
  · refine r_aload_n (pc := 7) X d_X12_joins_7 fn0 ?_
    refine s_getF (pc := 8) (ci := 12) (k := 82) X xok12 (by decide +kernel) ob_180 trivial ly_180_82 (by decide +kernel) fl_RX12_175 d_X12_joins_8 ?_
    refine r_aload_n (pc := 11) X d_X12_joins_11 fn0 ?_
    refine s_getI (pc := 12) (ci := 12) X xok12 (by decide +kernel) ob_180 (by decide +kernel) fl_RX12_615 d_X12_joins_12 ?_
    refine r_iconst (pc := 15) X d_X12_joins_15 (by decide +kernel) ?_
    refine r_isub (pc := 16) X d_X12_joins_16 ?_
    refine s_iald (pc := 17) X tn_226 ln_226 d_X12_joins_17 ?_
    refine r_bipush (pc := 18) X d_X12_joins_18 (by decide +kernel) ?_
    refine r_icmp_eq (pc := 20) (tgt := 45) X d_X12_joins_20 (by decide +kernel) ?_ ?_
    · exact t_X12_joins_45 X hr h0
    · refine r_aload_n (pc := 23) X d_X12_joins_23 fn0 ?_
      refine s_getF (pc := 24) (ci := 12) (k := 82) X xok12 (by decide +kernel) ob_180 trivial ly_180_82 (by decide +kernel) fl_RX12_175 d_X12_joins_24 ?_
      refine r_aload_n (pc := 27) X d_X12_joins_27 fn0 ?_
      refine s_getI (pc := 28) (ci := 12) X xok12 (by decide +kernel) ob_180 (by decide +kernel) fl_RX12_615 d_X12_joins_28 ?_
      refine r_iconst (pc := 31) X d_X12_joins_31 (by decide +kernel) ?_
      refine r_isub (pc := 32) X d_X12_joins_32 ?_
      refine s_iald (pc := 33) X tn_226 ln_226 d_X12_joins_33 ?_
      refine r_bipush (pc := 34) X d_X12_joins_34 (by decide +kernel) ?_
      refine r_icmp_ne (pc := 36) (tgt := 73) X d_X12_joins_36 (by decide +kernel) ?_ ?_
      · exact t_X12_joins_73 X hr
      · refine r_iload_n (pc := 39) X d_X12_joins_39 fn1 ?_
        refine r_bipush (pc := 40) X d_X12_joins_40 (by decide +kernel) ?_
        refine r_icmp_ne (pc := 42) (tgt := 73) X d_X12_joins_42 (by decide +kernel) ?_ ?_
        · exact t_X12_joins_73 X hr
        · exact t_X12_joins_45 X hr h0
set_option maxRecDepth 20000 in
theorem m_X12_joins {l : Launch} {f : Nat → Int32 → xH → xP → Prop}  {I0 : Nat → Int32 → xH → xP → xM → xK}
    (vs : ∀ (a0 : Nat) (a1 : Int32) (A : xH) (P : xP), f a0 a1 A P → xE (I0 a0 a1 A P) [some (.ref a0), some (.int a1)] [] A)
    (v0 : ∀ (a0 : Nat) (a1 : Int32) (A : xH) (P : xP), f a0 a1 A P → ∀ (μ : xM) (L : xL) (st : List Value) (B : xH), I0 a0 a1 A P μ L st B → k_X12_joins_0 P (xB (I0 a0 a1 A P) μ) L st B) : xCon l yX12_joins cX12_joins 2 none 1 23 xN xN 0 xFT xFT (w_RI f) := by
  refine xc_RI (plainFor_of_name pn_RX12) (by decide +kernel) (fun p e s m args below meth c g a0 a1 A P h X hr _ => ?_)
  have h0 := x_loop1 (p := p) (l := l) (e := e) (R := { frames := 1, cells := 0, slots := 0, locals := 23 }) (s := s) (m := m) (args := args) (below := below) (meth := meth) (c := c) (g := g) (nL := 2) (F := xFT) (n := xN) (cells := 0) (slots := 0) (Q := MQ below (xQc g xFT xN P) args s 0 0 (xFr g)) (I := I0 a0 a1 A P) (pc1 := 0) (fun μ i0 => xAt_mono (t_X12_joins_0 (P := P) X hr i0) (v0 a0 a1 A P h μ))
  exact ⟨_, vs a0 a1 A P h, h0⟩
theorem d_X12_leafOf_0 : decode cX12_leafOf 0 = .ok (.aload_n 0, 1) := by decide +kernel
theorem d_X12_leafOf_1 : decode cX12_leafOf 1 = .ok (.ldc2_w 208, 3) := by decide +kernel
theorem d_X12_leafOf_4 : decode cX12_leafOf 4 = .ok (.invokevirtual 283, 3) := by decide +kernel
theorem d_X12_leafOf_7 : decode cX12_leafOf 7 = .ok (.ifCond .eq 7, 3) := by decide +kernel
theorem d_X12_leafOf_10 : decode cX12_leafOf 10 = .ok (.iconst 0, 1) := by decide +kernel
theorem d_X12_leafOf_11 : decode cX12_leafOf 11 = .ok (.goto 104, 3) := by decide +kernel
theorem d_X12_leafOf_14 : decode cX12_leafOf 14 = .ok (.aload_n 0, 1) := by decide +kernel
theorem d_X12_leafOf_15 : decode cX12_leafOf 15 = .ok (.ldc2_w 210, 3) := by decide +kernel
theorem d_X12_leafOf_18 : decode cX12_leafOf 18 = .ok (.invokevirtual 283, 3) := by decide +kernel
theorem d_X12_leafOf_21 : decode cX12_leafOf 21 = .ok (.ifCond .eq 7, 3) := by decide +kernel
theorem d_X12_leafOf_24 : decode cX12_leafOf 24 = .ok (.iconst 1, 1) := by decide +kernel
theorem d_X12_leafOf_25 : decode cX12_leafOf 25 = .ok (.goto 90, 3) := by decide +kernel
theorem d_X12_leafOf_28 : decode cX12_leafOf 28 = .ok (.aload_n 0, 1) := by decide +kernel
theorem d_X12_leafOf_29 : decode cX12_leafOf 29 = .ok (.ldc2_w 212, 3) := by decide +kernel
theorem d_X12_leafOf_32 : decode cX12_leafOf 32 = .ok (.invokevirtual 283, 3) := by decide +kernel
theorem d_X12_leafOf_35 : decode cX12_leafOf 35 = .ok (.ifCond .eq 7, 3) := by decide +kernel
theorem d_X12_leafOf_38 : decode cX12_leafOf 38 = .ok (.iconst 2, 1) := by decide +kernel
theorem d_X12_leafOf_39 : decode cX12_leafOf 39 = .ok (.goto 76, 3) := by decide +kernel
theorem d_X12_leafOf_42 : decode cX12_leafOf 42 = .ok (.aload_n 0, 1) := by decide +kernel
theorem d_X12_leafOf_43 : decode cX12_leafOf 43 = .ok (.ldc2_w 214, 3) := by decide +kernel
theorem d_X12_leafOf_46 : decode cX12_leafOf 46 = .ok (.invokevirtual 283, 3) := by decide +kernel
theorem d_X12_leafOf_49 : decode cX12_leafOf 49 = .ok (.ifCond .eq 7, 3) := by decide +kernel
theorem d_X12_leafOf_52 : decode cX12_leafOf 52 = .ok (.iconst 3, 1) := by decide +kernel
theorem d_X12_leafOf_53 : decode cX12_leafOf 53 = .ok (.goto 62, 3) := by decide +kernel
theorem d_X12_leafOf_56 : decode cX12_leafOf 56 = .ok (.aload_n 0, 1) := by decide +kernel
theorem d_X12_leafOf_57 : decode cX12_leafOf 57 = .ok (.ldc2_w 216, 3) := by decide +kernel
theorem d_X12_leafOf_60 : decode cX12_leafOf 60 = .ok (.invokevirtual 283, 3) := by decide +kernel
theorem d_X12_leafOf_63 : decode cX12_leafOf 63 = .ok (.ifCond .eq 7, 3) := by decide +kernel
theorem d_X12_leafOf_66 : decode cX12_leafOf 66 = .ok (.iconst 4, 1) := by decide +kernel
theorem d_X12_leafOf_67 : decode cX12_leafOf 67 = .ok (.goto 48, 3) := by decide +kernel
theorem d_X12_leafOf_70 : decode cX12_leafOf 70 = .ok (.aload_n 0, 1) := by decide +kernel
theorem d_X12_leafOf_71 : decode cX12_leafOf 71 = .ok (.ldc2_w 194, 3) := by decide +kernel
theorem d_X12_leafOf_74 : decode cX12_leafOf 74 = .ok (.invokevirtual 283, 3) := by decide +kernel
theorem d_X12_leafOf_77 : decode cX12_leafOf 77 = .ok (.ifCond .eq 7, 3) := by decide +kernel
theorem d_X12_leafOf_80 : decode cX12_leafOf 80 = .ok (.iconst 5, 1) := by decide +kernel
theorem d_X12_leafOf_81 : decode cX12_leafOf 81 = .ok (.goto 34, 3) := by decide +kernel
theorem d_X12_leafOf_84 : decode cX12_leafOf 84 = .ok (.aload_n 0, 1) := by decide +kernel
theorem d_X12_leafOf_85 : decode cX12_leafOf 85 = .ok (.ldc2_w 218, 3) := by decide +kernel
theorem d_X12_leafOf_88 : decode cX12_leafOf 88 = .ok (.invokevirtual 283, 3) := by decide +kernel
theorem d_X12_leafOf_91 : decode cX12_leafOf 91 = .ok (.ifCond .eq 8, 3) := by decide +kernel
theorem d_X12_leafOf_94 : decode cX12_leafOf 94 = .ok (.bipush 6, 2) := by decide +kernel
theorem d_X12_leafOf_96 : decode cX12_leafOf 96 = .ok (.goto 19, 3) := by decide +kernel
theorem d_X12_leafOf_99 : decode cX12_leafOf 99 = .ok (.aload_n 0, 1) := by decide +kernel
theorem d_X12_leafOf_100 : decode cX12_leafOf 100 = .ok (.ldc2_w 220, 3) := by decide +kernel
theorem d_X12_leafOf_103 : decode cX12_leafOf 103 = .ok (.invokevirtual 283, 3) := by decide +kernel
theorem d_X12_leafOf_106 : decode cX12_leafOf 106 = .ok (.ifCond .eq 8, 3) := by decide +kernel
theorem d_X12_leafOf_109 : decode cX12_leafOf 109 = .ok (.bipush 7, 2) := by decide +kernel
theorem d_X12_leafOf_111 : decode cX12_leafOf 111 = .ok (.goto 4, 3) := by decide +kernel
theorem d_X12_leafOf_114 : decode cX12_leafOf 114 = .ok (.iconst (-1), 1) := by decide +kernel
theorem d_X12_leafOf_115 : decode cX12_leafOf 115 = .ok (.ireturn, 1) := by decide +kernel
def k_X12_leafOf_115 (P : xP) : xK := x_iret P
set_option maxRecDepth 20000 in
theorem t_X12_leafOf_115 {p : Program} {l : Launch} {e : Env} {s : State} {m : MethodId} {args : Array Value} {below : List Frame} {meth : Method} {c : Code} {g : xG} (X : xX p s m args c meth cX12_leafOf RX12 1 g) (hr : meth.sig.returnType = (some .int)) {P : xP} : xAt p l e { frames := 1, cells := 0, slots := 0, locals := 22 } s m args below meth c g 1 xFT xN 0 0 (MQ below (xQc g xFT xN P) args s 0 0 (xFr g)) (k_X12_leafOf_115 P) 115 := by
  unfold k_X12_leafOf_115
  exact r_iret (pc := 115) X hr d_X12_leafOf_115
def k_X12_leafOf_0 (P : xP) : xK := x_aload 0 (x_push (.long 439855772532) (y_cv1 180 (w_RJ f_X12_isWord) (x_if_eq (x_aload 0 (x_push (.long 1818325876) (y_cv1 180 (w_RJ f_X12_isWord) (x_if_eq (x_aload 0 (x_push (.long 418431069797) (y_cv1 180 (w_RJ f_X12_isWord) (x_if_eq (x_aload 0 (x_push (.long 28518) (y_cv1 180 (w_RJ f_X12_isWord) (x_if_eq (x_aload 0 (x_push (.long 1852143732) (y_cv1 180 (w_RJ f_X12_isWord) (x_if_eq (x_aload 0 (x_push (.long 1920298085) (y_cv1 180 (w_RJ f_X12_isWord) (x_if_eq (x_aload 0 (x_push (.long 6582132) (y_cv1 180 (w_RJ f_X12_isWord) (x_if_eq (x_aload 0 (x_push (.long 121450625394034) (y_cv1 180 (w_RJ f_X12_isWord) (x_if_eq (x_push (.int (-1)) ((k_X12_leafOf_115 P))) (x_push (.int 7) ((k_X12_leafOf_115 P))))))) (x_push (.int 6) ((k_X12_leafOf_115 P))))))) (x_push (.int 5) ((k_X12_leafOf_115 P))))))) (x_push (.int 4) ((k_X12_leafOf_115 P))))))) (x_push (.int 3) ((k_X12_leafOf_115 P))))))) (x_push (.int 2) ((k_X12_leafOf_115 P))))))) (x_push (.int 1) ((k_X12_leafOf_115 P))))))) (x_push (.int 0) ((k_X12_leafOf_115 P))))))
set_option maxRecDepth 20000 in
theorem t_X12_leafOf_0 {p : Program} {l : Launch} {e : Env} {s : State} {m : MethodId} {args : Array Value} {below : List Frame} {meth : Method} {c : Code} {g : xG} (X : xX p s m args c meth cX12_leafOf RX12 1 g) (hr : meth.sig.returnType = (some .int)) {P : xP} : xAt p l e { frames := 1, cells := 0, slots := 0, locals := 22 } s m args below meth c g 1 xFT xN 0 0 (MQ below (xQc g xFT xN P) args s 0 0 (xFr g)) (k_X12_leafOf_0 P) 0 := by
  unfold k_X12_leafOf_0
  refine r_aload_n (pc := 0) X d_X12_leafOf_0 fn0 ?_
  refine r_ldc2 (pc := 1) X cw_RX12_208 d_X12_leafOf_1 ?_
  refine s_cv1 (pc := 4) (ci := 12) X xok12 (by decide +kernel) ob_180 rfl (con_X12_isWord l) mf_X12_isWord ml_RX12_283 (by decide +kernel) (by decide +kernel) d_X12_leafOf_4 ?_
  refine r_if_eq (pc := 7) (tgt := 14) X d_X12_leafOf_7 (by decide +kernel) ?_ ?_
  · refine r_aload_n (pc := 14) X d_X12_leafOf_14 fn0 ?_
    refine r_ldc2 (pc := 15) X cw_RX12_210 d_X12_leafOf_15 ?_
    refine s_cv1 (pc := 18) (ci := 12) X xok12 (by decide +kernel) ob_180 rfl (con_X12_isWord l) mf_X12_isWord ml_RX12_283 (by decide +kernel) (by decide +kernel) d_X12_leafOf_18 ?_
    refine r_if_eq (pc := 21) (tgt := 28) X d_X12_leafOf_21 (by decide +kernel) ?_ ?_
    · refine r_aload_n (pc := 28) X d_X12_leafOf_28 fn0 ?_
      refine r_ldc2 (pc := 29) X cw_RX12_212 d_X12_leafOf_29 ?_
      refine s_cv1 (pc := 32) (ci := 12) X xok12 (by decide +kernel) ob_180 rfl (con_X12_isWord l) mf_X12_isWord ml_RX12_283 (by decide +kernel) (by decide +kernel) d_X12_leafOf_32 ?_
      refine r_if_eq (pc := 35) (tgt := 42) X d_X12_leafOf_35 (by decide +kernel) ?_ ?_
      · refine r_aload_n (pc := 42) X d_X12_leafOf_42 fn0 ?_
        refine r_ldc2 (pc := 43) X cw_RX12_214 d_X12_leafOf_43 ?_
        refine s_cv1 (pc := 46) (ci := 12) X xok12 (by decide +kernel) ob_180 rfl (con_X12_isWord l) mf_X12_isWord ml_RX12_283 (by decide +kernel) (by decide +kernel) d_X12_leafOf_46 ?_
        refine r_if_eq (pc := 49) (tgt := 56) X d_X12_leafOf_49 (by decide +kernel) ?_ ?_
        · refine r_aload_n (pc := 56) X d_X12_leafOf_56 fn0 ?_
          refine r_ldc2 (pc := 57) X cw_RX12_216 d_X12_leafOf_57 ?_
          refine s_cv1 (pc := 60) (ci := 12) X xok12 (by decide +kernel) ob_180 rfl (con_X12_isWord l) mf_X12_isWord ml_RX12_283 (by decide +kernel) (by decide +kernel) d_X12_leafOf_60 ?_
          refine r_if_eq (pc := 63) (tgt := 70) X d_X12_leafOf_63 (by decide +kernel) ?_ ?_
          · refine r_aload_n (pc := 70) X d_X12_leafOf_70 fn0 ?_
            refine r_ldc2 (pc := 71) X cw_RX12_194 d_X12_leafOf_71 ?_
            refine s_cv1 (pc := 74) (ci := 12) X xok12 (by decide +kernel) ob_180 rfl (con_X12_isWord l) mf_X12_isWord ml_RX12_283 (by decide +kernel) (by decide +kernel) d_X12_leafOf_74 ?_
            refine r_if_eq (pc := 77) (tgt := 84) X d_X12_leafOf_77 (by decide +kernel) ?_ ?_
            · refine r_aload_n (pc := 84) X d_X12_leafOf_84 fn0 ?_
              refine r_ldc2 (pc := 85) X cw_RX12_218 d_X12_leafOf_85 ?_
              refine s_cv1 (pc := 88) (ci := 12) X xok12 (by decide +kernel) ob_180 rfl (con_X12_isWord l) mf_X12_isWord ml_RX12_283 (by decide +kernel) (by decide +kernel) d_X12_leafOf_88 ?_
              refine r_if_eq (pc := 91) (tgt := 99) X d_X12_leafOf_91 (by decide +kernel) ?_ ?_
              · refine r_aload_n (pc := 99) X d_X12_leafOf_99 fn0 ?_
                refine r_ldc2 (pc := 100) X cw_RX12_220 d_X12_leafOf_100 ?_
                refine s_cv1 (pc := 103) (ci := 12) X xok12 (by decide +kernel) ob_180 rfl (con_X12_isWord l) mf_X12_isWord ml_RX12_283 (by decide +kernel) (by decide +kernel) d_X12_leafOf_103 ?_
                refine r_if_eq (pc := 106) (tgt := 114) X d_X12_leafOf_106 (by decide +kernel) ?_ ?_
                · refine r_iconst (pc := 114) X d_X12_leafOf_114 (by decide +kernel) ?_
                  exact t_X12_leafOf_115 X hr
                · refine r_bipush (pc := 109) X d_X12_leafOf_109 (by decide +kernel) ?_
                  refine r_goto (pc := 111) (tgt := 115) X d_X12_leafOf_111 (by decide +kernel) ?_
                  exact t_X12_leafOf_115 X hr
              · refine r_bipush (pc := 94) X d_X12_leafOf_94 (by decide +kernel) ?_
                refine r_goto (pc := 96) (tgt := 115) X d_X12_leafOf_96 (by decide +kernel) ?_
                exact t_X12_leafOf_115 X hr
            · refine r_iconst (pc := 80) X d_X12_leafOf_80 (by decide +kernel) ?_
              refine r_goto (pc := 81) (tgt := 115) X d_X12_leafOf_81 (by decide +kernel) ?_
              exact t_X12_leafOf_115 X hr
          · refine r_iconst (pc := 66) X d_X12_leafOf_66 (by decide +kernel) ?_
            refine r_goto (pc := 67) (tgt := 115) X d_X12_leafOf_67 (by decide +kernel) ?_
            exact t_X12_leafOf_115 X hr
        · refine r_iconst (pc := 52) X d_X12_leafOf_52 (by decide +kernel) ?_
          refine r_goto (pc := 53) (tgt := 115) X d_X12_leafOf_53 (by decide +kernel) ?_
          exact t_X12_leafOf_115 X hr
      · refine r_iconst (pc := 38) X d_X12_leafOf_38 (by decide +kernel) ?_
        refine r_goto (pc := 39) (tgt := 115) X d_X12_leafOf_39 (by decide +kernel) ?_
        exact t_X12_leafOf_115 X hr
    · refine r_iconst (pc := 24) X d_X12_leafOf_24 (by decide +kernel) ?_
      refine r_goto (pc := 25) (tgt := 115) X d_X12_leafOf_25 (by decide +kernel) ?_
      exact t_X12_leafOf_115 X hr
  · refine r_iconst (pc := 10) X d_X12_leafOf_10 (by decide +kernel) ?_
    refine r_goto (pc := 11) (tgt := 115) X d_X12_leafOf_11 (by decide +kernel) ?_
    exact t_X12_leafOf_115 X hr
def f_X12_leafOf (a0 : Nat) (A : xH) (P : xP) : Prop := k_X12_leafOf_0 P [some (.ref a0)] [] A
set_option maxRecDepth 20000 in
theorem con_X12_leafOf (l : Launch) : xCon l yX12_leafOf cX12_leafOf 1 (some .int) 1 22 xN xN 0 xFT xFT (w_R f_X12_leafOf) :=
  xc_R (plainFor_of_name pn_RX12) (by decide +kernel) (fun p e s m args below meth c g a0 A P h X hr _ => ⟨_, h, t_X12_leafOf_0 X hr⟩)
def SCd (c k : Nat) : Prop := c = 184 ∨ (c = 180 ∧ k = 83)
theorem code_U {A : xH} {P : xP} {s : xCs} {a b c : Nat} (h : cdU A s) (hs : s.1 < 45) (hP : ∀ B, fr SCd A B → cdU B (pC s (a, b, c)) → P none B) : f_X12_code 180 (nI a) (nI b) (nI c) A P := by
  unfold f_X12_code
  simp (disch := omega) only [k_X12_code_0, x_aload, x_dup, x_iadd, x_iload, x_imul, x_push, x_vret, y_getF, y_getI, y_iast, y_putI, xFT, xbool0, xbool1, Nat.reduceAdd, Nat.zero_add, xgl_0, xgl_s, xgl_n, xst_0, xst_1n, xst_1i, xst_1r, xst_1l, xst_s, set_0, set_s, true_and, and_true, xres, xcat_nil, xcat_i, xcat_r, xcat_l, Nat.add_zero, xble0, xble1, xble2, xble3, xble4, xble5, xble6, xble7, xble8, pk_mul, nI_add, nI_1, nI_leI, nI_ltI, nI_eq, n_in, n_cl, z_eq, z_lt, z_le, z_gt, z_ge, z_qe, o_eq, o_lt, o_le, o_gt, o_ge, vp0, vp1, cl0, cl1, n_sub, n_sub1, n_pm1, n_a0, n_0a, ofn, lN0, Nat.reduceLT, Nat.reduceLeDiff, Nat.reduceMul, Nat.reduceSub, Nat.reduceEqDiff, ne_eq, true_implies, false_implies, not_true_eq_false, not_false_eq_true, and_self, and_true, true_and, and_false, false_and, implies_true, if_true, if_false, i00, i10, i01, i11, ob_0, ob_1, tn_2, ln_2, ob_3, tn_4, ln_4, ob_5, tn_6, ln_6, tn_7, ln_7, ob_8, tn_9, ln_9, tn_10, ln_10, tn_11, ln_11, tn_12, ln_12, tn_13, ln_13, tn_14, ln_14, tn_15, ln_15, tn_16, ln_16, tn_17, ln_17, ob_18, tn_19, ln_19, tn_20, ln_20, tn_21, ln_21, tn_22, ln_22, tn_23, ln_23, tn_24, ln_24, tn_25, ln_25, tn_26, ln_26, tn_27, ln_27, ob_28, tn_29, ln_29, tn_30, ln_30, ob_31, tn_32, ln_32, tn_33, ln_33, ob_34, ob_35, tn_36, ln_36, tn_37, ln_37, tn_38, ln_38, ob_39, tn_40, ln_40, tn_41, ln_41, tn_42, ln_42, tn_43, ln_43, tn_44, ln_44, tn_45, ln_45, tn_46, ln_46, tn_47, ln_47, tn_48, ln_48, tn_49, ln_49, tn_50, ln_50, tn_51, ln_51, ob_52, tn_53, ln_53, tn_54, ln_54, tn_55, ln_55, tn_56, ln_56, ob_57, tn_58, ln_58, tn_59, ln_59, tn_60, ln_60, tn_61, ln_61, tn_62, ln_62, tn_63, ln_63, tn_64, ln_64, tn_65, ln_65, ob_66, tn_67, ln_67, tn_68, ln_68, tn_69, ln_69, tn_70, ln_70, tn_71, ln_71, tn_72, ln_72, tn_73, ln_73, ob_74, tn_75, ln_75, tn_76, ln_76, tn_77, ln_77, tn_78, ln_78, tn_79, ln_79, tn_80, ln_80, tn_81, ln_81, tn_82, ln_82, tn_83, ln_83, ob_84, tn_85, ln_85, tn_86, ln_86, tn_87, ln_87, tn_88, ln_88, tn_89, ln_89, tn_90, ln_90, tn_91, ln_91, tn_92, ln_92, tn_93, ln_93, ob_94, tn_95, ln_95, tn_96, ln_96, tn_97, ln_97, tn_98, ln_98, tn_99, ln_99, tn_100, ln_100, tn_101, ln_101, tn_102, ln_102, tn_103, ln_103, ob_104, tn_105, ln_105, tn_106, ln_106, tn_107, ln_107, tn_108, ln_108, tn_109, ln_109, tn_110, ln_110, tn_111, ln_111, tn_112, ln_112, tn_113, ln_113, ob_114, tn_115, ln_115, tn_116, ln_116, tn_117, ln_117, tn_118, ln_118, tn_119, ln_119, tn_120, ln_120, tn_121, ln_121, tn_122, ln_122, tn_123, ln_123, ob_124, tn_125, ln_125, tn_126, ln_126, tn_127, ln_127, tn_128, ln_128, tn_129, ln_129, tn_130, ln_130, tn_131, ln_131, tn_132, ln_132, tn_133, ln_133, ob_134, tn_135, ln_135, tn_136, ln_136, tn_137, ln_137, tn_138, ln_138, tn_139, ln_139, tn_140, ln_140, tn_141, ln_141, tn_142, ln_142, tn_143, ln_143, ob_144, tn_145, ln_145, tn_146, ln_146, tn_147, ln_147, tn_148, ln_148, tn_149, ln_149, tn_150, ln_150, tn_151, ln_151, tn_152, ln_152, tn_153, ln_153, ob_154, tn_155, ln_155, tn_156, ln_156, tn_157, ln_157, tn_158, ln_158, tn_159, ln_159, tn_160, ln_160, tn_161, ln_161, tn_162, ln_162, tn_163, ln_163, ob_164, tn_165, ln_165, tn_166, ln_166, ob_167, tn_168, ln_168, tn_169, ln_169, tn_170, ln_170, tn_171, ln_171, tn_172, ln_172, tn_173, ln_173, tn_174, ln_174, tn_175, ln_175, tn_176, ln_176, ob_177, tn_178, ln_178, tn_179, ln_179, ob_180, tn_181, ln_181, tn_182, ln_182, tn_183, ln_183, tn_184, ln_184, tn_185, ln_185, tn_186, ln_186, tn_187, ln_187, tn_188, ln_188, tn_189, ln_189, tn_190, ln_190, tn_191, ln_191, tn_192, ln_192, tn_193, ln_193, tn_194, ln_194, tn_195, ln_195, tn_196, ln_196, tn_197, ln_197, tn_198, ln_198, tn_199, ln_199, tn_200, ln_200, tn_201, ln_201, tn_202, ln_202, tn_203, ln_203, tn_204, ln_204, tn_205, ln_205, tn_206, ln_206, tn_207, ln_207, tn_208, ln_208, tn_209, ln_209, tn_210, ln_210, tn_211, ln_211, tn_212, ln_212, tn_213, ln_213, tn_214, ln_214, tn_215, ln_215, tn_216, ln_216, tn_217, ln_217, tn_218, ln_218, tn_219, ln_219, tn_220, ln_220, tn_221, ln_221, tn_222, ln_222, tn_223, ln_223, tn_224, ln_224, tn_225, ln_225, tn_226, ln_226, tn_227, ln_227, tn_228, ln_228, tn_229, ln_229, tn_230, ln_230, lx2, lx3, lx4, lx5, lx6, lx7, lx8, lx9, lx10, lx14, lx15, lx16, lx18, lx20, lx24, lx25, lx27, lx32, lx36, lx40, lx41, lx42, lx43, lx45, lx48, lx52, lx54, lx56, lx57, lx58, lx60, lx61, lx62, lx63, lx64, lx66, lx69, lx73, lx80, lx81, lx84, lx85, lx87, lx94, lx96, lx97, lx120, lx128, lx135, lx160, lx162, lx163, lx165, lx200, lx232, lx242, lx243, lx255, lx256, lx320, lx325, lx400, lx405, lx464, lx512, lx600, lx640, lx752, lx900, lx940, lx1000, lx1024, lx1764, lx3360, lx3840, lx5000, lx6400, lx9050, lx9998, lx9999, lx10000, lx25600, lx76800, lx99999, si_ne, si_eq, sl_ne, sl_eq, xl_si, xi_sl, sA_ne, sA_eq, xl_sA, h.1]
  refine ⟨by omega, by omega, by omega, hP _ (fr_si (fr_si (fr_si (fr_si fr_rf (by unfold SCd; omega)) (by unfold SCd; omega)) (by unfold SCd; omega)) (by unfold SCd; omega)) ⟨si_eq, fun i hi => ?_⟩⟩
  have hi : i < s.1 + 1 := hi
  show _ = nI (if i = s.1 then (a, b, c) else s.2 i).1 ∧ _ = nI (if i = s.1 then (a, b, c) else s.2 i).2.1 ∧ _ = nI (if i = s.1 then (a, b, c) else s.2 i).2.2
  by_cases e : i = s.1
  · subst e
    rw [if_pos rfl]
    refine ⟨?_, ?_, ?_⟩ <;> simp (disch := omega) only [si_ne, si_eq]
  · rw [if_neg e]
    have := h.2 i (by omega)
    refine ⟨?_, ?_, ?_⟩ <;> simp (disch := omega) only [si_ne]
    · exact this.1
    · exact this.2.1
    · exact this.2.2
def SNt (c k : Nat) : Prop := c = 184 ∨ (c = 180 ∧ (k = 83 ∨ k = 85 ∨ k = 86))
def f_X12_nots (q : Nat) (A : xH) (P : xP) : Prop := q = 180 ∧ ∃ s σ, cdU A s ∧ skU A σ ∧ s.1 + σ.length ≤ 45 ∧ ∀ B, fr SNt A B → cdU B (ntF σ s).1 → skU B (ntF σ s).2 → P none B
def ntI (A : xH) (P : xP) : xM → xK := fun μ L st B => ∃ s σ, cdU B s ∧ skU B σ ∧ s.1 + σ.length ≤ 45 ∧ fr SNt A B ∧ (∀ B, fr SNt A B → cdU B (ntF σ s).1 → skU B (ntF σ s).2 → P none B) ∧ st = [] ∧ L = [some (.ref 180)] ∧ μ = (σ.length, 0, 0)
set_option maxRecDepth 20000 in
theorem con_X12_nots (l : Launch) : xCon l yX12_nots cX12_nots 1 none 1 23 xN xN 0 xFT xFT (w_R f_X12_nots) := by
  refine m_X12_nots (I0 := fun q A P => ntI A P) ?_ ?_
  · rintro q A P ⟨rfl, s, σ, h1, h2, h3, hP⟩
    exact xE0 (σ.length, 0, 0) ⟨s, σ, h1, h2, h3, fr_rf, hP, rfl, rfl, rfl⟩
  · rintro q A P - μ L st B ⟨s, σ, h1, h2, h3, hF, hP, rfl, rfl, rfl⟩
    cases σ with
    | nil =>
      have e := h2.1
      simp (disch := omega) only [k_X12_nots_0, k_X12_nots_54, w_RIII, x_aload, x_dup, x_icmp_ne, x_if_le, x_isub, x_push, x_vret, y_cv3, y_getF, y_getI, y_iald, y_putI, xFT, xbool0, xbool1, Nat.reduceAdd, Nat.zero_add, xgl_0, xgl_s, xgl_n, xst_0, xst_1n, xst_1i, xst_1r, xst_1l, xst_s, set_0, set_s, true_and, and_true, xres, xcat_nil, xcat_i, xcat_r, xcat_l, Nat.add_zero, xble0, xble1, xble2, xble3, xble4, xble5, xble6, xble7, xble8, pk_mul, nI_add, nI_1, nI_leI, nI_ltI, nI_eq, n_in, n_cl, z_eq, z_lt, z_le, z_gt, z_ge, z_qe, o_eq, o_lt, o_le, o_gt, o_ge, vp0, vp1, cl0, cl1, n_sub, n_sub1, n_pm1, n_a0, n_0a, ofn, lN0, Nat.reduceLT, Nat.reduceLeDiff, Nat.reduceMul, Nat.reduceSub, Nat.reduceEqDiff, ne_eq, true_implies, false_implies, not_true_eq_false, not_false_eq_true, and_self, and_true, true_and, and_false, false_and, implies_true, if_true, if_false, i00, i10, i01, i11, ob_0, ob_1, tn_2, ln_2, ob_3, tn_4, ln_4, ob_5, tn_6, ln_6, tn_7, ln_7, ob_8, tn_9, ln_9, tn_10, ln_10, tn_11, ln_11, tn_12, ln_12, tn_13, ln_13, tn_14, ln_14, tn_15, ln_15, tn_16, ln_16, tn_17, ln_17, ob_18, tn_19, ln_19, tn_20, ln_20, tn_21, ln_21, tn_22, ln_22, tn_23, ln_23, tn_24, ln_24, tn_25, ln_25, tn_26, ln_26, tn_27, ln_27, ob_28, tn_29, ln_29, tn_30, ln_30, ob_31, tn_32, ln_32, tn_33, ln_33, ob_34, ob_35, tn_36, ln_36, tn_37, ln_37, tn_38, ln_38, ob_39, tn_40, ln_40, tn_41, ln_41, tn_42, ln_42, tn_43, ln_43, tn_44, ln_44, tn_45, ln_45, tn_46, ln_46, tn_47, ln_47, tn_48, ln_48, tn_49, ln_49, tn_50, ln_50, tn_51, ln_51, ob_52, tn_53, ln_53, tn_54, ln_54, tn_55, ln_55, tn_56, ln_56, ob_57, tn_58, ln_58, tn_59, ln_59, tn_60, ln_60, tn_61, ln_61, tn_62, ln_62, tn_63, ln_63, tn_64, ln_64, tn_65, ln_65, ob_66, tn_67, ln_67, tn_68, ln_68, tn_69, ln_69, tn_70, ln_70, tn_71, ln_71, tn_72, ln_72, tn_73, ln_73, ob_74, tn_75, ln_75, tn_76, ln_76, tn_77, ln_77, tn_78, ln_78, tn_79, ln_79, tn_80, ln_80, tn_81, ln_81, tn_82, ln_82, tn_83, ln_83, ob_84, tn_85, ln_85, tn_86, ln_86, tn_87, ln_87, tn_88, ln_88, tn_89, ln_89, tn_90, ln_90, tn_91, ln_91, tn_92, ln_92, tn_93, ln_93, ob_94, tn_95, ln_95, tn_96, ln_96, tn_97, ln_97, tn_98, ln_98, tn_99, ln_99, tn_100, ln_100, tn_101, ln_101, tn_102, ln_102, tn_103, ln_103, ob_104, tn_105, ln_105, tn_106, ln_106, tn_107, ln_107, tn_108, ln_108, tn_109, ln_109, tn_110, ln_110, tn_111, ln_111, tn_112, ln_112, tn_113, ln_113, ob_114, tn_115, ln_115, tn_116, ln_116, tn_117, ln_117, tn_118, ln_118, tn_119, ln_119, tn_120, ln_120, tn_121, ln_121, tn_122, ln_122, tn_123, ln_123, ob_124, tn_125, ln_125, tn_126, ln_126, tn_127, ln_127, tn_128, ln_128, tn_129, ln_129, tn_130, ln_130, tn_131, ln_131, tn_132, ln_132, tn_133, ln_133, ob_134, tn_135, ln_135, tn_136, ln_136, tn_137, ln_137, tn_138, ln_138, tn_139, ln_139, tn_140, ln_140, tn_141, ln_141, tn_142, ln_142, tn_143, ln_143, ob_144, tn_145, ln_145, tn_146, ln_146, tn_147, ln_147, tn_148, ln_148, tn_149, ln_149, tn_150, ln_150, tn_151, ln_151, tn_152, ln_152, tn_153, ln_153, ob_154, tn_155, ln_155, tn_156, ln_156, tn_157, ln_157, tn_158, ln_158, tn_159, ln_159, tn_160, ln_160, tn_161, ln_161, tn_162, ln_162, tn_163, ln_163, ob_164, tn_165, ln_165, tn_166, ln_166, ob_167, tn_168, ln_168, tn_169, ln_169, tn_170, ln_170, tn_171, ln_171, tn_172, ln_172, tn_173, ln_173, tn_174, ln_174, tn_175, ln_175, tn_176, ln_176, ob_177, tn_178, ln_178, tn_179, ln_179, ob_180, tn_181, ln_181, tn_182, ln_182, tn_183, ln_183, tn_184, ln_184, tn_185, ln_185, tn_186, ln_186, tn_187, ln_187, tn_188, ln_188, tn_189, ln_189, tn_190, ln_190, tn_191, ln_191, tn_192, ln_192, tn_193, ln_193, tn_194, ln_194, tn_195, ln_195, tn_196, ln_196, tn_197, ln_197, tn_198, ln_198, tn_199, ln_199, tn_200, ln_200, tn_201, ln_201, tn_202, ln_202, tn_203, ln_203, tn_204, ln_204, tn_205, ln_205, tn_206, ln_206, tn_207, ln_207, tn_208, ln_208, tn_209, ln_209, tn_210, ln_210, tn_211, ln_211, tn_212, ln_212, tn_213, ln_213, tn_214, ln_214, tn_215, ln_215, tn_216, ln_216, tn_217, ln_217, tn_218, ln_218, tn_219, ln_219, tn_220, ln_220, tn_221, ln_221, tn_222, ln_222, tn_223, ln_223, tn_224, ln_224, tn_225, ln_225, tn_226, ln_226, tn_227, ln_227, tn_228, ln_228, tn_229, ln_229, tn_230, ln_230, lx2, lx3, lx4, lx5, lx6, lx7, lx8, lx9, lx10, lx14, lx15, lx16, lx18, lx20, lx24, lx25, lx27, lx32, lx36, lx40, lx41, lx42, lx43, lx45, lx48, lx52, lx54, lx56, lx57, lx58, lx60, lx61, lx62, lx63, lx64, lx66, lx69, lx73, lx80, lx81, lx84, lx85, lx87, lx94, lx96, lx97, lx120, lx128, lx135, lx160, lx162, lx163, lx165, lx200, lx232, lx242, lx243, lx255, lx256, lx320, lx325, lx400, lx405, lx464, lx512, lx600, lx640, lx752, lx900, lx940, lx1000, lx1024, lx1764, lx3360, lx3840, lx5000, lx6400, lx9050, lx9998, lx9999, lx10000, lx25600, lx76800, lx99999, e, List.length_nil]
      exact hP B hF h1 h2
    | cons a r =>
      obtain ⟨e, ⟨ea, ha, er⟩, ed⟩ := h2
      have hl : (a :: r).length = r.length + 1 := List.length_cons
      have hd := dp_le r
      have hdp := dp_pos r
      have el : r.length + 1 - 1 = r.length := by omega
      rw [hl] at e h3 ⊢
      simp (disch := omega) only [k_X12_nots_0, k_X12_nots_54, w_RIII, x_aload, x_dup, x_icmp_ne, x_if_le, x_isub, x_push, x_vret, y_cv3, y_getF, y_getI, y_iald, y_putI, xFT, xbool0, xbool1, Nat.reduceAdd, Nat.zero_add, xgl_0, xgl_s, xgl_n, xst_0, xst_1n, xst_1i, xst_1r, xst_1l, xst_s, set_0, set_s, true_and, and_true, xres, xcat_nil, xcat_i, xcat_r, xcat_l, Nat.add_zero, xble0, xble1, xble2, xble3, xble4, xble5, xble6, xble7, xble8, pk_mul, nI_add, nI_1, nI_leI, nI_ltI, nI_eq, n_in, n_cl, z_eq, z_lt, z_le, z_gt, z_ge, z_qe, o_eq, o_lt, o_le, o_gt, o_ge, vp0, vp1, cl0, cl1, n_sub, n_sub1, n_pm1, n_a0, n_0a, ofn, lN0, Nat.reduceLT, Nat.reduceLeDiff, Nat.reduceMul, Nat.reduceSub, Nat.reduceEqDiff, ne_eq, true_implies, false_implies, not_true_eq_false, not_false_eq_true, and_self, and_true, true_and, and_false, false_and, implies_true, if_true, if_false, i00, i10, i01, i11, ob_0, ob_1, tn_2, ln_2, ob_3, tn_4, ln_4, ob_5, tn_6, ln_6, tn_7, ln_7, ob_8, tn_9, ln_9, tn_10, ln_10, tn_11, ln_11, tn_12, ln_12, tn_13, ln_13, tn_14, ln_14, tn_15, ln_15, tn_16, ln_16, tn_17, ln_17, ob_18, tn_19, ln_19, tn_20, ln_20, tn_21, ln_21, tn_22, ln_22, tn_23, ln_23, tn_24, ln_24, tn_25, ln_25, tn_26, ln_26, tn_27, ln_27, ob_28, tn_29, ln_29, tn_30, ln_30, ob_31, tn_32, ln_32, tn_33, ln_33, ob_34, ob_35, tn_36, ln_36, tn_37, ln_37, tn_38, ln_38, ob_39, tn_40, ln_40, tn_41, ln_41, tn_42, ln_42, tn_43, ln_43, tn_44, ln_44, tn_45, ln_45, tn_46, ln_46, tn_47, ln_47, tn_48, ln_48, tn_49, ln_49, tn_50, ln_50, tn_51, ln_51, ob_52, tn_53, ln_53, tn_54, ln_54, tn_55, ln_55, tn_56, ln_56, ob_57, tn_58, ln_58, tn_59, ln_59, tn_60, ln_60, tn_61, ln_61, tn_62, ln_62, tn_63, ln_63, tn_64, ln_64, tn_65, ln_65, ob_66, tn_67, ln_67, tn_68, ln_68, tn_69, ln_69, tn_70, ln_70, tn_71, ln_71, tn_72, ln_72, tn_73, ln_73, ob_74, tn_75, ln_75, tn_76, ln_76, tn_77, ln_77, tn_78, ln_78, tn_79, ln_79, tn_80, ln_80, tn_81, ln_81, tn_82, ln_82, tn_83, ln_83, ob_84, tn_85, ln_85, tn_86, ln_86, tn_87, ln_87, tn_88, ln_88, tn_89, ln_89, tn_90, ln_90, tn_91, ln_91, tn_92, ln_92, tn_93, ln_93, ob_94, tn_95, ln_95, tn_96, ln_96, tn_97, ln_97, tn_98, ln_98, tn_99, ln_99, tn_100, ln_100, tn_101, ln_101, tn_102, ln_102, tn_103, ln_103, ob_104, tn_105, ln_105, tn_106, ln_106, tn_107, ln_107, tn_108, ln_108, tn_109, ln_109, tn_110, ln_110, tn_111, ln_111, tn_112, ln_112, tn_113, ln_113, ob_114, tn_115, ln_115, tn_116, ln_116, tn_117, ln_117, tn_118, ln_118, tn_119, ln_119, tn_120, ln_120, tn_121, ln_121, tn_122, ln_122, tn_123, ln_123, ob_124, tn_125, ln_125, tn_126, ln_126, tn_127, ln_127, tn_128, ln_128, tn_129, ln_129, tn_130, ln_130, tn_131, ln_131, tn_132, ln_132, tn_133, ln_133, ob_134, tn_135, ln_135, tn_136, ln_136, tn_137, ln_137, tn_138, ln_138, tn_139, ln_139, tn_140, ln_140, tn_141, ln_141, tn_142, ln_142, tn_143, ln_143, ob_144, tn_145, ln_145, tn_146, ln_146, tn_147, ln_147, tn_148, ln_148, tn_149, ln_149, tn_150, ln_150, tn_151, ln_151, tn_152, ln_152, tn_153, ln_153, ob_154, tn_155, ln_155, tn_156, ln_156, tn_157, ln_157, tn_158, ln_158, tn_159, ln_159, tn_160, ln_160, tn_161, ln_161, tn_162, ln_162, tn_163, ln_163, ob_164, tn_165, ln_165, tn_166, ln_166, ob_167, tn_168, ln_168, tn_169, ln_169, tn_170, ln_170, tn_171, ln_171, tn_172, ln_172, tn_173, ln_173, tn_174, ln_174, tn_175, ln_175, tn_176, ln_176, ob_177, tn_178, ln_178, tn_179, ln_179, ob_180, tn_181, ln_181, tn_182, ln_182, tn_183, ln_183, tn_184, ln_184, tn_185, ln_185, tn_186, ln_186, tn_187, ln_187, tn_188, ln_188, tn_189, ln_189, tn_190, ln_190, tn_191, ln_191, tn_192, ln_192, tn_193, ln_193, tn_194, ln_194, tn_195, ln_195, tn_196, ln_196, tn_197, ln_197, tn_198, ln_198, tn_199, ln_199, tn_200, ln_200, tn_201, ln_201, tn_202, ln_202, tn_203, ln_203, tn_204, ln_204, tn_205, ln_205, tn_206, ln_206, tn_207, ln_207, tn_208, ln_208, tn_209, ln_209, tn_210, ln_210, tn_211, ln_211, tn_212, ln_212, tn_213, ln_213, tn_214, ln_214, tn_215, ln_215, tn_216, ln_216, tn_217, ln_217, tn_218, ln_218, tn_219, ln_219, tn_220, ln_220, tn_221, ln_221, tn_222, ln_222, tn_223, ln_223, tn_224, ln_224, tn_225, ln_225, tn_226, ln_226, tn_227, ln_227, tn_228, ln_228, tn_229, ln_229, tn_230, ln_230, lx2, lx3, lx4, lx5, lx6, lx7, lx8, lx9, lx10, lx14, lx15, lx16, lx18, lx20, lx24, lx25, lx27, lx32, lx36, lx40, lx41, lx42, lx43, lx45, lx48, lx52, lx54, lx56, lx57, lx58, lx60, lx61, lx62, lx63, lx64, lx66, lx69, lx73, lx80, lx81, lx84, lx85, lx87, lx94, lx96, lx97, lx120, lx128, lx135, lx160, lx162, lx163, lx165, lx200, lx232, lx242, lx243, lx255, lx256, lx320, lx325, lx400, lx405, lx464, lx512, lx600, lx640, lx752, lx900, lx940, lx1000, lx1024, lx1764, lx3360, lx3840, lx5000, lx6400, lx9050, lx9998, lx9999, lx10000, lx25600, lx76800, lx99999, si_ne, si_eq, sl_ne, sl_eq, xl_si, xi_sl, sA_ne, sA_eq, xl_sA, e, ea, Nat.add_sub_cancel]
      refine ⟨by omega, fun z => ?_, fun z => ?_⟩
      · have e2 : ntF (a :: r) s = (s, a :: r) := by rw [ntF, if_neg z]
        rw [e2] at hP
        exact hP B hF h1 ⟨by rw [hl]; exact e, ⟨ea, ha, er⟩, ed⟩
      · subst z
        have e2 : ntF (20 :: r) s = ntF r (pC s (20, 0, 0)) := by rw [ntF, if_pos rfl]
        rw [e2] at hP
        have e3 : dp (20 :: r) = dp r + 1 := by simp [dp]
        have e4 : xi B 180 86 - 1 = nI (dp r) := by rw [ed, e3, n_sub1 (by omega), Nat.add_sub_cancel]
        rw [e4]
        have f1 : fr (fun c k => c = 180 ∧ (k = 85 ∨ k = 86)) B (xsi (xsi B 180 85 (nI r.length)) 180 86 (nI (dp r))) := fr_si (fr_si fr_rf (by omega)) (by omega)
        refine code_U (b := 0) (c := 0) (cdU_fr h1 f1 (by omega)) (by omega) fun C hC hc => ?_
        simp (disch := omega) only [k_X12_nots_0, k_X12_nots_54, w_RIII, x_aload, x_dup, x_icmp_ne, x_if_le, x_isub, x_push, x_vret, y_cv3, y_getF, y_getI, y_iald, y_putI, xFT, xbool0, xbool1, Nat.reduceAdd, Nat.zero_add, xgl_0, xgl_s, xgl_n, xst_0, xst_1n, xst_1i, xst_1r, xst_1l, xst_s, set_0, set_s, true_and, and_true, xres, xcat_nil, xcat_i, xcat_r, xcat_l, Nat.add_zero, xble0, xble1, xble2, xble3, xble4, xble5, xble6, xble7, xble8, pk_mul, nI_add, nI_1, nI_leI, nI_ltI, nI_eq, n_in, n_cl, z_eq, z_lt, z_le, z_gt, z_ge, z_qe, o_eq, o_lt, o_le, o_gt, o_ge, vp0, vp1, cl0, cl1, n_sub, n_sub1, n_pm1, n_a0, n_0a, ofn, lN0, Nat.reduceLT, Nat.reduceLeDiff, Nat.reduceMul, Nat.reduceSub, Nat.reduceEqDiff, ne_eq, true_implies, false_implies, not_true_eq_false, not_false_eq_true, and_self, and_true, true_and, and_false, false_and, implies_true, if_true, if_false, i00, i10, i01, i11, ob_0, ob_1, tn_2, ln_2, ob_3, tn_4, ln_4, ob_5, tn_6, ln_6, tn_7, ln_7, ob_8, tn_9, ln_9, tn_10, ln_10, tn_11, ln_11, tn_12, ln_12, tn_13, ln_13, tn_14, ln_14, tn_15, ln_15, tn_16, ln_16, tn_17, ln_17, ob_18, tn_19, ln_19, tn_20, ln_20, tn_21, ln_21, tn_22, ln_22, tn_23, ln_23, tn_24, ln_24, tn_25, ln_25, tn_26, ln_26, tn_27, ln_27, ob_28, tn_29, ln_29, tn_30, ln_30, ob_31, tn_32, ln_32, tn_33, ln_33, ob_34, ob_35, tn_36, ln_36, tn_37, ln_37, tn_38, ln_38, ob_39, tn_40, ln_40, tn_41, ln_41, tn_42, ln_42, tn_43, ln_43, tn_44, ln_44, tn_45, ln_45, tn_46, ln_46, tn_47, ln_47, tn_48, ln_48, tn_49, ln_49, tn_50, ln_50, tn_51, ln_51, ob_52, tn_53, ln_53, tn_54, ln_54, tn_55, ln_55, tn_56, ln_56, ob_57, tn_58, ln_58, tn_59, ln_59, tn_60, ln_60, tn_61, ln_61, tn_62, ln_62, tn_63, ln_63, tn_64, ln_64, tn_65, ln_65, ob_66, tn_67, ln_67, tn_68, ln_68, tn_69, ln_69, tn_70, ln_70, tn_71, ln_71, tn_72, ln_72, tn_73, ln_73, ob_74, tn_75, ln_75, tn_76, ln_76, tn_77, ln_77, tn_78, ln_78, tn_79, ln_79, tn_80, ln_80, tn_81, ln_81, tn_82, ln_82, tn_83, ln_83, ob_84, tn_85, ln_85, tn_86, ln_86, tn_87, ln_87, tn_88, ln_88, tn_89, ln_89, tn_90, ln_90, tn_91, ln_91, tn_92, ln_92, tn_93, ln_93, ob_94, tn_95, ln_95, tn_96, ln_96, tn_97, ln_97, tn_98, ln_98, tn_99, ln_99, tn_100, ln_100, tn_101, ln_101, tn_102, ln_102, tn_103, ln_103, ob_104, tn_105, ln_105, tn_106, ln_106, tn_107, ln_107, tn_108, ln_108, tn_109, ln_109, tn_110, ln_110, tn_111, ln_111, tn_112, ln_112, tn_113, ln_113, ob_114, tn_115, ln_115, tn_116, ln_116, tn_117, ln_117, tn_118, ln_118, tn_119, ln_119, tn_120, ln_120, tn_121, ln_121, tn_122, ln_122, tn_123, ln_123, ob_124, tn_125, ln_125, tn_126, ln_126, tn_127, ln_127, tn_128, ln_128, tn_129, ln_129, tn_130, ln_130, tn_131, ln_131, tn_132, ln_132, tn_133, ln_133, ob_134, tn_135, ln_135, tn_136, ln_136, tn_137, ln_137, tn_138, ln_138, tn_139, ln_139, tn_140, ln_140, tn_141, ln_141, tn_142, ln_142, tn_143, ln_143, ob_144, tn_145, ln_145, tn_146, ln_146, tn_147, ln_147, tn_148, ln_148, tn_149, ln_149, tn_150, ln_150, tn_151, ln_151, tn_152, ln_152, tn_153, ln_153, ob_154, tn_155, ln_155, tn_156, ln_156, tn_157, ln_157, tn_158, ln_158, tn_159, ln_159, tn_160, ln_160, tn_161, ln_161, tn_162, ln_162, tn_163, ln_163, ob_164, tn_165, ln_165, tn_166, ln_166, ob_167, tn_168, ln_168, tn_169, ln_169, tn_170, ln_170, tn_171, ln_171, tn_172, ln_172, tn_173, ln_173, tn_174, ln_174, tn_175, ln_175, tn_176, ln_176, ob_177, tn_178, ln_178, tn_179, ln_179, ob_180, tn_181, ln_181, tn_182, ln_182, tn_183, ln_183, tn_184, ln_184, tn_185, ln_185, tn_186, ln_186, tn_187, ln_187, tn_188, ln_188, tn_189, ln_189, tn_190, ln_190, tn_191, ln_191, tn_192, ln_192, tn_193, ln_193, tn_194, ln_194, tn_195, ln_195, tn_196, ln_196, tn_197, ln_197, tn_198, ln_198, tn_199, ln_199, tn_200, ln_200, tn_201, ln_201, tn_202, ln_202, tn_203, ln_203, tn_204, ln_204, tn_205, ln_205, tn_206, ln_206, tn_207, ln_207, tn_208, ln_208, tn_209, ln_209, tn_210, ln_210, tn_211, ln_211, tn_212, ln_212, tn_213, ln_213, tn_214, ln_214, tn_215, ln_215, tn_216, ln_216, tn_217, ln_217, tn_218, ln_218, tn_219, ln_219, tn_220, ln_220, tn_221, ln_221, tn_222, ln_222, tn_223, ln_223, tn_224, ln_224, tn_225, ln_225, tn_226, ln_226, tn_227, ln_227, tn_228, ln_228, tn_229, ln_229, tn_230, ln_230, lx2, lx3, lx4, lx5, lx6, lx7, lx8, lx9, lx10, lx14, lx15, lx16, lx18, lx20, lx24, lx25, lx27, lx32, lx36, lx40, lx41, lx42, lx43, lx45, lx48, lx52, lx54, lx56, lx57, lx58, lx60, lx61, lx62, lx63, lx64, lx66, lx69, lx73, lx80, lx81, lx84, lx85, lx87, lx94, lx96, lx97, lx120, lx128, lx135, lx160, lx162, lx163, lx165, lx200, lx232, lx242, lx243, lx255, lx256, lx320, lx325, lx400, lx405, lx464, lx512, lx600, lx640, lx752, lx900, lx940, lx1000, lx1024, lx1764, lx3360, lx3840, lx5000, lx6400, lx9050, lx9998, lx9999, lx10000, lx25600, lx76800, lx99999]
        have f2 := fr_tr (fr_mono f1 (S2 := SNt) (by unfold SNt; omega)) (fr_mono hC (by unfold SCd SNt; omega))
        refine xB1 (b := r.length) (by omega) ⟨_, r, hc, ⟨?_, stU_fr hC (by unfold SCd; omega) (stU_fr f1 (by omega) er), ?_⟩, ?_, fr_tr hF f2, hP, rfl, rfl, rfl⟩
        · rw [fr_i hC (by unfold SCd; omega), si_ne (by omega), si_eq]
        · rw [fr_i hC (by unfold SCd; omega), si_eq]
        · show s.1 + 1 + r.length ≤ 45; omega
def SJn (c k : Nat) : Prop := c = 184 ∨ (c = 180 ∧ (k = 83 ∨ k = 85))
def f_X12_joins (q : Nat) (x : Int32) (A : xH) (P : xP) : Prop := q = 180 ∧ ∃ z s σ, x = nI z ∧ (z = 21 ∨ z = 22) ∧ cdU A s ∧ skU A σ ∧ s.1 + σ.length ≤ 45 ∧ ∀ B, fr SJn A B → cdU B (jnF z σ s).1 → skU B (jnF z σ s).2 → P none B
def jnI (x : Int32) (A : xH) (P : xP) : xM → xK := fun μ L st B => ∃ z s σ, x = nI z ∧ (z = 21 ∨ z = 22) ∧ cdU B s ∧ skU B σ ∧ s.1 + σ.length ≤ 45 ∧ fr SJn A B ∧ (∀ B, fr SJn A B → cdU B (jnF z σ s).1 → skU B (jnF z σ s).2 → P none B) ∧ st = [] ∧ L = [some (.ref 180), some (.int x)] ∧ μ = (σ.length, 0, 0)
set_option maxRecDepth 20000 in
theorem con_X12_joins (l : Launch) : xCon l yX12_joins cX12_joins 2 none 1 23 xN xN 0 xFT xFT (w_RI f_X12_joins) := by
  refine m_X12_joins (I0 := fun q x A P => jnI x A P) ?_ ?_
  · rintro q x A P ⟨rfl, z, s, σ, hx, hz, h1, h2, h3, hP⟩
    exact xE0 (σ.length, 0, 0) ⟨z, s, σ, hx, hz, h1, h2, h3, fr_rf, hP, rfl, rfl, rfl⟩
  · rintro q x A P - μ L st B ⟨z, s, σ, rfl, hz, h1, h2, h3, hF, hP, rfl, rfl, rfl⟩
    cases σ with
    | nil =>
      have e := h2.1
      simp (disch := omega) only [k_X12_joins_0, k_X12_joins_73, w_RIII, x_aload, x_dup, x_icmp_eq, x_icmp_ne, x_if_le, x_iload, x_isub, x_push, x_vret, y_cv3, y_getF, y_getI, y_iald, y_putI, xFT, xbool0, xbool1, Nat.reduceAdd, Nat.zero_add, xgl_0, xgl_s, xgl_n, xst_0, xst_1n, xst_1i, xst_1r, xst_1l, xst_s, set_0, set_s, true_and, and_true, xres, xcat_nil, xcat_i, xcat_r, xcat_l, Nat.add_zero, xble0, xble1, xble2, xble3, xble4, xble5, xble6, xble7, xble8, pk_mul, nI_add, nI_1, nI_leI, nI_ltI, nI_eq, n_in, n_cl, z_eq, z_lt, z_le, z_gt, z_ge, z_qe, o_eq, o_lt, o_le, o_gt, o_ge, vp0, vp1, cl0, cl1, n_sub, n_sub1, n_pm1, n_a0, n_0a, ofn, lN0, Nat.reduceLT, Nat.reduceLeDiff, Nat.reduceMul, Nat.reduceSub, Nat.reduceEqDiff, ne_eq, true_implies, false_implies, not_true_eq_false, not_false_eq_true, and_self, and_true, true_and, and_false, false_and, implies_true, if_true, if_false, i00, i10, i01, i11, ob_0, ob_1, tn_2, ln_2, ob_3, tn_4, ln_4, ob_5, tn_6, ln_6, tn_7, ln_7, ob_8, tn_9, ln_9, tn_10, ln_10, tn_11, ln_11, tn_12, ln_12, tn_13, ln_13, tn_14, ln_14, tn_15, ln_15, tn_16, ln_16, tn_17, ln_17, ob_18, tn_19, ln_19, tn_20, ln_20, tn_21, ln_21, tn_22, ln_22, tn_23, ln_23, tn_24, ln_24, tn_25, ln_25, tn_26, ln_26, tn_27, ln_27, ob_28, tn_29, ln_29, tn_30, ln_30, ob_31, tn_32, ln_32, tn_33, ln_33, ob_34, ob_35, tn_36, ln_36, tn_37, ln_37, tn_38, ln_38, ob_39, tn_40, ln_40, tn_41, ln_41, tn_42, ln_42, tn_43, ln_43, tn_44, ln_44, tn_45, ln_45, tn_46, ln_46, tn_47, ln_47, tn_48, ln_48, tn_49, ln_49, tn_50, ln_50, tn_51, ln_51, ob_52, tn_53, ln_53, tn_54, ln_54, tn_55, ln_55, tn_56, ln_56, ob_57, tn_58, ln_58, tn_59, ln_59, tn_60, ln_60, tn_61, ln_61, tn_62, ln_62, tn_63, ln_63, tn_64, ln_64, tn_65, ln_65, ob_66, tn_67, ln_67, tn_68, ln_68, tn_69, ln_69, tn_70, ln_70, tn_71, ln_71, tn_72, ln_72, tn_73, ln_73, ob_74, tn_75, ln_75, tn_76, ln_76, tn_77, ln_77, tn_78, ln_78, tn_79, ln_79, tn_80, ln_80, tn_81, ln_81, tn_82, ln_82, tn_83, ln_83, ob_84, tn_85, ln_85, tn_86, ln_86, tn_87, ln_87, tn_88, ln_88, tn_89, ln_89, tn_90, ln_90, tn_91, ln_91, tn_92, ln_92, tn_93, ln_93, ob_94, tn_95, ln_95, tn_96, ln_96, tn_97, ln_97, tn_98, ln_98, tn_99, ln_99, tn_100, ln_100, tn_101, ln_101, tn_102, ln_102, tn_103, ln_103, ob_104, tn_105, ln_105, tn_106, ln_106, tn_107, ln_107, tn_108, ln_108, tn_109, ln_109, tn_110, ln_110, tn_111, ln_111, tn_112, ln_112, tn_113, ln_113, ob_114, tn_115, ln_115, tn_116, ln_116, tn_117, ln_117, tn_118, ln_118, tn_119, ln_119, tn_120, ln_120, tn_121, ln_121, tn_122, ln_122, tn_123, ln_123, ob_124, tn_125, ln_125, tn_126, ln_126, tn_127, ln_127, tn_128, ln_128, tn_129, ln_129, tn_130, ln_130, tn_131, ln_131, tn_132, ln_132, tn_133, ln_133, ob_134, tn_135, ln_135, tn_136, ln_136, tn_137, ln_137, tn_138, ln_138, tn_139, ln_139, tn_140, ln_140, tn_141, ln_141, tn_142, ln_142, tn_143, ln_143, ob_144, tn_145, ln_145, tn_146, ln_146, tn_147, ln_147, tn_148, ln_148, tn_149, ln_149, tn_150, ln_150, tn_151, ln_151, tn_152, ln_152, tn_153, ln_153, ob_154, tn_155, ln_155, tn_156, ln_156, tn_157, ln_157, tn_158, ln_158, tn_159, ln_159, tn_160, ln_160, tn_161, ln_161, tn_162, ln_162, tn_163, ln_163, ob_164, tn_165, ln_165, tn_166, ln_166, ob_167, tn_168, ln_168, tn_169, ln_169, tn_170, ln_170, tn_171, ln_171, tn_172, ln_172, tn_173, ln_173, tn_174, ln_174, tn_175, ln_175, tn_176, ln_176, ob_177, tn_178, ln_178, tn_179, ln_179, ob_180, tn_181, ln_181, tn_182, ln_182, tn_183, ln_183, tn_184, ln_184, tn_185, ln_185, tn_186, ln_186, tn_187, ln_187, tn_188, ln_188, tn_189, ln_189, tn_190, ln_190, tn_191, ln_191, tn_192, ln_192, tn_193, ln_193, tn_194, ln_194, tn_195, ln_195, tn_196, ln_196, tn_197, ln_197, tn_198, ln_198, tn_199, ln_199, tn_200, ln_200, tn_201, ln_201, tn_202, ln_202, tn_203, ln_203, tn_204, ln_204, tn_205, ln_205, tn_206, ln_206, tn_207, ln_207, tn_208, ln_208, tn_209, ln_209, tn_210, ln_210, tn_211, ln_211, tn_212, ln_212, tn_213, ln_213, tn_214, ln_214, tn_215, ln_215, tn_216, ln_216, tn_217, ln_217, tn_218, ln_218, tn_219, ln_219, tn_220, ln_220, tn_221, ln_221, tn_222, ln_222, tn_223, ln_223, tn_224, ln_224, tn_225, ln_225, tn_226, ln_226, tn_227, ln_227, tn_228, ln_228, tn_229, ln_229, tn_230, ln_230, lx2, lx3, lx4, lx5, lx6, lx7, lx8, lx9, lx10, lx14, lx15, lx16, lx18, lx20, lx24, lx25, lx27, lx32, lx36, lx40, lx41, lx42, lx43, lx45, lx48, lx52, lx54, lx56, lx57, lx58, lx60, lx61, lx62, lx63, lx64, lx66, lx69, lx73, lx80, lx81, lx84, lx85, lx87, lx94, lx96, lx97, lx120, lx128, lx135, lx160, lx162, lx163, lx165, lx200, lx232, lx242, lx243, lx255, lx256, lx320, lx325, lx400, lx405, lx464, lx512, lx600, lx640, lx752, lx900, lx940, lx1000, lx1024, lx1764, lx3360, lx3840, lx5000, lx6400, lx9050, lx9998, lx9999, lx10000, lx25600, lx76800, lx99999, e, List.length_nil]
      exact hP B hF h1 h2
    | cons a r =>
      obtain ⟨e, ⟨ea, ha, er⟩, ed⟩ := h2
      have hl : (a :: r).length = r.length + 1 := List.length_cons
      have hd := dp_le r
      have el : r.length + 1 - 1 = r.length := by omega
      have fin : (a = 21 ∨ (a = 22 ∧ z = 22)) → k_X12_joins_45 P (xB (jnI (nI z) A P) ((a :: r).length, 0, 0)) [some (.ref 180), some (.int (nI z))] [] B := fun q => by
        have e2 : jnF z (a :: r) s = jnF z r (pC s (a, 0, 0)) := by rw [jnF, if_pos q]
        rw [e2] at hP
        have e3 : dp (a :: r) = dp r := by
          simp only [dp]; rw [if_neg (by omega)]
        rw [e3] at ed
        rw [hl] at e h3 ⊢
        simp (disch := omega) only [k_X12_joins_0, k_X12_joins_45, k_X12_joins_73, w_RIII, x_aload, x_dup, x_icmp_eq, x_icmp_ne, x_if_le, x_iload, x_isub, x_push, x_vret, y_cv3, y_getF, y_getI, y_iald, y_putI, xFT, xbool0, xbool1, Nat.reduceAdd, Nat.zero_add, xgl_0, xgl_s, xgl_n, xst_0, xst_1n, xst_1i, xst_1r, xst_1l, xst_s, set_0, set_s, true_and, and_true, xres, xcat_nil, xcat_i, xcat_r, xcat_l, Nat.add_zero, xble0, xble1, xble2, xble3, xble4, xble5, xble6, xble7, xble8, pk_mul, nI_add, nI_1, nI_leI, nI_ltI, nI_eq, n_in, n_cl, z_eq, z_lt, z_le, z_gt, z_ge, z_qe, o_eq, o_lt, o_le, o_gt, o_ge, vp0, vp1, cl0, cl1, n_sub, n_sub1, n_pm1, n_a0, n_0a, ofn, lN0, Nat.reduceLT, Nat.reduceLeDiff, Nat.reduceMul, Nat.reduceSub, Nat.reduceEqDiff, ne_eq, true_implies, false_implies, not_true_eq_false, not_false_eq_true, and_self, and_true, true_and, and_false, false_and, implies_true, if_true, if_false, i00, i10, i01, i11, ob_0, ob_1, tn_2, ln_2, ob_3, tn_4, ln_4, ob_5, tn_6, ln_6, tn_7, ln_7, ob_8, tn_9, ln_9, tn_10, ln_10, tn_11, ln_11, tn_12, ln_12, tn_13, ln_13, tn_14, ln_14, tn_15, ln_15, tn_16, ln_16, tn_17, ln_17, ob_18, tn_19, ln_19, tn_20, ln_20, tn_21, ln_21, tn_22, ln_22, tn_23, ln_23, tn_24, ln_24, tn_25, ln_25, tn_26, ln_26, tn_27, ln_27, ob_28, tn_29, ln_29, tn_30, ln_30, ob_31, tn_32, ln_32, tn_33, ln_33, ob_34, ob_35, tn_36, ln_36, tn_37, ln_37, tn_38, ln_38, ob_39, tn_40, ln_40, tn_41, ln_41, tn_42, ln_42, tn_43, ln_43, tn_44, ln_44, tn_45, ln_45, tn_46, ln_46, tn_47, ln_47, tn_48, ln_48, tn_49, ln_49, tn_50, ln_50, tn_51, ln_51, ob_52, tn_53, ln_53, tn_54, ln_54, tn_55, ln_55, tn_56, ln_56, ob_57, tn_58, ln_58, tn_59, ln_59, tn_60, ln_60, tn_61, ln_61, tn_62, ln_62, tn_63, ln_63, tn_64, ln_64, tn_65, ln_65, ob_66, tn_67, ln_67, tn_68, ln_68, tn_69, ln_69, tn_70, ln_70, tn_71, ln_71, tn_72, ln_72, tn_73, ln_73, ob_74, tn_75, ln_75, tn_76, ln_76, tn_77, ln_77, tn_78, ln_78, tn_79, ln_79, tn_80, ln_80, tn_81, ln_81, tn_82, ln_82, tn_83, ln_83, ob_84, tn_85, ln_85, tn_86, ln_86, tn_87, ln_87, tn_88, ln_88, tn_89, ln_89, tn_90, ln_90, tn_91, ln_91, tn_92, ln_92, tn_93, ln_93, ob_94, tn_95, ln_95, tn_96, ln_96, tn_97, ln_97, tn_98, ln_98, tn_99, ln_99, tn_100, ln_100, tn_101, ln_101, tn_102, ln_102, tn_103, ln_103, ob_104, tn_105, ln_105, tn_106, ln_106, tn_107, ln_107, tn_108, ln_108, tn_109, ln_109, tn_110, ln_110, tn_111, ln_111, tn_112, ln_112, tn_113, ln_113, ob_114, tn_115, ln_115, tn_116, ln_116, tn_117, ln_117, tn_118, ln_118, tn_119, ln_119, tn_120, ln_120, tn_121, ln_121, tn_122, ln_122, tn_123, ln_123, ob_124, tn_125, ln_125, tn_126, ln_126, tn_127, ln_127, tn_128, ln_128, tn_129, ln_129, tn_130, ln_130, tn_131, ln_131, tn_132, ln_132, tn_133, ln_133, ob_134, tn_135, ln_135, tn_136, ln_136, tn_137, ln_137, tn_138, ln_138, tn_139, ln_139, tn_140, ln_140, tn_141, ln_141, tn_142, ln_142, tn_143, ln_143, ob_144, tn_145, ln_145, tn_146, ln_146, tn_147, ln_147, tn_148, ln_148, tn_149, ln_149, tn_150, ln_150, tn_151, ln_151, tn_152, ln_152, tn_153, ln_153, ob_154, tn_155, ln_155, tn_156, ln_156, tn_157, ln_157, tn_158, ln_158, tn_159, ln_159, tn_160, ln_160, tn_161, ln_161, tn_162, ln_162, tn_163, ln_163, ob_164, tn_165, ln_165, tn_166, ln_166, ob_167, tn_168, ln_168, tn_169, ln_169, tn_170, ln_170, tn_171, ln_171, tn_172, ln_172, tn_173, ln_173, tn_174, ln_174, tn_175, ln_175, tn_176, ln_176, ob_177, tn_178, ln_178, tn_179, ln_179, ob_180, tn_181, ln_181, tn_182, ln_182, tn_183, ln_183, tn_184, ln_184, tn_185, ln_185, tn_186, ln_186, tn_187, ln_187, tn_188, ln_188, tn_189, ln_189, tn_190, ln_190, tn_191, ln_191, tn_192, ln_192, tn_193, ln_193, tn_194, ln_194, tn_195, ln_195, tn_196, ln_196, tn_197, ln_197, tn_198, ln_198, tn_199, ln_199, tn_200, ln_200, tn_201, ln_201, tn_202, ln_202, tn_203, ln_203, tn_204, ln_204, tn_205, ln_205, tn_206, ln_206, tn_207, ln_207, tn_208, ln_208, tn_209, ln_209, tn_210, ln_210, tn_211, ln_211, tn_212, ln_212, tn_213, ln_213, tn_214, ln_214, tn_215, ln_215, tn_216, ln_216, tn_217, ln_217, tn_218, ln_218, tn_219, ln_219, tn_220, ln_220, tn_221, ln_221, tn_222, ln_222, tn_223, ln_223, tn_224, ln_224, tn_225, ln_225, tn_226, ln_226, tn_227, ln_227, tn_228, ln_228, tn_229, ln_229, tn_230, ln_230, lx2, lx3, lx4, lx5, lx6, lx7, lx8, lx9, lx10, lx14, lx15, lx16, lx18, lx20, lx24, lx25, lx27, lx32, lx36, lx40, lx41, lx42, lx43, lx45, lx48, lx52, lx54, lx56, lx57, lx58, lx60, lx61, lx62, lx63, lx64, lx66, lx69, lx73, lx80, lx81, lx84, lx85, lx87, lx94, lx96, lx97, lx120, lx128, lx135, lx160, lx162, lx163, lx165, lx200, lx232, lx242, lx243, lx255, lx256, lx320, lx325, lx400, lx405, lx464, lx512, lx600, lx640, lx752, lx900, lx940, lx1000, lx1024, lx1764, lx3360, lx3840, lx5000, lx6400, lx9050, lx9998, lx9999, lx10000, lx25600, lx76800, lx99999, si_ne, si_eq, sl_ne, sl_eq, xl_si, xi_sl, sA_ne, sA_eq, xl_sA, e, ea, Nat.add_sub_cancel]
        refine ⟨by omega, ?_⟩
        have f1 : fr (fun c k => c = 180 ∧ k = 85) B (xsi B 180 85 (nI r.length)) := fr_si fr_rf (by omega)
        refine code_U (b := 0) (c := 0) (cdU_fr h1 f1 (by omega)) (by omega) fun C hC hc => ?_
        simp (disch := omega) only [k_X12_joins_0, k_X12_joins_45, k_X12_joins_73, w_RIII, x_aload, x_dup, x_icmp_eq, x_icmp_ne, x_if_le, x_iload, x_isub, x_push, x_vret, y_cv3, y_getF, y_getI, y_iald, y_putI, xFT, xbool0, xbool1, Nat.reduceAdd, Nat.zero_add, xgl_0, xgl_s, xgl_n, xst_0, xst_1n, xst_1i, xst_1r, xst_1l, xst_s, set_0, set_s, true_and, and_true, xres, xcat_nil, xcat_i, xcat_r, xcat_l, Nat.add_zero, xble0, xble1, xble2, xble3, xble4, xble5, xble6, xble7, xble8, pk_mul, nI_add, nI_1, nI_leI, nI_ltI, nI_eq, n_in, n_cl, z_eq, z_lt, z_le, z_gt, z_ge, z_qe, o_eq, o_lt, o_le, o_gt, o_ge, vp0, vp1, cl0, cl1, n_sub, n_sub1, n_pm1, n_a0, n_0a, ofn, lN0, Nat.reduceLT, Nat.reduceLeDiff, Nat.reduceMul, Nat.reduceSub, Nat.reduceEqDiff, ne_eq, true_implies, false_implies, not_true_eq_false, not_false_eq_true, and_self, and_true, true_and, and_false, false_and, implies_true, if_true, if_false, i00, i10, i01, i11, ob_0, ob_1, tn_2, ln_2, ob_3, tn_4, ln_4, ob_5, tn_6, ln_6, tn_7, ln_7, ob_8, tn_9, ln_9, tn_10, ln_10, tn_11, ln_11, tn_12, ln_12, tn_13, ln_13, tn_14, ln_14, tn_15, ln_15, tn_16, ln_16, tn_17, ln_17, ob_18, tn_19, ln_19, tn_20, ln_20, tn_21, ln_21, tn_22, ln_22, tn_23, ln_23, tn_24, ln_24, tn_25, ln_25, tn_26, ln_26, tn_27, ln_27, ob_28, tn_29, ln_29, tn_30, ln_30, ob_31, tn_32, ln_32, tn_33, ln_33, ob_34, ob_35, tn_36, ln_36, tn_37, ln_37, tn_38, ln_38, ob_39, tn_40, ln_40, tn_41, ln_41, tn_42, ln_42, tn_43, ln_43, tn_44, ln_44, tn_45, ln_45, tn_46, ln_46, tn_47, ln_47, tn_48, ln_48, tn_49, ln_49, tn_50, ln_50, tn_51, ln_51, ob_52, tn_53, ln_53, tn_54, ln_54, tn_55, ln_55, tn_56, ln_56, ob_57, tn_58, ln_58, tn_59, ln_59, tn_60, ln_60, tn_61, ln_61, tn_62, ln_62, tn_63, ln_63, tn_64, ln_64, tn_65, ln_65, ob_66, tn_67, ln_67, tn_68, ln_68, tn_69, ln_69, tn_70, ln_70, tn_71, ln_71, tn_72, ln_72, tn_73, ln_73, ob_74, tn_75, ln_75, tn_76, ln_76, tn_77, ln_77, tn_78, ln_78, tn_79, ln_79, tn_80, ln_80, tn_81, ln_81, tn_82, ln_82, tn_83, ln_83, ob_84, tn_85, ln_85, tn_86, ln_86, tn_87, ln_87, tn_88, ln_88, tn_89, ln_89, tn_90, ln_90, tn_91, ln_91, tn_92, ln_92, tn_93, ln_93, ob_94, tn_95, ln_95, tn_96, ln_96, tn_97, ln_97, tn_98, ln_98, tn_99, ln_99, tn_100, ln_100, tn_101, ln_101, tn_102, ln_102, tn_103, ln_103, ob_104, tn_105, ln_105, tn_106, ln_106, tn_107, ln_107, tn_108, ln_108, tn_109, ln_109, tn_110, ln_110, tn_111, ln_111, tn_112, ln_112, tn_113, ln_113, ob_114, tn_115, ln_115, tn_116, ln_116, tn_117, ln_117, tn_118, ln_118, tn_119, ln_119, tn_120, ln_120, tn_121, ln_121, tn_122, ln_122, tn_123, ln_123, ob_124, tn_125, ln_125, tn_126, ln_126, tn_127, ln_127, tn_128, ln_128, tn_129, ln_129, tn_130, ln_130, tn_131, ln_131, tn_132, ln_132, tn_133, ln_133, ob_134, tn_135, ln_135, tn_136, ln_136, tn_137, ln_137, tn_138, ln_138, tn_139, ln_139, tn_140, ln_140, tn_141, ln_141, tn_142, ln_142, tn_143, ln_143, ob_144, tn_145, ln_145, tn_146, ln_146, tn_147, ln_147, tn_148, ln_148, tn_149, ln_149, tn_150, ln_150, tn_151, ln_151, tn_152, ln_152, tn_153, ln_153, ob_154, tn_155, ln_155, tn_156, ln_156, tn_157, ln_157, tn_158, ln_158, tn_159, ln_159, tn_160, ln_160, tn_161, ln_161, tn_162, ln_162, tn_163, ln_163, ob_164, tn_165, ln_165, tn_166, ln_166, ob_167, tn_168, ln_168, tn_169, ln_169, tn_170, ln_170, tn_171, ln_171, tn_172, ln_172, tn_173, ln_173, tn_174, ln_174, tn_175, ln_175, tn_176, ln_176, ob_177, tn_178, ln_178, tn_179, ln_179, ob_180, tn_181, ln_181, tn_182, ln_182, tn_183, ln_183, tn_184, ln_184, tn_185, ln_185, tn_186, ln_186, tn_187, ln_187, tn_188, ln_188, tn_189, ln_189, tn_190, ln_190, tn_191, ln_191, tn_192, ln_192, tn_193, ln_193, tn_194, ln_194, tn_195, ln_195, tn_196, ln_196, tn_197, ln_197, tn_198, ln_198, tn_199, ln_199, tn_200, ln_200, tn_201, ln_201, tn_202, ln_202, tn_203, ln_203, tn_204, ln_204, tn_205, ln_205, tn_206, ln_206, tn_207, ln_207, tn_208, ln_208, tn_209, ln_209, tn_210, ln_210, tn_211, ln_211, tn_212, ln_212, tn_213, ln_213, tn_214, ln_214, tn_215, ln_215, tn_216, ln_216, tn_217, ln_217, tn_218, ln_218, tn_219, ln_219, tn_220, ln_220, tn_221, ln_221, tn_222, ln_222, tn_223, ln_223, tn_224, ln_224, tn_225, ln_225, tn_226, ln_226, tn_227, ln_227, tn_228, ln_228, tn_229, ln_229, tn_230, ln_230, lx2, lx3, lx4, lx5, lx6, lx7, lx8, lx9, lx10, lx14, lx15, lx16, lx18, lx20, lx24, lx25, lx27, lx32, lx36, lx40, lx41, lx42, lx43, lx45, lx48, lx52, lx54, lx56, lx57, lx58, lx60, lx61, lx62, lx63, lx64, lx66, lx69, lx73, lx80, lx81, lx84, lx85, lx87, lx94, lx96, lx97, lx120, lx128, lx135, lx160, lx162, lx163, lx165, lx200, lx232, lx242, lx243, lx255, lx256, lx320, lx325, lx400, lx405, lx464, lx512, lx600, lx640, lx752, lx900, lx940, lx1000, lx1024, lx1764, lx3360, lx3840, lx5000, lx6400, lx9050, lx9998, lx9999, lx10000, lx25600, lx76800, lx99999]
        have f2 := fr_tr (fr_mono f1 (S2 := SJn) (by unfold SJn; omega)) (fr_mono hC (by unfold SCd SJn; omega))
        refine xB1 (b := r.length) (by omega) ⟨z, _, r, rfl, hz, hc, ⟨?_, stU_fr hC (by unfold SCd; omega) (stU_fr f1 (by omega) er), ?_⟩, ?_, fr_tr hF f2, hP, rfl, rfl, rfl⟩
        · rw [fr_i hC (by unfold SCd; omega), si_eq]
        · rw [fr_i hC (by unfold SCd; omega), si_ne (by omega)]; exact ed
        · show s.1 + 1 + r.length ≤ 45; omega
      have stop : ¬ (a = 21 ∨ (a = 22 ∧ z = 22)) → P none B := fun q => by
        have e2 : jnF z (a :: r) s = (s, a :: r) := by rw [jnF, if_neg q]
        rw [e2] at hP
        exact hP B hF h1 ⟨e, ⟨ea, ha, er⟩, ed⟩
      have e' := e
      rw [hl] at e'
      have hl3 := h3
      rw [hl] at hl3
      simp (disch := omega) only [k_X12_joins_0, k_X12_joins_73, w_RIII, x_aload, x_dup, x_icmp_eq, x_icmp_ne, x_if_le, x_iload, x_isub, x_push, x_vret, y_cv3, y_getF, y_getI, y_iald, y_putI, xFT, xbool0, xbool1, Nat.reduceAdd, Nat.zero_add, xgl_0, xgl_s, xgl_n, xst_0, xst_1n, xst_1i, xst_1r, xst_1l, xst_s, set_0, set_s, true_and, and_true, xres, xcat_nil, xcat_i, xcat_r, xcat_l, Nat.add_zero, xble0, xble1, xble2, xble3, xble4, xble5, xble6, xble7, xble8, pk_mul, nI_add, nI_1, nI_leI, nI_ltI, nI_eq, n_in, n_cl, z_eq, z_lt, z_le, z_gt, z_ge, z_qe, o_eq, o_lt, o_le, o_gt, o_ge, vp0, vp1, cl0, cl1, n_sub, n_sub1, n_pm1, n_a0, n_0a, ofn, lN0, Nat.reduceLT, Nat.reduceLeDiff, Nat.reduceMul, Nat.reduceSub, Nat.reduceEqDiff, ne_eq, true_implies, false_implies, not_true_eq_false, not_false_eq_true, and_self, and_true, true_and, and_false, false_and, implies_true, if_true, if_false, i00, i10, i01, i11, ob_0, ob_1, tn_2, ln_2, ob_3, tn_4, ln_4, ob_5, tn_6, ln_6, tn_7, ln_7, ob_8, tn_9, ln_9, tn_10, ln_10, tn_11, ln_11, tn_12, ln_12, tn_13, ln_13, tn_14, ln_14, tn_15, ln_15, tn_16, ln_16, tn_17, ln_17, ob_18, tn_19, ln_19, tn_20, ln_20, tn_21, ln_21, tn_22, ln_22, tn_23, ln_23, tn_24, ln_24, tn_25, ln_25, tn_26, ln_26, tn_27, ln_27, ob_28, tn_29, ln_29, tn_30, ln_30, ob_31, tn_32, ln_32, tn_33, ln_33, ob_34, ob_35, tn_36, ln_36, tn_37, ln_37, tn_38, ln_38, ob_39, tn_40, ln_40, tn_41, ln_41, tn_42, ln_42, tn_43, ln_43, tn_44, ln_44, tn_45, ln_45, tn_46, ln_46, tn_47, ln_47, tn_48, ln_48, tn_49, ln_49, tn_50, ln_50, tn_51, ln_51, ob_52, tn_53, ln_53, tn_54, ln_54, tn_55, ln_55, tn_56, ln_56, ob_57, tn_58, ln_58, tn_59, ln_59, tn_60, ln_60, tn_61, ln_61, tn_62, ln_62, tn_63, ln_63, tn_64, ln_64, tn_65, ln_65, ob_66, tn_67, ln_67, tn_68, ln_68, tn_69, ln_69, tn_70, ln_70, tn_71, ln_71, tn_72, ln_72, tn_73, ln_73, ob_74, tn_75, ln_75, tn_76, ln_76, tn_77, ln_77, tn_78, ln_78, tn_79, ln_79, tn_80, ln_80, tn_81, ln_81, tn_82, ln_82, tn_83, ln_83, ob_84, tn_85, ln_85, tn_86, ln_86, tn_87, ln_87, tn_88, ln_88, tn_89, ln_89, tn_90, ln_90, tn_91, ln_91, tn_92, ln_92, tn_93, ln_93, ob_94, tn_95, ln_95, tn_96, ln_96, tn_97, ln_97, tn_98, ln_98, tn_99, ln_99, tn_100, ln_100, tn_101, ln_101, tn_102, ln_102, tn_103, ln_103, ob_104, tn_105, ln_105, tn_106, ln_106, tn_107, ln_107, tn_108, ln_108, tn_109, ln_109, tn_110, ln_110, tn_111, ln_111, tn_112, ln_112, tn_113, ln_113, ob_114, tn_115, ln_115, tn_116, ln_116, tn_117, ln_117, tn_118, ln_118, tn_119, ln_119, tn_120, ln_120, tn_121, ln_121, tn_122, ln_122, tn_123, ln_123, ob_124, tn_125, ln_125, tn_126, ln_126, tn_127, ln_127, tn_128, ln_128, tn_129, ln_129, tn_130, ln_130, tn_131, ln_131, tn_132, ln_132, tn_133, ln_133, ob_134, tn_135, ln_135, tn_136, ln_136, tn_137, ln_137, tn_138, ln_138, tn_139, ln_139, tn_140, ln_140, tn_141, ln_141, tn_142, ln_142, tn_143, ln_143, ob_144, tn_145, ln_145, tn_146, ln_146, tn_147, ln_147, tn_148, ln_148, tn_149, ln_149, tn_150, ln_150, tn_151, ln_151, tn_152, ln_152, tn_153, ln_153, ob_154, tn_155, ln_155, tn_156, ln_156, tn_157, ln_157, tn_158, ln_158, tn_159, ln_159, tn_160, ln_160, tn_161, ln_161, tn_162, ln_162, tn_163, ln_163, ob_164, tn_165, ln_165, tn_166, ln_166, ob_167, tn_168, ln_168, tn_169, ln_169, tn_170, ln_170, tn_171, ln_171, tn_172, ln_172, tn_173, ln_173, tn_174, ln_174, tn_175, ln_175, tn_176, ln_176, ob_177, tn_178, ln_178, tn_179, ln_179, ob_180, tn_181, ln_181, tn_182, ln_182, tn_183, ln_183, tn_184, ln_184, tn_185, ln_185, tn_186, ln_186, tn_187, ln_187, tn_188, ln_188, tn_189, ln_189, tn_190, ln_190, tn_191, ln_191, tn_192, ln_192, tn_193, ln_193, tn_194, ln_194, tn_195, ln_195, tn_196, ln_196, tn_197, ln_197, tn_198, ln_198, tn_199, ln_199, tn_200, ln_200, tn_201, ln_201, tn_202, ln_202, tn_203, ln_203, tn_204, ln_204, tn_205, ln_205, tn_206, ln_206, tn_207, ln_207, tn_208, ln_208, tn_209, ln_209, tn_210, ln_210, tn_211, ln_211, tn_212, ln_212, tn_213, ln_213, tn_214, ln_214, tn_215, ln_215, tn_216, ln_216, tn_217, ln_217, tn_218, ln_218, tn_219, ln_219, tn_220, ln_220, tn_221, ln_221, tn_222, ln_222, tn_223, ln_223, tn_224, ln_224, tn_225, ln_225, tn_226, ln_226, tn_227, ln_227, tn_228, ln_228, tn_229, ln_229, tn_230, ln_230, lx2, lx3, lx4, lx5, lx6, lx7, lx8, lx9, lx10, lx14, lx15, lx16, lx18, lx20, lx24, lx25, lx27, lx32, lx36, lx40, lx41, lx42, lx43, lx45, lx48, lx52, lx54, lx56, lx57, lx58, lx60, lx61, lx62, lx63, lx64, lx66, lx69, lx73, lx80, lx81, lx84, lx85, lx87, lx94, lx96, lx97, lx120, lx128, lx135, lx160, lx162, lx163, lx165, lx200, lx232, lx242, lx243, lx255, lx256, lx320, lx325, lx400, lx405, lx464, lx512, lx600, lx640, lx752, lx900, lx940, lx1000, lx1024, lx1764, lx3360, lx3840, lx5000, lx6400, lx9050, lx9998, lx9999, lx10000, lx25600, lx76800, lx99999, si_ne, si_eq, sl_ne, sl_eq, xl_si, xi_sl, sA_ne, sA_eq, xl_sA, lx21, lx22, e', ea, el]
      refine ⟨by omega, fun q => fin (Or.inl q), fun q => ⟨by omega, fun q2 => stop (by omega), fun q2 => ⟨fun q3 => stop (by omega), fun q3 => fin (Or.inr ⟨q2, q3⟩)⟩⟩⟩
def bIz (b : Bool) : Int32 := bI b
theorem leaf_U {A : xH} {P : xP} {t : xTk} (h : tkU A t) (ho : okT t) (hP : P (some (.int (if lfO t = 8 then -1 else nI (lfO t)))) A) : f_X12_leafOf 180 A P := by
  unfold f_X12_leafOf
  have w := fun W P => word_U (A := A) (P := P) (t := t) (w := W) h ho
  unfold lfO WFI WLA WAL WOFX WNE WRU WDO WNU at hP
  simp (disch := omega) only [k_X12_leafOf_0, k_X12_leafOf_115, w_RJ, x_aload, x_if_eq, x_iret, x_push, y_cv1, xFT, xbool0, xbool1, Nat.reduceAdd, Nat.zero_add, xgl_0, xgl_s, xgl_n, xst_0, xst_1n, xst_1i, xst_1r, xst_1l, xst_s, set_0, set_s, true_and, and_true, xres, xcat_nil, xcat_i, xcat_r, xcat_l, Nat.add_zero, xble0, xble1, xble2, xble3, xble4, xble5, xble6, xble7, xble8, w, bI_t]
  generalize isWd t 439855772532 = b0 at hP ⊢
  generalize isWd t 1818325876 = b1 at hP ⊢
  generalize isWd t 418431069797 = b2 at hP ⊢
  generalize isWd t 28518 = b3 at hP ⊢
  generalize isWd t 1852143732 = b4 at hP ⊢
  generalize isWd t 1920298085 = b5 at hP ⊢
  generalize isWd t 6582132 = b6 at hP ⊢
  generalize isWd t 121450625394034 = b7 at hP ⊢
  have tt : ∀ {Q R : Prop}, R → (true = false → Q) ∧ (¬ true = false → R) := fun r => ⟨fun e => (Bool.noConfusion e), fun _ => r⟩
  have ff : ∀ {Q R : Prop}, Q → (false = false → Q) ∧ (¬ false = false → R) := fun r => ⟨fun _ => r, fun e => absurd rfl e⟩
  cases b0
  · refine ff ?_
    cases b1
    · refine ff ?_
      cases b2
      · refine ff ?_
        cases b3
        · refine ff ?_
          cases b4
          · refine ff ?_
            cases b5
            · refine ff ?_
              cases b6
              · refine ff ?_
                cases b7
                · exact ff hP
                · exact tt hP
              · exact tt hP
            · exact tt hP
          · exact tt hP
        · exact tt hP
      · exact tt hP
    · exact tt hP
  · exact tt hP

