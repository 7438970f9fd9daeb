/-! ===== items, as both number them ===== -/
def vriF (v : xV) (i : Nat) : Nat → Nat
  | 0 => 0
  | n + 1 => if vfst v n ≤ i then n else vriF v i n
def vri (v : xV) (i : Nat) : Nat := vriF v i (vR v)
def vdi (v : xV) (i : Nat) : Nat := i - vfst v (vri v i)
def vnx (v : xV) (i : Nat) : Nat := if i = 0 then (if 0 < vK v then 8 else 15) else if 2 ≤ i ∧ i < vN v ∧ vdi v i < vrs v (vri v i) then vsy v (vri v i) (vdi v i) else 15
def oI (n : Nat) : Int32 := if n = 15 then -1 else nI n
theorem vriF_eq {v : xV} {r d : Nat} (hd : d ≤ vrs v r) : ∀ n, r < n → vriF v (vfst v r + d) n = r
  | 0, h => by omega
  | n + 1, h => by
    simp only [vriF]
    rcases Nat.lt_or_ge r n with h1 | h1
    · have := vfst_mono v h1
      rw [if_neg (by omega)]
      exact vriF_eq hd n h1
    · have : r = n := by omega
      subst this
      rw [if_pos (by omega)]
theorem vri_eq {v : xV} {r d : Nat} (hr : r < vR v) (hd : d ≤ vrs v r) : vri v (vfst v r + d) = r := vriF_eq hd _ hr
theorem vdi_eq {v : xV} {r d : Nat} (hr : r < vR v) (hd : d ≤ vrs v r) : vdi v (vfst v r + d) = d := by
  unfold vdi
  rw [vri_eq hr hd]
  omega
theorem vri_sp {v : xV} {i : Nat} (h : 2 ≤ i) (h2 : i < vN v) : vri v i < vR v ∧ vdi v i ≤ vrs v (vri v i) ∧ i = vfst v (vri v i) + vdi v i := by
  obtain ⟨r, d, h3, h4, rfl⟩ := vitem (vR v) h h2
  rw [vdi_eq h3 h4, vri_eq h3 h4]
  exact ⟨h3, h4, rfl⟩
theorem vnx_rd {v : xV} {r d : Nat} (hr : r < vR v) (hd : d ≤ vrs v r) : vnx v (vfst v r + d) = if d < vrs v r then vsy v r d else 15 := by
  have h2 := vfst_ge v r
  have h3 : vfst v r + d < vN v := by
    unfold vN
    rcases Nat.lt_or_ge r (vR v) with h | h
    · have := vfst_mono v h; omega
    · omega
  unfold vnx
  rw [if_neg (by omega), vri_eq hr hd, vdi_eq hr hd]
  by_cases h : d < vrs v r
  · rw [if_pos ⟨by omega, h3, h⟩, if_pos h]
  · rw [if_neg (fun q => h q.2.2), if_neg h]
theorem vnx_sp {v : xV} (hw : wfg v) (i : Nat) : vnx v i < vS v ∨ (8 ≤ vnx v i ∧ vnx v i < 8 + vK v) ∨ vnx v i = 15 := by
  unfold vnx
  split
  · split
    · omega
    · omega
  · split
    · rename_i h
      have h2 := vri_sp h.1 h.2.1
      have := (hw.2.2.2.2 _ h2.1).2.2 _ h.2.2
      omega
    · omega
theorem vnx_le {v : xV} (hw : wfg v) (i : Nat) : vnx v i ≤ 15 := by
  have := vnx_sp hw i
  have h1 := hw.1
  have h2 := hw.2.1
  omega
theorem vN_ge (v : xV) : 2 ≤ vN v := by have := vfst_ge v (vR v); unfold vN; omega
theorem vN_le {v : xV} (hw : wfg v) : vN v ≤ 42 := by
  have h1 := vfst_le (v := v) (fun r hr => (hw.2.2.2.2 r hr).2.1) (vR v) (Nat.le_refl _)
  have := hw.2.2.1
  unfold vN
  omega
theorem vfst_lt {v : xV} {r : Nat} (hr : r < vR v) : vfst v r + vrs v r < vN v := by
  have := vfst_mono v hr
  unfold vN; omega
theorem oI_neg {n : Nat} (h : n ≤ 15) : oI n < 0 ↔ n = 15 := by
  unfold oI
  split
  · rename_i q; simp only [q]; decide
  · rename_i q; simp only [q, iff_false]; exact nI_pos (by omega)
theorem oI_eq {n m : Nat} (h : n ≤ 15) (hm : m < 15) : oI n = nI m ↔ n = m := by
  unfold oI
  split
  · rename_i q
    constructor
    · intro e; exact absurd e.symm (n_ne1 (by omega))
    · omega
  · exact nI_eq (by omega) (by omega)
theorem oI_m1 {n : Nat} (h : n ≤ 15) : oI n = -1 ↔ n = 15 := by
  unfold oI
  split
  · rename_i q; simp only [q]
  · rename_i q
    simp only [q, iff_false]
    exact n_ne1 (by omega)
theorem oI_ge {n m : Nat} (h : n ≤ 15) (hm : m < 15) : nI m ≤ oI n ↔ (m ≤ n ∧ n ≠ 15) := by
  unfold oI
  split
  · rename_i q
    constructor
    · intro e
      exact absurd (Int32.le_trans (nI_pos' (n := m) (by omega)) e) (by decide)
    · omega
  · rw [nI_leI (by omega) (by omega)]; omega
theorem oI_nI {n : Nat} (h : n < 15) : oI n = nI n := by unfold oI; rw [if_neg (by omega)]
theorem oI_15 : oI 15 = -1 := rfl
/-! the reference's items -/
theorem d_X12_many_0 : decode cX12_many 0 = .ok (.aload_n 0, 1) := by decide +kernel
theorem d_X12_many_1 : decode cX12_many 1 = .ok (.getfield 30, 3) := by decide +kernel
theorem d_X12_many_4 : decode cX12_many 4 = .ok (.iconst 4, 1) := by decide +kernel
theorem d_X12_many_5 : decode cX12_many 5 = .ok (.iconst 5, 1) := by decide +kernel
theorem d_X12_many_6 : decode cX12_many 6 = .ok (.iload_n 1, 1) := by decide +kernel
theorem d_X12_many_7 : decode cX12_many 7 = .ok (.imul, 1) := by decide +kernel
theorem d_X12_many_8 : decode cX12_many 8 = .ok (.iadd, 1) := by decide +kernel
theorem d_X12_many_9 : decode cX12_many 9 = .ok (.iconst 1, 1) := by decide +kernel
theorem d_X12_many_10 : decode cX12_many 10 = .ok (.iadd, 1) := by decide +kernel
theorem d_X12_many_11 : decode cX12_many 11 = .ok (.iaload, 1) := by decide +kernel
theorem d_X12_many_12 : decode cX12_many 12 = .ok (.ireturn, 1) := by decide +kernel
def k_X12_many_0 (P : xP) : xK := x_aload 0 (y_getF 180 182 (x_push (.int 4) (x_push (.int 5) (x_iload 1 (x_imul (x_iadd (x_push (.int 1) (x_iadd (y_iald 182 232 (x_iret P))))))))))
set_option maxRecDepth 20000 in
theorem t_X12_many_0 {p : Program} {l : Launch} {e : Env} {s : State} {m : MethodId} {args : Array Value} {below : List Frame} {meth : Method} {c : Code} {g : xG} (X : xX p s m args c meth cX12_many RX12 2 g) (hr : meth.sig.returnType = (some .int)) {P : xP} : xAt p l e { frames := 0, cells := 0, slots := 0, locals := 0 } s m args below meth c g 2 xFT xN 0 0 (MQ below (xQc g xFT xN P) args s 0 0 (xFr g)) (k_X12_many_0 P) 0 := by
  unfold k_X12_many_0
  refine r_aload_n (pc := 0) X d_X12_many_0 fn0 ?_
  refine s_getF (pc := 1) (ci := 12) (k := 5) X xok12 (by decide +kernel) ob_180 trivial ly_180_5 (by decide +kernel) fl_RX12_30 d_X12_many_1 ?_
  refine r_iconst (pc := 4) X d_X12_many_4 (by decide +kernel) ?_
  refine r_iconst (pc := 5) X d_X12_many_5 (by decide +kernel) ?_
  refine r_iload_n (pc := 6) X d_X12_many_6 fn1 ?_
  refine r_imul (pc := 7) X d_X12_many_7 ?_
  refine r_iadd (pc := 8) X d_X12_many_8 ?_
  refine r_iconst (pc := 9) X d_X12_many_9 (by decide +kernel) ?_
  refine r_iadd (pc := 10) X d_X12_many_10 ?_
  refine s_iald (pc := 11) X tn_182 ln_182 d_X12_many_11 ?_
  exact r_iret (pc := 12) X hr d_X12_many_12
def f_X12_many (a0 : Nat) (a1 : Int32) (A : xH) (P : xP) : Prop := k_X12_many_0 P [some (.ref a0), some (.int a1)] [] A
set_option maxRecDepth 20000 in
theorem con_X12_many (l : Launch) : xCon l yX12_many cX12_many 2 (some .int) 0 0 xN xN 0 xFT xFT (w_RI f_X12_many) :=
  xc_RI (plainFor_of_name pn_RX12) (by decide +kernel) (fun p e s m args below meth c g a0 a1 A P h X hr _ => ⟨_, h, t_X12_many_0 X hr⟩)
theorem d_X12_kindOf_0 : decode cX12_kindOf 0 = .ok (.aload_n 0, 1) := by decide +kernel
theorem d_X12_kindOf_1 : decode cX12_kindOf 1 = .ok (.getfield 30, 3) := by decide +kernel
theorem d_X12_kindOf_4 : decode cX12_kindOf 4 = .ok (.iconst 4, 1) := by decide +kernel
theorem d_X12_kindOf_5 : decode cX12_kindOf 5 = .ok (.iconst 5, 1) := by decide +kernel
theorem d_X12_kindOf_6 : decode cX12_kindOf 6 = .ok (.iload_n 1, 1) := by decide +kernel
theorem d_X12_kindOf_7 : decode cX12_kindOf 7 = .ok (.imul, 1) := by decide +kernel
theorem d_X12_kindOf_8 : decode cX12_kindOf 8 = .ok (.iadd, 1) := by decide +kernel
theorem d_X12_kindOf_9 : decode cX12_kindOf 9 = .ok (.iaload, 1) := by decide +kernel
theorem d_X12_kindOf_10 : decode cX12_kindOf 10 = .ok (.ireturn, 1) := by decide +kernel
def k_X12_kindOf_0 (P : xP) : xK := x_aload 0 (y_getF 180 182 (x_push (.int 4) (x_push (.int 5) (x_iload 1 (x_imul (x_iadd (y_iald 182 232 (x_iret P))))))))
set_option maxRecDepth 20000 in
theorem t_X12_kindOf_0 {p : Program} {l : Launch} {e : Env} {s : State} {m : MethodId} {args : Array Value} {below : List Frame} {meth : Method} {c : Code} {g : xG} (X : xX p s m args c meth cX12_kindOf RX12 2 g) (hr : meth.sig.returnType = (some .int)) {P : xP} : xAt p l e { frames := 0, cells := 0, slots := 0, locals := 0 } s m args below meth c g 2 xFT xN 0 0 (MQ below (xQc g xFT xN P) args s 0 0 (xFr g)) (k_X12_kindOf_0 P) 0 := by
  unfold k_X12_kindOf_0
  refine r_aload_n (pc := 0) X d_X12_kindOf_0 fn0 ?_
  refine s_getF (pc := 1) (ci := 12) (k := 5) X xok12 (by decide +kernel) ob_180 trivial ly_180_5 (by decide +kernel) fl_RX12_30 d_X12_kindOf_1 ?_
  refine r_iconst (pc := 4) X d_X12_kindOf_4 (by decide +kernel) ?_
  refine r_iconst (pc := 5) X d_X12_kindOf_5 (by decide +kernel) ?_
  refine r_iload_n (pc := 6) X d_X12_kindOf_6 fn1 ?_
  refine r_imul (pc := 7) X d_X12_kindOf_7 ?_
  refine r_iadd (pc := 8) X d_X12_kindOf_8 ?_
  refine s_iald (pc := 9) X tn_182 ln_182 d_X12_kindOf_9 ?_
  exact r_iret (pc := 10) X hr d_X12_kindOf_10
def f_X12_kindOf (a0 : Nat) (a1 : Int32) (A : xH) (P : xP) : Prop := k_X12_kindOf_0 P [some (.ref a0), some (.int a1)] [] A
set_option maxRecDepth 20000 in
theorem con_X12_kindOf (l : Launch) : xCon l yX12_kindOf cX12_kindOf 2 (some .int) 0 0 xN xN 0 xFT xFT (w_RI f_X12_kindOf) :=
  xc_RI (plainFor_of_name pn_RX12) (by decide +kernel) (fun p e s m args below meth c g a0 a1 A P h X hr _ => ⟨_, h, t_X12_kindOf_0 X hr⟩)
theorem d_X12_symbol_0 : decode cX12_symbol 0 = .ok (.aload_n 0, 1) := by decide +kernel
theorem d_X12_symbol_1 : decode cX12_symbol 1 = .ok (.getfield 30, 3) := by decide +kernel
theorem d_X12_symbol_4 : decode cX12_symbol 4 = .ok (.iconst 4, 1) := by decide +kernel
theorem d_X12_symbol_5 : decode cX12_symbol 5 = .ok (.iconst 5, 1) := by decide +kernel
theorem d_X12_symbol_6 : decode cX12_symbol 6 = .ok (.iload_n 1, 1) := by decide +kernel
theorem d_X12_symbol_7 : decode cX12_symbol 7 = .ok (.imul, 1) := by decide +kernel
theorem d_X12_symbol_8 : decode cX12_symbol 8 = .ok (.iadd, 1) := by decide +kernel
theorem d_X12_symbol_9 : decode cX12_symbol 9 = .ok (.iconst 2, 1) := by decide +kernel
theorem d_X12_symbol_10 : decode cX12_symbol 10 = .ok (.iadd, 1) := by decide +kernel
theorem d_X12_symbol_11 : decode cX12_symbol 11 = .ok (.iload_n 2, 1) := by decide +kernel
theorem d_X12_symbol_12 : decode cX12_symbol 12 = .ok (.iadd, 1) := by decide +kernel
theorem d_X12_symbol_13 : decode cX12_symbol 13 = .ok (.iaload, 1) := by decide +kernel
theorem d_X12_symbol_14 : decode cX12_symbol 14 = .ok (.ireturn, 1) := by decide +kernel
def k_X12_symbol_0 (P : xP) : xK := x_aload 0 (y_getF 180 182 (x_push (.int 4) (x_push (.int 5) (x_iload 1 (x_imul (x_iadd (x_push (.int 2) (x_iadd (x_iload 2 (x_iadd (y_iald 182 232 (x_iret P))))))))))))
set_option maxRecDepth 20000 in
theorem t_X12_symbol_0 {p : Program} {l : Launch} {e : Env} {s : State} {m : MethodId} {args : Array Value} {below : List Frame} {meth : Method} {c : Code} {g : xG} (X : xX p s m args c meth cX12_symbol RX12 3 g) (hr : meth.sig.returnType = (some .int)) {P : xP} : xAt p l e { frames := 0, cells := 0, slots := 0, locals := 0 } s m args below meth c g 3 xFT xN 0 0 (MQ below (xQc g xFT xN P) args s 0 0 (xFr g)) (k_X12_symbol_0 P) 0 := by
  unfold k_X12_symbol_0
  refine r_aload_n (pc := 0) X d_X12_symbol_0 fn0 ?_
  refine s_getF (pc := 1) (ci := 12) (k := 5) X xok12 (by decide +kernel) ob_180 trivial ly_180_5 (by decide +kernel) fl_RX12_30 d_X12_symbol_1 ?_
  refine r_iconst (pc := 4) X d_X12_symbol_4 (by decide +kernel) ?_
  refine r_iconst (pc := 5) X d_X12_symbol_5 (by decide +kernel) ?_
  refine r_iload_n (pc := 6) X d_X12_symbol_6 fn1 ?_
  refine r_imul (pc := 7) X d_X12_symbol_7 ?_
  refine r_iadd (pc := 8) X d_X12_symbol_8 ?_
  refine r_iconst (pc := 9) X d_X12_symbol_9 (by decide +kernel) ?_
  refine r_iadd (pc := 10) X d_X12_symbol_10 ?_
  refine r_iload_n (pc := 11) X d_X12_symbol_11 fn2 ?_
  refine r_iadd (pc := 12) X d_X12_symbol_12 ?_
  refine s_iald (pc := 13) X tn_182 ln_182 d_X12_symbol_13 ?_
  exact r_iret (pc := 14) X hr d_X12_symbol_14
def f_X12_symbol (a0 : Nat) (a1 : Int32) (a2 : Int32) (A : xH) (P : xP) : Prop := k_X12_symbol_0 P [some (.ref a0), some (.int a1), some (.int a2)] [] A
set_option maxRecDepth 20000 in
theorem con_X12_symbol (l : Launch) : xCon l yX12_symbol cX12_symbol 3 (some .int) 0 0 xN xN 0 xFT xFT (w_RII f_X12_symbol) :=
  xc_RII (plainFor_of_name pn_RX12) (by decide +kernel) (fun p e s m args below meth c g a0 a1 a2 A P h X hr _ => ⟨_, h, t_X12_symbol_0 X hr⟩)
theorem d_X12_isIn_0 : decode cX12_isIn 0 = .ok (.iload_n 0, 1) := by decide +kernel
theorem d_X12_isIn_1 : decode cX12_isIn 1 = .ok (.iload_n 1, 1) := by decide +kernel
theorem d_X12_isIn_2 : decode cX12_isIn 2 = .ok (.if_icmp .lt 12, 3) := by decide +kernel
theorem d_X12_isIn_5 : decode cX12_isIn 5 = .ok (.iload_n 0, 1) := by decide +kernel
theorem d_X12_isIn_6 : decode cX12_isIn 6 = .ok (.iload_n 2, 1) := by decide +kernel
theorem d_X12_isIn_7 : decode cX12_isIn 7 = .ok (.if_icmp .gt 7, 3) := by decide +kernel
theorem d_X12_isIn_10 : decode cX12_isIn 10 = .ok (.iconst 1, 1) := by decide +kernel
theorem d_X12_isIn_11 : decode cX12_isIn 11 = .ok (.goto 4, 3) := by decide +kernel
theorem d_X12_isIn_14 : decode cX12_isIn 14 = .ok (.iconst 0, 1) := by decide +kernel
theorem d_X12_isIn_15 : decode cX12_isIn 15 = .ok (.ireturn, 1) := by decide +kernel
def k_X12_isIn_15 (P : xP) : xK := x_zret P
set_option maxRecDepth 20000 in
theorem t_X12_isIn_15 {p : Program} {l : Launch} {e : Env} {s : State} {m : MethodId} {args : Array Value} {below : List Frame} {meth : Method} {c : Code} {g : xG} (X : xX p s m args c meth cX12_isIn RX12 3 g) (hr : meth.sig.returnType = (some .boolean)) {P : xP} : xAt p l e { frames := 0, cells := 0, slots := 0, locals := 0 } s m args below meth c g 3 xFT xN 0 0 (MQ below (xQc g xFT xN P) args s 0 0 (xFr g)) (k_X12_isIn_15 P) 15 := by
  unfold k_X12_isIn_15
  exact r_zret (pc := 15) X hr d_X12_isIn_15
def k_X12_isIn_14 (P : xP) : xK := x_push (.int 0) ((k_X12_isIn_15 P))
set_option maxRecDepth 20000 in
theorem t_X12_isIn_14 {p : Program} {l : Launch} {e : Env} {s : State} {m : MethodId} {args : Array Value} {below : List Frame} {meth : Method} {c : Code} {g : xG} (X : xX p s m args c meth cX12_isIn RX12 3 g) (hr : meth.sig.returnType = (some .boolean)) {P : xP} : xAt p l e { frames := 0, cells := 0, slots := 0, locals := 0 } s m args below meth c g 3 xFT xN 0 0 (MQ below (xQc g xFT xN P) args s 0 0 (xFr g)) (k_X12_isIn_14 P) 14 := by
  unfold k_X12_isIn_14
  refine r_iconst (pc := 14) X d_X12_isIn_14 (by decide +kernel) ?_
  exact t_X12_isIn_15 X hr
def k_X12_isIn_0 (P : xP) : xK := x_iload 0 (x_iload 1 (x_icmp_lt ((k_X12_isIn_14 P)) (x_iload 0 (x_iload 2 (x_icmp_gt ((k_X12_isIn_14 P)) (x_push (.int 1) ((k_X12_isIn_15 P))))))))
set_option maxRecDepth 20000 in
theorem t_X12_isIn_0 {p : Program} {l : Launch} {e : Env} {s : State} {m : MethodId} {args : Array Value} {below : List Frame} {meth : Method} {c : Code} {g : xG} (X : xX p s m args c meth cX12_isIn RX12 3 g) (hr : meth.sig.returnType = (some .boolean)) {P : xP} : xAt p l e { frames := 0, cells := 0, slots := 0, locals := 0 } s m args below meth c g 3 xFT xN 0 0 (MQ below (xQc g xFT xN P) args s 0 0 (xFr g)) (k_X12_isIn_0 P) 0 := by
  unfold k_X12_isIn_0
  refine r_iload_n (pc := 0) X d_X12_isIn_0 fn0 ?_
  refine r_iload_n (pc := 1) X d_X12_isIn_1 fn1 ?_
  refine r_icmp_lt (pc := 2) (tgt := 14) X d_X12_isIn_2 (by decide +kernel) ?_ ?_
  · exact t_X12_isIn_14 X hr
  · refine r_iload_n (pc := 5) X d_X12_isIn_5 fn0 ?_
    refine r_iload_n (pc := 6) X d_X12_isIn_6 fn2 ?_
    refine r_icmp_gt (pc := 7) (tgt := 14) X d_X12_isIn_7 (by decide +kernel) ?_ ?_
    · exact t_X12_isIn_14 X hr
    · refine r_iconst (pc := 10) X d_X12_isIn_10 (by decide +kernel) ?_
      refine r_goto (pc := 11) (tgt := 15) X d_X12_isIn_11 (by decide +kernel) ?_
      exact t_X12_isIn_15 X hr
def f_X12_isIn (a0 : Int32) (a1 : Int32) (a2 : Int32) (A : xH) (P : xP) : Prop := k_X12_isIn_0 P [some (.int a0), some (.int a1), some (.int a2)] [] A
set_option maxRecDepth 20000 in
theorem con_X12_isIn (l : Launch) : xCon l yX12_isIn cX12_isIn 3 (some .boolean) 0 0 xN xN 0 xFT xFT (w_III f_X12_isIn) :=
  xc_III (plainFor_of_name pn_RX12) (by decide +kernel) (fun p e s m args below meth c g a0 a1 a2 A P h X hr _ => ⟨_, h, t_X12_isIn_0 X hr⟩)
theorem d_X12_bitOf_0 : decode cX12_bitOf 0 = .ok (.iload_n 0, 1) := by decide +kernel
theorem d_X12_bitOf_1 : decode cX12_bitOf 1 = .ok (.iload_n 1, 1) := by decide +kernel
theorem d_X12_bitOf_2 : decode cX12_bitOf 2 = .ok (.ishr, 1) := by decide +kernel
theorem d_X12_bitOf_3 : decode cX12_bitOf 3 = .ok (.iconst 1, 1) := by decide +kernel
theorem d_X12_bitOf_4 : decode cX12_bitOf 4 = .ok (.iand, 1) := by decide +kernel
theorem d_X12_bitOf_5 : decode cX12_bitOf 5 = .ok (.iconst 1, 1) := by decide +kernel
theorem d_X12_bitOf_6 : decode cX12_bitOf 6 = .ok (.if_icmp .ne 7, 3) := by decide +kernel
theorem d_X12_bitOf_9 : decode cX12_bitOf 9 = .ok (.iconst 1, 1) := by decide +kernel
theorem d_X12_bitOf_10 : decode cX12_bitOf 10 = .ok (.goto 4, 3) := by decide +kernel
theorem d_X12_bitOf_13 : decode cX12_bitOf 13 = .ok (.iconst 0, 1) := by decide +kernel
theorem d_X12_bitOf_14 : decode cX12_bitOf 14 = .ok (.ireturn, 1) := by decide +kernel
def k_X12_bitOf_14 (P : xP) : xK := x_zret P
set_option maxRecDepth 20000 in
theorem t_X12_bitOf_14 {p : Program} {l : Launch} {e : Env} {s : State} {m : MethodId} {args : Array Value} {below : List Frame} {meth : Method} {c : Code} {g : xG} (X : xX p s m args c meth cX12_bitOf RX12 2 g) (hr : meth.sig.returnType = (some .boolean)) {P : xP} : xAt p l e { frames := 0, cells := 0, slots := 0, locals := 0 } s m args below meth c g 2 xFT xN 0 0 (MQ below (xQc g xFT xN P) args s 0 0 (xFr g)) (k_X12_bitOf_14 P) 14 := by
  unfold k_X12_bitOf_14
  exact r_zret (pc := 14) X hr d_X12_bitOf_14
def k_X12_bitOf_0 (P : xP) : xK := x_iload 0 (x_iload 1 (x_ishr (x_push (.int 1) (x_iand (x_push (.int 1) (x_icmp_ne (x_push (.int 0) ((k_X12_bitOf_14 P))) (x_push (.int 1) ((k_X12_bitOf_14 P)))))))))
set_option maxRecDepth 20000 in
theorem t_X12_bitOf_0 {p : Program} {l : Launch} {e : Env} {s : State} {m : MethodId} {args : Array Value} {below : List Frame} {meth : Method} {c : Code} {g : xG} (X : xX p s m args c meth cX12_bitOf RX12 2 g) (hr : meth.sig.returnType = (some .boolean)) {P : xP} : xAt p l e { frames := 0, cells := 0, slots := 0, locals := 0 } s m args below meth c g 2 xFT xN 0 0 (MQ below (xQc g xFT xN P) args s 0 0 (xFr g)) (k_X12_bitOf_0 P) 0 := by
  unfold k_X12_bitOf_0
  refine r_iload_n (pc := 0) X d_X12_bitOf_0 fn0 ?_
  refine r_iload_n (pc := 1) X d_X12_bitOf_1 fn1 ?_
  refine r_ishr (pc := 2) X d_X12_bitOf_2 ?_
  refine r_iconst (pc := 3) X d_X12_bitOf_3 (by decide +kernel) ?_
  refine r_iand (pc := 4) X d_X12_bitOf_4 ?_
  refine r_iconst (pc := 5) X d_X12_bitOf_5 (by decide +kernel) ?_
  refine r_icmp_ne (pc := 6) (tgt := 13) X d_X12_bitOf_6 (by decide +kernel) ?_ ?_
  · refine r_iconst (pc := 13) X d_X12_bitOf_13 (by decide +kernel) ?_
    exact t_X12_bitOf_14 X hr
  · refine r_iconst (pc := 9) X d_X12_bitOf_9 (by decide +kernel) ?_
    refine r_goto (pc := 10) (tgt := 14) X d_X12_bitOf_10 (by decide +kernel) ?_
    exact t_X12_bitOf_14 X hr
def f_X12_bitOf (a0 : Int32) (a1 : Int32) (A : xH) (P : xP) : Prop := k_X12_bitOf_0 P [some (.int a0), some (.int a1)] [] A
set_option maxRecDepth 20000 in
theorem con_X12_bitOf (l : Launch) : xCon l yX12_bitOf cX12_bitOf 2 (some .boolean) 0 0 xN xN 0 xFT xFT (w_II f_X12_bitOf) :=
  xc_II (plainFor_of_name pn_RX12) (by decide +kernel) (fun p e s m args below meth c g a0 a1 A P h X hr _ => ⟨_, h, t_X12_bitOf_0 X hr⟩)
theorem d_X12_isRule_0 : decode cX12_isRule 0 = .ok (.iload_n 1, 1) := by decide +kernel
theorem d_X12_isRule_1 : decode cX12_isRule 1 = .ok (.iconst 0, 1) := by decide +kernel
theorem d_X12_isRule_2 : decode cX12_isRule 2 = .ok (.aload_n 0, 1) := by decide +kernel
theorem d_X12_isRule_3 : decode cX12_isRule 3 = .ok (.getfield 30, 3) := by decide +kernel
theorem d_X12_isRule_6 : decode cX12_isRule 6 = .ok (.iconst 2, 1) := by decide +kernel
theorem d_X12_isRule_7 : decode cX12_isRule 7 = .ok (.iaload, 1) := by decide +kernel
theorem d_X12_isRule_8 : decode cX12_isRule 8 = .ok (.iconst 1, 1) := by decide +kernel
theorem d_X12_isRule_9 : decode cX12_isRule 9 = .ok (.isub, 1) := by decide +kernel
theorem d_X12_isRule_10 : decode cX12_isRule 10 = .ok (.invokestatic 264, 3) := by decide +kernel
theorem d_X12_isRule_13 : decode cX12_isRule 13 = .ok (.ireturn, 1) := by decide +kernel
def k_X12_isRule_0 (P : xP) : xK := x_iload 1 (x_push (.int 0) (x_aload 0 (y_getF 180 182 (x_push (.int 2) (y_iald 182 232 (x_push (.int 1) (x_isub (x_cs3 (w_III f_X12_isIn) (x_zret P)))))))))
set_option maxRecDepth 20000 in
theorem t_X12_isRule_0 {p : Program} {l : Launch} {e : Env} {s : State} {m : MethodId} {args : Array Value} {below : List Frame} {meth : Method} {c : Code} {g : xG} (X : xX p s m args c meth cX12_isRule RX12 2 g) (hr : meth.sig.returnType = (some .boolean)) {P : xP} : xAt p l e { frames := 1, cells := 0, slots := 0, locals := 22 } s m args below meth c g 2 xFT xN 0 0 (MQ below (xQc g xFT xN P) args s 0 0 (xFr g)) (k_X12_isRule_0 P) 0 := by
  unfold k_X12_isRule_0
  refine r_iload_n (pc := 0) X d_X12_isRule_0 fn1 ?_
  refine r_iconst (pc := 1) X d_X12_isRule_1 (by decide +kernel) ?_
  refine r_aload_n (pc := 2) X d_X12_isRule_2 fn0 ?_
  refine s_getF (pc := 3) (ci := 12) (k := 5) X xok12 (by decide +kernel) ob_180 trivial ly_180_5 (by decide +kernel) fl_RX12_30 d_X12_isRule_3 ?_
  refine r_iconst (pc := 6) X d_X12_isRule_6 (by decide +kernel) ?_
  refine s_iald (pc := 7) X tn_182 ln_182 d_X12_isRule_7 ?_
  refine r_iconst (pc := 8) X d_X12_isRule_8 (by decide +kernel) ?_
  refine r_isub (pc := 9) X d_X12_isRule_9 ?_
  refine r_cs3 (pc := 10) X (con_X12_isIn l) sf_X12_isIn ml_RX12_264 (by decide +kernel) (by decide +kernel) d_X12_isRule_10 ?_
  exact r_zret (pc := 13) X hr d_X12_isRule_13
def f_X12_isRule (a0 : Nat) (a1 : Int32) (A : xH) (P : xP) : Prop := k_X12_isRule_0 P [some (.ref a0), some (.int a1)] [] A
set_option maxRecDepth 20000 in
theorem con_X12_isRule (l : Launch) : xCon l yX12_isRule cX12_isRule 2 (some .boolean) 1 22 xN xN 0 xFT xFT (w_RI f_X12_isRule) :=
  xc_RI (plainFor_of_name pn_RX12) (by decide +kernel) (fun p e s m args below meth c g a0 a1 A P h X hr _ => ⟨_, h, t_X12_isRule_0 X hr⟩)
theorem d_X12_isKind_0 : decode cX12_isKind 0 = .ok (.iload_n 1, 1) := by decide +kernel
theorem d_X12_isKind_1 : decode cX12_isKind 1 = .ok (.iconst 0, 1) := by decide +kernel
theorem d_X12_isKind_2 : decode cX12_isKind 2 = .ok (.aload_n 0, 1) := by decide +kernel
theorem d_X12_isKind_3 : decode cX12_isKind 3 = .ok (.getfield 30, 3) := by decide +kernel
theorem d_X12_isKind_6 : decode cX12_isKind 6 = .ok (.iconst 1, 1) := by decide +kernel
theorem d_X12_isKind_7 : decode cX12_isKind 7 = .ok (.iaload, 1) := by decide +kernel
theorem d_X12_isKind_8 : decode cX12_isKind 8 = .ok (.iconst 1, 1) := by decide +kernel
theorem d_X12_isKind_9 : decode cX12_isKind 9 = .ok (.isub, 1) := by decide +kernel
theorem d_X12_isKind_10 : decode cX12_isKind 10 = .ok (.invokestatic 264, 3) := by decide +kernel
theorem d_X12_isKind_13 : decode cX12_isKind 13 = .ok (.ireturn, 1) := by decide +kernel
def k_X12_isKind_0 (P : xP) : xK := x_iload 1 (x_push (.int 0) (x_aload 0 (y_getF 180 182 (x_push (.int 1) (y_iald 182 232 (x_push (.int 1) (x_isub (x_cs3 (w_III f_X12_isIn) (x_zret P)))))))))
set_option maxRecDepth 20000 in
theorem t_X12_isKind_0 {p : Program} {l : Launch} {e : Env} {s : State} {m : MethodId} {args : Array Value} {below : List Frame} {meth : Method} {c : Code} {g : xG} (X : xX p s m args c meth cX12_isKind RX12 2 g) (hr : meth.sig.returnType = (some .boolean)) {P : xP} : xAt p l e { frames := 1, cells := 0, slots := 0, locals := 22 } s m args below meth c g 2 xFT xN 0 0 (MQ below (xQc g xFT xN P) args s 0 0 (xFr g)) (k_X12_isKind_0 P) 0 := by
  unfold k_X12_isKind_0
  refine r_iload_n (pc := 0) X d_X12_isKind_0 fn1 ?_
  refine r_iconst (pc := 1) X d_X12_isKind_1 (by decide +kernel) ?_
  refine r_aload_n (pc := 2) X d_X12_isKind_2 fn0 ?_
  refine s_getF (pc := 3) (ci := 12) (k := 5) X xok12 (by decide +kernel) ob_180 trivial ly_180_5 (by decide +kernel) fl_RX12_30 d_X12_isKind_3 ?_
  refine r_iconst (pc := 6) X d_X12_isKind_6 (by decide +kernel) ?_
  refine s_iald (pc := 7) X tn_182 ln_182 d_X12_isKind_7 ?_
  refine r_iconst (pc := 8) X d_X12_isKind_8 (by decide +kernel) ?_
  refine r_isub (pc := 9) X d_X12_isKind_9 ?_
  refine r_cs3 (pc := 10) X (con_X12_isIn l) sf_X12_isIn ml_RX12_264 (by decide +kernel) (by decide +kernel) d_X12_isKind_10 ?_
  exact r_zret (pc := 13) X hr d_X12_isKind_13
def f_X12_isKind (a0 : Nat) (a1 : Int32) (A : xH) (P : xP) : Prop := k_X12_isKind_0 P [some (.ref a0), some (.int a1)] [] A
set_option maxRecDepth 20000 in
theorem con_X12_isKind (l : Launch) : xCon l yX12_isKind cX12_isKind 2 (some .boolean) 1 22 xN xN 0 xFT xFT (w_RI f_X12_isKind) :=
  xc_RI (plainFor_of_name pn_RX12) (by decide +kernel) (fun p e s m args below meth c g a0 a1 A P h X hr _ => ⟨_, h, t_X12_isKind_0 X hr⟩)
theorem d_X12_behind_0 : decode cX12_behind 0 = .ok (.iload_n 1, 1) := by decide +kernel
theorem d_X12_behind_1 : decode cX12_behind 1 = .ok (.ifCond .ne 7, 3) := by decide +kernel
theorem d_X12_behind_4 : decode cX12_behind 4 = .ok (.iconst 1, 1) := by decide +kernel
theorem d_X12_behind_5 : decode cX12_behind 5 = .ok (.goto 6, 3) := by decide +kernel
theorem d_X12_behind_8 : decode cX12_behind 8 = .ok (.iload_n 1, 1) := by decide +kernel
theorem d_X12_behind_9 : decode cX12_behind 9 = .ok (.iconst 1, 1) := by decide +kernel
theorem d_X12_behind_10 : decode cX12_behind 10 = .ok (.iadd, 1) := by decide +kernel
theorem d_X12_behind_11 : decode cX12_behind 11 = .ok (.ireturn, 1) := by decide +kernel
def k_X12_behind_11 (P : xP) : xK := x_iret P
set_option maxRecDepth 20000 in
theorem t_X12_behind_11 {p : Program} {l : Launch} {e : Env} {s : State} {m : MethodId} {args : Array Value} {below : List Frame} {meth : Method} {c : Code} {g : xG} (X : xX p s m args c meth cX12_behind RX12 2 g) (hr : meth.sig.returnType = (some .int)) {P : xP} : xAt p l e { frames := 0, cells := 0, slots := 0, locals := 0 } s m args below meth c g 2 xFT xN 0 0 (MQ below (xQc g xFT xN P) args s 0 0 (xFr g)) (k_X12_behind_11 P) 11 := by
  unfold k_X12_behind_11
  exact r_iret (pc := 11) X hr d_X12_behind_11
def k_X12_behind_0 (P : xP) : xK := x_iload 1 (x_if_ne (x_iload 1 (x_push (.int 1) (x_iadd ((k_X12_behind_11 P))))) (x_push (.int 1) ((k_X12_behind_11 P))))
set_option maxRecDepth 20000 in
theorem t_X12_behind_0 {p : Program} {l : Launch} {e : Env} {s : State} {m : MethodId} {args : Array Value} {below : List Frame} {meth : Method} {c : Code} {g : xG} (X : xX p s m args c meth cX12_behind RX12 2 g) (hr : meth.sig.returnType = (some .int)) {P : xP} : xAt p l e { frames := 0, cells := 0, slots := 0, locals := 0 } s m args below meth c g 2 xFT xN 0 0 (MQ below (xQc g xFT xN P) args s 0 0 (xFr g)) (k_X12_behind_0 P) 0 := by
  unfold k_X12_behind_0
  refine r_iload_n (pc := 0) X d_X12_behind_0 fn1 ?_
  refine r_if_ne (pc := 1) (tgt := 8) X d_X12_behind_1 (by decide +kernel) ?_ ?_
  · refine r_iload_n (pc := 8) X d_X12_behind_8 fn1 ?_
    refine r_iconst (pc := 9) X d_X12_behind_9 (by decide +kernel) ?_
    refine r_iadd (pc := 10) X d_X12_behind_10 ?_
    exact t_X12_behind_11 X hr
  · refine r_iconst (pc := 4) X d_X12_behind_4 (by decide +kernel) ?_
    refine r_goto (pc := 5) (tgt := 11) X d_X12_behind_5 (by decide +kernel) ?_
    exact t_X12_behind_11 X hr
def f_X12_behind (a0 : Nat) (a1 : Int32) (A : xH) (P : xP) : Prop := k_X12_behind_0 P [some (.ref a0), some (.int a1)] [] A
set_option maxRecDepth 20000 in
theorem con_X12_behind (l : Launch) : xCon l yX12_behind cX12_behind 2 (some .int) 0 0 xN xN 0 xFT xFT (w_RI f_X12_behind) :=
  xc_RI (plainFor_of_name pn_RX12) (by decide +kernel) (fun p e s m args below meth c g a0 a1 A P h X hr _ => ⟨_, h, t_X12_behind_0 X hr⟩)
theorem d_X12_laysItems_0 : decode cX12_laysItems 0 = .ok (.aload_n 0, 1) := by decide +kernel
theorem d_X12_laysItems_1 : decode cX12_laysItems 1 = .ok (.getfield 312, 3) := by decide +kernel
theorem d_X12_laysItems_4 : decode cX12_laysItems 4 = .ok (.ifCond .eq 4, 3) := by decide +kernel
theorem d_X12_laysItems_7 : decode cX12_laysItems 7 = .ok (.return_, 1) := by decide +kernel
theorem d_X12_laysItems_8 : decode cX12_laysItems 8 = .ok (.aload_n 0, 1) := by decide +kernel
theorem d_X12_laysItems_9 : decode cX12_laysItems 9 = .ok (.iconst 1, 1) := by decide +kernel
theorem d_X12_laysItems_10 : decode cX12_laysItems 10 = .ok (.putfield 312, 3) := by decide +kernel
theorem d_X12_laysItems_13 : decode cX12_laysItems 13 = .ok (.iconst 0, 1) := by decide +kernel
theorem d_X12_laysItems_14 : decode cX12_laysItems 14 = .ok (.istore_n 1, 1) := by decide +kernel
theorem d_X12_laysItems_15 : decode cX12_laysItems 15 = .ok (.iload_n 1, 1) := by decide +kernel
theorem d_X12_laysItems_16 : decode cX12_laysItems 16 = .ok (.iconst 2, 1) := by decide +kernel
theorem d_X12_laysItems_17 : decode cX12_laysItems 17 = .ok (.if_icmp .ge 48, 3) := by decide +kernel
theorem d_X12_laysItems_20 : decode cX12_laysItems 20 = .ok (.aload_n 0, 1) := by decide +kernel
theorem d_X12_laysItems_21 : decode cX12_laysItems 21 = .ok (.getfield 50, 3) := by decide +kernel
theorem d_X12_laysItems_24 : decode cX12_laysItems 24 = .ok (.iload_n 1, 1) := by decide +kernel
theorem d_X12_laysItems_25 : decode cX12_laysItems 25 = .ok (.iconst (-1), 1) := by decide +kernel
theorem d_X12_laysItems_26 : decode cX12_laysItems 26 = .ok (.iastore, 1) := by decide +kernel
theorem d_X12_laysItems_27 : decode cX12_laysItems 27 = .ok (.aload_n 0, 1) := by decide +kernel
theorem d_X12_laysItems_28 : decode cX12_laysItems 28 = .ok (.getfield 53, 3) := by decide +kernel
theorem d_X12_laysItems_31 : decode cX12_laysItems 31 = .ok (.iload_n 1, 1) := by decide +kernel
theorem d_X12_laysItems_32 : decode cX12_laysItems 32 = .ok (.iconst (-1), 1) := by decide +kernel
theorem d_X12_laysItems_33 : decode cX12_laysItems 33 = .ok (.iastore, 1) := by decide +kernel
theorem d_X12_laysItems_34 : decode cX12_laysItems 34 = .ok (.aload_n 0, 1) := by decide +kernel
theorem d_X12_laysItems_35 : decode cX12_laysItems 35 = .ok (.getfield 56, 3) := by decide +kernel
theorem d_X12_laysItems_38 : decode cX12_laysItems 38 = .ok (.iload_n 1, 1) := by decide +kernel
theorem d_X12_laysItems_39 : decode cX12_laysItems 39 = .ok (.iload_n 1, 1) := by decide +kernel
theorem d_X12_laysItems_40 : decode cX12_laysItems 40 = .ok (.ifCond .ne 17, 3) := by decide +kernel
theorem d_X12_laysItems_43 : decode cX12_laysItems 43 = .ok (.aload_n 0, 1) := by decide +kernel
theorem d_X12_laysItems_44 : decode cX12_laysItems 44 = .ok (.getfield 30, 3) := by decide +kernel
theorem d_X12_laysItems_47 : decode cX12_laysItems 47 = .ok (.iconst 1, 1) := by decide +kernel
theorem d_X12_laysItems_48 : decode cX12_laysItems 48 = .ok (.iaload, 1) := by decide +kernel
theorem d_X12_laysItems_49 : decode cX12_laysItems 49 = .ok (.ifCond .le 8, 3) := by decide +kernel
theorem d_X12_laysItems_52 : decode cX12_laysItems 52 = .ok (.bipush 8, 2) := by decide +kernel
theorem d_X12_laysItems_54 : decode cX12_laysItems 54 = .ok (.goto 4, 3) := by decide +kernel
theorem d_X12_laysItems_57 : decode cX12_laysItems 57 = .ok (.iconst (-1), 1) := by decide +kernel
theorem d_X12_laysItems_58 : decode cX12_laysItems 58 = .ok (.iastore, 1) := by decide +kernel
theorem d_X12_laysItems_59 : decode cX12_laysItems 59 = .ok (.iinc 1 1, 3) := by decide +kernel
theorem d_X12_laysItems_62 : decode cX12_laysItems 62 = .ok (.goto (-47), 3) := by decide +kernel
theorem d_X12_laysItems_65 : decode cX12_laysItems 65 = .ok (.aload_n 0, 1) := by decide +kernel
theorem d_X12_laysItems_66 : decode cX12_laysItems 66 = .ok (.iconst 2, 1) := by decide +kernel
theorem d_X12_laysItems_67 : decode cX12_laysItems 67 = .ok (.putfield 328, 3) := by decide +kernel
theorem d_X12_laysItems_70 : decode cX12_laysItems 70 = .ok (.iconst 0, 1) := by decide +kernel
theorem d_X12_laysItems_71 : decode cX12_laysItems 71 = .ok (.istore_n 1, 1) := by decide +kernel
theorem d_X12_laysItems_72 : decode cX12_laysItems 72 = .ok (.iload_n 1, 1) := by decide +kernel
theorem d_X12_laysItems_73 : decode cX12_laysItems 73 = .ok (.aload_n 0, 1) := by decide +kernel
theorem d_X12_laysItems_74 : decode cX12_laysItems 74 = .ok (.getfield 30, 3) := by decide +kernel
theorem d_X12_laysItems_77 : decode cX12_laysItems 77 = .ok (.iconst 2, 1) := by decide +kernel
theorem d_X12_laysItems_78 : decode cX12_laysItems 78 = .ok (.iaload, 1) := by decide +kernel
theorem d_X12_laysItems_79 : decode cX12_laysItems 79 = .ok (.if_icmp .ge 94, 3) := by decide +kernel
theorem d_X12_laysItems_82 : decode cX12_laysItems 82 = .ok (.aload_n 0, 1) := by decide +kernel
theorem d_X12_laysItems_83 : decode cX12_laysItems 83 = .ok (.getfield 59, 3) := by decide +kernel
theorem d_X12_laysItems_86 : decode cX12_laysItems 86 = .ok (.iload_n 1, 1) := by decide +kernel
theorem d_X12_laysItems_87 : decode cX12_laysItems 87 = .ok (.aload_n 0, 1) := by decide +kernel
theorem d_X12_laysItems_88 : decode cX12_laysItems 88 = .ok (.getfield 328, 3) := by decide +kernel
theorem d_X12_laysItems_91 : decode cX12_laysItems 91 = .ok (.iastore, 1) := by decide +kernel
theorem d_X12_laysItems_92 : decode cX12_laysItems 92 = .ok (.iconst 0, 1) := by decide +kernel
theorem d_X12_laysItems_93 : decode cX12_laysItems 93 = .ok (.istore_n 2, 1) := by decide +kernel
theorem d_X12_laysItems_94 : decode cX12_laysItems 94 = .ok (.iload_n 2, 1) := by decide +kernel
theorem d_X12_laysItems_95 : decode cX12_laysItems 95 = .ok (.aload_n 0, 1) := by decide +kernel
theorem d_X12_laysItems_96 : decode cX12_laysItems 96 = .ok (.iload_n 1, 1) := by decide +kernel
theorem d_X12_laysItems_97 : decode cX12_laysItems 97 = .ok (.invokevirtual 331, 3) := by decide +kernel
theorem d_X12_laysItems_100 : decode cX12_laysItems 100 = .ok (.if_icmp .gt 67, 3) := by decide +kernel
theorem d_X12_laysItems_103 : decode cX12_laysItems 103 = .ok (.aload_n 0, 1) := by decide +kernel
theorem d_X12_laysItems_104 : decode cX12_laysItems 104 = .ok (.getfield 50, 3) := by decide +kernel
theorem d_X12_laysItems_107 : decode cX12_laysItems 107 = .ok (.aload_n 0, 1) := by decide +kernel
theorem d_X12_laysItems_108 : decode cX12_laysItems 108 = .ok (.getfield 328, 3) := by decide +kernel
theorem d_X12_laysItems_111 : decode cX12_laysItems 111 = .ok (.iload_n 1, 1) := by decide +kernel
theorem d_X12_laysItems_112 : decode cX12_laysItems 112 = .ok (.iastore, 1) := by decide +kernel
theorem d_X12_laysItems_113 : decode cX12_laysItems 113 = .ok (.aload_n 0, 1) := by decide +kernel
theorem d_X12_laysItems_114 : decode cX12_laysItems 114 = .ok (.getfield 53, 3) := by decide +kernel
theorem d_X12_laysItems_117 : decode cX12_laysItems 117 = .ok (.aload_n 0, 1) := by decide +kernel
theorem d_X12_laysItems_118 : decode cX12_laysItems 118 = .ok (.getfield 328, 3) := by decide +kernel
theorem d_X12_laysItems_121 : decode cX12_laysItems 121 = .ok (.iload_n 2, 1) := by decide +kernel
theorem d_X12_laysItems_122 : decode cX12_laysItems 122 = .ok (.iastore, 1) := by decide +kernel
theorem d_X12_laysItems_123 : decode cX12_laysItems 123 = .ok (.aload_n 0, 1) := by decide +kernel
theorem d_X12_laysItems_124 : decode cX12_laysItems 124 = .ok (.getfield 56, 3) := by decide +kernel
theorem d_X12_laysItems_127 : decode cX12_laysItems 127 = .ok (.aload_n 0, 1) := by decide +kernel
theorem d_X12_laysItems_128 : decode cX12_laysItems 128 = .ok (.getfield 328, 3) := by decide +kernel
theorem d_X12_laysItems_131 : decode cX12_laysItems 131 = .ok (.iload_n 2, 1) := by decide +kernel
theorem d_X12_laysItems_132 : decode cX12_laysItems 132 = .ok (.aload_n 0, 1) := by decide +kernel
theorem d_X12_laysItems_133 : decode cX12_laysItems 133 = .ok (.iload_n 1, 1) := by decide +kernel
theorem d_X12_laysItems_134 : decode cX12_laysItems 134 = .ok (.invokevirtual 331, 3) := by decide +kernel
theorem d_X12_laysItems_137 : decode cX12_laysItems 137 = .ok (.if_icmp .ge 12, 3) := by decide +kernel
theorem d_X12_laysItems_140 : decode cX12_laysItems 140 = .ok (.aload_n 0, 1) := by decide +kernel
theorem d_X12_laysItems_141 : decode cX12_laysItems 141 = .ok (.iload_n 1, 1) := by decide +kernel
theorem d_X12_laysItems_142 : decode cX12_laysItems 142 = .ok (.iload_n 2, 1) := by decide +kernel
theorem d_X12_laysItems_143 : decode cX12_laysItems 143 = .ok (.invokevirtual 335, 3) := by decide +kernel
theorem d_X12_laysItems_146 : decode cX12_laysItems 146 = .ok (.goto 4, 3) := by decide +kernel
theorem d_X12_laysItems_149 : decode cX12_laysItems 149 = .ok (.iconst (-1), 1) := by decide +kernel
theorem d_X12_laysItems_150 : decode cX12_laysItems 150 = .ok (.iastore, 1) := by decide +kernel
theorem d_X12_laysItems_151 : decode cX12_laysItems 151 = .ok (.aload_n 0, 1) := by decide +kernel
theorem d_X12_laysItems_152 : decode cX12_laysItems 152 = .ok (.dup, 1) := by decide +kernel
theorem d_X12_laysItems_153 : decode cX12_laysItems 153 = .ok (.getfield 328, 3) := by decide +kernel
theorem d_X12_laysItems_156 : decode cX12_laysItems 156 = .ok (.iconst 1, 1) := by decide +kernel
theorem d_X12_laysItems_157 : decode cX12_laysItems 157 = .ok (.iadd, 1) := by decide +kernel
theorem d_X12_laysItems_158 : decode cX12_laysItems 158 = .ok (.putfield 328, 3) := by decide +kernel
theorem d_X12_laysItems_161 : decode cX12_laysItems 161 = .ok (.iinc 2 1, 3) := by decide +kernel
theorem d_X12_laysItems_164 : decode cX12_laysItems 164 = .ok (.goto (-70), 3) := by decide +kernel
theorem d_X12_laysItems_167 : decode cX12_laysItems 167 = .ok (.iinc 1 1, 3) := by decide +kernel
theorem d_X12_laysItems_170 : decode cX12_laysItems 170 = .ok (.goto (-98), 3) := by decide +kernel
theorem d_X12_laysItems_173 : decode cX12_laysItems 173 = .ok (.return_, 1) := by decide +kernel
def k_X12_laysItems_0 (P : xP) (C15 : xK) : xK := x_aload 0 (y_getI 180 25 (x_if_eq (x_aload 0 (x_push (.int 1) (y_putZ 180 25 (x_push (.int 0) (x_istore 1 (C15)))))) (x_vret P)))
set_option maxRecDepth 20000 in
theorem t_X12_laysItems_0 {p : Program} {l : Launch} {e : Env} {s : State} {m : MethodId} {args : Array Value} {below : List Frame} {meth : Method} {c : Code} {g : xG} (X : xX p s m args c meth cX12_laysItems RX12 3 g) (hr : meth.sig.returnType = none) {P : xP} {C15 : xK} (h15 : xAt p l e { frames := 1, cells := 0, slots := 0, locals := 22 } s m args below meth c g 3 xFT xN 0 0 (MQ below (xQc g xFT xN P) args s 0 0 (xFr g)) C15 15) : xAt p l e { frames := 1, cells := 0, slots := 0, locals := 22 } s m args below meth c g 3 xFT xN 0 0 (MQ below (xQc g xFT xN P) args s 0 0 (xFr g)) (k_X12_laysItems_0 P C15) 0 := by
  unfold k_X12_laysItems_0
  refine r_aload_n (pc := 0) X d_X12_laysItems_0 fn0 ?_
  refine s_getI (pc := 1) (ci := 12) X xok12 (by decide +kernel) ob_180 (by decide +kernel) fl_RX12_312 d_X12_laysItems_1 ?_
  refine r_if_eq (pc := 4) (tgt := 8) X d_X12_laysItems_4 (by decide +kernel) ?_ ?_
  · refine r_aload_n (pc := 8) X d_X12_laysItems_8 fn0 ?_
    refine r_iconst (pc := 9) X d_X12_laysItems_9 (by decide +kernel) ?_
    refine s_putZ (pc := 10) (ci := 12) X xok12 (by decide +kernel) ob_180 (by decide +kernel) (by decide +kernel) (by decide +kernel) fl_RX12_312 d_X12_laysItems_10 ?_
    refine r_iconst (pc := 13) X d_X12_laysItems_13 (by decide +kernel) ?_
    refine r_istore_n (pc := 14) X d_X12_laysItems_14 fn1 (by decide +kernel) ?_
    exact h15
  · exact r_vret (pc := 7) X hr d_X12_laysItems_7
def k_X12_laysItems_58 (P : xP) (C15 : xK) : xK := x_iast xN (x_iinc 1 1 (C15))
set_option maxRecDepth 20000 in
theorem t_X12_laysItems_58 {p : Program} {l : Launch} {e : Env} {s : State} {m : MethodId} {args : Array Value} {below : List Frame} {meth : Method} {c : Code} {g : xG} (X : xX p s m args c meth cX12_laysItems RX12 3 g) (hr : meth.sig.returnType = none) {P : xP} {C15 : xK} (h15 : xAt p l e { frames := 1, cells := 0, slots := 0, locals := 22 } s m args below meth c g 3 xFT xN 0 0 (MQ below (xQc g xFT xN P) args s 0 0 (xFr g)) C15 15) : xAt p l e { frames := 1, cells := 0, slots := 0, locals := 22 } s m args below meth c g 3 xFT xN 0 0 (MQ below (xQc g xFT xN P) args s 0 0 (xFr g)) (k_X12_laysItems_58 P C15) 58 := by
  unfold k_X12_laysItems_58
  refine r_iast (pc := 58) X d_X12_laysItems_58 ?_
  refine r_iinc (pc := 59) X d_X12_laysItems_59 (by decide +kernel) (by decide +kernel) ?_
  refine r_goto (pc := 62) (tgt := 15) X d_X12_laysItems_62 (by decide +kernel) ?_
  exact h15
def k_X12_laysItems_57 (P : xP) (C15 : xK) : xK := x_push (.int (-1)) ((k_X12_laysItems_58 P C15))
set_option maxRecDepth 20000 in
theorem t_X12_laysItems_57 {p : Program} {l : Launch} {e : Env} {s : State} {m : MethodId} {args : Array Value} {below : List Frame} {meth : Method} {c : Code} {g : xG} (X : xX p s m args c meth cX12_laysItems RX12 3 g) (hr : meth.sig.returnType = none) {P : xP} {C15 : xK} (h15 : xAt p l e { frames := 1, cells := 0, slots := 0, locals := 22 } s m args below meth c g 3 xFT xN 0 0 (MQ below (xQc g xFT xN P) args s 0 0 (xFr g)) C15 15) : xAt p l e { frames := 1, cells := 0, slots := 0, locals := 22 } s m args below meth c g 3 xFT xN 0 0 (MQ below (xQc g xFT xN P) args s 0 0 (xFr g)) (k_X12_laysItems_57 P C15) 57 := by
  unfold k_X12_laysItems_57
  refine r_iconst (pc := 57) X d_X12_laysItems_57 (by decide +kernel) ?_
  exact t_X12_laysItems_58 X hr h15
def k_X12_laysItems_15 (P : xP) (C15 : xK) (C72 : xK) : xK := x_iload 1 (x_push (.int 2) (x_icmp_ge (x_aload 0 (x_push (.int 2) (y_putI 180 24 (x_push (.int 0) (x_istore 1 (C72)))))) (x_aload 0 (y_getF 180 188 (x_iload 1 (x_push (.int (-1)) (y_iast 188 42 (x_aload 0 (y_getF 180 189 (x_iload 1 (x_push (.int (-1)) (y_iast 189 42 (x_aload 0 (y_getF 180 190 (x_iload 1 (x_iload 1 (x_if_ne ((k_X12_laysItems_57 P C15)) (x_aload 0 (y_getF 180 182 (x_push (.int 1) (y_iald 182 232 (x_if_le ((k_X12_laysItems_57 P C15)) (x_push (.int 8) ((k_X12_laysItems_58 P C15)))))))))))))))))))))))))
set_option maxRecDepth 20000 in
theorem t_X12_laysItems_15 {p : Program} {l : Launch} {e : Env} {s : State} {m : MethodId} {args : Array Value} {below : List Frame} {meth : Method} {c : Code} {g : xG} (X : xX p s m args c meth cX12_laysItems RX12 3 g) (hr : meth.sig.returnType = none) {P : xP} {C15 : xK} {C72 : xK} (h15 : xAt p l e { frames := 1, cells := 0, slots := 0, locals := 22 } s m args below meth c g 3 xFT xN 0 0 (MQ below (xQc g xFT xN P) args s 0 0 (xFr g)) C15 15) (h72 : xAt p l e { frames := 1, cells := 0, slots := 0, locals := 22 } s m args below meth c g 3 xFT xN 0 0 (MQ below (xQc g xFT xN P) args s 0 0 (xFr g)) C72 72) : xAt p l e { frames := 1, cells := 0, slots := 0, locals := 22 } s m args below meth c g 3 xFT xN 0 0 (MQ below (xQc g xFT xN P) args s 0 0 (xFr g)) (k_X12_laysItems_15 P C15 C72) 15 := by
  unfold k_X12_laysItems_15
  refine r_iload_n (pc := 15) X d_X12_laysItems_15 fn1 ?_
  refine r_iconst (pc := 16) X d_X12_laysItems_16 (by decide +kernel) ?_
  refine r_icmp_ge (pc := 17) (tgt := 65) X d_X12_laysItems_17 (by decide +kernel) ?_ ?_
  · refine r_aload_n (pc := 65) X d_X12_laysItems_65 fn0 ?_
    refine r_iconst (pc := 66) X d_X12_laysItems_66 (by decide +kernel) ?_
    refine s_putI (pc := 67) (ci := 12) X xok12 (by decide +kernel) ob_180 (by decide +kernel) (by decide +kernel) (by decide +kernel) fl_RX12_328 d_X12_laysItems_67 ?_
    refine r_iconst (pc := 70) X d_X12_laysItems_70 (by decide +kernel) ?_
    refine r_istore_n (pc := 71) X d_X12_laysItems_71 fn1 (by decide +kernel) ?_
    exact h72
  · refine r_aload_n (pc := 20) X d_X12_laysItems_20 fn0 ?_
    refine s_getF (pc := 21) (ci := 12) (k := 20) X xok12 (by decide +kernel) ob_180 trivial ly_180_20 (by decide +kernel) fl_RX12_50 d_X12_laysItems_21 ?_
    refine r_iload_n (pc := 24) X d_X12_laysItems_24 fn1 ?_
    refine r_iconst (pc := 25) X d_X12_laysItems_25 (by decide +kernel) ?_
    refine s_iast (pc := 26) X tn_188 ln_188 d_X12_laysItems_26 ?_
    refine r_aload_n (pc := 27) X d_X12_laysItems_27 fn0 ?_
    refine s_getF (pc := 28) (ci := 12) (k := 21) X xok12 (by decide +kernel) ob_180 trivial ly_180_21 (by decide +kernel) fl_RX12_53 d_X12_laysItems_28 ?_
    refine r_iload_n (pc := 31) X d_X12_laysItems_31 fn1 ?_
    refine r_iconst (pc := 32) X d_X12_laysItems_32 (by decide +kernel) ?_
    refine s_iast (pc := 33) X tn_189 ln_189 d_X12_laysItems_33 ?_
    refine r_aload_n (pc := 34) X d_X12_laysItems_34 fn0 ?_
    refine s_getF (pc := 35) (ci := 12) (k := 22) X xok12 (by decide +kernel) ob_180 trivial ly_180_22 (by decide +kernel) fl_RX12_56 d_X12_laysItems_35 ?_
    refine r_iload_n (pc := 38) X d_X12_laysItems_38 fn1 ?_
    refine r_iload_n (pc := 39) X d_X12_laysItems_39 fn1 ?_
    refine r_if_ne (pc := 40) (tgt := 57) X d_X12_laysItems_40 (by decide +kernel) ?_ ?_
    · exact t_X12_laysItems_57 X hr h15
    · refine r_aload_n (pc := 43) X d_X12_laysItems_43 fn0 ?_
      refine s_getF (pc := 44) (ci := 12) (k := 5) X xok12 (by decide +kernel) ob_180 trivial ly_180_5 (by decide +kernel) fl_RX12_30 d_X12_laysItems_44 ?_
      refine r_iconst (pc := 47) X d_X12_laysItems_47 (by decide +kernel) ?_
      refine s_iald (pc := 48) X tn_182 ln_182 d_X12_laysItems_48 ?_
      refine r_if_le (pc := 49) (tgt := 57) X d_X12_laysItems_49 (by decide +kernel) ?_ ?_
      · exact t_X12_laysItems_57 X hr h15
      · refine r_bipush (pc := 52) X d_X12_laysItems_52 (by decide +kernel) ?_
        refine r_goto (pc := 54) (tgt := 58) X d_X12_laysItems_54 (by decide +kernel) ?_
        exact t_X12_laysItems_58 X hr h15
def k_X12_laysItems_72 (P : xP) (C94 : xK) : xK := x_iload 1 (x_aload 0 (y_getF 180 182 (x_push (.int 2) (y_iald 182 232 (x_icmp_ge (x_vret P) (x_aload 0 (y_getF 180 191 (x_iload 1 (x_aload 0 (y_getI 180 24 (y_iast 191 10 (x_push (.int 0) (x_istore 2 (C94))))))))))))))
set_option maxRecDepth 20000 in
theorem t_X12_laysItems_72 {p : Program} {l : Launch} {e : Env} {s : State} {m : MethodId} {args : Array Value} {below : List Frame} {meth : Method} {c : Code} {g : xG} (X : xX p s m args c meth cX12_laysItems RX12 3 g) (hr : meth.sig.returnType = none) {P : xP} {C94 : xK} (h94 : xAt p l e { frames := 1, cells := 0, slots := 0, locals := 22 } s m args below meth c g 3 xFT xN 0 0 (MQ below (xQc g xFT xN P) args s 0 0 (xFr g)) C94 94) : xAt p l e { frames := 1, cells := 0, slots := 0, locals := 22 } s m args below meth c g 3 xFT xN 0 0 (MQ below (xQc g xFT xN P) args s 0 0 (xFr g)) (k_X12_laysItems_72 P C94) 72 := by
  unfold k_X12_laysItems_72
  refine r_iload_n (pc := 72) X d_X12_laysItems_72 fn1 ?_
  refine r_aload_n (pc := 73) X d_X12_laysItems_73 fn0 ?_
  refine s_getF (pc := 74) (ci := 12) (k := 5) X xok12 (by decide +kernel) ob_180 trivial ly_180_5 (by decide +kernel) fl_RX12_30 d_X12_laysItems_74 ?_
  refine r_iconst (pc := 77) X d_X12_laysItems_77 (by decide +kernel) ?_
  refine s_iald (pc := 78) X tn_182 ln_182 d_X12_laysItems_78 ?_
  refine r_icmp_ge (pc := 79) (tgt := 173) X d_X12_laysItems_79 (by decide +kernel) ?_ ?_
  · exact r_vret (pc := 173) X hr d_X12_laysItems_173
  · refine r_aload_n (pc := 82) X d_X12_laysItems_82 fn0 ?_
    refine s_getF (pc := 83) (ci := 12) (k := 23) X xok12 (by decide +kernel) ob_180 trivial ly_180_23 (by decide +kernel) fl_RX12_59 d_X12_laysItems_83 ?_
    refine r_iload_n (pc := 86) X d_X12_laysItems_86 fn1 ?_
    refine r_aload_n (pc := 87) X d_X12_laysItems_87 fn0 ?_
    refine s_getI (pc := 88) (ci := 12) X xok12 (by decide +kernel) ob_180 (by decide +kernel) fl_RX12_328 d_X12_laysItems_88 ?_
    refine s_iast (pc := 91) X tn_191 ln_191 d_X12_laysItems_91 ?_
    refine r_iconst (pc := 92) X d_X12_laysItems_92 (by decide +kernel) ?_
    refine r_istore_n (pc := 93) X d_X12_laysItems_93 fn2 (by decide +kernel) ?_
    exact h94
def k_X12_laysItems_150 (P : xP) (C94 : xK) : xK := x_iast xN (x_aload 0 (x_dup (y_getI 180 24 (x_push (.int 1) (x_iadd (y_putI 180 24 (x_iinc 2 1 (C94))))))))
set_option maxRecDepth 20000 in
theorem t_X12_laysItems_150 {p : Program} {l : Launch} {e : Env} {s : State} {m : MethodId} {args : Array Value} {below : List Frame} {meth : Method} {c : Code} {g : xG} (X : xX p s m args c meth cX12_laysItems RX12 3 g) (hr : meth.sig.returnType = none) {P : xP} {C94 : xK} (h94 : xAt p l e { frames := 1, cells := 0, slots := 0, locals := 22 } s m args below meth c g 3 xFT xN 0 0 (MQ below (xQc g xFT xN P) args s 0 0 (xFr g)) C94 94) : xAt p l e { frames := 1, cells := 0, slots := 0, locals := 22 } s m args below meth c g 3 xFT xN 0 0 (MQ below (xQc g xFT xN P) args s 0 0 (xFr g)) (k_X12_laysItems_150 P C94) 150 := by
  unfold k_X12_laysItems_150
  refine r_iast (pc := 150) X d_X12_laysItems_150 ?_
  refine r_aload_n (pc := 151) X d_X12_laysItems_151 fn0 ?_
  refine r_dup (pc := 152) X d_X12_laysItems_152 ?_
  refine s_getI (pc := 153) (ci := 12) X xok12 (by decide +kernel) ob_180 (by decide +kernel) fl_RX12_328 d_X12_laysItems_153 ?_
  refine r_iconst (pc := 156) X d_X12_laysItems_156 (by decide +kernel) ?_
  refine r_iadd (pc := 157) X d_X12_laysItems_157 ?_
  refine s_putI (pc := 158) (ci := 12) X xok12 (by decide +kernel) ob_180 (by decide +kernel) (by decide +kernel) (by decide +kernel) fl_RX12_328 d_X12_laysItems_158 ?_
  refine r_iinc (pc := 161) X d_X12_laysItems_161 (by decide +kernel) (by decide +kernel) ?_
  refine r_goto (pc := 164) (tgt := 94) X d_X12_laysItems_164 (by decide +kernel) ?_
  exact h94
def k_X12_laysItems_94 (P : xP) (C72 : xK) (C94 : xK) : xK := x_iload 2 (x_aload 0 (x_iload 1 (y_cv1 180 (w_RI f_X12_many) (x_icmp_gt (x_iinc 1 1 (C72)) (x_aload 0 (y_getF 180 188 (x_aload 0 (y_getI 180 24 (x_iload 1 (y_iast 188 42 (x_aload 0 (y_getF 180 189 (x_aload 0 (y_getI 180 24 (x_iload 2 (y_iast 189 42 (x_aload 0 (y_getF 180 190 (x_aload 0 (y_getI 180 24 (x_iload 2 (x_aload 0 (x_iload 1 (y_cv1 180 (w_RI f_X12_many) (x_icmp_ge (x_push (.int (-1)) ((k_X12_laysItems_150 P C94))) (x_aload 0 (x_iload 1 (x_iload 2 (y_cv2 180 (w_RII f_X12_symbol) ((k_X12_laysItems_150 P C94)))))))))))))))))))))))))))))))
set_option maxRecDepth 20000 in
theorem t_X12_laysItems_94 {p : Program} {l : Launch} {e : Env} {s : State} {m : MethodId} {args : Array Value} {below : List Frame} {meth : Method} {c : Code} {g : xG} (X : xX p s m args c meth cX12_laysItems RX12 3 g) (hr : meth.sig.returnType = none) {P : xP} {C72 : xK} {C94 : xK} (h72 : xAt p l e { frames := 1, cells := 0, slots := 0, locals := 22 } s m args below meth c g 3 xFT xN 0 0 (MQ below (xQc g xFT xN P) args s 0 0 (xFr g)) C72 72) (h94 : xAt p l e { frames := 1, cells := 0, slots := 0, locals := 22 } s m args below meth c g 3 xFT xN 0 0 (MQ below (xQc g xFT xN P) args s 0 0 (xFr g)) C94 94) : xAt p l e { frames := 1, cells := 0, slots := 0, locals := 22 } s m args below meth c g 3 xFT xN 0 0 (MQ below (xQc g xFT xN P) args s 0 0 (xFr g)) (k_X12_laysItems_94 P C72 C94) 94 := by
  unfold k_X12_laysItems_94
  refine r_iload_n (pc := 94) X d_X12_laysItems_94 fn2 ?_
  refine r_aload_n (pc := 95) X d_X12_laysItems_95 fn0 ?_
  refine r_iload_n (pc := 96) X d_X12_laysItems_96 fn1 ?_
  refine s_cv1 (pc := 97) (ci := 12) X xok12 (by decide +kernel) ob_180 rfl (con_X12_many l) mf_X12_many ml_RX12_331 (by decide +kernel) (by decide +kernel) d_X12_laysItems_97 ?_
  refine r_icmp_gt (pc := 100) (tgt := 167) X d_X12_laysItems_100 (by decide +kernel) ?_ ?_
  · refine r_iinc (pc := 167) X d_X12_laysItems_167 (by decide +kernel) (by decide +kernel) ?_
    refine r_goto (pc := 170) (tgt := 72) X d_X12_laysItems_170 (by decide +kernel) ?_
    exact h72
  · refine r_aload_n (pc := 103) X d_X12_laysItems_103 fn0 ?_
    refine s_getF (pc := 104) (ci := 12) (k := 20) X xok12 (by decide +kernel) ob_180 trivial ly_180_20 (by decide +kernel) fl_RX12_50 d_X12_laysItems_104 ?_
    refine r_aload_n (pc := 107) X d_X12_laysItems_107 fn0 ?_
    refine s_getI (pc := 108) (ci := 12) X xok12 (by decide +kernel) ob_180 (by decide +kernel) fl_RX12_328 d_X12_laysItems_108 ?_
    refine r_iload_n (pc := 111) X d_X12_laysItems_111 fn1 ?_
    refine s_iast (pc := 112) X tn_188 ln_188 d_X12_laysItems_112 ?_
    refine r_aload_n (pc := 113) X d_X12_laysItems_113 fn0 ?_
    refine s_getF (pc := 114) (ci := 12) (k := 21) X xok12 (by decide +kernel) ob_180 trivial ly_180_21 (by decide +kernel) fl_RX12_53 d_X12_laysItems_114 ?_
    refine r_aload_n (pc := 117) X d_X12_laysItems_117 fn0 ?_
    refine s_getI (pc := 118) (ci := 12) X xok12 (by decide +kernel) ob_180 (by decide +kernel) fl_RX12_328 d_X12_laysItems_118 ?_
    refine r_iload_n (pc := 121) X d_X12_laysItems_121 fn2 ?_
    refine s_iast (pc := 122) X tn_189 ln_189 d_X12_laysItems_122 ?_
    refine r_aload_n (pc := 123) X d_X12_laysItems_123 fn0 ?_
    refine s_getF (pc := 124) (ci := 12) (k := 22) X xok12 (by decide +kernel) ob_180 trivial ly_180_22 (by decide +kernel) fl_RX12_56 d_X12_laysItems_124 ?_
    refine r_aload_n (pc := 127) X d_X12_laysItems_127 fn0 ?_
    refine s_getI (pc := 128) (ci := 12) X xok12 (by decide +kernel) ob_180 (by decide +kernel) fl_RX12_328 d_X12_laysItems_128 ?_
    refine r_iload_n (pc := 131) X d_X12_laysItems_131 fn2 ?_
    refine r_aload_n (pc := 132) X d_X12_laysItems_132 fn0 ?_
    refine r_iload_n (pc := 133) X d_X12_laysItems_133 fn1 ?_
    refine s_cv1 (pc := 134) (ci := 12) X xok12 (by decide +kernel) ob_180 rfl (con_X12_many l) mf_X12_many ml_RX12_331 (by decide +kernel) (by decide +kernel) d_X12_laysItems_134 ?_
    refine r_icmp_ge (pc := 137) (tgt := 149) X d_X12_laysItems_137 (by decide +kernel) ?_ ?_
    · refine r_iconst (pc := 149) X d_X12_laysItems_149 (by decide +kernel) ?_
      exact t_X12_laysItems_150 X hr h94
    · refine r_aload_n (pc := 140) X d_X12_laysItems_140 fn0 ?_
      refine r_iload_n (pc := 141) X d_X12_laysItems_141 fn1 ?_
      refine r_iload_n (pc := 142) X d_X12_laysItems_142 fn2 ?_
      refine s_cv2 (pc := 143) (ci := 12) X xok12 (by decide +kernel) ob_180 rfl (con_X12_symbol l) mf_X12_symbol ml_RX12_335 (by decide +kernel) (by decide +kernel) d_X12_laysItems_143 ?_
      refine r_goto (pc := 146) (tgt := 150) X d_X12_laysItems_146 (by decide +kernel) ?_
      exact t_X12_laysItems_150 X hr h94
set_option maxRecDepth 20000 in
theorem m_X12_laysItems {l : Launch} {f : Nat → xH → xP → Prop}  {I15 : Nat → xH → xP → xM → xK} {I72 : Nat → xH → xP → xM → xK} {I94 : Nat → xH → xP → xM → xK}
    (v0 : ∀ (a0 : Nat) (A : xH) (P : xP), f a0 A P → k_X12_laysItems_0 P (xE (I15 a0 A P)) [some (.ref a0), none, none] [] A)
    (v15 : ∀ (a0 : Nat) (A : xH) (P : xP), f a0 A P → ∀ (μ : xM) (L : xL) (st : List Value) (B : xH), I15 a0 A P μ L st B → k_X12_laysItems_15 P (xB (I15 a0 A P) μ) (xE (I72 a0 A P)) L st B)
    (v72 : ∀ (a0 : Nat) (A : xH) (P : xP), f a0 A P → ∀ (μ : xM) (L : xL) (st : List Value) (B : xH), I72 a0 A P μ L st B → k_X12_laysItems_72 P (xB (I94 a0 A P) μ) L st B)
    (v94 : ∀ (a0 : Nat) (A : xH) (P : xP), f a0 A P → ∀ (μ : xM) (L : xL) (st : List Value) (B : xH), I94 a0 A P μ L st B → k_X12_laysItems_94 P (xB (I72 a0 A P) μ) (xB (I94 a0 A P) μ) L st B) : xCon l yX12_laysItems cX12_laysItems 3 none 1 22 xN xN 0 xFT xFT (w_R f) := by
  refine xc_R (plainFor_of_name pn_RX12) (by decide +kernel) (fun p e s m args below meth c g a0 A P h X hr _ => ?_)
  obtain ⟨h72, h94⟩ := x_loop2 (p := p) (l := l) (e := e) (R := { frames := 1, cells := 0, slots := 0, locals := 22 }) (s := s) (m := m) (args := args) (below := below) (meth := meth) (c := c) (g := g) (nL := 3) (F := xFT) (n := xN) (cells := 0) (slots := 0) (Q := MQ below (xQc g xFT xN P) args s 0 0 (xFr g)) (I1 := I72 a0 A P) (I2 := I94 a0 A P) (pc1 := 72) (pc2 := 94) (fun μ i72 i94 => xAt_mono (t_X12_laysItems_72 (P := P) X hr i94) (v72 a0 A P h μ)) (fun μ i72 i94 => xAt_mono (t_X12_laysItems_94 (P := P) X hr i72 i94) (v94 a0 A P h μ))
  have h15 := x_loop1 (p := p) (l := l) (e := e) (R := { frames := 1, cells := 0, slots := 0, locals := 22 }) (s := s) (m := m) (args := args) (below := below) (meth := meth) (c := c) (g := g) (nL := 3) (F := xFT) (n := xN) (cells := 0) (slots := 0) (Q := MQ below (xQc g xFT xN P) args s 0 0 (xFr g)) (I := I15 a0 A P) (pc1 := 15) (fun μ i15 => xAt_mono (t_X12_laysItems_15 (P := P) X hr i15 h72) (v15 a0 A P h μ))
  exact ⟨_, v0 a0 A P h, t_X12_laysItems_0 X hr h15⟩
/-- a rule's row read -/
theorem many_E {A : xH} {r : Nat} {P : xP} (h : r ≤ 10) : f_X12_many 180 (nI r) A P = P (some (.int (xi A 182 (4 + 5 * r + 1)))) A := by
  unfold f_X12_many
  simp (disch := omega) only [k_X12_many_0, x_aload, x_iadd, x_iload, x_imul, x_iret, x_push, y_getF, y_iald, xFT, xbool0, xbool1, Nat.reduceAdd, Nat.zero_add, xgl_0, xgl_s, xgl_n, xst_0, xst_1n, xst_1i, xst_1r, xst_1l, xst_s, set_0, set_s, true_and, and_true, xres, xcat_nil, xcat_i, xcat_r, xcat_l, Nat.add_zero, xble0, xble1, xble2, xble3, xble4, xble5, xble6, xble7, xble8, pk_mul, nI_add, nI_1, nI_leI, nI_ltI, nI_eq, n_in, n_cl, z_eq, z_lt, z_le, z_gt, z_ge, z_qe, o_eq, o_lt, o_le, o_gt, o_ge, vp0, vp1, cl0, cl1, n_sub, n_sub1, n_pm1, n_a0, n_0a, ofn, lN0, Nat.reduceLT, Nat.reduceLeDiff, Nat.reduceMul, Nat.reduceSub, Nat.reduceEqDiff, ne_eq, true_implies, false_implies, not_true_eq_false, not_false_eq_true, and_self, and_true, true_and, and_false, false_and, implies_true, if_true, if_false, i00, i10, i01, i11, ob_0, ob_1, tn_2, ln_2, ob_3, tn_4, ln_4, ob_5, tn_6, ln_6, tn_7, ln_7, ob_8, tn_9, ln_9, tn_10, ln_10, tn_11, ln_11, tn_12, ln_12, tn_13, ln_13, tn_14, ln_14, tn_15, ln_15, tn_16, ln_16, tn_17, ln_17, ob_18, tn_19, ln_19, tn_20, ln_20, tn_21, ln_21, tn_22, ln_22, tn_23, ln_23, tn_24, ln_24, tn_25, ln_25, tn_26, ln_26, tn_27, ln_27, ob_28, tn_29, ln_29, tn_30, ln_30, ob_31, tn_32, ln_32, tn_33, ln_33, ob_34, ob_35, tn_36, ln_36, tn_37, ln_37, tn_38, ln_38, ob_39, tn_40, ln_40, tn_41, ln_41, tn_42, ln_42, tn_43, ln_43, tn_44, ln_44, tn_45, ln_45, tn_46, ln_46, tn_47, ln_47, tn_48, ln_48, tn_49, ln_49, tn_50, ln_50, tn_51, ln_51, ob_52, tn_53, ln_53, tn_54, ln_54, tn_55, ln_55, tn_56, ln_56, ob_57, tn_58, ln_58, tn_59, ln_59, tn_60, ln_60, tn_61, ln_61, tn_62, ln_62, tn_63, ln_63, tn_64, ln_64, tn_65, ln_65, ob_66, tn_67, ln_67, tn_68, ln_68, tn_69, ln_69, tn_70, ln_70, tn_71, ln_71, tn_72, ln_72, tn_73, ln_73, ob_74, tn_75, ln_75, tn_76, ln_76, tn_77, ln_77, tn_78, ln_78, tn_79, ln_79, tn_80, ln_80, tn_81, ln_81, tn_82, ln_82, tn_83, ln_83, ob_84, tn_85, ln_85, tn_86, ln_86, tn_87, ln_87, tn_88, ln_88, tn_89, ln_89, tn_90, ln_90, tn_91, ln_91, tn_92, ln_92, tn_93, ln_93, ob_94, tn_95, ln_95, tn_96, ln_96, tn_97, ln_97, tn_98, ln_98, tn_99, ln_99, tn_100, ln_100, tn_101, ln_101, tn_102, ln_102, tn_103, ln_103, ob_104, tn_105, ln_105, tn_106, ln_106, tn_107, ln_107, tn_108, ln_108, tn_109, ln_109, tn_110, ln_110, tn_111, ln_111, tn_112, ln_112, tn_113, ln_113, ob_114, tn_115, ln_115, tn_116, ln_116, tn_117, ln_117, tn_118, ln_118, tn_119, ln_119, tn_120, ln_120, tn_121, ln_121, tn_122, ln_122, tn_123, ln_123, ob_124, tn_125, ln_125, tn_126, ln_126, tn_127, ln_127, tn_128, ln_128, tn_129, ln_129, tn_130, ln_130, tn_131, ln_131, tn_132, ln_132, tn_133, ln_133, ob_134, tn_135, ln_135, tn_136, ln_136, tn_137, ln_137, tn_138, ln_138, tn_139, ln_139, tn_140, ln_140, tn_141, ln_141, tn_142, ln_142, tn_143, ln_143, ob_144, tn_145, ln_145, tn_146, ln_146, tn_147, ln_147, tn_148, ln_148, tn_149, ln_149, tn_150, ln_150, tn_151, ln_151, tn_152, ln_152, tn_153, ln_153, ob_154, tn_155, ln_155, tn_156, ln_156, tn_157, ln_157, tn_158, ln_158, tn_159, ln_159, tn_160, ln_160, tn_161, ln_161, tn_162, ln_162, tn_163, ln_163, ob_164, tn_165, ln_165, tn_166, ln_166, ob_167, tn_168, ln_168, tn_169, ln_169, tn_170, ln_170, tn_171, ln_171, tn_172, ln_172, tn_173, ln_173, tn_174, ln_174, tn_175, ln_175, tn_176, ln_176, ob_177, tn_178, ln_178, tn_179, ln_179, ob_180, tn_181, ln_181, tn_182, ln_182, tn_183, ln_183, tn_184, ln_184, tn_185, ln_185, tn_186, ln_186, tn_187, ln_187, tn_188, ln_188, tn_189, ln_189, tn_190, ln_190, tn_191, ln_191, tn_192, ln_192, tn_193, ln_193, tn_194, ln_194, tn_195, ln_195, tn_196, ln_196, tn_197, ln_197, tn_198, ln_198, tn_199, ln_199, tn_200, ln_200, tn_201, ln_201, tn_202, ln_202, tn_203, ln_203, tn_204, ln_204, tn_205, ln_205, tn_206, ln_206, tn_207, ln_207, tn_208, ln_208, tn_209, ln_209, tn_210, ln_210, tn_211, ln_211, tn_212, ln_212, tn_213, ln_213, tn_214, ln_214, tn_215, ln_215, tn_216, ln_216, tn_217, ln_217, tn_218, ln_218, tn_219, ln_219, tn_220, ln_220, tn_221, ln_221, tn_222, ln_222, tn_223, ln_223, tn_224, ln_224, tn_225, ln_225, tn_226, ln_226, tn_227, ln_227, tn_228, ln_228, tn_229, ln_229, tn_230, ln_230, lx2, lx3, lx4, lx5, lx6, lx7, lx8, lx9, lx10, lx14, lx15, lx16, lx18, lx20, lx24, lx25, lx27, lx32, lx36, lx40, lx41, lx42, lx43, lx45, lx48, lx52, lx54, lx56, lx57, lx58, lx60, lx61, lx62, lx63, lx64, lx66, lx69, lx73, lx80, lx81, lx84, lx85, lx87, lx94, lx96, lx97, lx120, lx128, lx135, lx160, lx162, lx163, lx165, lx200, lx232, lx242, lx243, lx255, lx256, lx320, lx325, lx400, lx405, lx464, lx512, lx600, lx640, lx752, lx900, lx940, lx1000, lx1024, lx1764, lx3360, lx3840, lx5000, lx6400, lx9050, lx9998, lx9999, lx10000, lx25600, lx76800, lx99999, show 4 + 5 * r + 1 < 232 by omega]
theorem kindOf_E {A : xH} {r : Nat} {P : xP} (h : r ≤ 10) : f_X12_kindOf 180 (nI r) A P = P (some (.int (xi A 182 (4 + 5 * r)))) A := by
  unfold f_X12_kindOf
  simp (disch := omega) only [k_X12_kindOf_0, x_aload, x_iadd, x_iload, x_imul, x_iret, x_push, y_getF, y_iald, xFT, xbool0, xbool1, Nat.reduceAdd, Nat.zero_add, xgl_0, xgl_s, xgl_n, xst_0, xst_1n, xst_1i, xst_1r, xst_1l, xst_s, set_0, set_s, true_and, and_true, xres, xcat_nil, xcat_i, xcat_r, xcat_l, Nat.add_zero, xble0, xble1, xble2, xble3, xble4, xble5, xble6, xble7, xble8, pk_mul, nI_add, nI_1, nI_leI, nI_ltI, nI_eq, n_in, n_cl, z_eq, z_lt, z_le, z_gt, z_ge, z_qe, o_eq, o_lt, o_le, o_gt, o_ge, vp0, vp1, cl0, cl1, n_sub, n_sub1, n_pm1, n_a0, n_0a, ofn, lN0, Nat.reduceLT, Nat.reduceLeDiff, Nat.reduceMul, Nat.reduceSub, Nat.reduceEqDiff, ne_eq, true_implies, false_implies, not_true_eq_false, not_false_eq_true, and_self, and_true, true_and, and_false, false_and, implies_true, if_true, if_false, i00, i10, i01, i11, ob_0, ob_1, tn_2, ln_2, ob_3, tn_4, ln_4, ob_5, tn_6, ln_6, tn_7, ln_7, ob_8, tn_9, ln_9, tn_10, ln_10, tn_11, ln_11, tn_12, ln_12, tn_13, ln_13, tn_14, ln_14, tn_15, ln_15, tn_16, ln_16, tn_17, ln_17, ob_18, tn_19, ln_19, tn_20, ln_20, tn_21, ln_21, tn_22, ln_22, tn_23, ln_23, tn_24, ln_24, tn_25, ln_25, tn_26, ln_26, tn_27, ln_27, ob_28, tn_29, ln_29, tn_30, ln_30, ob_31, tn_32, ln_32, tn_33, ln_33, ob_34, ob_35, tn_36, ln_36, tn_37, ln_37, tn_38, ln_38, ob_39, tn_40, ln_40, tn_41, ln_41, tn_42, ln_42, tn_43, ln_43, tn_44, ln_44, tn_45, ln_45, tn_46, ln_46, tn_47, ln_47, tn_48, ln_48, tn_49, ln_49, tn_50, ln_50, tn_51, ln_51, ob_52, tn_53, ln_53, tn_54, ln_54, tn_55, ln_55, tn_56, ln_56, ob_57, tn_58, ln_58, tn_59, ln_59, tn_60, ln_60, tn_61, ln_61, tn_62, ln_62, tn_63, ln_63, tn_64, ln_64, tn_65, ln_65, ob_66, tn_67, ln_67, tn_68, ln_68, tn_69, ln_69, tn_70, ln_70, tn_71, ln_71, tn_72, ln_72, tn_73, ln_73, ob_74, tn_75, ln_75, tn_76, ln_76, tn_77, ln_77, tn_78, ln_78, tn_79, ln_79, tn_80, ln_80, tn_81, ln_81, tn_82, ln_82, tn_83, ln_83, ob_84, tn_85, ln_85, tn_86, ln_86, tn_87, ln_87, tn_88, ln_88, tn_89, ln_89, tn_90, ln_90, tn_91, ln_91, tn_92, ln_92, tn_93, ln_93, ob_94, tn_95, ln_95, tn_96, ln_96, tn_97, ln_97, tn_98, ln_98, tn_99, ln_99, tn_100, ln_100, tn_101, ln_101, tn_102, ln_102, tn_103, ln_103, ob_104, tn_105, ln_105, tn_106, ln_106, tn_107, ln_107, tn_108, ln_108, tn_109, ln_109, tn_110, ln_110, tn_111, ln_111, tn_112, ln_112, tn_113, ln_113, ob_114, tn_115, ln_115, tn_116, ln_116, tn_117, ln_117, tn_118, ln_118, tn_119, ln_119, tn_120, ln_120, tn_121, ln_121, tn_122, ln_122, tn_123, ln_123, ob_124, tn_125, ln_125, tn_126, ln_126, tn_127, ln_127, tn_128, ln_128, tn_129, ln_129, tn_130, ln_130, tn_131, ln_131, tn_132, ln_132, tn_133, ln_133, ob_134, tn_135, ln_135, tn_136, ln_136, tn_137, ln_137, tn_138, ln_138, tn_139, ln_139, tn_140, ln_140, tn_141, ln_141, tn_142, ln_142, tn_143, ln_143, ob_144, tn_145, ln_145, tn_146, ln_146, tn_147, ln_147, tn_148, ln_148, tn_149, ln_149, tn_150, ln_150, tn_151, ln_151, tn_152, ln_152, tn_153, ln_153, ob_154, tn_155, ln_155, tn_156, ln_156, tn_157, ln_157, tn_158, ln_158, tn_159, ln_159, tn_160, ln_160, tn_161, ln_161, tn_162, ln_162, tn_163, ln_163, ob_164, tn_165, ln_165, tn_166, ln_166, ob_167, tn_168, ln_168, tn_169, ln_169, tn_170, ln_170, tn_171, ln_171, tn_172, ln_172, tn_173, ln_173, tn_174, ln_174, tn_175, ln_175, tn_176, ln_176, ob_177, tn_178, ln_178, tn_179, ln_179, ob_180, tn_181, ln_181, tn_182, ln_182, tn_183, ln_183, tn_184, ln_184, tn_185, ln_185, tn_186, ln_186, tn_187, ln_187, tn_188, ln_188, tn_189, ln_189, tn_190, ln_190, tn_191, ln_191, tn_192, ln_192, tn_193, ln_193, tn_194, ln_194, tn_195, ln_195, tn_196, ln_196, tn_197, ln_197, tn_198, ln_198, tn_199, ln_199, tn_200, ln_200, tn_201, ln_201, tn_202, ln_202, tn_203, ln_203, tn_204, ln_204, tn_205, ln_205, tn_206, ln_206, tn_207, ln_207, tn_208, ln_208, tn_209, ln_209, tn_210, ln_210, tn_211, ln_211, tn_212, ln_212, tn_213, ln_213, tn_214, ln_214, tn_215, ln_215, tn_216, ln_216, tn_217, ln_217, tn_218, ln_218, tn_219, ln_219, tn_220, ln_220, tn_221, ln_221, tn_222, ln_222, tn_223, ln_223, tn_224, ln_224, tn_225, ln_225, tn_226, ln_226, tn_227, ln_227, tn_228, ln_228, tn_229, ln_229, tn_230, ln_230, lx2, lx3, lx4, lx5, lx6, lx7, lx8, lx9, lx10, lx14, lx15, lx16, lx18, lx20, lx24, lx25, lx27, lx32, lx36, lx40, lx41, lx42, lx43, lx45, lx48, lx52, lx54, lx56, lx57, lx58, lx60, lx61, lx62, lx63, lx64, lx66, lx69, lx73, lx80, lx81, lx84, lx85, lx87, lx94, lx96, lx97, lx120, lx128, lx135, lx160, lx162, lx163, lx165, lx200, lx232, lx242, lx243, lx255, lx256, lx320, lx325, lx400, lx405, lx464, lx512, lx600, lx640, lx752, lx900, lx940, lx1000, lx1024, lx1764, lx3360, lx3840, lx5000, lx6400, lx9050, lx9998, lx9999, lx10000, lx25600, lx76800, lx99999, show 4 + 5 * r < 232 by omega]
theorem symbol_E {A : xH} {r t : Nat} {P : xP} (h : r ≤ 10) (ht : t ≤ 100) : f_X12_symbol 180 (nI r) (nI t) A P = P (some (.int (xi A 182 (4 + 5 * r + 2 + t)))) A := by
  unfold f_X12_symbol
  simp (disch := omega) only [k_X12_symbol_0, x_aload, x_iadd, x_iload, x_imul, x_iret, x_push, y_getF, y_iald, xFT, xbool0, xbool1, Nat.reduceAdd, Nat.zero_add, xgl_0, xgl_s, xgl_n, xst_0, xst_1n, xst_1i, xst_1r, xst_1l, xst_s, set_0, set_s, true_and, and_true, xres, xcat_nil, xcat_i, xcat_r, xcat_l, Nat.add_zero, xble0, xble1, xble2, xble3, xble4, xble5, xble6, xble7, xble8, pk_mul, nI_add, nI_1, nI_leI, nI_ltI, nI_eq, n_in, n_cl, z_eq, z_lt, z_le, z_gt, z_ge, z_qe, o_eq, o_lt, o_le, o_gt, o_ge, vp0, vp1, cl0, cl1, n_sub, n_sub1, n_pm1, n_a0, n_0a, ofn, lN0, Nat.reduceLT, Nat.reduceLeDiff, Nat.reduceMul, Nat.reduceSub, Nat.reduceEqDiff, ne_eq, true_implies, false_implies, not_true_eq_false, not_false_eq_true, and_self, and_true, true_and, and_false, false_and, implies_true, if_true, if_false, i00, i10, i01, i11, ob_0, ob_1, tn_2, ln_2, ob_3, tn_4, ln_4, ob_5, tn_6, ln_6, tn_7, ln_7, ob_8, tn_9, ln_9, tn_10, ln_10, tn_11, ln_11, tn_12, ln_12, tn_13, ln_13, tn_14, ln_14, tn_15, ln_15, tn_16, ln_16, tn_17, ln_17, ob_18, tn_19, ln_19, tn_20, ln_20, tn_21, ln_21, tn_22, ln_22, tn_23, ln_23, tn_24, ln_24, tn_25, ln_25, tn_26, ln_26, tn_27, ln_27, ob_28, tn_29, ln_29, tn_30, ln_30, ob_31, tn_32, ln_32, tn_33, ln_33, ob_34, ob_35, tn_36, ln_36, tn_37, ln_37, tn_38, ln_38, ob_39, tn_40, ln_40, tn_41, ln_41, tn_42, ln_42, tn_43, ln_43, tn_44, ln_44, tn_45, ln_45, tn_46, ln_46, tn_47, ln_47, tn_48, ln_48, tn_49, ln_49, tn_50, ln_50, tn_51, ln_51, ob_52, tn_53, ln_53, tn_54, ln_54, tn_55, ln_55, tn_56, ln_56, ob_57, tn_58, ln_58, tn_59, ln_59, tn_60, ln_60, tn_61, ln_61, tn_62, ln_62, tn_63, ln_63, tn_64, ln_64, tn_65, ln_65, ob_66, tn_67, ln_67, tn_68, ln_68, tn_69, ln_69, tn_70, ln_70, tn_71, ln_71, tn_72, ln_72, tn_73, ln_73, ob_74, tn_75, ln_75, tn_76, ln_76, tn_77, ln_77, tn_78, ln_78, tn_79, ln_79, tn_80, ln_80, tn_81, ln_81, tn_82, ln_82, tn_83, ln_83, ob_84, tn_85, ln_85, tn_86, ln_86, tn_87, ln_87, tn_88, ln_88, tn_89, ln_89, tn_90, ln_90, tn_91, ln_91, tn_92, ln_92, tn_93, ln_93, ob_94, tn_95, ln_95, tn_96, ln_96, tn_97, ln_97, tn_98, ln_98, tn_99, ln_99, tn_100, ln_100, tn_101, ln_101, tn_102, ln_102, tn_103, ln_103, ob_104, tn_105, ln_105, tn_106, ln_106, tn_107, ln_107, tn_108, ln_108, tn_109, ln_109, tn_110, ln_110, tn_111, ln_111, tn_112, ln_112, tn_113, ln_113, ob_114, tn_115, ln_115, tn_116, ln_116, tn_117, ln_117, tn_118, ln_118, tn_119, ln_119, tn_120, ln_120, tn_121, ln_121, tn_122, ln_122, tn_123, ln_123, ob_124, tn_125, ln_125, tn_126, ln_126, tn_127, ln_127, tn_128, ln_128, tn_129, ln_129, tn_130, ln_130, tn_131, ln_131, tn_132, ln_132, tn_133, ln_133, ob_134, tn_135, ln_135, tn_136, ln_136, tn_137, ln_137, tn_138, ln_138, tn_139, ln_139, tn_140, ln_140, tn_141, ln_141, tn_142, ln_142, tn_143, ln_143, ob_144, tn_145, ln_145, tn_146, ln_146, tn_147, ln_147, tn_148, ln_148, tn_149, ln_149, tn_150, ln_150, tn_151, ln_151, tn_152, ln_152, tn_153, ln_153, ob_154, tn_155, ln_155, tn_156, ln_156, tn_157, ln_157, tn_158, ln_158, tn_159, ln_159, tn_160, ln_160, tn_161, ln_161, tn_162, ln_162, tn_163, ln_163, ob_164, tn_165, ln_165, tn_166, ln_166, ob_167, tn_168, ln_168, tn_169, ln_169, tn_170, ln_170, tn_171, ln_171, tn_172, ln_172, tn_173, ln_173, tn_174, ln_174, tn_175, ln_175, tn_176, ln_176, ob_177, tn_178, ln_178, tn_179, ln_179, ob_180, tn_181, ln_181, tn_182, ln_182, tn_183, ln_183, tn_184, ln_184, tn_185, ln_185, tn_186, ln_186, tn_187, ln_187, tn_188, ln_188, tn_189, ln_189, tn_190, ln_190, tn_191, ln_191, tn_192, ln_192, tn_193, ln_193, tn_194, ln_194, tn_195, ln_195, tn_196, ln_196, tn_197, ln_197, tn_198, ln_198, tn_199, ln_199, tn_200, ln_200, tn_201, ln_201, tn_202, ln_202, tn_203, ln_203, tn_204, ln_204, tn_205, ln_205, tn_206, ln_206, tn_207, ln_207, tn_208, ln_208, tn_209, ln_209, tn_210, ln_210, tn_211, ln_211, tn_212, ln_212, tn_213, ln_213, tn_214, ln_214, tn_215, ln_215, tn_216, ln_216, tn_217, ln_217, tn_218, ln_218, tn_219, ln_219, tn_220, ln_220, tn_221, ln_221, tn_222, ln_222, tn_223, ln_223, tn_224, ln_224, tn_225, ln_225, tn_226, ln_226, tn_227, ln_227, tn_228, ln_228, tn_229, ln_229, tn_230, ln_230, lx2, lx3, lx4, lx5, lx6, lx7, lx8, lx9, lx10, lx14, lx15, lx16, lx18, lx20, lx24, lx25, lx27, lx32, lx36, lx40, lx41, lx42, lx43, lx45, lx48, lx52, lx54, lx56, lx57, lx58, lx60, lx61, lx62, lx63, lx64, lx66, lx69, lx73, lx80, lx81, lx84, lx85, lx87, lx94, lx96, lx97, lx120, lx128, lx135, lx160, lx162, lx163, lx165, lx200, lx232, lx242, lx243, lx255, lx256, lx320, lx325, lx400, lx405, lx464, lx512, lx600, lx640, lx752, lx900, lx940, lx1000, lx1024, lx1764, lx3360, lx3840, lx5000, lx6400, lx9050, lx9998, lx9999, lx10000, lx25600, lx76800, lx99999, show 4 + 5 * r + 2 + t < 232 by omega]
theorem symbol_E0 {A : xH} {r : Nat} {P : xP} (h : r ≤ 10) : f_X12_symbol 180 (nI r) 0 A P = P (some (.int (xi A 182 (4 + 5 * r + 2 + 0)))) A := symbol_E h (Nat.zero_le _)
/-- what a rule's row says -/
theorem isR_k {A : xH} {v : xV} {r : Nat} (h : isR A v) (hr : r < vR v) : xi A 182 (4 + 5 * r) = nI (vrk v r) := (h.2.2.2.2.1 r hr).1
theorem isR_s {A : xH} {v : xV} {r : Nat} (h : isR A v) (hr : r < vR v) : xi A 182 (4 + 5 * r + 1) = nI (vrs v r) := (h.2.2.2.2.1 r hr).2.1
theorem isR_y {A : xH} {v : xV} {r t : Nat} (h : isR A v) (hr : r < vR v) (ht : t < vrs v r) (h3 : t < 3) : xi A 182 (4 + 5 * r + 2 + t) = nI (vsy v r t) := by
  rw [(h.2.2.2.2.1 r hr).2.2 t h3, if_pos ht]
theorem isR_cl {A : xH} {v : xV} {i : Nat} (h : isR A v) (hi : i < 42) : xi A 182 (54 + i) = nI (vcl v i) := h.2.2.2.2.2 i hi
theorem isIn_U {A : xH} {x lo hi : Int32} {P : xP} : f_X12_isIn x lo hi A P = P (some (.int (bI (decide (lo ≤ x ∧ x ≤ hi))))) A := by
  unfold f_X12_isIn
  simp only [k_X12_isIn_0, k_X12_isIn_14, k_X12_isIn_15, x_icmp_gt, x_icmp_lt, x_iload, x_push, x_zret, xFT, xbool0, xbool1, Nat.reduceAdd, Nat.zero_add, xgl_0, xgl_s, xgl_n, xst_0, xst_1n, xst_1i, xst_1r, xst_1l, xst_s, set_0, set_s, true_and, and_true, xres, xcat_nil, xcat_i, xcat_r, xcat_l, Nat.add_zero, xble0, xble1, xble2, xble3, xble4, xble5, xble6, xble7, xble8]
  by_cases h : x < lo
  · have : ¬ lo ≤ x := Int32.not_le.mpr h
    simp [h, this, bI]
  · have h1 : lo ≤ x := Int32.not_lt.mp h
    by_cases h2 : hi < x
    · have : ¬ x ≤ hi := Int32.not_le.mpr h2
      simp [h, h1, h2, this, bI]
    · have : x ≤ hi := Int32.not_lt.mp h2
      simp [h, h1, h2, this, bI]
def itP (A : xH) (v : xV) (n r : Nat) : Prop := xi A 180 24 = nI n ∧ (∀ q, q < r → xi A 191 q = nI (vfst v q)) ∧ ∀ i, i < n → xi A 188 i = (if i < 2 then -1 else nI (vri v i)) ∧ xi A 189 i = (if i < 2 then -1 else nI (vdi v i)) ∧ xi A 190 i = oI (vnx v i)
/-- the reference's items are laid -/
def itU (A : xH) (v : xV) : Prop := itP A v (vN v) (vR v)
def hIt (A : xH) (v : xV) : Prop := xi A 180 25 = 0 ∨ (xi A 180 25 = 1 ∧ itU A v)
def SIt (c k : Nat) : Prop := c = 188 ∨ c = 189 ∨ c = 190 ∨ c = 191 ∨ (c = 180 ∧ (k = 24 ∨ k = 25))
theorem itP_fr {S : Nat → Nat → Prop} {A B : xH} {v : xV} {n r : Nat} (h : itP A v n r) (hf : fr S A B) (hs : ∀ c k, S c k → c ≠ 188 ∧ c ≠ 189 ∧ c ≠ 190 ∧ c ≠ 191 ∧ ¬ (c = 180 ∧ k = 24)) : itP B v n r := by
  have e : ∀ c k, (c = 188 ∨ c = 189 ∨ c = 190 ∨ c = 191 ∨ (c = 180 ∧ k = 24)) → xi B c k = xi A c k := fun c k q => fr_i hf fun q2 => by have := hs c k q2; omega
  obtain ⟨h1, h2, h3⟩ := h
  refine ⟨by rw [e _ _ (by omega)]; exact h1, fun q hq => by rw [e _ _ (by omega)]; exact h2 q hq, fun i hi => ?_⟩
  rw [e 188 _ (by omega), e 189 _ (by omega), e 190 _ (by omega)]
  exact h3 i hi
theorem isR_fr {S : Nat → Nat → Prop} {A B : xH} {v : xV} (h : isR A v) (hf : fr S A B) (hs : ∀ c k, S c k → c ≠ 182 ∧ ¬ (c = 186 ∧ k < 9)) : isR B v := by
  have e : ∀ k, xi B 182 k = xi A 182 k := fun k => fr_i hf fun q => (hs _ _ q).1 rfl
  have e2 : ∀ k, k < 9 → xl B 186 k = xl A 186 k := fun k hk => fr_l hf fun q => (hs _ _ q).2 ⟨rfl, hk⟩
  obtain ⟨⟨a0, a1, a2, a3⟩, ⟨n1, n2, n3, n4⟩, h3, h4, h5, h6⟩ := h
  refine ⟨⟨(e _).trans a0, (e _).trans a1, (e _).trans a2, (e _).trans a3⟩, ⟨n1, n2, fun j hj => (e2 _ (by omega)).trans (n3 j hj), fun j hj => (e2 _ (by omega)).trans (n4 j hj)⟩, h3, h4, fun r hr => ?_, fun i hi => (e _).trans (h6 i hi)⟩
  obtain ⟨b1, b2, b3⟩ := h5 r hr
  exact ⟨(e _).trans b1, (e _).trans b2, fun t ht => (e _).trans (b3 t ht)⟩
def f_X12_laysItems (q : Nat) (A : xH) (P : xP) : Prop := q = 180 ∧ ∃ v, isR A v ∧ wfg v ∧ hIt A v ∧ ∀ B, fr SIt A B → itU B v → xi B 180 25 = 1 → P none B
def liR (A : xH) (P : xP) (v : xV) : Prop := ∀ B, fr SIt A B → itU B v → xi B 180 25 = 1 → P none B
def li15 (A : xH) (P : xP) : xM → xK := fun μ L st B => ∃ v i, isR A v ∧ wfg v ∧ liR A P v ∧ fr SIt A B ∧ xi B 180 25 = 1 ∧ i ≤ 2 ∧ (∀ j, j < i → xi B 188 j = -1 ∧ xi B 189 j = -1 ∧ xi B 190 j = oI (vnx v j)) ∧ st = [] ∧ L = [some (.ref 180), some (.int (nI i)), none] ∧ μ = (20, 2 - i, 0)
def li72 (A : xH) (P : xP) : xM → xK := fun μ L st B => ∃ v r o, isR A v ∧ wfg v ∧ liR A P v ∧ fr SIt A B ∧ xi B 180 25 = 1 ∧ r ≤ vR v ∧ itP B v (vfst v r) r ∧ st = [] ∧ L = [some (.ref 180), some (.int (nI r)), o] ∧ μ = (vR v - r, 5, 0)
def li94 (A : xH) (P : xP) : xM → xK := fun μ L st B => ∃ v r d, isR A v ∧ wfg v ∧ liR A P v ∧ fr SIt A B ∧ xi B 180 25 = 1 ∧ r < vR v ∧ d ≤ vrs v r + 1 ∧ itP B v (vfst v r + d) (r + 1) ∧ st = [] ∧ L = [some (.ref 180), some (.int (nI r)), some (.int (nI d))] ∧ μ = (vR v - r, 4 - d, 0)
set_option maxRecDepth 20000 in
theorem con_X12_laysItems (l : Launch) : xCon l yX12_laysItems cX12_laysItems 3 none 1 22 xN xN 0 xFT xFT (w_R f_X12_laysItems) := by
  refine m_X12_laysItems (I15 := fun q A P => li15 A P) (I72 := fun q A P => li72 A P) (I94 := fun q A P => li94 A P) ?_ ?_ ?_ ?_
  · rintro q A P ⟨rfl, v, hR, hw, hI, hP⟩
    simp (disch := omega) only [k_X12_laysItems_0, k_X12_laysItems_15, k_X12_laysItems_72, k_X12_laysItems_94, k_X12_laysItems_57, k_X12_laysItems_58, k_X12_laysItems_150, w_RI, w_RII, x_aload, x_dup, x_iadd, x_iast, x_icmp_ge, x_icmp_gt, x_if_eq, x_if_le, x_if_ne, x_iinc, x_iload, x_istore, x_push, x_vret, y_cv1, y_cv2, y_getF, y_getI, y_iald, y_iast, y_putI, y_putZ, xFT, xbool0, xbool1, Nat.reduceAdd, Nat.zero_add, xgl_0, xgl_s, xgl_n, xst_0, xst_1n, xst_1i, xst_1r, xst_1l, xst_s, set_0, set_s, true_and, and_true, xres, xcat_nil, xcat_i, xcat_r, xcat_l, Nat.add_zero, xble0, xble1, xble2, xble3, xble4, xble5, xble6, xble7, xble8, pk_mul, nI_add, nI_1, nI_leI, nI_ltI, nI_eq, n_in, n_cl, z_eq, z_lt, z_le, z_gt, z_ge, z_qe, o_eq, o_lt, o_le, o_gt, o_ge, vp0, vp1, cl0, cl1, n_sub, n_sub1, n_pm1, n_a0, n_0a, ofn, lN0, Nat.reduceLT, Nat.reduceLeDiff, Nat.reduceMul, Nat.reduceSub, Nat.reduceEqDiff, ne_eq, true_implies, false_implies, not_true_eq_false, not_false_eq_true, and_self, and_true, true_and, and_false, false_and, implies_true, if_true, if_false, i00, i10, i01, i11, ob_0, ob_1, tn_2, ln_2, ob_3, tn_4, ln_4, ob_5, tn_6, ln_6, tn_7, ln_7, ob_8, tn_9, ln_9, tn_10, ln_10, tn_11, ln_11, tn_12, ln_12, tn_13, ln_13, tn_14, ln_14, tn_15, ln_15, tn_16, ln_16, tn_17, ln_17, ob_18, tn_19, ln_19, tn_20, ln_20, tn_21, ln_21, tn_22, ln_22, tn_23, ln_23, tn_24, ln_24, tn_25, ln_25, tn_26, ln_26, tn_27, ln_27, ob_28, tn_29, ln_29, tn_30, ln_30, ob_31, tn_32, ln_32, tn_33, ln_33, ob_34, ob_35, tn_36, ln_36, tn_37, ln_37, tn_38, ln_38, ob_39, tn_40, ln_40, tn_41, ln_41, tn_42, ln_42, tn_43, ln_43, tn_44, ln_44, tn_45, ln_45, tn_46, ln_46, tn_47, ln_47, tn_48, ln_48, tn_49, ln_49, tn_50, ln_50, tn_51, ln_51, ob_52, tn_53, ln_53, tn_54, ln_54, tn_55, ln_55, tn_56, ln_56, ob_57, tn_58, ln_58, tn_59, ln_59, tn_60, ln_60, tn_61, ln_61, tn_62, ln_62, tn_63, ln_63, tn_64, ln_64, tn_65, ln_65, ob_66, tn_67, ln_67, tn_68, ln_68, tn_69, ln_69, tn_70, ln_70, tn_71, ln_71, tn_72, ln_72, tn_73, ln_73, ob_74, tn_75, ln_75, tn_76, ln_76, tn_77, ln_77, tn_78, ln_78, tn_79, ln_79, tn_80, ln_80, tn_81, ln_81, tn_82, ln_82, tn_83, ln_83, ob_84, tn_85, ln_85, tn_86, ln_86, tn_87, ln_87, tn_88, ln_88, tn_89, ln_89, tn_90, ln_90, tn_91, ln_91, tn_92, ln_92, tn_93, ln_93, ob_94, tn_95, ln_95, tn_96, ln_96, tn_97, ln_97, tn_98, ln_98, tn_99, ln_99, tn_100, ln_100, tn_101, ln_101, tn_102, ln_102, tn_103, ln_103, ob_104, tn_105, ln_105, tn_106, ln_106, tn_107, ln_107, tn_108, ln_108, tn_109, ln_109, tn_110, ln_110, tn_111, ln_111, tn_112, ln_112, tn_113, ln_113, ob_114, tn_115, ln_115, tn_116, ln_116, tn_117, ln_117, tn_118, ln_118, tn_119, ln_119, tn_120, ln_120, tn_121, ln_121, tn_122, ln_122, tn_123, ln_123, ob_124, tn_125, ln_125, tn_126, ln_126, tn_127, ln_127, tn_128, ln_128, tn_129, ln_129, tn_130, ln_130, tn_131, ln_131, tn_132, ln_132, tn_133, ln_133, ob_134, tn_135, ln_135, tn_136, ln_136, tn_137, ln_137, tn_138, ln_138, tn_139, ln_139, tn_140, ln_140, tn_141, ln_141, tn_142, ln_142, tn_143, ln_143, ob_144, tn_145, ln_145, tn_146, ln_146, tn_147, ln_147, tn_148, ln_148, tn_149, ln_149, tn_150, ln_150, tn_151, ln_151, tn_152, ln_152, tn_153, ln_153, ob_154, tn_155, ln_155, tn_156, ln_156, tn_157, ln_157, tn_158, ln_158, tn_159, ln_159, tn_160, ln_160, tn_161, ln_161, tn_162, ln_162, tn_163, ln_163, ob_164, tn_165, ln_165, tn_166, ln_166, ob_167, tn_168, ln_168, tn_169, ln_169, tn_170, ln_170, tn_171, ln_171, tn_172, ln_172, tn_173, ln_173, tn_174, ln_174, tn_175, ln_175, tn_176, ln_176, ob_177, tn_178, ln_178, tn_179, ln_179, ob_180, tn_181, ln_181, tn_182, ln_182, tn_183, ln_183, tn_184, ln_184, tn_185, ln_185, tn_186, ln_186, tn_187, ln_187, tn_188, ln_188, tn_189, ln_189, tn_190, ln_190, tn_191, ln_191, tn_192, ln_192, tn_193, ln_193, tn_194, ln_194, tn_195, ln_195, tn_196, ln_196, tn_197, ln_197, tn_198, ln_198, tn_199, ln_199, tn_200, ln_200, tn_201, ln_201, tn_202, ln_202, tn_203, ln_203, tn_204, ln_204, tn_205, ln_205, tn_206, ln_206, tn_207, ln_207, tn_208, ln_208, tn_209, ln_209, tn_210, ln_210, tn_211, ln_211, tn_212, ln_212, tn_213, ln_213, tn_214, ln_214, tn_215, ln_215, tn_216, ln_216, tn_217, ln_217, tn_218, ln_218, tn_219, ln_219, tn_220, ln_220, tn_221, ln_221, tn_222, ln_222, tn_223, ln_223, tn_224, ln_224, tn_225, ln_225, tn_226, ln_226, tn_227, ln_227, tn_228, ln_228, tn_229, ln_229, tn_230, ln_230, lx2, lx3, lx4, lx5, lx6, lx7, lx8, lx9, lx10, lx14, lx15, lx16, lx18, lx20, lx24, lx25, lx27, lx32, lx36, lx40, lx41, lx42, lx43, lx45, lx48, lx52, lx54, lx56, lx57, lx58, lx60, lx61, lx62, lx63, lx64, lx66, lx69, lx73, lx80, lx81, lx84, lx85, lx87, lx94, lx96, lx97, lx120, lx128, lx135, lx160, lx162, lx163, lx165, lx200, lx232, lx242, lx243, lx255, lx256, lx320, lx325, lx400, lx405, lx464, lx512, lx600, lx640, lx752, lx900, lx940, lx1000, lx1024, lx1764, lx3360, lx3840, lx5000, lx6400, lx9050, lx9998, lx9999, lx10000, lx25600, lx76800, lx99999]
    refine ⟨fun h => ?_, fun h => ?_⟩
    · rcases hI with h0 | ⟨h0, h1⟩
      · exact xE0 (20, 2, 0) ⟨v, 0, hR, hw, hP, fr_si fr_rf (by unfold SIt; omega), si_eq, by omega, fun j hj => by omega, rfl, rfl, rfl⟩
      · rw [h0] at h; exact absurd h (by decide)
    · rcases hI with h0 | ⟨h0, h1⟩
      · exact absurd h0 h
      · exact hP A fr_rf h1 h0
  · rintro q A P - μ L st B ⟨v, i, hR, hw, hP, hF, h25, hi, hz, rfl, rfl, rfl⟩
    have hK := (isR_fr hR hF (by unfold SIt; omega)).1.2.1
    have h5 := hw.2.1
    simp (disch := omega) only [k_X12_laysItems_0, k_X12_laysItems_15, k_X12_laysItems_72, k_X12_laysItems_94, k_X12_laysItems_57, k_X12_laysItems_58, k_X12_laysItems_150, w_RI, w_RII, x_aload, x_dup, x_iadd, x_iast, x_icmp_ge, x_icmp_gt, x_if_eq, x_if_le, x_if_ne, x_iinc, x_iload, x_istore, x_push, x_vret, y_cv1, y_cv2, y_getF, y_getI, y_iald, y_iast, y_putI, y_putZ, xFT, xbool0, xbool1, Nat.reduceAdd, Nat.zero_add, xgl_0, xgl_s, xgl_n, xst_0, xst_1n, xst_1i, xst_1r, xst_1l, xst_s, set_0, set_s, true_and, and_true, xres, xcat_nil, xcat_i, xcat_r, xcat_l, Nat.add_zero, xble0, xble1, xble2, xble3, xble4, xble5, xble6, xble7, xble8, pk_mul, nI_add, nI_1, nI_leI, nI_ltI, nI_eq, n_in, n_cl, z_eq, z_lt, z_le, z_gt, z_ge, z_qe, o_eq, o_lt, o_le, o_gt, o_ge, vp0, vp1, cl0, cl1, n_sub, n_sub1, n_pm1, n_a0, n_0a, ofn, lN0, Nat.reduceLT, Nat.reduceLeDiff, Nat.reduceMul, Nat.reduceSub, Nat.reduceEqDiff, ne_eq, true_implies, false_implies, not_true_eq_false, not_false_eq_true, and_self, and_true, true_and, and_false, false_and, implies_true, if_true, if_false, i00, i10, i01, i11, ob_0, ob_1, tn_2, ln_2, ob_3, tn_4, ln_4, ob_5, tn_6, ln_6, tn_7, ln_7, ob_8, tn_9, ln_9, tn_10, ln_10, tn_11, ln_11, tn_12, ln_12, tn_13, ln_13, tn_14, ln_14, tn_15, ln_15, tn_16, ln_16, tn_17, ln_17, ob_18, tn_19, ln_19, tn_20, ln_20, tn_21, ln_21, tn_22, ln_22, tn_23, ln_23, tn_24, ln_24, tn_25, ln_25, tn_26, ln_26, tn_27, ln_27, ob_28, tn_29, ln_29, tn_30, ln_30, ob_31, tn_32, ln_32, tn_33, ln_33, ob_34, ob_35, tn_36, ln_36, tn_37, ln_37, tn_38, ln_38, ob_39, tn_40, ln_40, tn_41, ln_41, tn_42, ln_42, tn_43, ln_43, tn_44, ln_44, tn_45, ln_45, tn_46, ln_46, tn_47, ln_47, tn_48, ln_48, tn_49, ln_49, tn_50, ln_50, tn_51, ln_51, ob_52, tn_53, ln_53, tn_54, ln_54, tn_55, ln_55, tn_56, ln_56, ob_57, tn_58, ln_58, tn_59, ln_59, tn_60, ln_60, tn_61, ln_61, tn_62, ln_62, tn_63, ln_63, tn_64, ln_64, tn_65, ln_65, ob_66, tn_67, ln_67, tn_68, ln_68, tn_69, ln_69, tn_70, ln_70, tn_71, ln_71, tn_72, ln_72, tn_73, ln_73, ob_74, tn_75, ln_75, tn_76, ln_76, tn_77, ln_77, tn_78, ln_78, tn_79, ln_79, tn_80, ln_80, tn_81, ln_81, tn_82, ln_82, tn_83, ln_83, ob_84, tn_85, ln_85, tn_86, ln_86, tn_87, ln_87, tn_88, ln_88, tn_89, ln_89, tn_90, ln_90, tn_91, ln_91, tn_92, ln_92, tn_93, ln_93, ob_94, tn_95, ln_95, tn_96, ln_96, tn_97, ln_97, tn_98, ln_98, tn_99, ln_99, tn_100, ln_100, tn_101, ln_101, tn_102, ln_102, tn_103, ln_103, ob_104, tn_105, ln_105, tn_106, ln_106, tn_107, ln_107, tn_108, ln_108, tn_109, ln_109, tn_110, ln_110, tn_111, ln_111, tn_112, ln_112, tn_113, ln_113, ob_114, tn_115, ln_115, tn_116, ln_116, tn_117, ln_117, tn_118, ln_118, tn_119, ln_119, tn_120, ln_120, tn_121, ln_121, tn_122, ln_122, tn_123, ln_123, ob_124, tn_125, ln_125, tn_126, ln_126, tn_127, ln_127, tn_128, ln_128, tn_129, ln_129, tn_130, ln_130, tn_131, ln_131, tn_132, ln_132, tn_133, ln_133, ob_134, tn_135, ln_135, tn_136, ln_136, tn_137, ln_137, tn_138, ln_138, tn_139, ln_139, tn_140, ln_140, tn_141, ln_141, tn_142, ln_142, tn_143, ln_143, ob_144, tn_145, ln_145, tn_146, ln_146, tn_147, ln_147, tn_148, ln_148, tn_149, ln_149, tn_150, ln_150, tn_151, ln_151, tn_152, ln_152, tn_153, ln_153, ob_154, tn_155, ln_155, tn_156, ln_156, tn_157, ln_157, tn_158, ln_158, tn_159, ln_159, tn_160, ln_160, tn_161, ln_161, tn_162, ln_162, tn_163, ln_163, ob_164, tn_165, ln_165, tn_166, ln_166, ob_167, tn_168, ln_168, tn_169, ln_169, tn_170, ln_170, tn_171, ln_171, tn_172, ln_172, tn_173, ln_173, tn_174, ln_174, tn_175, ln_175, tn_176, ln_176, ob_177, tn_178, ln_178, tn_179, ln_179, ob_180, tn_181, ln_181, tn_182, ln_182, tn_183, ln_183, tn_184, ln_184, tn_185, ln_185, tn_186, ln_186, tn_187, ln_187, tn_188, ln_188, tn_189, ln_189, tn_190, ln_190, tn_191, ln_191, tn_192, ln_192, tn_193, ln_193, tn_194, ln_194, tn_195, ln_195, tn_196, ln_196, tn_197, ln_197, tn_198, ln_198, tn_199, ln_199, tn_200, ln_200, tn_201, ln_201, tn_202, ln_202, tn_203, ln_203, tn_204, ln_204, tn_205, ln_205, tn_206, ln_206, tn_207, ln_207, tn_208, ln_208, tn_209, ln_209, tn_210, ln_210, tn_211, ln_211, tn_212, ln_212, tn_213, ln_213, tn_214, ln_214, tn_215, ln_215, tn_216, ln_216, tn_217, ln_217, tn_218, ln_218, tn_219, ln_219, tn_220, ln_220, tn_221, ln_221, tn_222, ln_222, tn_223, ln_223, tn_224, ln_224, tn_225, ln_225, tn_226, ln_226, tn_227, ln_227, tn_228, ln_228, tn_229, ln_229, tn_230, ln_230, lx2, lx3, lx4, lx5, lx6, lx7, lx8, lx9, lx10, lx14, lx15, lx16, lx18, lx20, lx24, lx25, lx27, lx32, lx36, lx40, lx41, lx42, lx43, lx45, lx48, lx52, lx54, lx56, lx57, lx58, lx60, lx61, lx62, lx63, lx64, lx66, lx69, lx73, lx80, lx81, lx84, lx85, lx87, lx94, lx96, lx97, lx120, lx128, lx135, lx160, lx162, lx163, lx165, lx200, lx232, lx242, lx243, lx255, lx256, lx320, lx325, lx400, lx405, lx464, lx512, lx600, lx640, lx752, lx900, lx940, lx1000, lx1024, lx1764, lx3360, lx3840, lx5000, lx6400, lx9050, lx9998, lx9999, lx10000, lx25600, lx76800, lx99999, si_ne, hK]
    have key : ¬ 2 ≤ i → ∀ y, y = oI (vnx v i) → xB (li15 A P) (20, 2 - i, 0) [some (.ref 180), some (.int (nI (i + 1))), none] [] (xsi (xsi (xsi B 188 i (-1)) 189 i (-1)) 190 i y) := by
      intro h y hy
      refine xB2 (c := 2 - (i + 1)) (by omega) ⟨v, i + 1, hR, hw, hP, fr_si (fr_si (fr_si hF (by unfold SIt; omega)) (by unfold SIt; omega)) (by unfold SIt; omega), by simp (disch := omega) only [si_ne, h25], by omega, fun j hj => ?_, rfl, rfl, rfl⟩
      by_cases e : j = i
      · subst e
        simp (disch := omega) only [si_ne, si_eq, hy, and_self]
      · simp (disch := omega) only [si_ne]
        exact hz j (by omega)
    (repeat' (first | intro _ | with_reducible apply And.intro)) <;> try omega
    · have : i = 2 := by omega
      subst this
      refine xE0 (vR v - 0, 5, 0) ⟨v, 0, none, hR, hw, hP, fr_si hF (by unfold SIt; omega), by simp (disch := omega) only [si_ne, h25], Nat.zero_le _, ⟨si_eq, fun q hq => absurd hq (Nat.not_lt_zero q), fun j hj => ?_⟩, rfl, rfl, rfl⟩
      have hj : j < 2 := hj
      simp (disch := omega) only [si_ne, if_pos hj]
      exact hz j hj
    · rename_i a b
      exact key a _ (by have : i = 1 := by omega
                        subst this; rfl)
    · rename_i a b c
      refine key a _ ?_
      rw [b]; unfold vnx; rw [if_pos rfl, if_neg (by omega)]; rfl
    · rename_i a b c
      refine key a _ ?_
      rw [b]; unfold vnx; rw [if_pos rfl, if_pos (by omega)]; rfl
  · rintro q A P - μ L st B ⟨v, r, o, hR, hw, hP, hF, h25, hr, hI, rfl, rfl, rfl⟩
    have hRB := isR_fr hR hF (by unfold SIt; omega)
    have h10 := hRB.2.2.1
    have hf := vfst_le (v := v) (fun r hr => (hw.2.2.2.2 r hr).2.1) r hr
    simp (disch := omega) only [k_X12_laysItems_0, k_X12_laysItems_15, k_X12_laysItems_72, k_X12_laysItems_94, k_X12_laysItems_57, k_X12_laysItems_58, k_X12_laysItems_150, w_RI, w_RII, x_aload, x_dup, x_iadd, x_iast, x_icmp_ge, x_icmp_gt, x_if_eq, x_if_le, x_if_ne, x_iinc, x_iload, x_istore, x_push, x_vret, y_cv1, y_cv2, y_getF, y_getI, y_iald, y_iast, y_putI, y_putZ, xFT, xbool0, xbool1, Nat.reduceAdd, Nat.zero_add, xgl_0, xgl_s, xgl_n, xst_0, xst_1n, xst_1i, xst_1r, xst_1l, xst_s, set_0, set_s, true_and, and_true, xres, xcat_nil, xcat_i, xcat_r, xcat_l, Nat.add_zero, xble0, xble1, xble2, xble3, xble4, xble5, xble6, xble7, xble8, pk_mul, nI_add, nI_1, nI_leI, nI_ltI, nI_eq, n_in, n_cl, z_eq, z_lt, z_le, z_gt, z_ge, z_qe, o_eq, o_lt, o_le, o_gt, o_ge, vp0, vp1, cl0, cl1, n_sub, n_sub1, n_pm1, n_a0, n_0a, ofn, lN0, Nat.reduceLT, Nat.reduceLeDiff, Nat.reduceMul, Nat.reduceSub, Nat.reduceEqDiff, ne_eq, true_implies, false_implies, not_true_eq_false, not_false_eq_true, and_self, and_true, true_and, and_false, false_and, implies_true, if_true, if_false, i00, i10, i01, i11, ob_0, ob_1, tn_2, ln_2, ob_3, tn_4, ln_4, ob_5, tn_6, ln_6, tn_7, ln_7, ob_8, tn_9, ln_9, tn_10, ln_10, tn_11, ln_11, tn_12, ln_12, tn_13, ln_13, tn_14, ln_14, tn_15, ln_15, tn_16, ln_16, tn_17, ln_17, ob_18, tn_19, ln_19, tn_20, ln_20, tn_21, ln_21, tn_22, ln_22, tn_23, ln_23, tn_24, ln_24, tn_25, ln_25, tn_26, ln_26, tn_27, ln_27, ob_28, tn_29, ln_29, tn_30, ln_30, ob_31, tn_32, ln_32, tn_33, ln_33, ob_34, ob_35, tn_36, ln_36, tn_37, ln_37, tn_38, ln_38, ob_39, tn_40, ln_40, tn_41, ln_41, tn_42, ln_42, tn_43, ln_43, tn_44, ln_44, tn_45, ln_45, tn_46, ln_46, tn_47, ln_47, tn_48, ln_48, tn_49, ln_49, tn_50, ln_50, tn_51, ln_51, ob_52, tn_53, ln_53, tn_54, ln_54, tn_55, ln_55, tn_56, ln_56, ob_57, tn_58, ln_58, tn_59, ln_59, tn_60, ln_60, tn_61, ln_61, tn_62, ln_62, tn_63, ln_63, tn_64, ln_64, tn_65, ln_65, ob_66, tn_67, ln_67, tn_68, ln_68, tn_69, ln_69, tn_70, ln_70, tn_71, ln_71, tn_72, ln_72, tn_73, ln_73, ob_74, tn_75, ln_75, tn_76, ln_76, tn_77, ln_77, tn_78, ln_78, tn_79, ln_79, tn_80, ln_80, tn_81, ln_81, tn_82, ln_82, tn_83, ln_83, ob_84, tn_85, ln_85, tn_86, ln_86, tn_87, ln_87, tn_88, ln_88, tn_89, ln_89, tn_90, ln_90, tn_91, ln_91, tn_92, ln_92, tn_93, ln_93, ob_94, tn_95, ln_95, tn_96, ln_96, tn_97, ln_97, tn_98, ln_98, tn_99, ln_99, tn_100, ln_100, tn_101, ln_101, tn_102, ln_102, tn_103, ln_103, ob_104, tn_105, ln_105, tn_106, ln_106, tn_107, ln_107, tn_108, ln_108, tn_109, ln_109, tn_110, ln_110, tn_111, ln_111, tn_112, ln_112, tn_113, ln_113, ob_114, tn_115, ln_115, tn_116, ln_116, tn_117, ln_117, tn_118, ln_118, tn_119, ln_119, tn_120, ln_120, tn_121, ln_121, tn_122, ln_122, tn_123, ln_123, ob_124, tn_125, ln_125, tn_126, ln_126, tn_127, ln_127, tn_128, ln_128, tn_129, ln_129, tn_130, ln_130, tn_131, ln_131, tn_132, ln_132, tn_133, ln_133, ob_134, tn_135, ln_135, tn_136, ln_136, tn_137, ln_137, tn_138, ln_138, tn_139, ln_139, tn_140, ln_140, tn_141, ln_141, tn_142, ln_142, tn_143, ln_143, ob_144, tn_145, ln_145, tn_146, ln_146, tn_147, ln_147, tn_148, ln_148, tn_149, ln_149, tn_150, ln_150, tn_151, ln_151, tn_152, ln_152, tn_153, ln_153, ob_154, tn_155, ln_155, tn_156, ln_156, tn_157, ln_157, tn_158, ln_158, tn_159, ln_159, tn_160, ln_160, tn_161, ln_161, tn_162, ln_162, tn_163, ln_163, ob_164, tn_165, ln_165, tn_166, ln_166, ob_167, tn_168, ln_168, tn_169, ln_169, tn_170, ln_170, tn_171, ln_171, tn_172, ln_172, tn_173, ln_173, tn_174, ln_174, tn_175, ln_175, tn_176, ln_176, ob_177, tn_178, ln_178, tn_179, ln_179, ob_180, tn_181, ln_181, tn_182, ln_182, tn_183, ln_183, tn_184, ln_184, tn_185, ln_185, tn_186, ln_186, tn_187, ln_187, tn_188, ln_188, tn_189, ln_189, tn_190, ln_190, tn_191, ln_191, tn_192, ln_192, tn_193, ln_193, tn_194, ln_194, tn_195, ln_195, tn_196, ln_196, tn_197, ln_197, tn_198, ln_198, tn_199, ln_199, tn_200, ln_200, tn_201, ln_201, tn_202, ln_202, tn_203, ln_203, tn_204, ln_204, tn_205, ln_205, tn_206, ln_206, tn_207, ln_207, tn_208, ln_208, tn_209, ln_209, tn_210, ln_210, tn_211, ln_211, tn_212, ln_212, tn_213, ln_213, tn_214, ln_214, tn_215, ln_215, tn_216, ln_216, tn_217, ln_217, tn_218, ln_218, tn_219, ln_219, tn_220, ln_220, tn_221, ln_221, tn_222, ln_222, tn_223, ln_223, tn_224, ln_224, tn_225, ln_225, tn_226, ln_226, tn_227, ln_227, tn_228, ln_228, tn_229, ln_229, tn_230, ln_230, lx2, lx3, lx4, lx5, lx6, lx7, lx8, lx9, lx10, lx14, lx15, lx16, lx18, lx20, lx24, lx25, lx27, lx32, lx36, lx40, lx41, lx42, lx43, lx45, lx48, lx52, lx54, lx56, lx57, lx58, lx60, lx61, lx62, lx63, lx64, lx66, lx69, lx73, lx80, lx81, lx84, lx85, lx87, lx94, lx96, lx97, lx120, lx128, lx135, lx160, lx162, lx163, lx165, lx200, lx232, lx242, lx243, lx255, lx256, lx320, lx325, lx400, lx405, lx464, lx512, lx600, lx640, lx752, lx900, lx940, lx1000, lx1024, lx1764, lx3360, lx3840, lx5000, lx6400, lx9050, lx9998, lx9999, lx10000, lx25600, lx76800, lx99999, hRB.1.2.2.1, hI.1]
    (repeat' (first | intro _ | with_reducible apply And.intro)) <;> try omega
    · have : r = vR v := by omega
      subst this
      exact hP B hF hI h25
    · refine xB2 (c := 4 - 0) (by omega) ⟨v, r, 0, hR, hw, hP, fr_si hF (by unfold SIt; omega), by simp (disch := omega) only [si_ne, h25], by omega, by omega, ⟨by simp (disch := omega) only [si_ne, hI.1]; rfl, fun q hq => ?_, fun i hi => ?_⟩, rfl, rfl, rfl⟩
      · by_cases e : q = r
        · subst e; exact si_eq
        · simp (disch := omega) only [si_ne]; exact hI.2.1 q (by omega)
      · simp (disch := omega) only [si_ne]; exact hI.2.2 i hi
  · rintro q A P - μ L st B ⟨v, r, d, hR, hw, hP, hF, h25, hr, hd, hI, rfl, rfl, rfl⟩
    have hRB := isR_fr hR hF (by unfold SIt; omega)
    have h10 := hRB.2.2.1
    have h3 := (hw.2.2.2.2 r hr).2.1
    have hf := vfst_lt hr
    have hg := vfst_ge v r
    have hN := vN_le hw
    have hs := isR_s hRB hr
    simp (disch := omega) only [k_X12_laysItems_0, k_X12_laysItems_15, k_X12_laysItems_72, k_X12_laysItems_94, k_X12_laysItems_57, k_X12_laysItems_58, k_X12_laysItems_150, w_RI, w_RII, x_aload, x_dup, x_iadd, x_iast, x_icmp_ge, x_icmp_gt, x_if_eq, x_if_le, x_if_ne, x_iinc, x_iload, x_istore, x_push, x_vret, y_cv1, y_cv2, y_getF, y_getI, y_iald, y_iast, y_putI, y_putZ, xFT, xbool0, xbool1, Nat.reduceAdd, Nat.zero_add, xgl_0, xgl_s, xgl_n, xst_0, xst_1n, xst_1i, xst_1r, xst_1l, xst_s, set_0, set_s, true_and, and_true, xres, xcat_nil, xcat_i, xcat_r, xcat_l, Nat.add_zero, xble0, xble1, xble2, xble3, xble4, xble5, xble6, xble7, xble8, pk_mul, nI_add, nI_1, nI_leI, nI_ltI, nI_eq, n_in, n_cl, z_eq, z_lt, z_le, z_gt, z_ge, z_qe, o_eq, o_lt, o_le, o_gt, o_ge, vp0, vp1, cl0, cl1, n_sub, n_sub1, n_pm1, n_a0, n_0a, ofn, lN0, Nat.reduceLT, Nat.reduceLeDiff, Nat.reduceMul, Nat.reduceSub, Nat.reduceEqDiff, ne_eq, true_implies, false_implies, not_true_eq_false, not_false_eq_true, and_self, and_true, true_and, and_false, false_and, implies_true, if_true, if_false, i00, i10, i01, i11, ob_0, ob_1, tn_2, ln_2, ob_3, tn_4, ln_4, ob_5, tn_6, ln_6, tn_7, ln_7, ob_8, tn_9, ln_9, tn_10, ln_10, tn_11, ln_11, tn_12, ln_12, tn_13, ln_13, tn_14, ln_14, tn_15, ln_15, tn_16, ln_16, tn_17, ln_17, ob_18, tn_19, ln_19, tn_20, ln_20, tn_21, ln_21, tn_22, ln_22, tn_23, ln_23, tn_24, ln_24, tn_25, ln_25, tn_26, ln_26, tn_27, ln_27, ob_28, tn_29, ln_29, tn_30, ln_30, ob_31, tn_32, ln_32, tn_33, ln_33, ob_34, ob_35, tn_36, ln_36, tn_37, ln_37, tn_38, ln_38, ob_39, tn_40, ln_40, tn_41, ln_41, tn_42, ln_42, tn_43, ln_43, tn_44, ln_44, tn_45, ln_45, tn_46, ln_46, tn_47, ln_47, tn_48, ln_48, tn_49, ln_49, tn_50, ln_50, tn_51, ln_51, ob_52, tn_53, ln_53, tn_54, ln_54, tn_55, ln_55, tn_56, ln_56, ob_57, tn_58, ln_58, tn_59, ln_59, tn_60, ln_60, tn_61, ln_61, tn_62, ln_62, tn_63, ln_63, tn_64, ln_64, tn_65, ln_65, ob_66, tn_67, ln_67, tn_68, ln_68, tn_69, ln_69, tn_70, ln_70, tn_71, ln_71, tn_72, ln_72, tn_73, ln_73, ob_74, tn_75, ln_75, tn_76, ln_76, tn_77, ln_77, tn_78, ln_78, tn_79, ln_79, tn_80, ln_80, tn_81, ln_81, tn_82, ln_82, tn_83, ln_83, ob_84, tn_85, ln_85, tn_86, ln_86, tn_87, ln_87, tn_88, ln_88, tn_89, ln_89, tn_90, ln_90, tn_91, ln_91, tn_92, ln_92, tn_93, ln_93, ob_94, tn_95, ln_95, tn_96, ln_96, tn_97, ln_97, tn_98, ln_98, tn_99, ln_99, tn_100, ln_100, tn_101, ln_101, tn_102, ln_102, tn_103, ln_103, ob_104, tn_105, ln_105, tn_106, ln_106, tn_107, ln_107, tn_108, ln_108, tn_109, ln_109, tn_110, ln_110, tn_111, ln_111, tn_112, ln_112, tn_113, ln_113, ob_114, tn_115, ln_115, tn_116, ln_116, tn_117, ln_117, tn_118, ln_118, tn_119, ln_119, tn_120, ln_120, tn_121, ln_121, tn_122, ln_122, tn_123, ln_123, ob_124, tn_125, ln_125, tn_126, ln_126, tn_127, ln_127, tn_128, ln_128, tn_129, ln_129, tn_130, ln_130, tn_131, ln_131, tn_132, ln_132, tn_133, ln_133, ob_134, tn_135, ln_135, tn_136, ln_136, tn_137, ln_137, tn_138, ln_138, tn_139, ln_139, tn_140, ln_140, tn_141, ln_141, tn_142, ln_142, tn_143, ln_143, ob_144, tn_145, ln_145, tn_146, ln_146, tn_147, ln_147, tn_148, ln_148, tn_149, ln_149, tn_150, ln_150, tn_151, ln_151, tn_152, ln_152, tn_153, ln_153, ob_154, tn_155, ln_155, tn_156, ln_156, tn_157, ln_157, tn_158, ln_158, tn_159, ln_159, tn_160, ln_160, tn_161, ln_161, tn_162, ln_162, tn_163, ln_163, ob_164, tn_165, ln_165, tn_166, ln_166, ob_167, tn_168, ln_168, tn_169, ln_169, tn_170, ln_170, tn_171, ln_171, tn_172, ln_172, tn_173, ln_173, tn_174, ln_174, tn_175, ln_175, tn_176, ln_176, ob_177, tn_178, ln_178, tn_179, ln_179, ob_180, tn_181, ln_181, tn_182, ln_182, tn_183, ln_183, tn_184, ln_184, tn_185, ln_185, tn_186, ln_186, tn_187, ln_187, tn_188, ln_188, tn_189, ln_189, tn_190, ln_190, tn_191, ln_191, tn_192, ln_192, tn_193, ln_193, tn_194, ln_194, tn_195, ln_195, tn_196, ln_196, tn_197, ln_197, tn_198, ln_198, tn_199, ln_199, tn_200, ln_200, tn_201, ln_201, tn_202, ln_202, tn_203, ln_203, tn_204, ln_204, tn_205, ln_205, tn_206, ln_206, tn_207, ln_207, tn_208, ln_208, tn_209, ln_209, tn_210, ln_210, tn_211, ln_211, tn_212, ln_212, tn_213, ln_213, tn_214, ln_214, tn_215, ln_215, tn_216, ln_216, tn_217, ln_217, tn_218, ln_218, tn_219, ln_219, tn_220, ln_220, tn_221, ln_221, tn_222, ln_222, tn_223, ln_223, tn_224, ln_224, tn_225, ln_225, tn_226, ln_226, tn_227, ln_227, tn_228, ln_228, tn_229, ln_229, tn_230, ln_230, lx2, lx3, lx4, lx5, lx6, lx7, lx8, lx9, lx10, lx14, lx15, lx16, lx18, lx20, lx24, lx25, lx27, lx32, lx36, lx40, lx41, lx42, lx43, lx45, lx48, lx52, lx54, lx56, lx57, lx58, lx60, lx61, lx62, lx63, lx64, lx66, lx69, lx73, lx80, lx81, lx84, lx85, lx87, lx94, lx96, lx97, lx120, lx128, lx135, lx160, lx162, lx163, lx165, lx200, lx232, lx242, lx243, lx255, lx256, lx320, lx325, lx400, lx405, lx464, lx512, lx600, lx640, lx752, lx900, lx940, lx1000, lx1024, lx1764, lx3360, lx3840, lx5000, lx6400, lx9050, lx9998, lx9999, lx10000, lx25600, lx76800, lx99999, many_E, symbol_E, hs, hI.1, si_ne, si_eq]
    have key : ¬ vrs v r < d → ∀ y, y = oI (vnx v (vfst v r + d)) → xB (li94 A P) (vR v - r, 4 - d, 0) [some (.ref 180), some (.int (nI r)), some (.int (nI (d + 1)))] [] (xsi (xsi (xsi (xsi B 188 (vfst v r + d) (nI r)) 189 (vfst v r + d) (nI d)) 190 (vfst v r + d) y) 180 24 (nI (vfst v r + d + 1))) := by
      intro h y hy
      refine xB2 (c := 4 - (d + 1)) (by omega) ⟨v, r, d + 1, hR, hw, hP, fr_si (fr_si (fr_si (fr_si hF (by unfold SIt; omega)) (by unfold SIt; omega)) (by unfold SIt; omega)) (by unfold SIt; omega), by simp (disch := omega) only [si_ne, h25], hr, by omega, ⟨si_eq, fun q hq => by simp (disch := omega) only [si_ne]; exact hI.2.1 q hq, fun j hj => ?_⟩, rfl, rfl, rfl⟩
      by_cases e : j = vfst v r + d
      · subst e
        simp (disch := omega) only [si_ne, si_eq, hy, vri_eq hr (show d ≤ vrs v r by omega), vdi_eq hr (show d ≤ vrs v r by omega), show ¬ vfst v r + d < 2 by omega, if_false, and_self]
      · simp (disch := omega) only [si_ne]
        exact hI.2.2 j (by omega)
    (repeat' (first | intro _ | with_reducible apply And.intro)) <;> try omega
    · exact xB1 (b := vR v - (r + 1)) (by omega) ⟨v, r + 1, _, hR, hw, hP, hF, h25, by omega, by rw [show d = vrs v r + 1 by omega] at hI; exact hI, rfl, rfl, rfl⟩
    · rename_i a b
      exact key a _ (by rw [vnx_rd hr (by omega), if_neg (by omega)]; rfl)
    · rename_i a b
      refine key a _ ?_
      have h9 := (hw.2.2.2.2 r hr).2.2 d (by omega)
      have h1 := hw.1
      have h2 := hw.2.1
      rw [vnx_rd hr (by omega), if_pos (by omega), isR_y hRB hr (by omega) (by omega), oI_nI (by omega)]

