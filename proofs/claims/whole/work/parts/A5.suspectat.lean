/-! ===== the class's k-th suspect ===== -/
theorem d_X10_suspectIn_0 : decode cX10_suspectIn 0 = .ok (.iload_n 2, 1) := by decide +kernel
theorem d_X10_suspectIn_1 : decode cX10_suspectIn 1 = .ok (.istore 4, 2) := by decide +kernel
theorem d_X10_suspectIn_3 : decode cX10_suspectIn 3 = .ok (.iconst 0, 1) := by decide +kernel
theorem d_X10_suspectIn_4 : decode cX10_suspectIn 4 = .ok (.istore 5, 2) := by decide +kernel
theorem d_X10_suspectIn_6 : decode cX10_suspectIn 6 = .ok (.iload 5, 2) := by decide +kernel
theorem d_X10_suspectIn_8 : decode cX10_suspectIn 8 = .ok (.aload_n 0, 1) := by decide +kernel
theorem d_X10_suspectIn_9 : decode cX10_suspectIn 9 = .ok (.getfield 25, 3) := by decide +kernel
theorem d_X10_suspectIn_12 : decode cX10_suspectIn 12 = .ok (.getfield 119, 3) := by decide +kernel
theorem d_X10_suspectIn_15 : decode cX10_suspectIn 15 = .ok (.if_icmp .ge 69, 3) := by decide +kernel
theorem d_X10_suspectIn_18 : decode cX10_suspectIn 18 = .ok (.iconst 1, 1) := by decide +kernel
theorem d_X10_suspectIn_19 : decode cX10_suspectIn 19 = .ok (.istore 6, 2) := by decide +kernel
theorem d_X10_suspectIn_21 : decode cX10_suspectIn 21 = .ok (.iload 6, 2) := by decide +kernel
theorem d_X10_suspectIn_23 : decode cX10_suspectIn 23 = .ok (.iconst 3, 1) := by decide +kernel
theorem d_X10_suspectIn_24 : decode cX10_suspectIn 24 = .ok (.if_icmp .gt 54, 3) := by decide +kernel
theorem d_X10_suspectIn_27 : decode cX10_suspectIn 27 = .ok (.aload_n 0, 1) := by decide +kernel
theorem d_X10_suspectIn_28 : decode cX10_suspectIn 28 = .ok (.aload_n 0, 1) := by decide +kernel
theorem d_X10_suspectIn_29 : decode cX10_suspectIn 29 = .ok (.getfield 15, 3) := by decide +kernel
theorem d_X10_suspectIn_32 : decode cX10_suspectIn 32 = .ok (.iload_n 1, 1) := by decide +kernel
theorem d_X10_suspectIn_33 : decode cX10_suspectIn 33 = .ok (.iload 5, 2) := by decide +kernel
theorem d_X10_suspectIn_35 : decode cX10_suspectIn 35 = .ok (.iload 6, 2) := by decide +kernel
theorem d_X10_suspectIn_37 : decode cX10_suspectIn 37 = .ok (.invokevirtual 126, 3) := by decide +kernel
theorem d_X10_suspectIn_40 : decode cX10_suspectIn 40 = .ok (.ifCond .eq 32, 3) := by decide +kernel
theorem d_X10_suspectIn_43 : decode cX10_suspectIn 43 = .ok (.iload 4, 2) := by decide +kernel
theorem d_X10_suspectIn_45 : decode cX10_suspectIn 45 = .ok (.ifCond .ne 24, 3) := by decide +kernel
theorem d_X10_suspectIn_48 : decode cX10_suspectIn 48 = .ok (.iload_n 3, 1) := by decide +kernel
theorem d_X10_suspectIn_49 : decode cX10_suspectIn 49 = .ok (.ifCond .ne 7, 3) := by decide +kernel
theorem d_X10_suspectIn_52 : decode cX10_suspectIn 52 = .ok (.iload_n 1, 1) := by decide +kernel
theorem d_X10_suspectIn_53 : decode cX10_suspectIn 53 = .ok (.goto 15, 3) := by decide +kernel
theorem d_X10_suspectIn_56 : decode cX10_suspectIn 56 = .ok (.iload_n 3, 1) := by decide +kernel
theorem d_X10_suspectIn_57 : decode cX10_suspectIn 57 = .ok (.iconst 1, 1) := by decide +kernel
theorem d_X10_suspectIn_58 : decode cX10_suspectIn 58 = .ok (.if_icmp .ne 8, 3) := by decide +kernel
theorem d_X10_suspectIn_61 : decode cX10_suspectIn 61 = .ok (.iload 5, 2) := by decide +kernel
theorem d_X10_suspectIn_63 : decode cX10_suspectIn 63 = .ok (.goto 5, 3) := by decide +kernel
theorem d_X10_suspectIn_66 : decode cX10_suspectIn 66 = .ok (.iload 6, 2) := by decide +kernel
theorem d_X10_suspectIn_68 : decode cX10_suspectIn 68 = .ok (.ireturn, 1) := by decide +kernel
theorem d_X10_suspectIn_69 : decode cX10_suspectIn 69 = .ok (.iinc 4 (-1), 3) := by decide +kernel
theorem d_X10_suspectIn_72 : decode cX10_suspectIn 72 = .ok (.iinc 6 1, 3) := by decide +kernel
theorem d_X10_suspectIn_75 : decode cX10_suspectIn 75 = .ok (.goto (-54), 3) := by decide +kernel
theorem d_X10_suspectIn_78 : decode cX10_suspectIn 78 = .ok (.iinc 5 1, 3) := by decide +kernel
theorem d_X10_suspectIn_81 : decode cX10_suspectIn 81 = .ok (.goto (-75), 3) := by decide +kernel
theorem d_X10_suspectIn_84 : decode cX10_suspectIn 84 = .ok (.iconst (-1), 1) := by decide +kernel
theorem d_X10_suspectIn_85 : decode cX10_suspectIn 85 = .ok (.ireturn, 1) := by decide +kernel
def k_X10_suspectIn_0 (P : xP) (C6 : xK) : xK := x_iload 2 (x_istore 4 (x_push (.int 0) (x_istore 5 (C6))))
set_option maxRecDepth 20000 in
theorem t_X10_suspectIn_0 {p : Program} {l : Launch} {e : Env} {s : State} {m : MethodId} {args : Array Value} {below : List Frame} {meth : Method} {c : Code} {g : xG} (X : xX p s m args c meth cX10_suspectIn RX10 7 g) (hr : meth.sig.returnType = (some .int)) {P : xP} {C6 : xK} (h6 : xAt p l e { frames := 1, cells := 0, slots := 0, locals := 24 } s m args below meth c g 7 xFT xN 0 0 (MQ below (xQc g xFT xN P) args s 0 0 (xFr g)) C6 6) : xAt p l e { frames := 1, cells := 0, slots := 0, locals := 24 } s m args below meth c g 7 xFT xN 0 0 (MQ below (xQc g xFT xN P) args s 0 0 (xFr g)) (k_X10_suspectIn_0 P C6) 0 := by
  unfold k_X10_suspectIn_0
  refine r_iload_n (pc := 0) X d_X10_suspectIn_0 fn2 ?_
  refine r_istore (pc := 1) X d_X10_suspectIn_1 (by decide +kernel) ?_
  refine r_iconst (pc := 3) X d_X10_suspectIn_3 (by decide +kernel) ?_
  refine r_istore (pc := 4) X d_X10_suspectIn_4 (by decide +kernel) ?_
  exact h6
def k_X10_suspectIn_6 (P : xP) (C21 : xK) : xK := x_iload 5 (x_aload 0 (y_getF 52 39 (y_getI 39 2 (x_icmp_ge (x_push (.int (-1)) (x_iret P)) (x_push (.int 1) (x_istore 6 (C21)))))))
set_option maxRecDepth 20000 in
theorem t_X10_suspectIn_6 {p : Program} {l : Launch} {e : Env} {s : State} {m : MethodId} {args : Array Value} {below : List Frame} {meth : Method} {c : Code} {g : xG} (X : xX p s m args c meth cX10_suspectIn RX10 7 g) (hr : meth.sig.returnType = (some .int)) {P : xP} {C21 : xK} (h21 : xAt p l e { frames := 1, cells := 0, slots := 0, locals := 24 } s m args below meth c g 7 xFT xN 0 0 (MQ below (xQc g xFT xN P) args s 0 0 (xFr g)) C21 21) : xAt p l e { frames := 1, cells := 0, slots := 0, locals := 24 } s m args below meth c g 7 xFT xN 0 0 (MQ below (xQc g xFT xN P) args s 0 0 (xFr g)) (k_X10_suspectIn_6 P C21) 6 := by
  unfold k_X10_suspectIn_6
  refine r_iload (pc := 6) X d_X10_suspectIn_6 ?_
  refine r_aload_n (pc := 8) X d_X10_suspectIn_8 fn0 ?_
  refine s_getF (pc := 9) (ci := 10) (k := 10) X xok10 (by decide +kernel) ob_52 trivial ly_52_10 (by decide +kernel) fl_RX10_25 d_X10_suspectIn_9 ?_
  refine s_getI (pc := 12) (ci := 7) X xok7 (by decide +kernel) ob_39 (by decide +kernel) fl_RX10_119 d_X10_suspectIn_12 ?_
  refine r_icmp_ge (pc := 15) (tgt := 84) X d_X10_suspectIn_15 (by decide +kernel) ?_ ?_
  · refine r_iconst (pc := 84) X d_X10_suspectIn_84 (by decide +kernel) ?_
    exact r_iret (pc := 85) X hr d_X10_suspectIn_85
  · refine r_iconst (pc := 18) X d_X10_suspectIn_18 (by decide +kernel) ?_
    refine r_istore (pc := 19) X d_X10_suspectIn_19 (by decide +kernel) ?_
    exact h21
def k_X10_suspectIn_72 (P : xP) (C21 : xK) : xK := x_iinc 6 1 (C21)
set_option maxRecDepth 20000 in
theorem t_X10_suspectIn_72 {p : Program} {l : Launch} {e : Env} {s : State} {m : MethodId} {args : Array Value} {below : List Frame} {meth : Method} {c : Code} {g : xG} (X : xX p s m args c meth cX10_suspectIn RX10 7 g) (hr : meth.sig.returnType = (some .int)) {P : xP} {C21 : xK} (h21 : xAt p l e { frames := 1, cells := 0, slots := 0, locals := 24 } s m args below meth c g 7 xFT xN 0 0 (MQ below (xQc g xFT xN P) args s 0 0 (xFr g)) C21 21) : xAt p l e { frames := 1, cells := 0, slots := 0, locals := 24 } s m args below meth c g 7 xFT xN 0 0 (MQ below (xQc g xFT xN P) args s 0 0 (xFr g)) (k_X10_suspectIn_72 P C21) 72 := by
  unfold k_X10_suspectIn_72
  refine r_iinc (pc := 72) X d_X10_suspectIn_72 (by decide +kernel) (by decide +kernel) ?_
  refine r_goto (pc := 75) (tgt := 21) X d_X10_suspectIn_75 (by decide +kernel) ?_
  exact h21
def k_X10_suspectIn_68 (P : xP) : xK := x_iret P
set_option maxRecDepth 20000 in
theorem t_X10_suspectIn_68 {p : Program} {l : Launch} {e : Env} {s : State} {m : MethodId} {args : Array Value} {below : List Frame} {meth : Method} {c : Code} {g : xG} (X : xX p s m args c meth cX10_suspectIn RX10 7 g) (hr : meth.sig.returnType = (some .int)) {P : xP} : xAt p l e { frames := 1, cells := 0, slots := 0, locals := 24 } s m args below meth c g 7 xFT xN 0 0 (MQ below (xQc g xFT xN P) args s 0 0 (xFr g)) (k_X10_suspectIn_68 P) 68 := by
  unfold k_X10_suspectIn_68
  exact r_iret (pc := 68) X hr d_X10_suspectIn_68
def k_X10_suspectIn_21 (P : xP) (C6 : xK) (C21 : xK) : xK := x_iload 6 (x_push (.int 3) (x_icmp_gt (x_iinc 5 1 (C6)) (x_aload 0 (x_aload 0 (y_getF 52 54 (x_iload 1 (x_iload 5 (x_iload 6 (y_cv4 52 (w_RRIII f_X10_holds) (x_if_eq ((k_X10_suspectIn_72 P C21)) (x_iload 4 (x_if_ne (x_iinc 4 (-1) ((k_X10_suspectIn_72 P C21))) (x_iload 3 (x_if_ne (x_iload 3 (x_push (.int 1) (x_icmp_ne (x_iload 6 ((k_X10_suspectIn_68 P))) (x_iload 5 ((k_X10_suspectIn_68 P)))))) (x_iload 1 ((k_X10_suspectIn_68 P)))))))))))))))))
set_option maxRecDepth 20000 in
theorem t_X10_suspectIn_21 {p : Program} {l : Launch} {e : Env} {s : State} {m : MethodId} {args : Array Value} {below : List Frame} {meth : Method} {c : Code} {g : xG} (X : xX p s m args c meth cX10_suspectIn RX10 7 g) (hr : meth.sig.returnType = (some .int)) {P : xP} {C6 : xK} {C21 : xK} (h6 : xAt p l e { frames := 1, cells := 0, slots := 0, locals := 24 } s m args below meth c g 7 xFT xN 0 0 (MQ below (xQc g xFT xN P) args s 0 0 (xFr g)) C6 6) (h21 : xAt p l e { frames := 1, cells := 0, slots := 0, locals := 24 } s m args below meth c g 7 xFT xN 0 0 (MQ below (xQc g xFT xN P) args s 0 0 (xFr g)) C21 21) : xAt p l e { frames := 1, cells := 0, slots := 0, locals := 24 } s m args below meth c g 7 xFT xN 0 0 (MQ below (xQc g xFT xN P) args s 0 0 (xFr g)) (k_X10_suspectIn_21 P C6 C21) 21 := by
  unfold k_X10_suspectIn_21
  refine r_iload (pc := 21) X d_X10_suspectIn_21 ?_
  refine r_iconst (pc := 23) X d_X10_suspectIn_23 (by decide +kernel) ?_
  refine r_icmp_gt (pc := 24) (tgt := 78) X d_X10_suspectIn_24 (by decide +kernel) ?_ ?_
  · refine r_iinc (pc := 78) X d_X10_suspectIn_78 (by decide +kernel) (by decide +kernel) ?_
    refine r_goto (pc := 81) (tgt := 6) X d_X10_suspectIn_81 (by decide +kernel) ?_
    exact h6
  · refine r_aload_n (pc := 27) X d_X10_suspectIn_27 fn0 ?_
    refine r_aload_n (pc := 28) X d_X10_suspectIn_28 fn0 ?_
    refine s_getF (pc := 29) (ci := 10) (k := 5) X xok10 (by decide +kernel) ob_52 trivial ly_52_5 (by decide +kernel) fl_RX10_15 d_X10_suspectIn_29 ?_
    refine r_iload_n (pc := 32) X d_X10_suspectIn_32 fn1 ?_
    refine r_iload (pc := 33) X d_X10_suspectIn_33 ?_
    refine r_iload (pc := 35) X d_X10_suspectIn_35 ?_
    refine s_cv4 (pc := 37) (ci := 10) X xok10 (by decide +kernel) ob_52 rfl (con_X10_holds l) mf_X10_holds ml_RX10_126 (by decide +kernel) (by decide +kernel) d_X10_suspectIn_37 ?_
    refine r_if_eq (pc := 40) (tgt := 72) X d_X10_suspectIn_40 (by decide +kernel) ?_ ?_
    · exact t_X10_suspectIn_72 X hr h21
    · refine r_iload (pc := 43) X d_X10_suspectIn_43 ?_
      refine r_if_ne (pc := 45) (tgt := 69) X d_X10_suspectIn_45 (by decide +kernel) ?_ ?_
      · refine r_iinc (pc := 69) X d_X10_suspectIn_69 (by decide +kernel) (by decide +kernel) ?_
        exact t_X10_suspectIn_72 X hr h21
      · refine r_iload_n (pc := 48) X d_X10_suspectIn_48 fn3 ?_
        refine r_if_ne (pc := 49) (tgt := 56) X d_X10_suspectIn_49 (by decide +kernel) ?_ ?_
        · refine r_iload_n (pc := 56) X d_X10_suspectIn_56 fn3 ?_
          refine r_iconst (pc := 57) X d_X10_suspectIn_57 (by decide +kernel) ?_
          refine r_icmp_ne (pc := 58) (tgt := 66) X d_X10_suspectIn_58 (by decide +kernel) ?_ ?_
          · refine r_iload (pc := 66) X d_X10_suspectIn_66 ?_
            exact t_X10_suspectIn_68 X hr
          · refine r_iload (pc := 61) X d_X10_suspectIn_61 ?_
            refine r_goto (pc := 63) (tgt := 68) X d_X10_suspectIn_63 (by decide +kernel) ?_
            exact t_X10_suspectIn_68 X hr
        · refine r_iload_n (pc := 52) X d_X10_suspectIn_52 fn1 ?_
          refine r_goto (pc := 53) (tgt := 68) X d_X10_suspectIn_53 (by decide +kernel) ?_
          exact t_X10_suspectIn_68 X hr
set_option maxRecDepth 20000 in
theorem m_X10_suspectIn {l : Launch} {f : Nat → Int32 → Int32 → Int32 → xH → xP → Prop}  {I6 : Nat → Int32 → Int32 → Int32 → xH → xP → xM → xK} {I21 : Nat → Int32 → Int32 → Int32 → xH → xP → xM → xK}
    (v0 : ∀ (a0 : Nat) (a1 : Int32) (a2 : Int32) (a3 : Int32) (A : xH) (P : xP), f a0 a1 a2 a3 A P → k_X10_suspectIn_0 P (xE (I6 a0 a1 a2 a3 A P)) [some (.ref a0), some (.int a1), some (.int a2), some (.int a3), none, none, none] [] A)
    (v6 : ∀ (a0 : Nat) (a1 : Int32) (a2 : Int32) (a3 : Int32) (A : xH) (P : xP), f a0 a1 a2 a3 A P → ∀ (μ : xM) (L : xL) (st : List Value) (B : xH), I6 a0 a1 a2 a3 A P μ L st B → k_X10_suspectIn_6 P (xB (I21 a0 a1 a2 a3 A P) μ) L st B)
    (v21 : ∀ (a0 : Nat) (a1 : Int32) (a2 : Int32) (a3 : Int32) (A : xH) (P : xP), f a0 a1 a2 a3 A P → ∀ (μ : xM) (L : xL) (st : List Value) (B : xH), I21 a0 a1 a2 a3 A P μ L st B → k_X10_suspectIn_21 P (xB (I6 a0 a1 a2 a3 A P) μ) (xB (I21 a0 a1 a2 a3 A P) μ) L st B) : xCon l yX10_suspectIn cX10_suspectIn 7 (some .int) 1 24 xN xN 0 xFT xFT (w_RIII f) := by
  refine xc_RIII (plainFor_of_name pn_RX10) (by decide +kernel) (fun p e s m args below meth c g a0 a1 a2 a3 A P h X hr _ => ?_)
  obtain ⟨h6, h21⟩ := x_loop2 (p := p) (l := l) (e := e) (R := { frames := 1, cells := 0, slots := 0, locals := 24 }) (s := s) (m := m) (args := args) (below := below) (meth := meth) (c := c) (g := g) (nL := 7) (F := xFT) (n := xN) (cells := 0) (slots := 0) (Q := MQ below (xQc g xFT xN P) args s 0 0 (xFr g)) (I1 := I6 a0 a1 a2 a3 A P) (I2 := I21 a0 a1 a2 a3 A P) (pc1 := 6) (pc2 := 21) (fun μ i6 i21 => xAt_mono (t_X10_suspectIn_6 (P := P) X hr i21) (v6 a0 a1 a2 a3 A P h μ)) (fun μ i6 i21 => xAt_mono (t_X10_suspectIn_21 (P := P) X hr i6 i21) (v21 a0 a1 a2 a3 A P h μ))
  exact ⟨_, v0 a0 a1 a2 a3 A P h, t_X10_suspectIn_0 X hr h6⟩
noncomputable def suG (v : xV) (t : Nat) : Bool := bt (suN v (nDe t))
theorem suG_F {v : xV} {s p q : Nat} (hs : s < 4) (hp : p < 80) (hq : q < 80) : suG v (320 * p + (4 * q + s)) = suF v (6400 * s + 80 * p + q) := by
  unfold suG suF
  have h1 : nDe (nEn (s, p, q)) = (s, p, q) := nDe_En ⟨hs, hp, hq⟩
  have h2 : cDe (cEn (s, p, q)) = (s, p, q) := cDe_En ⟨hs, hp, hq⟩
  have e1 : nEn (s, p, q) = 320 * p + (4 * q + s) := by
    show 4 * (80 * p + q) + s = _
    omega
  rw [e1] at h1
  have e2 : cEn (s, p, q) = 6400 * s + 80 * p + q := rfl
  rw [e2] at h2
  rw [h1, h2]
theorem suG_pl {v : xV} {t : Nat} (h80 : (plL v).length ≤ 80) (h : suG v t = true) : t % 4 ≠ 0 ∧ t / 320 < (plL v).length ∧ t / 4 % 80 < (plL v).length := by
  unfold suG at h
  rw [bt_iff] at h
  obtain ⟨h0, d, hd⟩ := suN_rc h
  have := rc_pl hd
  exact ⟨h0, this.2.1, this.2.2⟩
theorem cb_4 (f : Nat → Bool) : ∀ M, cb f (4 * M) = cb (fun q => f (4 * q)) M + cb (fun q => f (4 * q + 1)) M + cb (fun q => f (4 * q + 2)) M + cb (fun q => f (4 * q + 3)) M
  | 0 => rfl
  | M + 1 => by
    rw [show 4 * (M + 1) = 4 * M + 1 + 1 + 1 + 1 by omega, cb_s, cb_s, cb_s, cb_s, cb_4 f M, cb_s, cb_s, cb_s, cb_s]
    omega
theorem cb_z {f : Nat → Bool} {n : Nat} (h : ∀ j, j < n → f j = false) : cb f n = 0 := by
  have := cb_flat (f := f) (Nat.zero_le n) fun y _ hy => h y hy
  exact this
/-- a row of a stage -/
theorem pc_row {A : xH} {c k p : Nat} {f : Nat → Bool} (h : bsB A c f) (hk : k < 4) (hp : p < 80) : cb (fun q => f (6400 * k + 80 * p + q)) 80 = pc (xl A c ((k * 80 + p) * 2)) + pc (xl A c ((k * 80 + p) * 2 + 1)) := by
  have h1 := pc_pos h hk (show 2 * p < 160 by omega)
  have h2 := pc_pos h hk (show 2 * p + 1 < 160 by omega)
  rw [h1] at h2
  rw [show k * 160 + 2 * p = (k * 80 + p) * 2 by omega, show k * 160 + (2 * p + 1) = (k * 80 + p) * 2 + 1 by omega] at h2
  rw [show posI (2 * p + 1 + 1) = 80 * p + 80 by unfold posI; omega, show posI (2 * p) = 80 * p by unfold posI; omega, cb_add] at h2
  rw [cb_congr (g := fun j => f (6400 * k + (80 * p + j))) fun j _ => by rw [Nat.add_assoc]]
  omega
theorem suG_320 {A : xH} {v : xV} {p : Nat} (h : bsB A 54 (suF v)) (hp : p < 80) : cb (suG v) (320 * (p + 1)) = cb (suG v) (320 * p) + (pc (xl A 54 ((1 * 80 + p) * 2)) + pc (xl A 54 ((1 * 80 + p) * 2 + 1))) + (pc (xl A 54 ((2 * 80 + p) * 2)) + pc (xl A 54 ((2 * 80 + p) * 2 + 1))) + (pc (xl A 54 ((3 * 80 + p) * 2)) + pc (xl A 54 ((3 * 80 + p) * 2 + 1))) := by
  rw [show 320 * (p + 1) = 320 * p + 4 * 80 by omega, cb_add, cb_4, ← pc_row h (by omega) hp, ← pc_row h (by omega) hp, ← pc_row h (by omega) hp]
  have z : cb (fun q => suG v (320 * p + 4 * q)) 80 = 0 := cb_z fun q hq => by
    cases w : suG v (320 * p + 4 * q)
    · rfl
    · unfold suG at w
      rw [bt_iff] at w
      have := (suN_rc w).1
      have h0 : (320 * p + 4 * q) % 4 ≠ 0 := this
      omega
  rw [z]
  have e : ∀ s, s < 4 → cb (fun q => suG v (320 * p + (4 * q + s))) 80 = cb (fun q => suF v (6400 * s + 80 * p + q)) 80 := fun s hs => cb_congr fun q hq => suG_F hs hp hq
  rw [e 1 (by omega), e 2 (by omega), e 3 (by omega)]
  omega
/-- a part of the k-th -/
def sgP (w t : Nat) : Int32 := if w = 0 then nI (t / 320) else if w = 1 then nI (t / 4 % 80) else nI (t % 4)
def f_X10_suspectIn (q : Nat) (x y z : Int32) (A : xH) (P : xP) : Prop := q = 52 ∧ ∃ (v : xV) (p k w : Nat), x = nI p ∧ y = nI k ∧ z = nI w ∧ w < 3 ∧ p < (plL v).length ∧ ctS v A ∧ spS v A ∧ k < 25600 ∧ cb (suG v) (320 * p) + k < cb (suG v) (320 * (p + 1)) ∧ ∀ t, t < 25600 → suG v t = true → cb (suG v) t = cb (suG v) (320 * p) + k → P (some (.int (sgP w t))) A
def si6 (A : xH) (P : xP) : xM → xK := fun μ L st B => ∃ (v : xV) (p k w q : Nat) (o6 : Option Value), w < 3 ∧ p < (plL v).length ∧ ctS v A ∧ spS v A ∧ k < 25600 ∧ cb (suG v) (320 * p) + k < cb (suG v) (320 * (p + 1)) ∧ (∀ t, t < 25600 → suG v t = true → cb (suG v) t = cb (suG v) (320 * p) + k → P (some (.int (sgP w t))) A) ∧ q ≤ (plL v).length ∧ cb (suG v) (320 * p + 4 * q) ≤ cb (suG v) (320 * p) + k ∧ B = A ∧ st = [] ∧ L = [some (.ref 52), some (.int (nI p)), some (.int (nI k)), some (.int (nI w)), some (.int (nI (k + cb (suG v) (320 * p) - cb (suG v) (320 * p + 4 * q)))), some (.int (nI q)), o6] ∧ μ = (80 - q, 0, 0)
def si21 (A : xH) (P : xP) : xM → xK := fun μ L st B => ∃ (v : xV) (p k w q s : Nat), w < 3 ∧ p < (plL v).length ∧ ctS v A ∧ spS v A ∧ k < 25600 ∧ cb (suG v) (320 * p) + k < cb (suG v) (320 * (p + 1)) ∧ (∀ t, t < 25600 → suG v t = true → cb (suG v) t = cb (suG v) (320 * p) + k → P (some (.int (sgP w t))) A) ∧ q < (plL v).length ∧ 1 ≤ s ∧ s ≤ 4 ∧ cb (suG v) (320 * p + (4 * q + s)) ≤ cb (suG v) (320 * p) + k ∧ B = A ∧ st = [] ∧ L = [some (.ref 52), some (.int (nI p)), some (.int (nI k)), some (.int (nI w)), some (.int (nI (k + cb (suG v) (320 * p) - cb (suG v) (320 * p + (4 * q + s))))), some (.int (nI q)), some (.int (nI s))] ∧ μ = (80 - q - 1, 1, 4 - s)
set_option maxRecDepth 20000 in
theorem con_X10_suspectIn (l : Launch) : xCon l yX10_suspectIn cX10_suspectIn 7 (some .int) 1 24 xN xN 0 xFT xFT (w_RIII f_X10_suspectIn) := by
  refine m_X10_suspectIn (I6 := fun q x y z A P => si6 A P) (I21 := fun q x y z A P => si21 A P) ?_ ?_ ?_
  · rintro q x y z A P ⟨rfl, v, p, k, w, rfl, rfl, rfl, hw, hp, hC, hS, hk, hlt, hP⟩
    simp (disch := omega) only [k_X10_suspectIn_0, k_X10_suspectIn_6, k_X10_suspectIn_21, k_X10_suspectIn_68, k_X10_suspectIn_72, w_RRIII, x_aload, x_icmp_ge, x_icmp_gt, x_icmp_ne, x_if_eq, x_if_ne, x_iinc, x_iload, x_iret, x_istore, x_push, y_cv4, y_getF, y_getI, xFT, xbool0, xbool1, Nat.reduceAdd, Nat.zero_add, xgl_0, xgl_s, xgl_n, xst_0, xst_1n, xst_1i, xst_1r, xst_1l, xst_s, set_0, set_s, true_and, and_true, xres, xcat_nil, xcat_i, xcat_r, xcat_l, Nat.add_zero, xble0, xble1, xble2, xble3, xble4, xble5, xble6, xble7, xble8, pk_mul, nI_add, nI_1, nI_leI, nI_ltI, nI_eq, n_in, n_cl, z_eq, z_lt, z_le, z_gt, z_ge, z_qe, o_eq, o_lt, o_le, o_gt, o_ge, vp0, vp1, cl0, cl1, n_sub, n_sub1, n_pm1, n_a0, n_0a, ofn, lN0, Nat.reduceLT, Nat.reduceLeDiff, Nat.reduceMul, Nat.reduceSub, Nat.reduceEqDiff, ne_eq, true_implies, false_implies, not_true_eq_false, not_false_eq_true, and_self, and_true, true_and, and_false, false_and, implies_true, if_true, if_false, i00, i10, i01, i11, ob_0, ob_1, tn_2, ln_2, ob_3, tn_4, ln_4, ob_5, tn_6, ln_6, tn_7, ln_7, ob_8, tn_9, ln_9, tn_10, ln_10, tn_11, ln_11, tn_12, ln_12, tn_13, ln_13, tn_14, ln_14, tn_15, ln_15, tn_16, ln_16, tn_17, ln_17, ob_18, tn_19, ln_19, tn_20, ln_20, tn_21, ln_21, tn_22, ln_22, tn_23, ln_23, tn_24, ln_24, tn_25, ln_25, tn_26, ln_26, tn_27, ln_27, ob_28, tn_29, ln_29, tn_30, ln_30, ob_31, tn_32, ln_32, tn_33, ln_33, ob_34, ob_35, tn_36, ln_36, tn_37, ln_37, tn_38, ln_38, ob_39, tn_40, ln_40, tn_41, ln_41, tn_42, ln_42, tn_43, ln_43, tn_44, ln_44, tn_45, ln_45, tn_46, ln_46, tn_47, ln_47, tn_48, ln_48, tn_49, ln_49, tn_50, ln_50, tn_51, ln_51, ob_52, tn_53, ln_53, tn_54, ln_54, tn_55, ln_55, tn_56, ln_56, ob_57, tn_58, ln_58, tn_59, ln_59, tn_60, ln_60, tn_61, ln_61, tn_62, ln_62, tn_63, ln_63, tn_64, ln_64, tn_65, ln_65, ob_66, tn_67, ln_67, tn_68, ln_68, tn_69, ln_69, tn_70, ln_70, tn_71, ln_71, tn_72, ln_72, tn_73, ln_73, ob_74, tn_75, ln_75, tn_76, ln_76, tn_77, ln_77, tn_78, ln_78, tn_79, ln_79, tn_80, ln_80, tn_81, ln_81, tn_82, ln_82, tn_83, ln_83, ob_84, tn_85, ln_85, tn_86, ln_86, tn_87, ln_87, tn_88, ln_88, tn_89, ln_89, tn_90, ln_90, tn_91, ln_91, tn_92, ln_92, tn_93, ln_93, ob_94, tn_95, ln_95, tn_96, ln_96, tn_97, ln_97, tn_98, ln_98, tn_99, ln_99, tn_100, ln_100, tn_101, ln_101, tn_102, ln_102, tn_103, ln_103, ob_104, tn_105, ln_105, tn_106, ln_106, tn_107, ln_107, tn_108, ln_108, tn_109, ln_109, tn_110, ln_110, tn_111, ln_111, tn_112, ln_112, tn_113, ln_113, ob_114, tn_115, ln_115, tn_116, ln_116, tn_117, ln_117, tn_118, ln_118, tn_119, ln_119, tn_120, ln_120, tn_121, ln_121, tn_122, ln_122, tn_123, ln_123, ob_124, tn_125, ln_125, tn_126, ln_126, tn_127, ln_127, tn_128, ln_128, tn_129, ln_129, tn_130, ln_130, tn_131, ln_131, tn_132, ln_132, tn_133, ln_133, ob_134, tn_135, ln_135, tn_136, ln_136, tn_137, ln_137, tn_138, ln_138, tn_139, ln_139, tn_140, ln_140, tn_141, ln_141, tn_142, ln_142, tn_143, ln_143, ob_144, tn_145, ln_145, tn_146, ln_146, tn_147, ln_147, tn_148, ln_148, tn_149, ln_149, tn_150, ln_150, tn_151, ln_151, tn_152, ln_152, tn_153, ln_153, ob_154, tn_155, ln_155, tn_156, ln_156, tn_157, ln_157, tn_158, ln_158, tn_159, ln_159, tn_160, ln_160, tn_161, ln_161, tn_162, ln_162, tn_163, ln_163, ob_164, tn_165, ln_165, tn_166, ln_166, ob_167, tn_168, ln_168, tn_169, ln_169, tn_170, ln_170, tn_171, ln_171, tn_172, ln_172, tn_173, ln_173, tn_174, ln_174, tn_175, ln_175, tn_176, ln_176, ob_177, tn_178, ln_178, tn_179, ln_179, ob_180, tn_181, ln_181, tn_182, ln_182, tn_183, ln_183, tn_184, ln_184, tn_185, ln_185, tn_186, ln_186, tn_187, ln_187, tn_188, ln_188, tn_189, ln_189, tn_190, ln_190, tn_191, ln_191, tn_192, ln_192, tn_193, ln_193, tn_194, ln_194, tn_195, ln_195, tn_196, ln_196, tn_197, ln_197, tn_198, ln_198, tn_199, ln_199, tn_200, ln_200, tn_201, ln_201, tn_202, ln_202, tn_203, ln_203, tn_204, ln_204, tn_205, ln_205, tn_206, ln_206, tn_207, ln_207, tn_208, ln_208, tn_209, ln_209, tn_210, ln_210, tn_211, ln_211, tn_212, ln_212, tn_213, ln_213, tn_214, ln_214, tn_215, ln_215, tn_216, ln_216, tn_217, ln_217, tn_218, ln_218, tn_219, ln_219, tn_220, ln_220, tn_221, ln_221, tn_222, ln_222, tn_223, ln_223, tn_224, ln_224, tn_225, ln_225, tn_226, ln_226, tn_227, ln_227, tn_228, ln_228, tn_229, ln_229, tn_230, ln_230, lx2, lx3, lx4, lx5, lx6, lx7, lx8, lx9, lx10, lx14, lx15, lx16, lx18, lx20, lx24, lx25, lx27, lx32, lx36, lx40, lx41, lx42, lx43, lx45, lx48, lx52, lx54, lx56, lx57, lx58, lx60, lx61, lx62, lx63, lx64, lx66, lx69, lx73, lx80, lx81, lx84, lx85, lx87, lx94, lx96, lx97, lx120, lx128, lx135, lx160, lx162, lx163, lx165, lx200, lx232, lx242, lx243, lx255, lx256, lx320, lx325, lx400, lx405, lx464, lx512, lx600, lx640, lx752, lx900, lx940, lx1000, lx1024, lx1764, lx3360, lx3840, lx5000, lx6400, lx9050, lx9998, lx9999, lx10000, lx25600, lx76800, lx99999]
    refine xE0 (80 - 0, 0, 0) ⟨v, p, k, w, 0, none, hw, hp, hC, hS, hk, hlt, hP, by omega, (by show cb (suG v) (320 * p) ≤ _; omega), rfl, rfl, ?_, rfl⟩
    rw [Nat.mul_zero, Nat.add_zero, Nat.add_sub_cancel]
    rfl
  · rintro q x y z A P - μ L st B ⟨v, p, k, w, q, o6, hw, hp, hC, hS, hk, hlt, hP, hq, hle, rfl, rfl, rfl, rfl⟩
    have h80 := hC.2
    have e2 : xi B 39 2 = nI (plL v).length := by
      have := hC.1.1.1
      rw [show min (plL v).length 80 = (plL v).length by omega] at this
      exact this
    simp (disch := omega) only [k_X10_suspectIn_0, k_X10_suspectIn_6, k_X10_suspectIn_21, k_X10_suspectIn_68, k_X10_suspectIn_72, w_RRIII, x_aload, x_icmp_ge, x_icmp_gt, x_icmp_ne, x_if_eq, x_if_ne, x_iinc, x_iload, x_iret, x_istore, x_push, y_cv4, y_getF, y_getI, xFT, xbool0, xbool1, Nat.reduceAdd, Nat.zero_add, xgl_0, xgl_s, xgl_n, xst_0, xst_1n, xst_1i, xst_1r, xst_1l, xst_s, set_0, set_s, true_and, and_true, xres, xcat_nil, xcat_i, xcat_r, xcat_l, Nat.add_zero, xble0, xble1, xble2, xble3, xble4, xble5, xble6, xble7, xble8, pk_mul, nI_add, nI_1, nI_leI, nI_ltI, nI_eq, n_in, n_cl, z_eq, z_lt, z_le, z_gt, z_ge, z_qe, o_eq, o_lt, o_le, o_gt, o_ge, vp0, vp1, cl0, cl1, n_sub, n_sub1, n_pm1, n_a0, n_0a, ofn, lN0, Nat.reduceLT, Nat.reduceLeDiff, Nat.reduceMul, Nat.reduceSub, Nat.reduceEqDiff, ne_eq, true_implies, false_implies, not_true_eq_false, not_false_eq_true, and_self, and_true, true_and, and_false, false_and, implies_true, if_true, if_false, i00, i10, i01, i11, ob_0, ob_1, tn_2, ln_2, ob_3, tn_4, ln_4, ob_5, tn_6, ln_6, tn_7, ln_7, ob_8, tn_9, ln_9, tn_10, ln_10, tn_11, ln_11, tn_12, ln_12, tn_13, ln_13, tn_14, ln_14, tn_15, ln_15, tn_16, ln_16, tn_17, ln_17, ob_18, tn_19, ln_19, tn_20, ln_20, tn_21, ln_21, tn_22, ln_22, tn_23, ln_23, tn_24, ln_24, tn_25, ln_25, tn_26, ln_26, tn_27, ln_27, ob_28, tn_29, ln_29, tn_30, ln_30, ob_31, tn_32, ln_32, tn_33, ln_33, ob_34, ob_35, tn_36, ln_36, tn_37, ln_37, tn_38, ln_38, ob_39, tn_40, ln_40, tn_41, ln_41, tn_42, ln_42, tn_43, ln_43, tn_44, ln_44, tn_45, ln_45, tn_46, ln_46, tn_47, ln_47, tn_48, ln_48, tn_49, ln_49, tn_50, ln_50, tn_51, ln_51, ob_52, tn_53, ln_53, tn_54, ln_54, tn_55, ln_55, tn_56, ln_56, ob_57, tn_58, ln_58, tn_59, ln_59, tn_60, ln_60, tn_61, ln_61, tn_62, ln_62, tn_63, ln_63, tn_64, ln_64, tn_65, ln_65, ob_66, tn_67, ln_67, tn_68, ln_68, tn_69, ln_69, tn_70, ln_70, tn_71, ln_71, tn_72, ln_72, tn_73, ln_73, ob_74, tn_75, ln_75, tn_76, ln_76, tn_77, ln_77, tn_78, ln_78, tn_79, ln_79, tn_80, ln_80, tn_81, ln_81, tn_82, ln_82, tn_83, ln_83, ob_84, tn_85, ln_85, tn_86, ln_86, tn_87, ln_87, tn_88, ln_88, tn_89, ln_89, tn_90, ln_90, tn_91, ln_91, tn_92, ln_92, tn_93, ln_93, ob_94, tn_95, ln_95, tn_96, ln_96, tn_97, ln_97, tn_98, ln_98, tn_99, ln_99, tn_100, ln_100, tn_101, ln_101, tn_102, ln_102, tn_103, ln_103, ob_104, tn_105, ln_105, tn_106, ln_106, tn_107, ln_107, tn_108, ln_108, tn_109, ln_109, tn_110, ln_110, tn_111, ln_111, tn_112, ln_112, tn_113, ln_113, ob_114, tn_115, ln_115, tn_116, ln_116, tn_117, ln_117, tn_118, ln_118, tn_119, ln_119, tn_120, ln_120, tn_121, ln_121, tn_122, ln_122, tn_123, ln_123, ob_124, tn_125, ln_125, tn_126, ln_126, tn_127, ln_127, tn_128, ln_128, tn_129, ln_129, tn_130, ln_130, tn_131, ln_131, tn_132, ln_132, tn_133, ln_133, ob_134, tn_135, ln_135, tn_136, ln_136, tn_137, ln_137, tn_138, ln_138, tn_139, ln_139, tn_140, ln_140, tn_141, ln_141, tn_142, ln_142, tn_143, ln_143, ob_144, tn_145, ln_145, tn_146, ln_146, tn_147, ln_147, tn_148, ln_148, tn_149, ln_149, tn_150, ln_150, tn_151, ln_151, tn_152, ln_152, tn_153, ln_153, ob_154, tn_155, ln_155, tn_156, ln_156, tn_157, ln_157, tn_158, ln_158, tn_159, ln_159, tn_160, ln_160, tn_161, ln_161, tn_162, ln_162, tn_163, ln_163, ob_164, tn_165, ln_165, tn_166, ln_166, ob_167, tn_168, ln_168, tn_169, ln_169, tn_170, ln_170, tn_171, ln_171, tn_172, ln_172, tn_173, ln_173, tn_174, ln_174, tn_175, ln_175, tn_176, ln_176, ob_177, tn_178, ln_178, tn_179, ln_179, ob_180, tn_181, ln_181, tn_182, ln_182, tn_183, ln_183, tn_184, ln_184, tn_185, ln_185, tn_186, ln_186, tn_187, ln_187, tn_188, ln_188, tn_189, ln_189, tn_190, ln_190, tn_191, ln_191, tn_192, ln_192, tn_193, ln_193, tn_194, ln_194, tn_195, ln_195, tn_196, ln_196, tn_197, ln_197, tn_198, ln_198, tn_199, ln_199, tn_200, ln_200, tn_201, ln_201, tn_202, ln_202, tn_203, ln_203, tn_204, ln_204, tn_205, ln_205, tn_206, ln_206, tn_207, ln_207, tn_208, ln_208, tn_209, ln_209, tn_210, ln_210, tn_211, ln_211, tn_212, ln_212, tn_213, ln_213, tn_214, ln_214, tn_215, ln_215, tn_216, ln_216, tn_217, ln_217, tn_218, ln_218, tn_219, ln_219, tn_220, ln_220, tn_221, ln_221, tn_222, ln_222, tn_223, ln_223, tn_224, ln_224, tn_225, ln_225, tn_226, ln_226, tn_227, ln_227, tn_228, ln_228, tn_229, ln_229, tn_230, ln_230, lx2, lx3, lx4, lx5, lx6, lx7, lx8, lx9, lx10, lx14, lx15, lx16, lx18, lx20, lx24, lx25, lx27, lx32, lx36, lx40, lx41, lx42, lx43, lx45, lx48, lx52, lx54, lx56, lx57, lx58, lx60, lx61, lx62, lx63, lx64, lx66, lx69, lx73, lx80, lx81, lx84, lx85, lx87, lx94, lx96, lx97, lx120, lx128, lx135, lx160, lx162, lx163, lx165, lx200, lx232, lx242, lx243, lx255, lx256, lx320, lx325, lx400, lx405, lx464, lx512, lx600, lx640, lx752, lx900, lx940, lx1000, lx1024, lx1764, lx3360, lx3840, lx5000, lx6400, lx9050, lx9998, lx9999, lx10000, lx25600, lx76800, lx99999, e2]
    refine ⟨fun z => ?_, fun z => ?_⟩
    · exfalso
      have e : q = (plL v).length := by omega
      subst e
      have fl : cb (suG v) (320 * (p + 1)) = cb (suG v) (320 * p + 4 * (plL v).length) := cb_flat (by omega) fun t h1 h2 => by
        cases hw : suG v t
        · rfl
        · have := suG_pl h80 hw; omega
      omega
    · have z0 : suG v (320 * p + 4 * q) = false := by
        cases hw : suG v (320 * p + 4 * q)
        · rfl
        · have := suG_pl h80 hw; omega
      have c1 : cb (suG v) (320 * p + (4 * q + 1)) = cb (suG v) (320 * p + 4 * q) := by
        rw [← Nat.add_assoc, cb_s, z0]; rfl
      refine xB1 (b := 80 - q - 1) (by omega) ⟨v, p, k, w, q, 1, hw, hp, hC, hS, hk, hlt, hP, by omega, by omega, by omega, by omega, rfl, rfl, by rw [c1]; rfl, rfl⟩
  · rintro q x y z A P - μ L st B ⟨v, p, k, w, q, s, hw, hp, hC, hS, hk, hlt, hP, hq, hs1, hs4, hle, rfl, rfl, rfl, rfl⟩
    have h80 := hC.2
    have cl := cb_le (suG v) (320 * p)
    simp (disch := omega) only [k_X10_suspectIn_0, k_X10_suspectIn_6, k_X10_suspectIn_21, k_X10_suspectIn_68, k_X10_suspectIn_72, w_RRIII, x_aload, x_icmp_ge, x_icmp_gt, x_icmp_ne, x_if_eq, x_if_ne, x_iinc, x_iload, x_iret, x_istore, x_push, y_cv4, y_getF, y_getI, xFT, xbool0, xbool1, Nat.reduceAdd, Nat.zero_add, xgl_0, xgl_s, xgl_n, xst_0, xst_1n, xst_1i, xst_1r, xst_1l, xst_s, set_0, set_s, true_and, and_true, xres, xcat_nil, xcat_i, xcat_r, xcat_l, Nat.add_zero, xble0, xble1, xble2, xble3, xble4, xble5, xble6, xble7, xble8, pk_mul, nI_add, nI_1, nI_leI, nI_ltI, nI_eq, n_in, n_cl, z_eq, z_lt, z_le, z_gt, z_ge, z_qe, o_eq, o_lt, o_le, o_gt, o_ge, vp0, vp1, cl0, cl1, n_sub, n_sub1, n_pm1, n_a0, n_0a, ofn, lN0, Nat.reduceLT, Nat.reduceLeDiff, Nat.reduceMul, Nat.reduceSub, Nat.reduceEqDiff, ne_eq, true_implies, false_implies, not_true_eq_false, not_false_eq_true, and_self, and_true, true_and, and_false, false_and, implies_true, if_true, if_false, i00, i10, i01, i11, ob_0, ob_1, tn_2, ln_2, ob_3, tn_4, ln_4, ob_5, tn_6, ln_6, tn_7, ln_7, ob_8, tn_9, ln_9, tn_10, ln_10, tn_11, ln_11, tn_12, ln_12, tn_13, ln_13, tn_14, ln_14, tn_15, ln_15, tn_16, ln_16, tn_17, ln_17, ob_18, tn_19, ln_19, tn_20, ln_20, tn_21, ln_21, tn_22, ln_22, tn_23, ln_23, tn_24, ln_24, tn_25, ln_25, tn_26, ln_26, tn_27, ln_27, ob_28, tn_29, ln_29, tn_30, ln_30, ob_31, tn_32, ln_32, tn_33, ln_33, ob_34, ob_35, tn_36, ln_36, tn_37, ln_37, tn_38, ln_38, ob_39, tn_40, ln_40, tn_41, ln_41, tn_42, ln_42, tn_43, ln_43, tn_44, ln_44, tn_45, ln_45, tn_46, ln_46, tn_47, ln_47, tn_48, ln_48, tn_49, ln_49, tn_50, ln_50, tn_51, ln_51, ob_52, tn_53, ln_53, tn_54, ln_54, tn_55, ln_55, tn_56, ln_56, ob_57, tn_58, ln_58, tn_59, ln_59, tn_60, ln_60, tn_61, ln_61, tn_62, ln_62, tn_63, ln_63, tn_64, ln_64, tn_65, ln_65, ob_66, tn_67, ln_67, tn_68, ln_68, tn_69, ln_69, tn_70, ln_70, tn_71, ln_71, tn_72, ln_72, tn_73, ln_73, ob_74, tn_75, ln_75, tn_76, ln_76, tn_77, ln_77, tn_78, ln_78, tn_79, ln_79, tn_80, ln_80, tn_81, ln_81, tn_82, ln_82, tn_83, ln_83, ob_84, tn_85, ln_85, tn_86, ln_86, tn_87, ln_87, tn_88, ln_88, tn_89, ln_89, tn_90, ln_90, tn_91, ln_91, tn_92, ln_92, tn_93, ln_93, ob_94, tn_95, ln_95, tn_96, ln_96, tn_97, ln_97, tn_98, ln_98, tn_99, ln_99, tn_100, ln_100, tn_101, ln_101, tn_102, ln_102, tn_103, ln_103, ob_104, tn_105, ln_105, tn_106, ln_106, tn_107, ln_107, tn_108, ln_108, tn_109, ln_109, tn_110, ln_110, tn_111, ln_111, tn_112, ln_112, tn_113, ln_113, ob_114, tn_115, ln_115, tn_116, ln_116, tn_117, ln_117, tn_118, ln_118, tn_119, ln_119, tn_120, ln_120, tn_121, ln_121, tn_122, ln_122, tn_123, ln_123, ob_124, tn_125, ln_125, tn_126, ln_126, tn_127, ln_127, tn_128, ln_128, tn_129, ln_129, tn_130, ln_130, tn_131, ln_131, tn_132, ln_132, tn_133, ln_133, ob_134, tn_135, ln_135, tn_136, ln_136, tn_137, ln_137, tn_138, ln_138, tn_139, ln_139, tn_140, ln_140, tn_141, ln_141, tn_142, ln_142, tn_143, ln_143, ob_144, tn_145, ln_145, tn_146, ln_146, tn_147, ln_147, tn_148, ln_148, tn_149, ln_149, tn_150, ln_150, tn_151, ln_151, tn_152, ln_152, tn_153, ln_153, ob_154, tn_155, ln_155, tn_156, ln_156, tn_157, ln_157, tn_158, ln_158, tn_159, ln_159, tn_160, ln_160, tn_161, ln_161, tn_162, ln_162, tn_163, ln_163, ob_164, tn_165, ln_165, tn_166, ln_166, ob_167, tn_168, ln_168, tn_169, ln_169, tn_170, ln_170, tn_171, ln_171, tn_172, ln_172, tn_173, ln_173, tn_174, ln_174, tn_175, ln_175, tn_176, ln_176, ob_177, tn_178, ln_178, tn_179, ln_179, ob_180, tn_181, ln_181, tn_182, ln_182, tn_183, ln_183, tn_184, ln_184, tn_185, ln_185, tn_186, ln_186, tn_187, ln_187, tn_188, ln_188, tn_189, ln_189, tn_190, ln_190, tn_191, ln_191, tn_192, ln_192, tn_193, ln_193, tn_194, ln_194, tn_195, ln_195, tn_196, ln_196, tn_197, ln_197, tn_198, ln_198, tn_199, ln_199, tn_200, ln_200, tn_201, ln_201, tn_202, ln_202, tn_203, ln_203, tn_204, ln_204, tn_205, ln_205, tn_206, ln_206, tn_207, ln_207, tn_208, ln_208, tn_209, ln_209, tn_210, ln_210, tn_211, ln_211, tn_212, ln_212, tn_213, ln_213, tn_214, ln_214, tn_215, ln_215, tn_216, ln_216, tn_217, ln_217, tn_218, ln_218, tn_219, ln_219, tn_220, ln_220, tn_221, ln_221, tn_222, ln_222, tn_223, ln_223, tn_224, ln_224, tn_225, ln_225, tn_226, ln_226, tn_227, ln_227, tn_228, ln_228, tn_229, ln_229, tn_230, ln_230, lx2, lx3, lx4, lx5, lx6, lx7, lx8, lx9, lx10, lx14, lx15, lx16, lx18, lx20, lx24, lx25, lx27, lx32, lx36, lx40, lx41, lx42, lx43, lx45, lx48, lx52, lx54, lx56, lx57, lx58, lx60, lx61, lx62, lx63, lx64, lx66, lx69, lx73, lx80, lx81, lx84, lx85, lx87, lx94, lx96, lx97, lx120, lx128, lx135, lx160, lx162, lx163, lx165, lx200, lx232, lx242, lx243, lx255, lx256, lx320, lx325, lx400, lx405, lx464, lx512, lx600, lx640, lx752, lx900, lx940, lx1000, lx1024, lx1764, lx3360, lx3840, lx5000, lx6400, lx9050, lx9998, lx9999, lx10000, lx25600, lx76800, lx99999]
    refine ⟨fun z => ?_, fun z => ?_⟩
    · have e : s = 4 := by omega
      subst e
      have e4 : 4 * q + 4 = 4 * (q + 1) := by omega
      refine xB2 (c := 0) (by omega) ⟨v, p, k, w, q + 1, _, hw, hp, hC, hS, hk, hlt, hP, by omega, by rw [← e4]; exact hle, rfl, rfl, by rw [e4], by rw [Nat.sub_sub]⟩
    · refine holds_C (Or.inr rfl) (by omega) (by omega) (by omega) (su_bs hS) ?_
      rw [← suG_F (by omega) (by omega) (by omega)]
      simp (disch := omega) only [k_X10_suspectIn_0, k_X10_suspectIn_6, k_X10_suspectIn_21, k_X10_suspectIn_68, k_X10_suspectIn_72, w_RRIII, x_aload, x_icmp_ge, x_icmp_gt, x_icmp_ne, x_if_eq, x_if_ne, x_iinc, x_iload, x_iret, x_istore, x_push, y_cv4, y_getF, y_getI, xFT, xbool0, xbool1, Nat.reduceAdd, Nat.zero_add, xgl_0, xgl_s, xgl_n, xst_0, xst_1n, xst_1i, xst_1r, xst_1l, xst_s, set_0, set_s, true_and, and_true, xres, xcat_nil, xcat_i, xcat_r, xcat_l, Nat.add_zero, xble0, xble1, xble2, xble3, xble4, xble5, xble6, xble7, xble8, pk_mul, nI_add, nI_1, nI_leI, nI_ltI, nI_eq, n_in, n_cl, z_eq, z_lt, z_le, z_gt, z_ge, z_qe, o_eq, o_lt, o_le, o_gt, o_ge, vp0, vp1, cl0, cl1, n_sub, n_sub1, n_pm1, n_a0, n_0a, ofn, lN0, Nat.reduceLT, Nat.reduceLeDiff, Nat.reduceMul, Nat.reduceSub, Nat.reduceEqDiff, ne_eq, true_implies, false_implies, not_true_eq_false, not_false_eq_true, and_self, and_true, true_and, and_false, false_and, implies_true, if_true, if_false, i00, i10, i01, i11, ob_0, ob_1, tn_2, ln_2, ob_3, tn_4, ln_4, ob_5, tn_6, ln_6, tn_7, ln_7, ob_8, tn_9, ln_9, tn_10, ln_10, tn_11, ln_11, tn_12, ln_12, tn_13, ln_13, tn_14, ln_14, tn_15, ln_15, tn_16, ln_16, tn_17, ln_17, ob_18, tn_19, ln_19, tn_20, ln_20, tn_21, ln_21, tn_22, ln_22, tn_23, ln_23, tn_24, ln_24, tn_25, ln_25, tn_26, ln_26, tn_27, ln_27, ob_28, tn_29, ln_29, tn_30, ln_30, ob_31, tn_32, ln_32, tn_33, ln_33, ob_34, ob_35, tn_36, ln_36, tn_37, ln_37, tn_38, ln_38, ob_39, tn_40, ln_40, tn_41, ln_41, tn_42, ln_42, tn_43, ln_43, tn_44, ln_44, tn_45, ln_45, tn_46, ln_46, tn_47, ln_47, tn_48, ln_48, tn_49, ln_49, tn_50, ln_50, tn_51, ln_51, ob_52, tn_53, ln_53, tn_54, ln_54, tn_55, ln_55, tn_56, ln_56, ob_57, tn_58, ln_58, tn_59, ln_59, tn_60, ln_60, tn_61, ln_61, tn_62, ln_62, tn_63, ln_63, tn_64, ln_64, tn_65, ln_65, ob_66, tn_67, ln_67, tn_68, ln_68, tn_69, ln_69, tn_70, ln_70, tn_71, ln_71, tn_72, ln_72, tn_73, ln_73, ob_74, tn_75, ln_75, tn_76, ln_76, tn_77, ln_77, tn_78, ln_78, tn_79, ln_79, tn_80, ln_80, tn_81, ln_81, tn_82, ln_82, tn_83, ln_83, ob_84, tn_85, ln_85, tn_86, ln_86, tn_87, ln_87, tn_88, ln_88, tn_89, ln_89, tn_90, ln_90, tn_91, ln_91, tn_92, ln_92, tn_93, ln_93, ob_94, tn_95, ln_95, tn_96, ln_96, tn_97, ln_97, tn_98, ln_98, tn_99, ln_99, tn_100, ln_100, tn_101, ln_101, tn_102, ln_102, tn_103, ln_103, ob_104, tn_105, ln_105, tn_106, ln_106, tn_107, ln_107, tn_108, ln_108, tn_109, ln_109, tn_110, ln_110, tn_111, ln_111, tn_112, ln_112, tn_113, ln_113, ob_114, tn_115, ln_115, tn_116, ln_116, tn_117, ln_117, tn_118, ln_118, tn_119, ln_119, tn_120, ln_120, tn_121, ln_121, tn_122, ln_122, tn_123, ln_123, ob_124, tn_125, ln_125, tn_126, ln_126, tn_127, ln_127, tn_128, ln_128, tn_129, ln_129, tn_130, ln_130, tn_131, ln_131, tn_132, ln_132, tn_133, ln_133, ob_134, tn_135, ln_135, tn_136, ln_136, tn_137, ln_137, tn_138, ln_138, tn_139, ln_139, tn_140, ln_140, tn_141, ln_141, tn_142, ln_142, tn_143, ln_143, ob_144, tn_145, ln_145, tn_146, ln_146, tn_147, ln_147, tn_148, ln_148, tn_149, ln_149, tn_150, ln_150, tn_151, ln_151, tn_152, ln_152, tn_153, ln_153, ob_154, tn_155, ln_155, tn_156, ln_156, tn_157, ln_157, tn_158, ln_158, tn_159, ln_159, tn_160, ln_160, tn_161, ln_161, tn_162, ln_162, tn_163, ln_163, ob_164, tn_165, ln_165, tn_166, ln_166, ob_167, tn_168, ln_168, tn_169, ln_169, tn_170, ln_170, tn_171, ln_171, tn_172, ln_172, tn_173, ln_173, tn_174, ln_174, tn_175, ln_175, tn_176, ln_176, ob_177, tn_178, ln_178, tn_179, ln_179, ob_180, tn_181, ln_181, tn_182, ln_182, tn_183, ln_183, tn_184, ln_184, tn_185, ln_185, tn_186, ln_186, tn_187, ln_187, tn_188, ln_188, tn_189, ln_189, tn_190, ln_190, tn_191, ln_191, tn_192, ln_192, tn_193, ln_193, tn_194, ln_194, tn_195, ln_195, tn_196, ln_196, tn_197, ln_197, tn_198, ln_198, tn_199, ln_199, tn_200, ln_200, tn_201, ln_201, tn_202, ln_202, tn_203, ln_203, tn_204, ln_204, tn_205, ln_205, tn_206, ln_206, tn_207, ln_207, tn_208, ln_208, tn_209, ln_209, tn_210, ln_210, tn_211, ln_211, tn_212, ln_212, tn_213, ln_213, tn_214, ln_214, tn_215, ln_215, tn_216, ln_216, tn_217, ln_217, tn_218, ln_218, tn_219, ln_219, tn_220, ln_220, tn_221, ln_221, tn_222, ln_222, tn_223, ln_223, tn_224, ln_224, tn_225, ln_225, tn_226, ln_226, tn_227, ln_227, tn_228, ln_228, tn_229, ln_229, tn_230, ln_230, lx2, lx3, lx4, lx5, lx6, lx7, lx8, lx9, lx10, lx14, lx15, lx16, lx18, lx20, lx24, lx25, lx27, lx32, lx36, lx40, lx41, lx42, lx43, lx45, lx48, lx52, lx54, lx56, lx57, lx58, lx60, lx61, lx62, lx63, lx64, lx66, lx69, lx73, lx80, lx81, lx84, lx85, lx87, lx94, lx96, lx97, lx120, lx128, lx135, lx160, lx162, lx163, lx165, lx200, lx232, lx242, lx243, lx255, lx256, lx320, lx325, lx400, lx405, lx464, lx512, lx600, lx640, lx752, lx900, lx940, lx1000, lx1024, lx1764, lx3360, lx3840, lx5000, lx6400, lx9050, lx9998, lx9999, lx10000, lx25600, lx76800, lx99999, bI_t]
      have hb25 : 320 * p + (4 * q + s) < 25600 := by omega
      have hcs : cb (suG v) (320 * p + (4 * q + (s + 1))) = cb (suG v) (320 * p + (4 * q + s)) + (suG v (320 * p + (4 * q + s))).toNat := by
        rw [show 320 * p + (4 * q + (s + 1)) = 320 * p + (4 * q + s) + 1 by omega, cb_s]
      refine ⟨fun z0 => ?_, fun z1 => ⟨fun ne => ?_, fun e0 => ?_⟩⟩
      · rw [z0] at hcs
        simp only [Bool.toNat_false, Nat.add_zero] at hcs
        exact xB3 (d := 4 - (s + 1)) (by omega) ⟨v, p, k, w, q, s + 1, hw, hp, hC, hS, hk, hlt, hP, hq, by omega, by omega, by omega, rfl, rfl, by rw [hcs], rfl⟩
      · have zt : suG v (320 * p + (4 * q + s)) = true := by
          cases hh : suG v (320 * p + (4 * q + s)); exact absurd hh z1; rfl
        rw [zt] at hcs
        simp only [Bool.toNat_true] at hcs
        rw [n_pm1 (by omega)]
        exact xB3 (d := 4 - (s + 1)) (by omega) ⟨v, p, k, w, q, s + 1, hw, hp, hC, hS, hk, hlt, hP, hq, by omega, by omega, by omega, rfl, rfl, by rw [hcs, Nat.sub_add_eq], rfl⟩
      · have zt : suG v (320 * p + (4 * q + s)) = true := by
          cases hh : suG v (320 * p + (4 * q + s)); exact absurd hh z1; rfl
        have fin := hP _ hb25 zt (by omega)
        unfold sgP at fin
        rw [show (320 * p + (4 * q + s)) / 320 = p by omega, show (320 * p + (4 * q + s)) / 4 % 80 = q by omega, show (320 * p + (4 * q + s)) % 4 = s by omega] at fin
        refine ⟨fun w0 => ⟨fun w1 => ?_, fun w1 => ?_⟩, fun w0 => ?_⟩
        · rw [if_neg w0, if_neg w1] at fin; exact fin
        · rw [if_neg w0, if_pos w1] at fin; exact fin
        · rw [if_pos w0] at fin; exact fin

