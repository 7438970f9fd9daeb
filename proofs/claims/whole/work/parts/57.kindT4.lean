theorem iter_add {α : Type} {f : α → α} {x : α} {a : Nat} : ∀ b, iter f (a + b) x = iter f b (iter f a x)
  | 0 => rfl
  | b + 1 => by
    show f (iter f (a + b) x) = f (iter f b (iter f a x))
    rw [iter_add b]
theorem fp_c {v : xV} (hw : wfg v) {em : Int32} {bg : Nat → Int32} {p : Int32 × (Nat → Int32)} : ∀ n, (iter (fpU v em bg) n p).1 = iter (md v 31) n p.1
  | 0 => rfl
  | n + 1 => by
    have h := fp_c hw (em := em) (bg := bg) (p := p) n
    simp only [iter]
    unfold fpU md
    unfold fpU md at h
    rw [fpR_1 hw _ (Nat.le_refl _), h]
theorem fp_late {v : xV} (hw : wfg v) {em M : Int32} {bg : Nat → Int32} (hM : md v 31 M = M) {p : Int32 × (Nat → Int32)} (hp : p.1 = M) : ∀ n, iter (fpU v em bg) n p = (M, iter (flU v em bg M) n p.2)
  | 0 => Prod.ext hp rfl
  | n + 1 => by
    have ih := fp_late hw (em := em) (bg := bg) hM hp n
    simp only [iter]
    rw [ih]
    exact fpR_3 hw hM _ (Nat.le_refl _)
theorem fp_up {v : xV} (hw : wfg v) {em M : Int32} {bg G : Nat → Int32} (hG : flR v em bg M G (vR v) = G) {p : Int32 × (Nat → Int32)} (hp : le5 p.2 G) (hc : ∀ n, sub (iter (md v 31) n p.1) M) : ∀ n, le5 (iter (fpU v em bg) n p).2 G
  | 0 => hp
  | n + 1 => by
    have ih := fp_up hw hG hp hc n
    have h := fpR_2 hw (em := em) (bg := bg) (p := iter (fpU v em bg) n p) (mk := M) (g := G) (by
      have h := hc (n + 1)
      rw [fp_c hw]; exact h) ih (vR v) (Nat.le_refl _)
    rw [hG] at h
    exact h
theorem fl_dn {v : xV} (hw : wfg v) {em M : Int32} {bg G g : Nat → Int32} (hG : flR v em bg M G (vR v) = G) (hg : le5 g G) : ∀ n, le5 (iter (flU v em bg M) n g) G
  | 0 => hg
  | n + 1 => by
    have ih := fl_dn hw hG hg n
    have h := flR_mono hw (em := em) (b := bg) (mk := M) (mk2 := M) sub_rf ih (vR v) (Nat.le_refl _)
    rw [hG] at h
    exact h
theorem md_up {v : xV} {x : Int32} {n : Nat} : ∀ k, sub (iter (md v 31) n x) (iter (md v 31) (n + k) x)
  | 0 => sub_rf
  | k + 1 => sub_tr (md_up k) (mdF_sub _)
theorem FL_gen {v : xV} (hw : wfg v) {em M : Int32} {bg g0 : Nat → Int32} {a b c N : Nat} (hb : low4 bg) (hz : ∀ k, k < 5 → g0 k = 0) (ha : 5 ≤ a) (hb20 : 20 ≤ b) (hc20 : 20 ≤ c) (hN : a + b = N) (hM : M = iter (md v 31) a (md0 v)) : ag5 (iter (fpU v em bg) N (md0 v, g0)).2 (iter (flU v em bg M) c (fun _ => 0)) := by
  have mdl := md0_low (v := v)
  have hMf : md v 31 M = M := by rw [hM]; exact (md_stab hw mdl ha).1
  have cle : ∀ n, sub (iter (md v 31) n (md0 v)) M := fun n => by
    rcases Nat.lt_or_ge n a with w | w
    · rw [hM]
      have := md_up (v := v) (x := md0 v) (n := n) (a - n)
      rw [show n + (a - n) = a by omega] at this
      exact this
    · rw [hM, (md_stab hw mdl (show 5 ≤ n by omega)).2, (md_stab hw mdl ha).2]; exact sub_rf
  have z4 : low4 (fun _ => (0 : Int32)) := fun k _ => low_0
  have st := fun (g : Nat → Int32) (hg : low4 g) (n : Nat) (hn : 20 ≤ n) => stab20 (f := flU v em bg M) (fun g h => flR_low hw hb h _ (Nat.le_refl _)) (fun g k _ => flR_sub k _) (fun g k hk => flR_out hw hk _ (Nat.le_refl _)) hg hn
  have fx : flR v em bg M (iter (flU v em bg M) c (fun _ => 0)) (vR v) = iter (flU v em bg M) c (fun _ => 0) := (st _ z4 c hc20).1
  have all : ∀ n, low4 (iter (flU v em bg M) n (fun _ => 0)) := fun n => by
    induction n with
    | zero => exact z4
    | succ n ih => exact flR_low hw hb ih _ (Nat.le_refl _)
  have up := fp_up hw (em := em) (p := (md0 v, g0)) fx (fun k hk => by show sub (g0 k) _; rw [hz k hk]; exact sub_0) cle
  have hp : (iter (fpU v em bg) a (md0 v, g0)).1 = M := by rw [fp_c hw]; exact hM.symm
  have late := fp_late hw (em := em) (bg := bg) hMf hp b
  rw [← iter_add, hN] at late
  have ga : low4 (iter (fpU v em bg) a (md0 v, g0)).2 := fun k hk d hd hd2 => by
    cases h : tst ((iter (fpU v em bg) a (md0 v, g0)).2 k) d
    · rfl
    · have h1 := up a k hk d hd2 h
      rw [all c k hk d hd hd2] at h1; cases h1
  have fx2 : flR v em bg M (iter (flU v em bg M) b (iter (fpU v em bg) a (md0 v, g0)).2) (vR v) = iter (flU v em bg M) b (iter (fpU v em bg) a (md0 v, g0)).2 := (st _ ga b hb20).1
  have dn := fl_dn hw (em := em) (g := fun _ => 0) fx2 (fun k _ => sub_0) c
  intro k hk
  have a1 := up N k hk
  rw [late] at a1 ⊢
  exact sub_eq a1 (dn k hk)
theorem flI_c {v : xV} (hw : wfg v) {em mk : Int32} {b c : Nat → Int32} (e : ag5 b c) : ∀ n g h, ag5 g h → ag5 (iter (flU v em b mk) n g) (iter (flU v em c mk) n h)
  | 0, _, _, e2 => e2
  | n + 1, g, h, e2 => flR_c hw e (flI_c hw e n g h e2) _ (Nat.le_refl _)
theorem MA_a {v : xV} (hw : wfg v) : MA v = iter (md v 31) 5 (md0 v) := (md_stab hw (md0_low (v := v)) (le := 31) (n := 64) (by omega)).2
theorem FL_ref {A : xH} {v : xV} (hw : wfg v) : ag5 (fpG A v 25).2 (FL v) := by
  have hbA : ag5 (lbG A v 20) (BG v) := BG_ref hw
  have hb4 : low4 (lbG A v 20) := fun k hk => by rw [hbA k hk]; exact BG_low hw k hk
  have z : ∀ k, k < 5 → z5 A 193 5 k = 0 := fun k hk => by unfold z5; rw [if_pos hk]
  have h := FL_gen hw (em := EM v) (M := MA v) (bg := lbG A v 20) (g0 := z5 A 193 5) (a := 5) (b := 20) (c := 64) (N := 25) hb4 z (Nat.le_refl _) (Nat.le_refl _) (by omega) rfl (MA_a hw)
  have h2 := flI_c hw (em := EM v) (mk := MA v) hbA 64 (fun _ => 0) (fun _ => 0) (fun _ _ => rfl)
  unfold fpG
  rw [E5_EM hw]
  exact fun k hk => (h k hk).trans (h2 k hk)

