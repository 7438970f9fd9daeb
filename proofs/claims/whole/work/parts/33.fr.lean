/-! ===== a frame: nothing is otherwise but what is named ===== -/
def fr (S : Nat → Nat → Prop) (A B : xH) : Prop := ∀ c k, ¬ S c k → B.1 c k = A.1 c k ∧ B.2.1 c k = A.2.1 c k ∧ B.2.2 c k = A.2.2 c k
section FR
variable {S S2 : Nat → Nat → Prop} {A B C : xH}
theorem fr_rf : fr S A A := fun _ _ _ => ⟨rfl, rfl, rfl⟩
theorem fr_tr (h : fr S A B) (h2 : fr S B C) : fr S A C := fun c k n => ⟨(h2 c k n).1.trans (h c k n).1, (h2 c k n).2.1.trans (h c k n).2.1, (h2 c k n).2.2.trans (h c k n).2.2⟩
theorem fr_mono (h : fr S A B) (hs : ∀ c k, S c k → S2 c k) : fr S2 A B := fun c k n => h c k fun q => n (hs c k q)
theorem fr_i (h : fr S A B) {c k : Nat} (n : ¬ S c k) : xi B c k = xi A c k := (h c k n).1
theorem fr_l (h : fr S A B) {c k : Nat} (n : ¬ S c k) : xl B c k = xl A c k := (h c k n).2.1
theorem fr_r (h : fr S A B) {c k : Nat} (n : ¬ S c k) : xr B c k = xr A c k := (h c k n).2.2
theorem fr_1 (h : fr S A B) {c : Nat} (n : ∀ k, ¬ S c k) : B.1 c = A.1 c := funext fun k => (h c k (n k)).1
theorem fr_2 (h : fr S A B) {c : Nat} (n : ∀ k, ¬ S c k) : B.2.1 c = A.2.1 c := funext fun k => (h c k (n k)).2.1
theorem fr_si {c k : Nat} {x : Int32} (h : fr S A B) (hs : S c k) : fr S A (xsi B c k x) := by
  intro d j n
  refine ⟨?_, (h d j n).2⟩
  have hne : ¬ (d = c ∧ j = k) := fun e => n (by rw [e.1, e.2]; exact hs)
  rw [← (h d j n).1]
  show (if d = c ∧ j = k then x else B.1 d j) = _
  rw [if_neg hne]
theorem fr_sl {c k : Nat} {x : Int64} (h : fr S A B) (hs : S c k) : fr S A (xsl B c k x) := by
  intro d j n
  refine ⟨(h d j n).1, ?_, (h d j n).2.2⟩
  have hne : ¬ (d = c ∧ j = k) := fun e => n (by rw [e.1, e.2]; exact hs)
  rw [← (h d j n).2.1]
  show (if d = c ∧ j = k then x else B.2.1 d j) = _
  rw [if_neg hne]
theorem fr_sr {c k : Nat} {x : Option Nat} (h : fr S A B) (hs : S c k) : fr S A (xsr B c k x) := by
  intro d j n
  refine ⟨(h d j n).1, (h d j n).2.1, ?_⟩
  have hne : ¬ (d = c ∧ j = k) := fun e => n (by rw [e.1, e.2]; exact hs)
  rw [← (h d j n).2.2]
  show (if d = c ∧ j = k then x else B.2.2 d j) = _
  rw [if_neg hne]
theorem fr_sA {c : Nat} {f : Nat → Int32} (h : fr S A B) (hs : ∀ k, S c k) : fr S A (xsA B c f) := by
  intro d j n
  refine ⟨?_, (h d j n).2⟩
  have hne : ¬ d = c := fun e => n (by rw [e]; exact hs j)
  rw [← (h d j n).1]
  show (if d = c then f j else B.1 d j) = _
  rw [if_neg hne]
theorem fr_xoff {lo hi : Nat} (h : xoff A B lo hi) (hs : ∀ c k, lo ≤ c → c ≤ hi → S c k) : fr S A B := by
  intro c k n
  have hc : c < lo ∨ hi < c := by
    rcases Nat.lt_or_ge c lo with q | q
    · exact Or.inl q
    · exact Or.inr (Nat.lt_of_not_le fun q2 => n (hs c k q q2))
  exact ⟨congrFun (h.1 c hc).1 k, congrFun (h.1 c hc).2 k, by rw [h.2]⟩
end FR
theorem sl_ne {A : xH} {c k d j : Nat} {x : Int64} (h : d ≠ c ∨ j ≠ k) : xl (xsl A c k x) d j = xl A d j := by rw [xl_sl, if_neg (by omega)]
theorem sl_eq {A : xH} {c k : Nat} {x : Int64} : xl (xsl A c k x) c k = x := by rw [xl_sl, if_pos ⟨rfl, rfl⟩]
theorem z_eq {c : Nat} (h : c < 2 ^ 31) : nI c = 0 ↔ c = 0 := c_eq 0 h (by decide)
theorem z_qe {c : Nat} (h : c < 2 ^ 31) : (0 : Int32) = nI c ↔ 0 = c := by rw [eq_comm, z_eq h, eq_comm]
theorem z_lt {c : Nat} (h : c < 2 ^ 31) : (nI c < 0) = False := by simp [nI_pos h]
theorem z_ge {c : Nat} (h : c < 2 ^ 31) : (0 ≤ nI c) = True := by simp [nI_pos' h]
theorem z_le {c : Nat} (h : c < 2 ^ 31) : nI c ≤ 0 ↔ c = 0 := by rw [show (0 : Int32) = nI 0 from rfl, nI_leI h (by decide)]; omega
theorem z_gt {c : Nat} (h : c < 2 ^ 31) : 0 < nI c ↔ 0 < c := c_gt 0 h (by decide)
theorem o_eq {c : Nat} (h : c < 2 ^ 31) : nI c = 1 ↔ c = 1 := c_eq 1 h (by decide)
theorem o_lt {c : Nat} (h : c < 2 ^ 31) : nI c < 1 ↔ c < 1 := c_lt 1 h (by decide)
theorem o_le {c : Nat} (h : c < 2 ^ 31) : nI c ≤ 1 ↔ c ≤ 1 := c_le 1 h (by decide)
theorem o_gt {c : Nat} (h : c < 2 ^ 31) : 1 < nI c ↔ 1 < c := c_gt 1 h (by decide)
theorem o_ge {c : Nat} (h : c < 2 ^ 31) : 1 ≤ nI c ↔ 1 ≤ c := c_ge 1 h (by decide)
theorem vp0 {n : Nat} (h : 0 < n) (hn : n < 2 ^ 31) : vp_in 0 n = True := by simp only [show (0 : Int32) = nI 0 from rfl, n_in (j := 0) (by decide) hn, h]
theorem vp1 {n : Nat} (h : 1 < n) (hn : n < 2 ^ 31) : vp_in 1 n = True := by simp only [show (1 : Int32) = nI 1 from rfl, n_in (j := 1) (by decide) hn, h]
theorem n_sub1 {a : Nat} (h : 1 ≤ a) : nI a - 1 = nI (a - 1) := n_sub h
theorem n_pm1 {a : Nat} (h : 1 ≤ a) : nI a + (-1) = nI (a - 1) := by
  obtain ⟨b, rfl⟩ : ∃ b, a = b + 1 := ⟨a - 1, by omega⟩
  exact pk_m1 b
theorem lN0 : (0 : Int64) = lN 0 := rfl
theorem lx2 : (2 : Int32) = nI 2 := rfl
theorem lx3 : (3 : Int32) = nI 3 := rfl
theorem lx4 : (4 : Int32) = nI 4 := rfl
theorem lx5 : (5 : Int32) = nI 5 := rfl
theorem lx6 : (6 : Int32) = nI 6 := rfl
theorem lx7 : (7 : Int32) = nI 7 := rfl
theorem lx8 : (8 : Int32) = nI 8 := rfl
theorem lx9 : (9 : Int32) = nI 9 := rfl
theorem lx10 : (10 : Int32) = nI 10 := rfl
theorem lx14 : (14 : Int32) = nI 14 := rfl
theorem lx15 : (15 : Int32) = nI 15 := rfl
theorem lx16 : (16 : Int32) = nI 16 := rfl
theorem lx18 : (18 : Int32) = nI 18 := rfl
theorem lx20 : (20 : Int32) = nI 20 := rfl
theorem lx24 : (24 : Int32) = nI 24 := rfl
theorem lx25 : (25 : Int32) = nI 25 := rfl
theorem lx27 : (27 : Int32) = nI 27 := rfl
theorem lx32 : (32 : Int32) = nI 32 := rfl
theorem lx36 : (36 : Int32) = nI 36 := rfl
theorem lx40 : (40 : Int32) = nI 40 := rfl
theorem lx41 : (41 : Int32) = nI 41 := rfl
theorem lx42 : (42 : Int32) = nI 42 := rfl
theorem lx43 : (43 : Int32) = nI 43 := rfl
theorem lx45 : (45 : Int32) = nI 45 := rfl
theorem lx48 : (48 : Int32) = nI 48 := rfl
theorem lx52 : (52 : Int32) = nI 52 := rfl
theorem lx54 : (54 : Int32) = nI 54 := rfl
theorem lx56 : (56 : Int32) = nI 56 := rfl
theorem lx57 : (57 : Int32) = nI 57 := rfl
theorem lx58 : (58 : Int32) = nI 58 := rfl
theorem lx60 : (60 : Int32) = nI 60 := rfl
theorem lx61 : (61 : Int32) = nI 61 := rfl
theorem lx62 : (62 : Int32) = nI 62 := rfl
theorem lx63 : (63 : Int32) = nI 63 := rfl
theorem lx64 : (64 : Int32) = nI 64 := rfl
theorem lx66 : (66 : Int32) = nI 66 := rfl
theorem lx69 : (69 : Int32) = nI 69 := rfl
theorem lx73 : (73 : Int32) = nI 73 := rfl
theorem lx80 : (80 : Int32) = nI 80 := rfl
theorem lx81 : (81 : Int32) = nI 81 := rfl
theorem lx84 : (84 : Int32) = nI 84 := rfl
theorem lx85 : (85 : Int32) = nI 85 := rfl
theorem lx87 : (87 : Int32) = nI 87 := rfl
theorem lx94 : (94 : Int32) = nI 94 := rfl
theorem lx96 : (96 : Int32) = nI 96 := rfl
theorem lx97 : (97 : Int32) = nI 97 := rfl
theorem lx120 : (120 : Int32) = nI 120 := rfl
theorem lx128 : (128 : Int32) = nI 128 := rfl
theorem lx135 : (135 : Int32) = nI 135 := rfl
theorem lx160 : (160 : Int32) = nI 160 := rfl
theorem lx162 : (162 : Int32) = nI 162 := rfl
theorem lx163 : (163 : Int32) = nI 163 := rfl
theorem lx165 : (165 : Int32) = nI 165 := rfl
theorem lx200 : (200 : Int32) = nI 200 := rfl
theorem lx232 : (232 : Int32) = nI 232 := rfl
theorem lx242 : (242 : Int32) = nI 242 := rfl
theorem lx243 : (243 : Int32) = nI 243 := rfl
theorem lx255 : (255 : Int32) = nI 255 := rfl
theorem lx256 : (256 : Int32) = nI 256 := rfl
theorem lx320 : (320 : Int32) = nI 320 := rfl
theorem lx325 : (325 : Int32) = nI 325 := rfl
theorem lx400 : (400 : Int32) = nI 400 := rfl
theorem lx405 : (405 : Int32) = nI 405 := rfl
theorem lx464 : (464 : Int32) = nI 464 := rfl
theorem lx512 : (512 : Int32) = nI 512 := rfl
theorem lx600 : (600 : Int32) = nI 600 := rfl
theorem lx640 : (640 : Int32) = nI 640 := rfl
theorem lx752 : (752 : Int32) = nI 752 := rfl
theorem lx900 : (900 : Int32) = nI 900 := rfl
theorem lx940 : (940 : Int32) = nI 940 := rfl
theorem lx1000 : (1000 : Int32) = nI 1000 := rfl
theorem lx1024 : (1024 : Int32) = nI 1024 := rfl
theorem lx1764 : (1764 : Int32) = nI 1764 := rfl
theorem lx3360 : (3360 : Int32) = nI 3360 := rfl
theorem lx3840 : (3840 : Int32) = nI 3840 := rfl
theorem lx5000 : (5000 : Int32) = nI 5000 := rfl
theorem lx6400 : (6400 : Int32) = nI 6400 := rfl
theorem lx9050 : (9050 : Int32) = nI 9050 := rfl
theorem lx9998 : (9998 : Int32) = nI 9998 := rfl
theorem lx9999 : (9999 : Int32) = nI 9999 := rfl
theorem lx10000 : (10000 : Int32) = nI 10000 := rfl
theorem lx25600 : (25600 : Int32) = nI 25600 := rfl
theorem lx76800 : (76800 : Int32) = nI 76800 := rfl
theorem lx99999 : (99999 : Int32) = nI 99999 := rfl
theorem n_a0 {a : Nat} : nI a + 0 = nI a := nI_add a 0
theorem n_0a {a : Nat} : 0 + nI a = nI a := by rw [show (0 : Int32) = nI 0 from rfl, nI_add, Nat.zero_add]
theorem sA_ne {A : xH} {c d j : Nat} {f : Nat → Int32} (h : d ≠ c) : xi (xsA A c f) d j = xi A d j := by rw [xi_sA, if_neg h]
theorem sA_eq {A : xH} {c j : Nat} {f : Nat → Int32} : xi (xsA A c f) c j = f j := by rw [xi_sA, if_pos rfl]
theorem ofn {n : Nat} : Int32.ofNat n = nI n := rfl

