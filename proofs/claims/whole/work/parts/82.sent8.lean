/-! ===== the class's sentence: ONES and conditions ===== -/
def snY (v : xV) (f : Nat → Nat) (n : Nat) (z : xSt) (r : (Nat × Nat) ⊕ (xCs × Nat)) : Prop := ∃ k, snR v f n 200 k z = some r
section SNY
variable {v : xV} {f : Nat → Nat} {n p o : Nat} {s : xCs} {σ : List Nat} {z : xSt} {r : (Nat × Nat) ⊕ (xCs × Nat)}
theorem Y_op (h : opF v f n 200 p s σ o = .inr z) : snY v f n z r → snY v f n (p, s, σ, o, false) r := fun ⟨k, q⟩ => ⟨k + 1, by rw [sn_o, h]; exact q⟩
theorem Y_ope {e d : Nat} (h : opF v f n 200 p s σ o = .inl (e, d)) : snY v f n (p, s, σ, o, false) (.inl (e, d)) := ⟨1, by rw [sn_o, h]⟩
theorem Y_bh (h0 : (tk f n 200 p).1 ≠ 0) (h : bhF f n 200 p s σ o = .inr z) : snY v f n z r → snY v f n (p, s, σ, o, true) r := fun ⟨k, q⟩ => ⟨k + 1, by rw [sn_b, if_neg h0, h]; exact q⟩
theorem Y_bhe {e d : Nat} (h0 : (tk f n 200 p).1 ≠ 0) (h : bhF f n 200 p s σ o = .inl (e, d)) : snY v f n (p, s, σ, o, true) (.inl (e, d)) := ⟨1, by rw [sn_b, if_neg h0, h]⟩
theorem Y_en (h0 : (tk f n 200 p).1 = 0) (h : endF f n 200 p s σ o = r) : snY v f n (p, s, σ, o, true) r := ⟨1, by rw [sn_b, if_pos h0, h]⟩
theorem Y_20 : snY v f n (p, pC s (20, 0, 0), σ, o, true) r → snY v f n (p, s, 20 :: σ, o, true) r := by
  rintro ⟨k, q⟩
  cases k with
  | zero => cases q
  | succ k =>
    refine ⟨k + 1, ?_⟩
    have e : ntF (20 :: σ) s = ntF σ (pC s (20, 0, 0)) := by rw [ntF, if_pos rfl]
    have e1 : endF f n 200 p s (20 :: σ) o = endF f n 200 p (pC s (20, 0, 0)) σ o := by unfold endF; rw [e]
    have e2 : bhF f n 200 p s (20 :: σ) o = bhF f n 200 p (pC s (20, 0, 0)) σ o := by unfold bhF; rw [e]
    rw [sn_b] at q ⊢
    rw [e1, e2]; exact q
def no20 : List Nat → Prop
  | [] => True
  | a :: _ => a ≠ 20
theorem nt_no : no20 σ → ntF σ s = (s, σ) := by
  cases σ with
  | nil => exact fun _ => rfl
  | cons a r => exact fun h => by rw [ntF, if_neg h]
theorem Y_21 (h : no20 σ) : snY v f n (p, pC s (21, 0, 0), σ, o, true) r → snY v f n (p, s, 21 :: σ, o, true) r := by
  rintro ⟨k, q⟩
  cases k with
  | zero => cases q
  | succ k =>
    refine ⟨k + 1, ?_⟩
    have e : ntF (21 :: σ) s = (s, 21 :: σ) := by rw [ntF, if_neg (by decide)]
    have e' : ntF σ (pC s (21, 0, 0)) = (pC s (21, 0, 0), σ) := nt_no h
    have j : ∀ z, jnF z (21 :: σ) s = jnF z σ (pC s (21, 0, 0)) := fun z => by rw [jnF, if_pos (Or.inl rfl)]
    have e1 : endF f n 200 p s (21 :: σ) o = endF f n 200 p (pC s (21, 0, 0)) σ o := by unfold endF; rw [e, e']; simp only [j]
    have e2 : bhF f n 200 p s (21 :: σ) o = bhF f n 200 p (pC s (21, 0, 0)) σ o := by unfold bhF; rw [e, e']; simp only [j]
    rw [sn_b] at q ⊢
    rw [e1, e2]; exact q
theorem Y_22 (h : no20 σ) (hw : isWd (tk f n 200 p) WAN = false) : snY v f n (p, pC s (22, 0, 0), σ, o, true) r → snY v f n (p, s, 22 :: σ, o, true) r := by
  rintro ⟨k, q⟩
  cases k with
  | zero => cases q
  | succ k =>
    refine ⟨k + 1, ?_⟩
    have e : ntF (22 :: σ) s = (s, 22 :: σ) := by rw [ntF, if_neg (by decide)]
    have e' : ntF σ (pC s (22, 0, 0)) = (pC s (22, 0, 0), σ) := nt_no h
    have j : jnF 22 (22 :: σ) s = jnF 22 σ (pC s (22, 0, 0)) := by rw [jnF, if_pos (Or.inr ⟨rfl, rfl⟩)]
    have e1 : endF f n 200 p s (22 :: σ) o = endF f n 200 p (pC s (22, 0, 0)) σ o := by unfold endF; rw [e, e']; simp only [j]
    have e2 : bhF f n 200 p s (22 :: σ) o = bhF f n 200 p (pC s (22, 0, 0)) σ o := by
      unfold bhF
      rw [e, e', hw]
      simp only [j, Bool.false_eq_true, if_false]
    rw [sn_b] at q ⊢
    rw [e1, e2]; exact q
theorem G_20 (h : snG n (p, s, 20 :: σ, o, true)) : snG n (p, pC s (20, 0, 0), σ, o, true) := by
  obtain ⟨⟨i1, i2, i3, i4⟩, ⟨v1, v2, v3⟩, hp⟩ := h
  have i1 : o ≤ 20 := i1
  have i2 : s.1 + (20 :: σ).length + 1 ≤ 2 * o := i2
  have i3 : (20 :: σ).length + 1 ≤ o := i3
  have i4 : dp (20 :: σ) ≤ 9 := i4
  have v2 : pdC s.2 s.1 = nb (20 :: σ) + 1 := v2
  rw [List.length_cons] at i2 i3
  have e1 : dp (20 :: σ) = dp σ + 1 := by simp [dp]
  have e2 : nb (20 :: σ) = nb σ := by simp [nb]
  have hb := nb_le σ
  have e3 : pdC (pC s (20, 0, 0)).2 (pC s (20, 0, 0)).1 = nb σ + 1 := by rw [pC_pd1, if_pos rfl]; omega
  refine ⟨⟨i1, ?_, ?_, ?_⟩, ⟨pC_ok v1 (by unfold okC; simp) (fun _ => by omega) (fun q => by simp at q) (by omega), e3, v3.2⟩, hp⟩
  · show s.1 + 1 + σ.length + 1 ≤ 2 * o; omega
  · show σ.length + 1 ≤ o; omega
  · show dp σ ≤ 9; omega
theorem G_2x {a : Nat} (ha : a = 21 ∨ a = 22) (h : snG n (p, s, a :: σ, o, true)) : snG n (p, pC s (a, 0, 0), σ, o, true) := by
  obtain ⟨⟨i1, i2, i3, i4⟩, ⟨v1, v2, v3⟩, hp⟩ := h
  have i1 : o ≤ 20 := i1
  have i2 : s.1 + (a :: σ).length + 1 ≤ 2 * o := i2
  have i3 : (a :: σ).length + 1 ≤ o := i3
  have i4 : dp (a :: σ) ≤ 9 := i4
  have v2 : pdC s.2 s.1 = nb (a :: σ) + 1 := v2
  rw [List.length_cons] at i2 i3
  have e1 : dp (a :: σ) = dp σ := by simp only [dp]; rw [if_neg (by omega)]
  have e2 : nb (a :: σ) = nb σ + 1 := by simp only [nb]; rw [if_pos ha]
  have hb := nb_le σ
  have e3 : pdC (pC s (a, 0, 0)).2 (pC s (a, 0, 0)).1 = nb σ + 1 := by
    rw [pC_pd1, if_neg (by show ¬ a = 20; omega), if_pos ha]; omega
  refine ⟨⟨i1, ?_, ?_, ?_⟩, ⟨pC_ok v1 (Or.inr (Or.inr (Or.inr (Or.inr ⟨by show 20 ≤ a; omega, by show a ≤ 22; omega⟩)))) (fun q => by have q : a = 20 := q; omega) (fun _ => by omega) (by omega), e3, v3.2⟩, hp⟩
  · show s.1 + 1 + σ.length + 1 ≤ 2 * o; omega
  · show σ.length + 1 ≤ o; omega
  · show dp σ ≤ 9; omega
end SNY
abbrev xS3 : Type := Nat → Nat → Int32 → xH → xP → Prop
def oneS (A : xH) (P : xP) (v : xV) (f : Nat → Nat) (n : Nat) (z : xSt) : Prop := ∀ p s o B, (∀ r, snY v f n (p, s, z.2.2.1, o, true) r → snY v f n z r) → fr SRc A B → cT B f n 200 p → qD B s o → snG n (p, s, z.2.2.1, o, true) → z.2.2.2.1 < o → P (some (.int 1)) B
def conS (A : xH) (P : xP) (v : xV) (f : Nat → Nat) (n : Nat) (z : xSt) : Prop := ∀ p s o B, (∀ r, snY v f n (p, s, z.2.2.1, o, true) r → snY v f n z r) → fr SRc A B → cT B f n 200 p → qD B s o → snG n (p, s, z.2.2.1, o, true) → isWd (tk f n 200 p) WAN = false → isWd (tk f n 200 p) WOR = false → z.2.2.2.1 ≤ o → P (some (.int 1)) B
def P1 (d : Nat) : xS3 := fun q m w A P => q = 3 ∧ m = 8 ∧ ∃ f n v p s σ o, isM A 8 v ∧ cT A f n 200 p ∧ qD A s o ∧ snG n (p, s, σ, o, false) ∧ w = nI (dp σ) ∧ 9 ≤ dp σ + d ∧ cE A P (fun e d' => snY v f n (p, s, σ, o, false) (.inl (e, d'))) ∧ oneS A P v f n (p, s, σ, o, false)
def P2 (d : Nat) : xS3 := fun q m w A P => q = 3 ∧ m = 8 ∧ ∃ f n v p s σ o, isM A 8 v ∧ cT A f n 200 p ∧ qD A s o ∧ snG n (p, s, σ, o, false) ∧ w = nI (dp σ) ∧ 9 ≤ dp σ + d ∧ (σ = [] ∨ ∃ t, σ = 23 :: t) ∧ cE A P (fun e d' => snY v f n (p, s, σ, o, false) (.inl (e, d'))) ∧ conS A P v f n (p, s, σ, o, false)
def P0 : xS3 := fun _ _ _ _ _ => False
def SP1 : Nat → xS3
  | 0 => P0
  | d + 1 => P1 d
def SP2 : Nat → xS3
  | 0 => P0
  | d + 1 => P2 d
theorem con_0 {l : Launch} {y : MethodName} {cc : ByteArray} {nL : Nat} {ret : Option FieldType} {fr lo : Nat} : xCon l y cc nL ret fr lo xN xN 0 xFT xFT (w_RRI P0) := by
  intro g as A P h
  unfold w_RRI at h
  split at h
  · exact h.elim
  · exact h.elim
theorem isM_rd {A B : xH} {v : xV} (h : isM A 8 v) (hf : fr SRd A B) : isM B 8 v := isM_fr h hf (by unfold SRd; omega)
theorem isM_rc {A B : xH} {v : xV} (h : isM A 8 v) (hf : fr SRc A B) : isM B 8 v := isM_fr h hf (by unfold SRc; omega)
theorem cE_tr {A B : xH} {P : xP} {Q R : Nat → Nat → Prop} (h : cE A P Q) (hf : fr SRc A B) (hQ : ∀ e d, R e d → Q e d) : cE B P R := fun e d C hr hC h3 h4 => h e d C (hQ _ _ hr) (fr_tr (fr_mono hf (by unfold SRc SRd; omega)) hC) h3 h4

