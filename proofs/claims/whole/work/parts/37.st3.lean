/-! ===== what the 94 numbers of a state say ===== -/
def isSt (f : Nat → Int32) (o : Nat) (v : xV) : Prop := f o = nI (vR v) ∧ f (o + 1) = nI (vD v) ∧ (∀ r, r < vR v → f (o + 2 + 5 * r) = nI (vrk v r) ∧ f (o + 2 + 5 * r + 1) = nI (vrs v r) ∧ ∀ t, t < 3 → f (o + 2 + 5 * r + 2 + t) = if t < vrs v r then nI (vsy v r t) else -1) ∧ ∀ i, i < 42 → f (o + 52 + i) = nI (vcl v i)
def sameN (v w : xV) : Prop := vS w = vS v ∧ vK w = vK v ∧ vsn w = vsn v ∧ vkn w = vkn v
theorem sameN_rf {v : xV} : sameN v v := ⟨rfl, rfl, rfl, rfl⟩
theorem sameN_tr {u v w : xV} (h : sameN u v) (h2 : sameN v w) : sameN u w := ⟨h2.1.trans h.1, h2.2.1.trans h.2.1, h2.2.2.1.trans h.2.2.1, h2.2.2.2.trans h.2.2.2⟩
theorem sameN_sy {v w : xV} (h : sameN v w) : sameN w v := ⟨h.1.symm, h.2.1.symm, h.2.2.1.symm, h.2.2.2.symm⟩
theorem isR_St {A : xH} {v : xV} (h : isR A v) : isSt (xi A 182) 2 v := ⟨h.1.2.2.1, h.1.2.2.2, fun r hr => h.2.2.2.2.1 r hr, fun i hi => h.2.2.2.2.2 i hi⟩
theorem isR_of {A B : xH} {v w : xV} (h : isR A v) (hn : sameN v w) (h10 : vR w ≤ 10) (hs : isSt (xi B 182) 2 w) (e0 : xi B 182 0 = xi A 182 0) (e1 : xi B 182 1 = xi A 182 1) (e2 : ∀ k, k < 9 → xl B 186 k = xl A 186 k) : isR B w := by
  obtain ⟨⟨a0, a1, -, -⟩, ⟨n1, n2, n3, n4⟩, -, h4, -, -⟩ := h
  obtain ⟨s1, s2, s3, s4⟩ := hn
  refine ⟨⟨by rw [e0, s1]; exact a0, by rw [e1, s2]; exact a1, hs.1, hs.2.1⟩, ⟨by omega, by omega, fun j hj => ?_, fun j hj => ?_⟩, h10, ?_, hs.2.2.1, hs.2.2.2⟩
  · rw [e2 _ (by omega), s3]; exact n3 j (by omega)
  · rw [e2 _ (by omega), s4]; exact n4 j (by omega)
  · intro i j hi hj
    rw [s3, s4]; exact h4 i j (by omega) (by omega)
theorem isSt_congr {f g : Nat → Int32} {o p : Nat} {v : xV} (h : isSt f o v) (h10 : vR v ≤ 10) (e : ∀ k, k < 94 → g (p + k) = f (o + k)) : isSt g p v := by
  obtain ⟨h1, h2, h3, h4⟩ := h
  refine ⟨(e 0 (by omega)).trans h1, (e 1 (by omega)).trans h2, fun r hr => ⟨?_, ?_, fun t ht => ?_⟩, fun i hi => ?_⟩
  · rw [Nat.add_assoc p 2, e (2 + 5 * r) (by omega), ← Nat.add_assoc]; exact (h3 r hr).1
  · rw [Nat.add_assoc p 2, Nat.add_assoc p, e (2 + 5 * r + 1) (by omega), ← Nat.add_assoc, ← Nat.add_assoc]; exact (h3 r hr).2.1
  · rw [show p + 2 + 5 * r + 2 + t = p + (2 + 5 * r + 2 + t) by omega, e _ (by omega), show o + (2 + 5 * r + 2 + t) = o + 2 + 5 * r + 2 + t by omega]; exact (h3 r hr).2.2 t ht
  · rw [Nat.add_assoc, e _ (by omega), ← Nat.add_assoc]; exact h4 i hi
/-- well made -/
def wf (v : xV) : Prop := wfg v ∧ wfc v
theorem vfst_setcl2 {v : xV} {cl : Nat → Nat} : vN (vsetcl v cl) = vN v := vfst_setcl v cl _
theorem wf_unite {v : xV} {i j : Nat} (h : wf v) (hi : 2 ≤ i) (hi2 : i < vN v) (hj : 2 ≤ j) (hj2 : j < vN v) (hne : vcl v i ≠ vcl v j) : wf (vunite v i j) := ⟨h.1, wfc_unite h.2 (vN_le h.1) hi hi2 hj hj2 hne⟩
theorem wf_deep {v : xV} {d : Nat} (h : wf v) (hd : d ≤ 1) : wf (vdeep v d) := by
  refine ⟨⟨h.1.1, h.1.2.1, h.1.2.2.1, hd, h.1.2.2.2.2⟩, fun i hi => ?_⟩
  have := h.2 i hi
  have e : vN (vdeep v d) = vN v := vfst_same (v := vdeep v d) (w := v) rfl _
  rw [e]; exact this
theorem wf_drop {v : xV} {r : Nat} (h : wf v) (hr : r < vR v) : wf (vdrop v r) := by
  obtain ⟨⟨h1, h2, h3, h4, h5⟩, -⟩ := h
  refine ⟨⟨h1, h2, ?_, h4, fun q hq => ?_⟩, fun i hi => ⟨Nat.le_refl _, rfl, fun _ => rfl, fun h => h, fun _ => rfl⟩⟩
  · show vR v - 1 ≤ 10; omega
  · have hq : q < vR v - 1 := hq
    by_cases e : q < r
    · have := h5 q (by omega)
      simpa [vdrop, vrk, vrs, vsy, vS, vK, e] using this
    · have := h5 (q + 1) (by omega)
      simpa [vdrop, vrk, vrs, vsy, vS, vK, e] using this
theorem wf_add {v : xV} {k sz c0 c1 c2 : Nat} (h : wf v) (hk : k < vK v) (hz : sz ≤ 3) (hR : vR v < 10) (hs : ∀ t, t < sz → (if t = 0 then c0 else if t = 1 then c1 else c2) < vS v ∨ (8 ≤ (if t = 0 then c0 else if t = 1 then c1 else c2) ∧ (if t = 0 then c0 else if t = 1 then c1 else c2) < 8 + vK v)) : wf (vadd v k sz c0 c1 c2) := by
  obtain ⟨⟨h1, h2, h3, h4, h5⟩, -⟩ := h
  refine ⟨⟨h1, h2, ?_, h4, fun q hq => ?_⟩, fun i hi => ⟨Nat.le_refl _, rfl, fun _ => rfl, fun h => h, fun _ => rfl⟩⟩
  · show vR v + 1 ≤ 10; omega
  · have hq : q < vR v + 1 := hq
    rw [vrk_add, vrs_add]
    by_cases e : q = vR v
    · rw [if_pos e, if_pos e]
      refine ⟨hk, hz, fun t ht => ?_⟩
      rw [vsy_add, if_pos e]; exact hs t ht
    · rw [if_neg e, if_neg e]
      refine ⟨(h5 q (by omega)).1, (h5 q (by omega)).2.1, fun t ht => ?_⟩
      rw [vsy_add, if_neg e]; exact (h5 q (by omega)).2.2 t ht
/-! the deeds, by the numbers -/
theorem isR_mg {A : xH} {v : xV} {i j : Nat} (h : isR A v) (hc : wfc v) (hi : 2 ≤ i) (hi2 : i < 42) (hj : 2 ≤ j) (hj2 : j < 42) : isR (oth (xsA A 182 (mgF A i j 96))) (vunite v i j) := by
  have ei := isR_cl h hi2
  have ej := isR_cl h hj2
  have ci := hc i hi2
  have cj := hc j hj2
  have low : ∀ k, k < 54 → mgF A i j 96 k = xi A 182 k := fun k hk => by unfold mgF; rw [if_neg (by omega)]
  have hs := isR_St h
  refine isR_of h ⟨rfl, rfl, rfl, rfl⟩ h.2.2.1 ?_ (by rw [oth_i (by omega), sA_eq]; exact low _ (by omega)) (by rw [oth_i (by omega), sA_eq]; exact low _ (by omega)) (fun k _ => rfl)
  have e : xi (oth (xsA A 182 (mgF A i j 96))) 182 = mgF A i j 96 := funext fun k => by rw [oth_i (by omega), sA_eq]
  rw [e]
  have hR := h.2.2.1
  refine ⟨(low _ (by omega)).trans hs.1, (low _ (by omega)).trans hs.2.1, fun r hr => ?_, fun x hx => ?_⟩
  · have hr : r < vR v := hr
    obtain ⟨b1, b2, b3⟩ := hs.2.2.1 r hr
    exact ⟨(low _ (by omega)).trans b1, (low _ (by omega)).trans b2, fun t ht => (low _ (by omega)).trans (b3 t ht)⟩
  · have ex := isR_cl h hx
    have cx := hc x hx
    show mgF A i j 96 (54 + x) = nI (if vcl v x = max (vcl v i) (vcl v j) then min (vcl v i) (vcl v j) else vcl v x)
    unfold mgF
    rw [ex, ei, ej]
    simp (disch := omega) only [nI_eq, nI_ltI]
    by_cases h2 : x < 2
    · have := cx.2.2.1 h2
      have := ci.2.2.2.1 hi
      have := cj.2.2.2.1 hj
      rw [if_neg (by omega), if_neg (by omega)]
    · by_cases h3 : vcl v x = vcl v i ∨ vcl v x = vcl v j
      · rw [if_pos ⟨by omega, by omega, h3⟩]
        by_cases h4 : vcl v i < vcl v j
        · rw [if_pos h4]; split
          · congr 1; omega
          · congr 1; omega
        · rw [if_neg h4]; split
          · congr 1; omega
          · congr 1; omega
      · rw [if_neg (fun q => h3 q.2.2), if_neg (by omega)]
theorem isR_dp {A : xH} {v : xV} {d : Nat} (h : isR A v) (hd : d ≤ 1) : isR (oth (xsi A 182 3 (nI d))) (vdeep v d) := by
  have hs := isR_St h
  refine isR_of h ⟨rfl, rfl, rfl, rfl⟩ h.2.2.1 ?_ (by rw [oth_i (by omega), si_ne (by omega)]) (by rw [oth_i (by omega), si_ne (by omega)]) (fun k _ => rfl)
  have e : ∀ k, k ≠ 3 → xi (oth (xsi A 182 3 (nI d))) 182 k = xi A 182 k := fun k hk => by rw [oth_i (by omega), si_ne (by omega)]
  have hR := h.2.2.1
  refine ⟨(e _ (by omega)).trans hs.1, by rw [oth_i (by omega)]; exact si_eq, fun r hr => ?_, fun x hx => (e _ (by omega)).trans (hs.2.2.2 x hx)⟩
  obtain ⟨b1, b2, b3⟩ := hs.2.2.1 r hr
  exact ⟨(e _ (by omega)).trans b1, (e _ (by omega)).trans b2, fun t ht => (e _ (by omega)).trans (b3 t ht)⟩
theorem alo_i {A : xH} {f : Nat → Int32} {k : Nat} : xi (alo (xsA A 182 f)) 182 k = if 54 ≤ k ∧ k < 96 then nI (k - 54) else f k := by
  unfold alo
  rw [oth_i (by omega), sA_eq, sA_eq]
theorem isR_dr {A : xH} {v : xV} {r : Nat} (h : isR A v) (hr : r < vR v) : isR (alo (xsA A 182 (dp2 A (vR v) r 5))) (vdrop v r) := by
  have hs := isR_St h
  have hR := h.2.2.1
  have low : ∀ k, k < 54 → xi (alo (xsA A 182 (dp2 A (vR v) r 5))) 182 k = dp2 A (vR v) r 5 k := fun k hk => by rw [alo_i, if_neg (by omega)]
  refine isR_of h ⟨rfl, rfl, rfl, rfl⟩ (by show vR v - 1 ≤ 10; omega) ⟨?_, ?_, fun q hq => ?_, fun i hi => ?_⟩ ?_ ?_ (fun k _ => rfl)
  · rw [low _ (by omega)]; unfold dp2; rw [if_neg (by omega), if_pos rfl]; rfl
  · rw [low _ (by omega)]; unfold dp2 dp1; rw [if_neg (by omega), if_neg (by omega), if_neg (by omega)]; exact hs.2.1
  · have hq : q < vR v - 1 := hq
    have e : ∀ i, i < 5 → xi (alo (xsA A 182 (dp2 A (vR v) r 5))) 182 (4 + 5 * q + i) = xi A 182 (4 + 5 * (if q < r then q else q + 1) + i) := fun i hi => by
      rw [low _ (by omega)]; unfold dp2 dp1
      rw [if_neg (by omega), if_neg (by omega)]
      by_cases e : q < r
      · rw [if_neg (by omega), if_pos e]
      · rw [if_pos (by omega), if_neg e]; congr 1; omega
    have e2 : (if q < r then q else q + 1) < vR v := by split <;> omega
    obtain ⟨b1, b2, b3⟩ := hs.2.2.1 _ e2
    have f1 : vrk (vdrop v r) q = vrk v (if q < r then q else q + 1) := by show (if q < r then vrk v q else vrk v (q + 1)) = _; split <;> rfl
    have f2 : vrs (vdrop v r) q = vrs v (if q < r then q else q + 1) := by show (if q < r then vrs v q else vrs v (q + 1)) = _; split <;> rfl
    have f3 : ∀ t, vsy (vdrop v r) q t = vsy v (if q < r then q else q + 1) t := fun t => by show (if q < r then vsy v q t else vsy v (q + 1) t) = _; split <;> rfl
    refine ⟨?_, ?_, fun t ht => ?_⟩
    · rw [f1, ← b1]; exact e 0 (by omega)
    · rw [f2, ← b2]; exact e 1 (by omega)
    · rw [f2, f3, ← b3 t ht]
      have := e (2 + t) (by omega)
      rw [← Nat.add_assoc, ← Nat.add_assoc] at this
      exact this
  · show xi (alo (xsA A 182 (dp2 A (vR v) r 5))) 182 (54 + i) = nI i
    rw [alo_i, if_pos (by omega), Nat.add_sub_cancel_left]
  · rw [low _ (by omega)]; unfold dp2 dp1; rw [if_neg (by omega), if_neg (by omega), if_neg (by omega)]
  · rw [low _ (by omega)]; unfold dp2 dp1; rw [if_neg (by omega), if_neg (by omega), if_neg (by omega)]
theorem isR_ad {A : xH} {v : xV} {c o k sz c0 c1 c2 : Nat} (h : isR A v) (hR : vR v < 10) (h0 : xi A c o = nI k) (h1 : xi A c (o + 1) = nI sz) (h2 : ∀ t, t < 3 → xi A c (o + 2 + t) = if t < sz then nI (if t = 0 then c0 else if t = 1 then c1 else c2) else -1) : isR (alo (xsA A 182 (ad2 A c o (vR v)))) (vadd v k sz c0 c1 c2) := by
  have hs := isR_St h
  have low : ∀ k, k < 54 → xi (alo (xsA A 182 (ad2 A c o (vR v)))) 182 k = ad2 A c o (vR v) k := fun k hk => by rw [alo_i, if_neg (by omega)]
  refine isR_of h ⟨rfl, rfl, rfl, rfl⟩ (by show vR v + 1 ≤ 10; omega) ⟨?_, ?_, fun q hq => ?_, fun i hi => ?_⟩ ?_ ?_ (fun k _ => rfl)
  · rw [low _ (by omega)]; unfold ad2; rw [if_pos rfl]; rfl
  · rw [low _ (by omega)]; unfold ad2 ad1; rw [if_neg (by omega), if_neg (by omega)]; exact hs.2.1
  · have hq : q < vR v + 1 := hq
    rw [vrk_add, vrs_add]
    by_cases e : q = vR v
    · subst e
      have ee : ∀ i, i < 5 → xi (alo (xsA A 182 (ad2 A c o (vR v)))) 182 (4 + 5 * vR v + i) = xi A c (o + i) := fun i hi => by
        rw [low _ (by omega)]; unfold ad2 ad1
        rw [if_neg (by omega), if_pos (by omega), Nat.add_sub_cancel_left]
      rw [if_pos rfl, if_pos rfl]
      refine ⟨(ee 0 (by omega)).trans h0, (ee 1 (by omega)).trans h1, fun t ht => ?_⟩
      rw [vsy_add, if_pos rfl, ← h2 t ht]
      have := ee (2 + t) (by omega)
      rw [← Nat.add_assoc, ← Nat.add_assoc] at this
      exact this
    · have ee : ∀ i, i < 5 → xi (alo (xsA A 182 (ad2 A c o (vR v)))) 182 (4 + 5 * q + i) = xi A 182 (4 + 5 * q + i) := fun i hi => by
        rw [low _ (by omega)]; unfold ad2 ad1
        rw [if_neg (by omega), if_neg (by omega)]
      rw [if_neg e, if_neg e]
      obtain ⟨b1, b2, b3⟩ := hs.2.2.1 q (by omega)
      refine ⟨(ee 0 (by omega)).trans b1, (ee 1 (by omega)).trans b2, fun t ht => ?_⟩
      rw [vsy_add, if_neg e, ← b3 t ht]
      have := ee (2 + t) (by omega)
      rw [← Nat.add_assoc] at this
      exact this
  · show xi (alo (xsA A 182 (ad2 A c o (vR v)))) 182 (54 + i) = nI i
    rw [alo_i, if_pos (by omega), Nat.add_sub_cancel_left]
  · rw [low _ (by omega)]; unfold ad2 ad1; rw [if_neg (by omega), if_neg (by omega)]
  · rw [low _ (by omega)]; unfold ad2 ad1; rw [if_neg (by omega), if_neg (by omega)]
theorem isR_br {A : xH} {v w : xV} {c o : Nat} (h : isR A v) (hn : sameN v w) (hR : vR w ≤ 10) (hs : isSt (xi A c) o w) : isR (oth (xsA A 182 (brF A c o 96))) w := by
  have e : ∀ k, xi (oth (xsA A 182 (brF A c o 96))) 182 k = brF A c o 96 k := fun k => by rw [oth_i (by omega), sA_eq]
  refine isR_of h hn hR (isSt_congr hs hR fun k hk => ?_) ?_ ?_ (fun k _ => rfl)
  · rw [e]; unfold brF; rw [if_pos (by omega), Nat.add_sub_cancel_left]
  · rw [e]; unfold brF; rw [if_neg (by omega)]
  · rw [e]; unfold brF; rw [if_neg (by omega)]
/-- a kept row is what is so -/
theorem isSt_cp {A : xH} {v : xV} {c : Nat} (h : isR A v) : isSt (xi (xsA A c (fun j => if j < 94 then xi A 182 (2 + j) else xi A c j)) c) 0 v :=
  isSt_congr (isR_St h) h.2.2.1 fun k hk => by rw [sA_eq, Nat.zero_add, if_pos hk]
/-- what can be undone: the reference's rows -/
def uU (A : xH) (v : xV) (um : Nat) (uv : Nat → xV) : Prop := um ≤ 8 ∧ xi A 180 57 = nI um ∧ ∀ i, i < um → isSt (xi A 207) (94 * i) (uv i) ∧ wf (uv i) ∧ sameN v (uv i)
/-- one more can be undone -/
def um' (um : Nat) : Nat := if um = 8 then 8 else um + 1
def uv' (um : Nat) (uv : Nat → xV) (v : xV) : Nat → xV := fun i => if um = 8 then (if i = 7 then v else uv (i + 1)) else if i = um then v else uv i
theorem uU_st {A : xH} {v w : xV} {c um : Nat} {uv : Nat → xV} (h : uU A v um uv) (hc : c ≠ 207 ∧ c ≠ 180) (hs : isSt (xi A c) 0 w) (hw : wf w) (hn : sameN v w) : uU (stU A c um) v (um' um) (uv' um uv w) := by
  obtain ⟨h8, h57, hu⟩ := h
  refine ⟨by unfold um'; split <;> omega, by unfold stU um'; rw [si_eq], fun i hi => ?_⟩
  have e : xi (stU A c um) 207 = stF A c um := funext fun k => by unfold stU; rw [si_ne (by omega), sA_eq]
  rw [e]
  unfold um' at hi
  unfold uv' stF
  by_cases e8 : um = 8
  · rw [if_pos e8] at hi
    simp only [if_pos e8]
    by_cases e7 : i = 7
    · rw [if_pos e7]
      refine ⟨isSt_congr hs hw.1.2.2.1 fun k hk => ?_, hw, hn⟩
      rw [if_neg (by omega), if_pos (by omega)]; exact congrArg (xi A c) (by omega)
    · rw [if_neg e7]
      obtain ⟨a1, a2, a3⟩ := hu (i + 1) (by omega)
      refine ⟨isSt_congr a1 a2.1.2.2.1 fun k hk => ?_, a2, a3⟩
      rw [if_pos (by omega)]; exact congrArg (xi A _) (by omega)
  · rw [if_neg e8] at hi
    simp only [if_neg e8]
    by_cases e7 : i = um
    · rw [if_pos e7]
      refine ⟨isSt_congr hs hw.1.2.2.1 fun k hk => ?_, hw, hn⟩
      rw [if_pos (by omega)]; exact congrArg (xi A _) (by omega)
    · rw [if_neg e7]
      obtain ⟨a1, a2, a3⟩ := hu i (by omega)
      refine ⟨isSt_congr a1 a2.1.2.2.1 fun k hk => ?_, a2, a3⟩
      rw [if_neg (by omega)]

