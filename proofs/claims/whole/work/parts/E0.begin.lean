/-! ===== the whole at the beginning ===== -/
set_option maxRecDepth 100000 in
theorem Hz_key : ((List.range 231).all fun q => (List.range (xlayT.getD q []).length).all fun k => (xlay q k).isNone || decide (xr Hz q k = xlay q k)) = true := by decide +kernel
theorem Hz_fin : xfin xFT Hz := by
  intro q _ k hs
  have len : xlayT.length = 231 := by decide +kernel
  have hq : q < 231 := by
    rcases Nat.lt_or_ge q 231 with w | w
    · exact w
    · unfold xlay at hs
      rw [List.getD_eq_getElem?_getD (l := xlayT), List.getElem?_eq_none (by omega)] at hs
      cases hs
  have hk : k < (xlayT.getD q []).length := by
    rcases Nat.lt_or_ge k (xlayT.getD q []).length with w | w
    · exact w
    · unfold xlay at hs
      rw [List.getD_eq_getElem?_getD (i := k), List.getElem?_eq_none w] at hs
      cases hs
  have a1 := List.all_eq_true.mp Hz_key q (List.mem_range.mpr hq)
  have a2 := List.all_eq_true.mp a1 k (List.mem_range.mpr hk)
  cases e : xlay q k with
  | none => rw [e] at hs; cases hs
  | some r =>
    rw [e] at a2
    simpa using a2
theorem vz_g : wfg vz := ⟨by decide, by decide, by decide, by decide, fun r hr => absurd hr (Nat.not_lt_zero r)⟩
theorem vz_c : wfc vz := fun i hi => ⟨Nat.le_refl i, rfl, fun _ => rfl, fun h => h, fun _ => rfl⟩
set_option maxRecDepth 100000 in
theorem Hz_M : isM Hz 8 vz := by
  refine ⟨⟨?_, vz_g, ⟨by decide +kernel, by decide +kernel, by decide +kernel, by decide +kernel⟩, fun j hj => absurd hj (Nat.not_lt_zero j), fun j hj => absurd hj (Nat.not_lt_zero j), fun r hr => absurd hr (Nat.not_lt_zero r)⟩, vz_c, ⟨by decide +kernel, fun r hr => absurd hr (Nat.not_lt_zero r), ⟨by decide +kernel, by decide +kernel, by decide +kernel, by decide +kernel⟩, fun r hr => absurd hr (Nat.not_lt_zero r)⟩, ?_⟩
  · unfold xMod
    decide +kernel
  · show ∀ j, j < 42 → xi Hz 17 j = nI j
    decide +kernel
set_option maxRecDepth 100000 in
theorem Hz_C : xCI Hz vz (fun _ => 0) 0 0 0 (fun _ => vz) (fun _ => none) (0, 0, fun _ => (0, 0, 0)) none (0, fun _ => 0) none (fun _ => 0) none none := by
  refine ⟨Hz_M, t0C (by decide +kernel), by decide +kernel, ⟨by omega, by decide +kernel, id, ⟨?_, fun i j _ _ h => h⟩, fun i hi => absurd hi (Nat.not_lt_zero i)⟩, ⟨by decide +kernel, ?_, fun k w s _ h => by cases h⟩, q0C (by decide +kernel) (by decide +kernel), (show xi Hz 31 3 = 0 by decide +kernel), ⟨by decide +kernel, fun k hk => absurd hk (Nat.not_lt_zero k)⟩, ⟨Or.inl (by decide +kernel), (show xi Hz 57 2 = -1 by decide +kernel), fun h => absurd h (by decide +kernel)⟩, Or.inl (by decide +kernel), Or.inl (by decide +kernel), Or.inl (by decide +kernel), (show xi Hz 66 1 = 0 by decide +kernel), (show xi Hz 57 4 = -1 by decide +kernel)⟩
  · show ∀ i, i < 8 → i < 8 ∧ xr Hz 70 i = some (74 + 10 * i)
    decide +kernel
  · show ∀ k, k < 2 → xr Hz 71 k = some (kM k) ∧ xr Hz 72 k = some (kS8 k)
    decide +kernel
set_option maxRecDepth 100000 in
theorem Hz_U : xUI Hz vz (fun _ => 0) 0 0 0 (fun _ => vz) (fun _ => none) (0, 0, fun _ => (0, 0, 0)) none (0, fun _ => 0) none (fun _ => 0) none none := by
  refine ⟨⟨⟨⟨by decide +kernel, by decide +kernel, by decide +kernel, by decide +kernel⟩, ⟨by decide, by decide, fun j hj => absurd hj (Nat.not_lt_zero j), fun j hj => absurd hj (Nat.not_lt_zero j)⟩, by decide, fun i j hi => absurd hi (Nat.not_lt_zero i), fun r hr => absurd hr (Nat.not_lt_zero r), ?_⟩, vz_g, vz_c, Or.inl (by decide +kernel)⟩, t0U (by decide +kernel), by decide +kernel, ⟨by omega, by decide +kernel, fun i hi => absurd hi (Nat.not_lt_zero i)⟩, ⟨?_, fun k w s _ h => by cases h⟩, ⟨by show 0 ≤ 40; omega, by decide +kernel, fun i hi => absurd hi (Nat.not_lt_zero i)⟩, (show xi Hz 180 81 = 0 by decide +kernel), ⟨by decide +kernel, fun k hk => absurd hk (Nat.not_lt_zero k)⟩, (show xi Hz 180 66 = -1 by decide +kernel), Or.inl (by decide +kernel), Or.inl (by decide +kernel), Or.inl (by decide +kernel), (show xi Hz 180 73 = -1 by decide +kernel), (show xi Hz 180 75 = -1 by decide +kernel), ?_⟩
  · show ∀ i, i < 42 → xi Hz 182 (54 + i) = nI i
    decide +kernel
  · show ∀ k, k < 2 → xi Hz 230 k = 0
    decide +kernel
  · show ∀ k, k < 16 → xl Hz 187 k = xRES k
    decide +kernel
theorem Hz_G : xGI vz (fun _ => none) (0, 0, fun _ => (0, 0, 0)) (0, fun _ => 0) none none := by
  refine ⟨okV_z, Or.inl ⟨rfl, rfl⟩, fun k w q _ h => ?_, by show 0 ≤ 42; omega, fun t h => ?_, fun t h => ?_⟩ <;> cases h
theorem Hz_I : xI Hz := ⟨_, _, _, _, _, _, _, _, _, _, _, _, _, _, Hz_G, Hz_C, Hz_U⟩

