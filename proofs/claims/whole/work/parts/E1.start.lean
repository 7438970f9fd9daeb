/-! ===== the geometry at the law's entry ===== -/
theorem cls_13 {c : Nat} {q : vw_C} (h : vwCl[c]? = some q) : c < 13 ∧ q = (xC c, xT c, xNf c) := by
  have hc : c < 13 := by
    rcases Nat.lt_or_ge c 13 with w | w
    · exact w
    · have e : vwCl.length = 13 := rfl
      rw [List.getElem?_eq_none (by omega)] at h
      cases h
  refine ⟨hc, ?_⟩
  have key : vwCl[c]? = some (xC c, xT c, xNf c) := by
    match c, hc with
    | 0, _ => exact xok0.1
    | 1, _ => exact xok1.1
    | 2, _ => exact xok2.1
    | 3, _ => exact xok3.1
    | 4, _ => exact xok4.1
    | 5, _ => exact xok5.1
    | 6, _ => exact xok6.1
    | 7, _ => exact xok7.1
    | 8, _ => exact xok8.1
    | 9, _ => exact xok9.1
    | 10, _ => exact xok10.1
    | 11, _ => exact xok11.1
    | 12, _ => exact xok12.1
  exact Option.some.inj (h.symm.trans key)
theorem nw_RL_7 : xNW RL 7 11 := ⟨xTS_in (tin_1 _ (List.mem_of_getElem? (i := 17) rfl)) rfl, xTS_in (tin_1 _ (List.mem_of_getElem? (i := 18) rfl)) rfl, xTS_in (tin_1 _ (List.mem_of_getElem? (i := 1) rfl)) rfl⟩
theorem nw_RL_10 : xNW RL 10 12 := ⟨xTS_in (tin_6 _ (List.mem_of_getElem? (i := 102) rfl)) rfl, xTS_in (tin_6 _ (List.mem_of_getElem? (i := 96) rfl)) rfl, xTS_in (tin_1 _ (List.mem_of_getElem? (i := 13) rfl)) rfl⟩
theorem ao_4 : Cond.arrayOver (.object RX4) ∈ lw_tbl := List.mem_append_right _ (tin_3 _ (List.mem_of_getElem? (i := 12) rfl))
theorem ao_8 : Cond.arrayOver (.object RX8) ∈ lw_tbl := List.mem_append_right _ (tin_3 _ (List.mem_of_getElem? (i := 13) rfl))
theorem ls_RES : Cond.laysStatic "TwinTrees" "RESERVED" "[J" ∈ lw_tbl := List.mem_append_right _ (tin_3 _ (List.mem_of_getElem? (i := 139) rfl))
theorem ls_POW : Cond.laysStatic "TwinTrees" "POWER" "[I" ∈ lw_tbl := List.mem_append_right _ (tin_5 _ (List.mem_of_getElem? (i := 62) rfl))
theorem nf_tab : ∀ x ∈ xNF, (Cond.fieldLinkNest x.1 x.2.1 x.2.2.1 x.2.2.2.1 x.2.2.2.2.1 x.2.2.2.2.2).onTables = true := fun _ _ => rfl
theorem nm_tab : ∀ x ∈ xNM, (Cond.methodLinkNest x.1 x.2.1 x.2.2.1 x.2.2.2).onTables = true := fun _ _ => rfl
theorem nf_in : ∀ x ∈ xNF, Cond.fieldLinkNest x.1 x.2.1 x.2.2.1 x.2.2.2.1 x.2.2.2.2.1 x.2.2.2.2.2 ∈ lw_tbl := List.forall_mem_cons.mpr ⟨List.mem_append_right _ (tin_3 _ (List.mem_of_getElem? (i := 138) rfl)), List.forall_mem_cons.mpr ⟨List.mem_append_right _ (tin_5 _ (List.mem_of_getElem? (i := 61) rfl)), List.forall_mem_cons.mpr ⟨List.mem_append_right _ (tin_5 _ (List.mem_of_getElem? (i := 119) rfl)), fun _ h => absurd h List.not_mem_nil⟩⟩⟩
theorem nm_in : ∀ x ∈ xNM, Cond.methodLinkNest x.1 x.2.1 x.2.2.1 x.2.2.2 ∈ lw_tbl := List.forall_mem_cons.mpr ⟨List.mem_append_right _ (tin_1 _ (List.mem_of_getElem? (i := 27) rfl)), List.forall_mem_cons.mpr ⟨List.mem_append_right _ (tin_1 _ (List.mem_of_getElem? (i := 67) rfl)), List.forall_mem_cons.mpr ⟨List.mem_append_right _ (tin_1 _ (List.mem_of_getElem? (i := 201) rfl)), List.forall_mem_cons.mpr ⟨List.mem_append_right _ (tin_1 _ (List.mem_of_getElem? (i := 204) rfl)), List.forall_mem_cons.mpr ⟨List.mem_append_right _ (tin_2 _ (List.mem_of_getElem? (i := 1) rfl)), List.forall_mem_cons.mpr ⟨List.mem_append_right _ (tin_2 _ (List.mem_of_getElem? (i := 11) rfl)), List.forall_mem_cons.mpr ⟨List.mem_append_right _ (tin_2 _ (List.mem_of_getElem? (i := 45) rfl)), List.forall_mem_cons.mpr ⟨List.mem_append_right _ (tin_2 _ (List.mem_of_getElem? (i := 154) rfl)), fun _ h => absurd h List.not_mem_nil⟩⟩⟩⟩⟩⟩⟩⟩
theorem cls_kn {args : Array Value} {s : State} (hts : ∀ w ∈ lw_tbl, w.before args s = true) : ∀ c, ∃ q : ClassId × (Nat → Nat), c < 13 → u_Kn s (xC c) (xT c) (xNf c) q.1 q.2 := by
  have hx : ∀ w ∈ xTS, w.before args s = true := fun w h => hts w (xTS_tbl h)
  have one : ∀ c, xOK c → Cond.instantiable (xC c) (xNf c) ∈ xTS → ∃ q : ClassId × (Nat → Nat), c < 13 → u_Kn s (xC c) (xT c) (xNf c) q.1 q.2 := fun c hok hi => by
    obtain ⟨a, b, h⟩ := u_known hx hok.2.1 (hx _ hi)
    exact ⟨(a, b), fun _ => h⟩
  intro c
  match c with
  | 0 => exact one 0 xok0 nw_RX11_42.2.1
  | 1 => exact one 1 xok1 nw_RX11_79.2.1
  | 2 => exact one 2 xok2 nw_RX11_49.2.1
  | 3 => exact one 3 xok3 nw_RX11_56.2.1
  | 4 => exact one 4 xok4 nw_RX11_25.2.1
  | 5 => exact one 5 xok5 nw_RX11_16.2.1
  | 6 => exact one 6 xok6 nw_RX11_86.2.1
  | 7 => exact one 7 xok7 nw_RX11_63.2.1
  | 8 => exact one 8 xok8 nw_RX11_35.2.1
  | 9 => exact one 9 xok9 nw_RX11_7.2.1
  | 10 => exact one 10 xok10 nw_RX11_70.2.1
  | 11 => exact one 11 xok11 nw_RL_7.2.1
  | 12 => exact one 12 xok12 nw_RL_10.2.1
  | c + 13 => exact ⟨(0, fun _ => 0), fun h => absurd h (by omega)⟩
theorem arr_kn {args : Array Value} {s : State} (hts : ∀ w ∈ lw_tbl, w.before args s = true) : ∀ t, ∃ cA : ClassId, t < 7 → ArrOfT s cA (xaty t) ∧ va_RA s cA (xaty t) := by
  have prim : ∀ ty : FieldType, (∀ C, ty ≠ .object C) → (Cond.arrayClass ty).before args s = true → (∀ cA, s.vm.findClass ("[" ++ ty.toString) = some cA → va_RA s cA ty) → ∃ cA : ClassId, ArrOfT s cA ty ∧ va_RA s cA ty := fun ty ho h hra => by
    obtain ⟨cA, kA, comp, h1, h2, h3⟩ := Cond.arrayClass_spec h
    exact ⟨cA, fun n z => ⟨fun k h => (by cases h), kA, h2, comp, h3⟩, hra cA h1⟩
  have obj : ∀ C : String, va_AO C s → ∃ cA : ClassId, ArrOfT s cA (.object C) ∧ va_RA s cA (.object C) := fun C h => by
    obtain ⟨comp, cA, kA, h1, h2, h3, h4, h5⟩ := Cond.arrayOver_spec h
    exact ⟨cA, fun n z => ⟨fun k h => (by cases h), kA, h3, comp, h4⟩, kA, comp, h3, h4, h1, h5⟩
  have hx : ∀ w ∈ xTS, w.before args s = true := fun w h => hts w (xTS_tbl h)
  intro t
  match t with
  | 0 => obtain ⟨cA, h⟩ := prim .int (fun C h => by cases h) (hx _ aw_int) (fun cA h => h); exact ⟨cA, fun _ => h⟩
  | 1 => obtain ⟨cA, h⟩ := prim .int (fun C h => by cases h) (hx _ aw_int) (fun cA h => h); exact ⟨cA, fun _ => h⟩
  | 2 => obtain ⟨cA, h⟩ := prim .long (fun C h => by cases h) (hx _ aw_long) (fun cA h => h); exact ⟨cA, fun _ => h⟩
  | 3 => obtain ⟨cA, h⟩ := prim .byte (fun C h => by cases h) (hx _ aw_byte) (fun cA h => h); exact ⟨cA, fun _ => h⟩
  | 4 => obtain ⟨cA, h⟩ := prim .boolean (fun C h => by cases h) (hx _ aw_boolean) (fun cA h => h); exact ⟨cA, fun _ => h⟩
  | 5 => obtain ⟨cA, h⟩ := obj RX4 (va_AO.of (hts _ ao_4)); exact ⟨cA, fun _ => h⟩
  | 6 => obtain ⟨cA, h⟩ := obj RX8 (va_AO.of (hts _ ao_8)); exact ⟨cA, fun _ => h⟩
  | t + 7 => exact ⟨0, fun h => absurd h (by omega)⟩
theorem st_RES {args : Array Value} {s : State} (hts : ∀ w ∈ lw_tbl, w.before args s = true) (hgv : (Jvm.Cond.and given_1 narrow_1).before args s = true) {A : Nat → Prop} (hA : ∀ a : Nat, a < s.heap.size → ¬ A a) : ∃ t : Nat, va_Z "TwinTrees" "RESERVED" "[J" (.ref t) A s s.heap ∧ va_T .long t 16 (fun j => .long (xRES j)) A s s.heap := by
  have hs := flat_of_before _ hgv
  have hlen : (Term.length (.static "TwinTrees" "RESERVED" "[J")).eval args s none [] s = some (.int (Int32.ofNat 16)) := va_eqt (hs (Cond.eq (.length (.static "TwinTrees" "RESERVED" "[J")) (.int 16)) (by decide +kernel))
  have hel : ∀ j : Nat, j < 16 → (Term.elem (.static "TwinTrees" "RESERVED" "[J") (.int (Int32.ofNat j))).eval args s none [] s = some (.long (xRES j)) := fun j hj => va_eqtl (hs (Cond.eq (.elem (.static "TwinTrees" "RESERVED" "[J") (.int (Int32.ofNat j))) (.long (xRES j))) (by
    have key : ∀ j, j < 16 → Cond.eq (.elem (.static "TwinTrees" "RESERVED" "[J") (.int (Int32.ofNat j))) (.long (xRES j)) ∈ flatC (Jvm.Cond.and given_1 narrow_1) := by decide +kernel
    exact key j hj))
  obtain ⟨t, ht, hT⟩ := va_Tof (by omega) (hs (Cond.arrayOf (.static "TwinTrees" "RESERVED" "[J") .long) (by decide +kernel)) hlen hel hA
  exact ⟨t, va_Zof (hts _ ls_RES) (hts _ (xTS_tbl nw_RL_7.2.2)) ht hA, hT⟩
theorem st_POW {args : Array Value} {s : State} (hts : ∀ w ∈ lw_tbl, w.before args s = true) (hgv : (Jvm.Cond.and given_1 narrow_1).before args s = true) {A : Nat → Prop} (hA : ∀ a : Nat, a < s.heap.size → ¬ A a) : ∃ t : Nat, va_Z "TwinTrees" "POWER" "[I" (.ref t) A s s.heap ∧ va_T .int t 6 (fun j => .int (xPOW j)) A s s.heap := by
  have hs := flat_of_before _ hgv
  have hlen : (Term.length (.static "TwinTrees" "POWER" "[I")).eval args s none [] s = some (.int (Int32.ofNat 6)) := va_eqt (hs (Cond.eq (.length (.static "TwinTrees" "POWER" "[I")) (.int 6)) (by decide +kernel))
  have hel : ∀ j : Nat, j < 6 → (Term.elem (.static "TwinTrees" "POWER" "[I") (.int (Int32.ofNat j))).eval args s none [] s = some (.int (xPOW j)) := fun j hj => va_eqt (hs (Cond.eq (.elem (.static "TwinTrees" "POWER" "[I") (.int (Int32.ofNat j))) (.int (xPOW j))) (by
    have key : ∀ j, j < 6 → Cond.eq (.elem (.static "TwinTrees" "POWER" "[I") (.int (Int32.ofNat j))) (.int (xPOW j)) ∈ flatC (Jvm.Cond.and given_1 narrow_1) := by decide +kernel
    exact key j hj))
  obtain ⟨t, ht, hT⟩ := va_Tof (by omega) (hs (Cond.arrayOf (.static "TwinTrees" "POWER" "[I") .int) (by decide +kernel)) hlen hel hA
  exact ⟨t, va_Zof (hts _ ls_POW) (hts _ (xTS_tbl nw_RL_7.2.2)) ht hA, hT⟩
theorem law_g {args : Array Value} {s : State} (b : Nat) (hts : ∀ w ∈ lw_tbl, w.before args s = true) (hgv : (Jvm.Cond.and given_1 narrow_1).before args s = true) : ∃ g : xG, g.2.1 = s.heap.size ∧ g.2.2.2 2 = b ∧ xKs g s s.heap := by
  obtain ⟨F, hF⟩ := Classical.axiomOfChoice (cls_kn hts)
  obtain ⟨G, hG⟩ := Classical.axiomOfChoice (arr_kn hts)
  have hA : ∀ a : Nat, a < s.heap.size → ¬ (fun q => s.heap.size ≤ q) a := fun a h => Nat.not_le.mpr h
  obtain ⟨tR, zR, TR⟩ := st_RES hts hgv hA
  obtain ⟨tP, zP, TP⟩ := st_POW hts hgv hA
  refine ⟨((fun c => (F c).1, fun c => (F c).2), s.heap.size, G, fun j => if j = 0 then tR else if j = 1 then tP else b), rfl, rfl, ⟨fun c q h => ?_, fun k q h => ?_⟩, ⟨zR, TR⟩, ⟨zP, TP⟩, fun x hx => va_Nw.of (nf_tab x hx) (hts _ (nf_in x hx)), fun x hx => va_Nw.of (nm_tab x hx) (hts _ (nm_in x hx)), va_AO.of (hts _ ao_4), va_AO.of (hts _ ao_8)⟩
  · obtain ⟨hc, rfl⟩ := cls_13 h
    exact hF c hc
  · have hk : k < 7 := by
      have := (List.getElem?_eq_some_iff.mp h).1
      simpa [xtys] using this
    rw [xtys_get hk] at h
    cases h
    exact hG k hk

