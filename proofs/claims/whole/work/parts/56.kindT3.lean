theorem EN_ref {v : xV} (hw : wfg v) {k : Nat} (hk : k < vK v) : tst (iter (enU v (E5 v) k) 6 0) k = tst (EN v) k := by
  have hK := hw.2.1
  rw [E5_EM hw]
  have both : (tst (iter (enU v (EM v) k) 6 0) k = true ↔ tst (EN v) k = true) := by
    unfold EN
    rw [enF_iff (by omega) _ (by omega)]
    have st := stab5 (f := enU v (EM v) k) (fun x h => enR_low hw h _ (Nat.le_refl _)) (fun x => enR_up (vR v) (Nat.zero_le _)) low_0 (n := 6) (by omega)
    constructor
    · intro h
      have all : ∀ n m, m < 32 → tst (iter (enU v (EM v) k) n 0) m = true → ∃ l, pth (edg v) l k m := fun n => by
        induction n with
        | zero => intro m _ q; exact absurd q (by show ¬ tst 0 m = true; rw [tst_0]; decide)
        | succ n ih => exact enR_pth hw ih _ (Nat.le_refl _)
      obtain ⟨l, hl⟩ := all 6 k (by omega) h
      refine ⟨hk, ?_⟩
      -- a path is within the closure
      have edK : ∀ a b, edg v a b → b < 5 ∧ a < vK v ∧ b < vK v := fun a b h => by
        have b32 : b < 32 := by
          rcases Nat.lt_or_ge b 32 with w | w
          · exact w
          · unfold edg tst at h
            rw [BitVec.getLsbD_of_ge _ _ w] at h; cases h
        obtain ⟨q, u, h1, h2, h3, h4, h5, h6⟩ := (isR_iff hw b32 _ (Nat.le_refl _)).mp h
        have c1 := wf_r hw h1
        have c2 := (hw.2.2.2.2 q h1).2.2 u h2
        have c3 := wf_s hw h1 h2
        have := hw.1
        omega
      have inn : ∀ l a b, a < vK v → pth (edg v) l a b → tst (IT v a) b = true ∧ b < vK v := fun l => by
        induction l with
        | zero =>
          intro a b ha h
          have := edK a b h
          exact ⟨waV_in hK (by omega) h _ hK, this.2.2⟩
        | succ l ih =>
          rintro a b ha ⟨m, h1, h2⟩
          have hm := edK a m h1
          obtain ⟨i1, i2⟩ := ih m b hm.2.2 h2
          exact ⟨waV_tr (vK v) hK (Nat.le_refl _) a m b ha (by omega) hm.2.2 (waV_in hK (by omega) h1 _ hK) i1, i2⟩
      exact (inn l k k hk hl).1
    · rintro ⟨-, h⟩
      obtain ⟨n, hn⟩ := waV_pth (K := vK v) (vK v) hK k k (by omega) h
      -- the set is closed
      have fx : ∀ r, r ≤ vR v → enR v (EM v) k (iter (enU v (EM v) k) 6 0) r = iter (enU v (EM v) k) 6 0 := fun r hr => by
        refine sub_eq ?_ (enR_up r (Nat.zero_le _))
        have := enR_up (v := v) (em := EM v) (k := k) (c := iter (enU v (EM v) k) 6 0) (r := r) (vR v) hr
        have f6 : enR v (EM v) k (iter (enU v (EM v) k) 6 0) (vR v) = iter (enU v (EM v) k) 6 0 := st.1
        rw [f6] at this
        exact this
      have cl : ∀ a b, b < 32 → (a = k ∨ tst (iter (enU v (EM v) k) 6 0) a = true) → edg v a b → tst (iter (enU v (EM v) k) 6 0) b = true := fun a b hb ha h => by
        obtain ⟨q, u, h1, h2, h3, h4, h5, h6⟩ := (isR_iff hw hb _ (Nat.le_refl _)).mp h
        have e := fx (q + 1) (by omega)
        simp only [enR] at e
        rw [fx q (by omega), h3, if_pos ha] at e
        rw [← e]
        exact (enT_iff hw h1 hb _ (Nat.le_refl _)).mpr (Or.inr ⟨u, h2, h4, h5, h6⟩)
      have go : ∀ n a b, b < 32 → (a = k ∨ tst (iter (enU v (EM v) k) 6 0) a = true) → pth (edg v) n a b → tst (iter (enU v (EM v) k) 6 0) b = true := fun n => by
        induction n with
        | zero => intro a b hb ha h; exact cl a b hb ha h
        | succ n ih =>
          rintro a b hb ha ⟨m, h1, h2⟩
          have m32 : m < 32 := by
            rcases Nat.lt_or_ge m 32 with w | w
            · exact w
            · unfold edg tst at h1
              rw [BitVec.getLsbD_of_ge _ _ w] at h1; cases h1
          exact ih m b hb (Or.inr (cl a m m32 ha h1)) h2
      exact go n k k (by omega) (Or.inl rfl) hn
  cases h1 : tst (iter (enU v (EM v) k) 6 0) k
  · cases h2 : tst (EN v) k
    · rfl
    · rw [both.mpr h2] at h1; cases h1
  · exact (both.mp h1).symm

