theorem zPool.ins {n ins k1 p : Nat} {com : Nat → Bool} {tc : Nat → Nat} {tq : Nat → Nat → Int32} {fi pool sc sc2 : Nat → Int32} (L : zPool n com tc tq fi pool ins) (hs : ∀ i, i < k1 → sc i = sc2 i) : zPool (n + 1) (va_up com n true) (va_up tc n k1) (va_up tq n (va_cpy sc (fun _ => 0) 0 0 k1)) (upd fi n (nI ins)) (va_cpy sc2 pool 0 ins k1) (ins + k1) := by
  intro v h0 hv hc
  by_cases h : v = n
  · subst h
    rw [up_eq, up_eq]
    refine ⟨ins, pk_us, Nat.le_refl _, fun i hi => ?_⟩
    rw [pk_cpy_in (by omega) (by omega), pk_cpy_in (by omega) (by omega), show 0 + (ins + i - ins) = i by omega, show 0 + (i - 0) = i by omega, hs i hi]
  · rw [up_ne' h] at hc ⊢
    rw [up_ne' h]
    obtain ⟨a, k1', k2, k3⟩ := L v h0 (by omega) hc
    exact ⟨a, (pk_un h).trans k1', by omega, fun i hi => (pk_cpy_out (Or.inl (by omega))).trans (k3 i hi)⟩
theorem zPool.del {n ins c : Nat} {com : Nat → Bool} {tc : Nat → Nat} {tq : Nat → Nat → Int32} {fi pool gp : Nat → Int32} (L : zPool n com tc tq fi pool ins) : zPool (n + 1) (va_up com n false) (va_up tc n c) (va_up tq n gp) fi pool ins := by
  intro v h0 hv hc
  by_cases h : v = n
  · subst h
    rw [up_eq] at hc
    cases hc
  · rw [up_ne' h] at hc ⊢
    rw [up_ne' h]
    exact L v h0 (by omega) hc
