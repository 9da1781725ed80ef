/-! ===== operations still owed ===== -/
theorem Inv.more {n : Nat} {h : Hp} (h1 : Inv n h) : Inv (n + 1) h := by
  obtain ⟨A, sh, c, z, e, hA, hC, hM⟩ := h1
  exact ⟨A, sh, c, z, e, hA, hC.more, hM⟩
