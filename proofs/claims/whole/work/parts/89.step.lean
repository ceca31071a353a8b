theorem zl_step (N : Nat) (hN : 1000000 ≤ N) (i x y : Int32) {u v : zU} (h : zRel u v) : ∃ r u1 v1, zf_CCC_step_0 N i x y u = some (r, u1) ∧ zf_MMC_step_0 N i x y v = some (r, v1) ∧ zRel u1 v1 := by
  sorry
