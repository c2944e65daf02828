section L5
theorem hs_rel_congr {σ : jk_I} {h c c' : Nat} {Hr Hr' : Nat → Int → Int} (hr : hs_rel σ h c Hr) (hc : c' = c) (he : ∀ j, j < c → Hr' j = Hr j) : hs_rel σ h c' Hr' := by
  subst hc
  obtain ⟨h0, nx, h1, h2, h3, h4, h5⟩ := hr
  exact ⟨h0, nx, h1, h2, h3, fun j hj => by rw [he j hj]; exact h4 j hj, h5⟩
end L5

