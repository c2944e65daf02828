section MD25
theorem jk_zr_same (f : jk_I) (a : Nat) : jk_zr f a 0 a = fun _ => 0 := funext fun _ => if_pos rfl
/-- the new model: its places, its fields at the start, all else 0 -/
def md_new (m : Nat) (t : jk_T) (σ : jk_I) (ρ : jk_P) : jk_Q := fun v n' t' σ' ρ' => v = none ∧ n' = m + 30 ∧ md_at t' ρ' m ∧ (∀ a, a < m + 2 → t' a = t a) ∧ (∀ a, a < m → σ' a = σ a ∧ ρ' a = ρ a) ∧ σ' m = jk_set (jk_set (σ m) 8 (-1)) 9 (-1) ∧ ∀ a, m < a → a < m + 30 → a % 2 = m % 2 → σ' a = fun _ => 0
end MD25
