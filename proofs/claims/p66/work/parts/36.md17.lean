section MD17
theorem md_like_wng {B : Int} {g : Int → Int} (hi : md_inv B g) {m : Nat} {σ : jk_I} (hz : md_z σ m) (hz1 : md_z10 σ m) (q : Int) : md_like m σ (md_wngS σ m g q) := by
  unfold md_wngS; split
  · exact md_like_rf hz hz1
  · exact md_like_gr hi (md_like_rf hz hz1)
theorem md_wng0 {σ : jk_I} {m : Nat} {g : Int → Int} {q : Int} (h : ¬ 0 < md_wng g q) : md_wngS σ m g q = md_gr σ m g ∧ md_in q 0 (g 2 - 1) = true ∧ md_hi g (md_Ro g) (g (152 + q)) = true := by
  unfold md_wng at h
  unfold md_wngS
  cases h1 : md_in q 0 (g 2 - 1) <;> rw [h1] at h
  · exact absurd (show (0 : Int) < 1 by decide) h
  · cases h2 : md_H g (g (152 + q)) <;> rw [h2] at h
    · exact absurd (show (0 : Int) < 2 by decide) h
    · exact ⟨rfl, rfl, h2⟩
theorem md_wng_bd (g : Int → Int) (q : Int) : 0 ≤ md_wng g q ∧ md_wng g q ≤ 2 := by unfold md_wng; (repeat' split) <;> decide
theorem md_wngS_m (σ : jk_I) (m : Nat) (g : Int → Int) (q : Int) : md_wngS σ m g q m = σ m := by
  unfold md_wngS; split
  · rfl
  · exact md_gr_ne _ _ _ ⟨by omega, by omega, by omega, by omega⟩
theorem md_qwn {n : Nat} {t : jk_T} {σ σ' : jk_I} {ρ : jk_P} {m : Nat} {g : Int → Int} {q v : Int} (h1 : md_wng g q = v) (h2 : md_wngS σ m g q = σ') : jk_q (some (jI (md_wng g q))) n t (md_wngS σ m g q) ρ (some (jI v)) n t σ' ρ := by subst h1 h2; exact jk_qr
theorem jB_inj {p q : Bool} (h : jB p = jB q) : p = q := by cases p <;> cases q <;> first | rfl | exact absurd h (by decide)
theorem md_shoT {g : Int → Int} {q c : Int} (h1 : md_Ds g q 0 < c ∧ c ≤ md_Ds g q (g (156 + q) - 1)) (h2 : ¬ jB (md_wet g q c) = jB (md_wet g q (c - 1))) : md_sho g q c = true := by
  unfold md_sho
  rw [decide_eq_true h1]
  cases h3 : md_wet g q c <;> cases h4 : md_wet g q (c - 1) <;> rw [h3, h4] at h2 <;> first | rfl | exact absurd rfl h2
theorem md_shoF {g : Int → Int} {q c : Int} (h : ¬ (md_Ds g q 0 < c ∧ c ≤ md_Ds g q (g (156 + q) - 1)) ∨ jB (md_wet g q c) = jB (md_wet g q (c - 1))) : md_sho g q c = false := by
  unfold md_sho
  rcases h with h | h
  · rw [decide_eq_false h]; rfl
  · rw [jB_inj h]; simp
theorem md_low_bd (g : Int → Int) (q b : Int) : ∀ k : Nat, b ≤ md_low g q b k ∧ md_low g q b k ≤ b + (k : Int)
  | 0 => ⟨Int.le_refl _, by show b ≤ b + 0; omega⟩
  | k + 1 => by
    have := md_low_bd g q b k
    simp only [md_low]
    split <;> omega
theorem md_Ds_le {g : Int → Int} (hx : md_inx g) {q : Int} (hq : 0 ≤ q ∧ q < g 2) : ∀ {s : Int}, 0 ≤ s ∧ s < g (156 + q) → md_Ds g q 0 ≤ md_Ds g q s := by
  have key : ∀ k : Nat, (k : Int) < g (156 + q) → md_Ds g q 0 ≤ md_Ds g q (k : Int) := by
    intro k
    induction k with
    | zero => intro _; exact Int.le_refl _
    | succ k ih => intro h; have := ih (by omega); have := (hx q hq).2 (k : Int) ⟨by omega, by omega⟩; have e : ((k + 1 : Nat) : Int) = (k : Int) + 1 := rfl; rw [e]; omega
  intro s hs
  have := key s.toNat (by omega)
  rwa [show (s.toNat : Int) = s by omega] at this
end MD17
