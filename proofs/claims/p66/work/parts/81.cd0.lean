section CD0
/-! the class's survey after a change -/
def cl_B (σ : jk_I) (s : Nat) (g : Int → Int) : Prop := ∀ p, 0 ≤ p ∧ p < g 0 → σ (s + 2) p = g (4 + p) ∧ (g (4 + p) = 1 → σ (s + 4) p = g (14 + p))
def cl_C (σ : jk_I) (s : Nat) (g : Int → Int) : Prop := ∀ l, 0 ≤ l ∧ l < g 1 → σ (s + 6) l = g (24 + l) ∧ σ (s + 8) l = g (40 + l) ∧ σ (s + 10) l = g (56 + l) ∧ σ (s + 12) l = g (72 + l) ∧ ((g (88 + l) = 1 → σ (s + 14) l = g (104 + l)) ∧ -9999 ≤ σ (s + 14) l ∧ σ (s + 14) l ≤ 9999) ∧ σ (s + 16) l = g (88 + l) ∧ σ (s + 18) l = g (120 + l) ∧ σ (s + 20) l = g (136 + l)
def cl_D (σ : jk_I) (s : Nat) (g : Int → Int) : Prop := ∀ q : Nat, (q : Int) < g 2 → σ (s + 22) (q : Int) = g (152 + (q : Int)) ∧ σ (s + 24) (q : Int) = g (156 + (q : Int)) ∧ ∀ k, 0 ≤ k ∧ k < g (156 + (q : Int)) → σ (s + (28 + 2 * q)) k = g (160 + 10 * (q : Int) + k) ∧ σ (s + (38 + 2 * q)) k = g (200 + 10 * (q : Int) + k)
theorem cl_Bs {σ σ' : jk_I} {s : Nat} {g g' : Int → Int} (h : cl_B σ s g) (h2 : σ' (s + 2) = σ (s + 2)) (h4 : σ' (s + 4) = σ (s + 4)) (hg : ∀ i, i = 0 ∨ (4 ≤ i ∧ i < 24) → g' i = g i) (h10 : g 0 ≤ 10) : cl_B σ' s g' := by
  intro p hp
  rw [hg 0 (Or.inl rfl)] at hp
  rw [h2, h4, hg (4 + p) (by omega), hg (14 + p) (by omega)]
  exact h p hp
theorem cl_Cs {σ σ' : jk_I} {s : Nat} {g g' : Int → Int} (h : cl_C σ s g) (he : σ' (s + 6) = σ (s + 6) ∧ σ' (s + 8) = σ (s + 8) ∧ σ' (s + 10) = σ (s + 10) ∧ σ' (s + 12) = σ (s + 12) ∧ σ' (s + 14) = σ (s + 14) ∧ σ' (s + 16) = σ (s + 16) ∧ σ' (s + 18) = σ (s + 18) ∧ σ' (s + 20) = σ (s + 20)) (hg : ∀ i, i = 1 ∨ (24 ≤ i ∧ i < 152) → g' i = g i) (h16 : g 1 ≤ 16) : cl_C σ' s g' := by
  intro l hl
  obtain ⟨e1, e2, e3, e4, e5, e6, e7, e8⟩ := he
  rw [hg 1 (Or.inl rfl)] at hl
  rw [e1, e2, e3, e4, e5, e6, e7, e8, hg (24 + l) (by omega), hg (40 + l) (by omega), hg (56 + l) (by omega), hg (72 + l) (by omega), hg (88 + l) (by omega), hg (104 + l) (by omega), hg (120 + l) (by omega), hg (136 + l) (by omega)]
  exact h l hl
theorem cl_Ds {σ σ' : jk_I} {s : Nat} {g g' : Int → Int} (h : cl_D σ s g) (h2 : σ' (s + 22) = σ (s + 22)) (h4 : σ' (s + 24) = σ (s + 24)) (hq : ∀ q : Nat, q < 4 → σ' (s + (28 + 2 * q)) = σ (s + (28 + 2 * q)) ∧ σ' (s + (38 + 2 * q)) = σ (s + (38 + 2 * q))) (hg : ∀ i, i = 2 ∨ (152 ≤ i ∧ i < 240) → g' i = g i) (h4' : g 2 ≤ 4) (hst : ∀ q, 0 ≤ q ∧ q < 4 → g (156 + q) ≤ 10) : cl_D σ' s g' := by
  intro q hq9
  rw [hg 2 (Or.inl rfl)] at hq9
  have := hst (q : Int) ⟨by omega, by omega⟩
  rw [h2, h4, (hq q (by omega)).1, (hq q (by omega)).2, hg (152 + (q : Int)) (by omega), hg (156 + (q : Int)) (by omega)]
  obtain ⟨a, b, c⟩ := h q hq9
  refine ⟨a, b, fun k hk => ?_⟩
  rw [hg _ (by omega), hg _ (by omega)]
  exact c k hk
def cl_upQ (s : Nat) (g' : Int → Int) (v : Int) (σ : jk_I) (n : Nat) (t : jk_T) (ρ : jk_P) : jk_Q := fun v' n' t' σ' ρ' => v' = some (jI v) ∧ n' = n ∧ t' = t ∧ ρ' = ρ ∧ cl_rel σ' s g' ∧ (cl_nn σ s → cl_nn σ' s) ∧ ∀ a, (a < s ∨ s + 44 < a) → σ' a = σ a
theorem cl_nn_same {σ σ' : jk_I} {s : Nat} (hq : ∀ q : Nat, q < 4 → σ' (s + (28 + 2 * q)) = σ (s + (28 + 2 * q))) : cl_nn σ s → cl_nn σ' s := fun h q hq9 => by rw [hq q hq9]; exact h q hq9
theorem cl_up_point {σ : jk_I} {s n : Nat} {t : jk_T} {ρ : jk_P} {g : Int → Int} {B  : Int} (ha : md_all B g) (hr : cl_rel σ s g) (h : g 0 < 10) : cl_upQ s (jk_set g 0 (g 0 + 1)) (g 0) σ n t ρ (some (jI (g 0))) n t (jk_row (jk_row (jk_row (σ) (s + 2) (jk_set (σ (s + 2)) (g 0) (0))) (s + 4) (jk_set (σ (s + 4)) (g 0) (0))) s (jk_set (σ s) 0 (g 0 + 1))) ρ := by
  obtain ⟨hi, hw, hx, hzf, hun⟩ := ha
  obtain ⟨⟨a0, a1, a2, a3⟩, hB, hC, hD⟩ := hr
  have i0 := hi.1
  have i1 := hi.2.1
  have i2 := hi.2.2.1
  have i3 := hi.2.2.2.1
  have hst := hi.2.2.2.2.2.2.2.1
  refine ⟨rfl, rfl, rfl, rfl, ⟨⟨by (repeat first | rw [jk_row_same] | rw [jk_row_ne _ _ (by omega)]); (try simp only [jk_set]); (repeat first | rw [if_pos (by first | omega | trivial)] | rw [if_neg (by omega)]); all_goals (first | exact a0 | omega), by (repeat first | rw [jk_row_same] | rw [jk_row_ne _ _ (by omega)]); (try simp only [jk_set]); (repeat first | rw [if_pos (by first | omega | trivial)] | rw [if_neg (by omega)]); all_goals (first | exact a1 | omega), by (repeat first | rw [jk_row_same] | rw [jk_row_ne _ _ (by omega)]); (try simp only [jk_set]); (repeat first | rw [if_pos (by first | omega | trivial)] | rw [if_neg (by omega)]); all_goals (first | exact a2 | omega), by (repeat first | rw [jk_row_same] | rw [jk_row_ne _ _ (by omega)]); (try simp only [jk_set]); (repeat first | rw [if_pos (by first | omega | trivial)] | rw [if_neg (by omega)]); all_goals (first | exact a3 | omega)⟩, fun p hp => by
    rw [jk_set_at] at hp
    have hu := hun.1 (g 0) ⟨by omega, by omega⟩
    (repeat first | rw [jk_row_same] | rw [jk_row_ne _ _ (by omega)])
    by_cases e : p = g 0
    · subst e; (try simp only [jk_set]); (repeat first | rw [if_pos (by first | omega | trivial)] | rw [if_neg (by omega)]); exact ⟨hu.symm, fun h => by omega⟩
    · (try simp only [jk_set]); (repeat first | rw [if_pos (by first | omega | trivial)] | rw [if_neg (by omega)]); exact hB p ⟨by omega, by omega⟩, cl_Cs hC ⟨by (repeat first | rw [jk_row_same] | rw [jk_row_ne _ _ (by omega)]), by (repeat first | rw [jk_row_same] | rw [jk_row_ne _ _ (by omega)]), by (repeat first | rw [jk_row_same] | rw [jk_row_ne _ _ (by omega)]), by (repeat first | rw [jk_row_same] | rw [jk_row_ne _ _ (by omega)]), by (repeat first | rw [jk_row_same] | rw [jk_row_ne _ _ (by omega)]), by (repeat first | rw [jk_row_same] | rw [jk_row_ne _ _ (by omega)]), by (repeat first | rw [jk_row_same] | rw [jk_row_ne _ _ (by omega)]), by (repeat first | rw [jk_row_same] | rw [jk_row_ne _ _ (by omega)])⟩ (fun i hi9 => by (try simp only [jk_set]); (repeat first | rw [if_pos (by first | omega | trivial)] | rw [if_neg (by omega)])) (by omega), cl_Ds hD (by (repeat first | rw [jk_row_same] | rw [jk_row_ne _ _ (by omega)])) (by (repeat first | rw [jk_row_same] | rw [jk_row_ne _ _ (by omega)])) (fun q hq9 => ⟨by (repeat first | rw [jk_row_same] | rw [jk_row_ne _ _ (by omega)]), by (repeat first | rw [jk_row_same] | rw [jk_row_ne _ _ (by omega)])⟩) (fun i hi9 => by (try simp only [jk_set]); (repeat first | rw [if_pos (by first | omega | trivial)] | rw [if_neg (by omega)])) (by omega) (fun q hq9 => (hst q hq9).1.2)⟩, cl_nn_same (fun q hq9 => by (repeat first | rw [jk_row_same] | rw [jk_row_ne _ _ (by omega)])), fun a ha => by (repeat first | rw [jk_row_same] | rw [jk_row_ne _ _ (by omega)])⟩
theorem cl_up_fix {σ : jk_I} {s n : Nat} {t : jk_T} {ρ : jk_P} {g : Int → Int} {B p v : Int} (ha : md_all B g) (hr : cl_rel σ s g) (h : 0 ≤ p ∧ p < g 0) : cl_upQ s (md_fixG g p v) (jk_sum (fun o => md_fixG g p v (4 + o)) (g 0).toNat) σ n t ρ (some (jI (jk_sum (fun o => md_fixG g p v (4 + o)) (g 0).toNat))) n t (jk_row (jk_row (σ) (s + 2) (jk_set (σ (s + 2)) (p) (1))) (s + 4) (jk_set (σ (s + 4)) (p) (v))) ρ := by
  obtain ⟨hi, hw, hx, hzf, hun⟩ := ha
  obtain ⟨⟨a0, a1, a2, a3⟩, hB, hC, hD⟩ := hr
  have i0 := hi.1
  have i1 := hi.2.1
  have i2 := hi.2.2.1
  have i3 := hi.2.2.2.1
  have hst := hi.2.2.2.2.2.2.2.1
  refine ⟨rfl, rfl, rfl, rfl, ⟨⟨by (repeat first | rw [jk_row_same] | rw [jk_row_ne _ _ (by omega)]); (try simp only [md_fixG, jk_set]); (repeat first | rw [if_pos (by first | omega | trivial)] | rw [if_neg (by omega)]); all_goals (first | exact a0 | omega), by (repeat first | rw [jk_row_same] | rw [jk_row_ne _ _ (by omega)]); (try simp only [md_fixG, jk_set]); (repeat first | rw [if_pos (by first | omega | trivial)] | rw [if_neg (by omega)]); all_goals (first | exact a1 | omega), by (repeat first | rw [jk_row_same] | rw [jk_row_ne _ _ (by omega)]); (try simp only [md_fixG, jk_set]); (repeat first | rw [if_pos (by first | omega | trivial)] | rw [if_neg (by omega)]); all_goals (first | exact a2 | omega), by (repeat first | rw [jk_row_same] | rw [jk_row_ne _ _ (by omega)]); (try simp only [md_fixG, jk_set]); (repeat first | rw [if_pos (by first | omega | trivial)] | rw [if_neg (by omega)]); all_goals (first | exact a3 | omega)⟩, fun p2 hp => by
    rw [show md_fixG g p v 0 = g 0 by unfold md_fixG; (try simp only [jk_set]); (repeat first | rw [if_pos (by first | omega | trivial)] | rw [if_neg (by omega)])] at hp
    (repeat first | rw [jk_row_same] | rw [jk_row_ne _ _ (by omega)])
    by_cases e : p2 = p
    · subst e; unfold md_fixG; (try simp only [jk_set]); (repeat first | rw [if_pos (by first | omega | trivial)] | rw [if_neg (by omega)]); exact ⟨rfl, fun _ => rfl⟩
    · unfold md_fixG; (try simp only [jk_set]); (repeat first | rw [if_pos (by first | omega | trivial)] | rw [if_neg (by omega)]); exact hB p2 ⟨by omega, by omega⟩, cl_Cs hC ⟨by (repeat first | rw [jk_row_same] | rw [jk_row_ne _ _ (by omega)]), by (repeat first | rw [jk_row_same] | rw [jk_row_ne _ _ (by omega)]), by (repeat first | rw [jk_row_same] | rw [jk_row_ne _ _ (by omega)]), by (repeat first | rw [jk_row_same] | rw [jk_row_ne _ _ (by omega)]), by (repeat first | rw [jk_row_same] | rw [jk_row_ne _ _ (by omega)]), by (repeat first | rw [jk_row_same] | rw [jk_row_ne _ _ (by omega)]), by (repeat first | rw [jk_row_same] | rw [jk_row_ne _ _ (by omega)]), by (repeat first | rw [jk_row_same] | rw [jk_row_ne _ _ (by omega)])⟩ (fun i hi9 => by unfold md_fixG; (try simp only [jk_set]); (repeat first | rw [if_pos (by first | omega | trivial)] | rw [if_neg (by omega)])) (by omega), cl_Ds hD (by (repeat first | rw [jk_row_same] | rw [jk_row_ne _ _ (by omega)])) (by (repeat first | rw [jk_row_same] | rw [jk_row_ne _ _ (by omega)])) (fun q hq9 => ⟨by (repeat first | rw [jk_row_same] | rw [jk_row_ne _ _ (by omega)]), by (repeat first | rw [jk_row_same] | rw [jk_row_ne _ _ (by omega)])⟩) (fun i hi9 => by unfold md_fixG; (try simp only [jk_set]); (repeat first | rw [if_pos (by first | omega | trivial)] | rw [if_neg (by omega)])) (by omega) (fun q hq9 => (hst q hq9).1.2)⟩, cl_nn_same (fun q hq9 => by (repeat first | rw [jk_row_same] | rw [jk_row_ne _ _ (by omega)])), fun a ha => by (repeat first | rw [jk_row_same] | rw [jk_row_ne _ _ (by omega)])⟩
theorem cl_up_free {σ : jk_I} {s n : Nat} {t : jk_T} {ρ : jk_P} {g : Int → Int} {B p : Int} (ha : md_all B g) (hr : cl_rel σ s g) (h : 0 ≤ p ∧ p < g 0) (h1 : g (4 + p) = 1) : cl_upQ s (jk_set g (4 + p) 0) (g (14 + p)) σ n t ρ (some (jI (g (14 + p)))) n t (jk_row (σ) (s + 2) (jk_set (σ (s + 2)) (p) (0))) ρ := by
  obtain ⟨hi, hw, hx, hzf, hun⟩ := ha
  obtain ⟨⟨a0, a1, a2, a3⟩, hB, hC, hD⟩ := hr
  have i0 := hi.1
  have i1 := hi.2.1
  have i2 := hi.2.2.1
  have i3 := hi.2.2.2.1
  have hst := hi.2.2.2.2.2.2.2.1
  refine ⟨rfl, rfl, rfl, rfl, ⟨⟨by (repeat first | rw [jk_row_same] | rw [jk_row_ne _ _ (by omega)]); (try simp only [jk_set]); (repeat first | rw [if_pos (by first | omega | trivial)] | rw [if_neg (by omega)]); all_goals (first | exact a0 | omega), by (repeat first | rw [jk_row_same] | rw [jk_row_ne _ _ (by omega)]); (try simp only [jk_set]); (repeat first | rw [if_pos (by first | omega | trivial)] | rw [if_neg (by omega)]); all_goals (first | exact a1 | omega), by (repeat first | rw [jk_row_same] | rw [jk_row_ne _ _ (by omega)]); (try simp only [jk_set]); (repeat first | rw [if_pos (by first | omega | trivial)] | rw [if_neg (by omega)]); all_goals (first | exact a2 | omega), by (repeat first | rw [jk_row_same] | rw [jk_row_ne _ _ (by omega)]); (try simp only [jk_set]); (repeat first | rw [if_pos (by first | omega | trivial)] | rw [if_neg (by omega)]); all_goals (first | exact a3 | omega)⟩, fun p2 hp => by
    rw [show jk_set g (4 + p) 0 0 = g 0 by (try simp only [jk_set]); (repeat first | rw [if_pos (by first | omega | trivial)] | rw [if_neg (by omega)])] at hp
    (repeat first | rw [jk_row_same] | rw [jk_row_ne _ _ (by omega)])
    by_cases e : p2 = p
    · subst e; (try simp only [jk_set]); (repeat first | rw [if_pos (by first | omega | trivial)] | rw [if_neg (by omega)]); exact ⟨rfl, fun h => by omega⟩
    · (try simp only [jk_set]); (repeat first | rw [if_pos (by first | omega | trivial)] | rw [if_neg (by omega)]); exact hB p2 ⟨by omega, by omega⟩, cl_Cs hC ⟨by (repeat first | rw [jk_row_same] | rw [jk_row_ne _ _ (by omega)]), by (repeat first | rw [jk_row_same] | rw [jk_row_ne _ _ (by omega)]), by (repeat first | rw [jk_row_same] | rw [jk_row_ne _ _ (by omega)]), by (repeat first | rw [jk_row_same] | rw [jk_row_ne _ _ (by omega)]), by (repeat first | rw [jk_row_same] | rw [jk_row_ne _ _ (by omega)]), by (repeat first | rw [jk_row_same] | rw [jk_row_ne _ _ (by omega)]), by (repeat first | rw [jk_row_same] | rw [jk_row_ne _ _ (by omega)]), by (repeat first | rw [jk_row_same] | rw [jk_row_ne _ _ (by omega)])⟩ (fun i hi9 => by (try simp only [jk_set]); (repeat first | rw [if_pos (by first | omega | trivial)] | rw [if_neg (by omega)])) (by omega), cl_Ds hD (by (repeat first | rw [jk_row_same] | rw [jk_row_ne _ _ (by omega)])) (by (repeat first | rw [jk_row_same] | rw [jk_row_ne _ _ (by omega)])) (fun q hq9 => ⟨by (repeat first | rw [jk_row_same] | rw [jk_row_ne _ _ (by omega)]), by (repeat first | rw [jk_row_same] | rw [jk_row_ne _ _ (by omega)])⟩) (fun i hi9 => by (try simp only [jk_set]); (repeat first | rw [if_pos (by first | omega | trivial)] | rw [if_neg (by omega)])) (by omega) (fun q hq9 => (hst q hq9).1.2)⟩, cl_nn_same (fun q hq9 => by (repeat first | rw [jk_row_same] | rw [jk_row_ne _ _ (by omega)])), fun a ha => by (repeat first | rw [jk_row_same] | rw [jk_row_ne _ _ (by omega)])⟩
theorem cl_up_line {σ : jk_I} {s n : Nat} {t : jk_T} {ρ : jk_P} {g : Int → Int} {B a b f len : Int} (ha : md_all B g) (hr : cl_rel σ s g) (h : g 1 < 16) : cl_upQ s (jk_set (jk_set (jk_set (jk_set (jk_set g (24 + g 1) a) (40 + g 1) b) (72 + g 1) f) (56 + g 1) len) 1 (g 1 + 1)) (g 1) σ n t ρ (some (jI (g 1))) n t (jk_row (jk_row (jk_row (jk_row (jk_row (jk_row (jk_row (jk_row (jk_row (σ) (s + 6) (jk_set (σ (s + 6)) (g 1) (a))) (s + 8) (jk_set (σ (s + 8)) (g 1) (b))) (s + 10) (jk_set (σ (s + 10)) (g 1) (len))) (s + 12) (jk_set (σ (s + 12)) (g 1) (f))) (s + 14) (jk_set (σ (s + 14)) (g 1) (0))) (s + 16) (jk_set (σ (s + 16)) (g 1) (0))) (s + 18) (jk_set (σ (s + 18)) (g 1) (0))) (s + 20) (jk_set (σ (s + 20)) (g 1) (0))) s (jk_set (σ s) 3 (g 1 + 1))) ρ := by
  obtain ⟨hi, hw, hx, hzf, hun⟩ := ha
  obtain ⟨⟨a0, a1, a2, a3⟩, hB, hC, hD⟩ := hr
  have i0 := hi.1
  have i1 := hi.2.1
  have i2 := hi.2.2.1
  have i3 := hi.2.2.2.1
  have hst := hi.2.2.2.2.2.2.2.1
  refine ⟨rfl, rfl, rfl, rfl, ⟨⟨by (repeat first | rw [jk_row_same] | rw [jk_row_ne _ _ (by omega)]); (try simp only [jk_set]); (repeat first | rw [if_pos (by first | omega | trivial)] | rw [if_neg (by omega)]); all_goals (first | exact a0 | omega), by (repeat first | rw [jk_row_same] | rw [jk_row_ne _ _ (by omega)]); (try simp only [jk_set]); (repeat first | rw [if_pos (by first | omega | trivial)] | rw [if_neg (by omega)]); all_goals (first | exact a1 | omega), by (repeat first | rw [jk_row_same] | rw [jk_row_ne _ _ (by omega)]); (try simp only [jk_set]); (repeat first | rw [if_pos (by first | omega | trivial)] | rw [if_neg (by omega)]); all_goals (first | exact a2 | omega), by (repeat first | rw [jk_row_same] | rw [jk_row_ne _ _ (by omega)]); (try simp only [jk_set]); (repeat first | rw [if_pos (by first | omega | trivial)] | rw [if_neg (by omega)]); all_goals (first | exact a3 | omega)⟩, cl_Bs hB (by (repeat first | rw [jk_row_same] | rw [jk_row_ne _ _ (by omega)])) (by (repeat first | rw [jk_row_same] | rw [jk_row_ne _ _ (by omega)])) (fun i hi9 => by (try simp only [jk_set]); (repeat first | rw [if_pos (by first | omega | trivial)] | rw [if_neg (by omega)])) (by omega), fun l hl => by
    rw [jk_set_at] at hl
    obtain ⟨u1, u2, u3⟩ := hun.2.1 (g 1) ⟨by omega, by omega⟩
    (repeat first | rw [jk_row_same] | rw [jk_row_ne _ _ (by omega)])
    by_cases e : l = g 1
    · subst e; (try simp only [jk_set]); (repeat first | rw [if_pos (by first | omega | trivial)] | rw [if_neg (by omega)]); exact ⟨rfl, rfl, rfl, rfl, ⟨fun h => by omega, by omega, by omega⟩, u1.symm, u2.symm, u3.symm⟩
    · (try simp only [jk_set]); (repeat first | rw [if_pos (by first | omega | trivial)] | rw [if_neg (by omega)]); exact hC l ⟨by omega, by omega⟩, cl_Ds hD (by (repeat first | rw [jk_row_same] | rw [jk_row_ne _ _ (by omega)])) (by (repeat first | rw [jk_row_same] | rw [jk_row_ne _ _ (by omega)])) (fun q hq9 => ⟨by (repeat first | rw [jk_row_same] | rw [jk_row_ne _ _ (by omega)]), by (repeat first | rw [jk_row_same] | rw [jk_row_ne _ _ (by omega)])⟩) (fun i hi9 => by (try simp only [jk_set]); (repeat first | rw [if_pos (by first | omega | trivial)] | rw [if_neg (by omega)])) (by omega) (fun q hq9 => (hst q hq9).1.2)⟩, cl_nn_same (fun q hq9 => by (repeat first | rw [jk_row_same] | rw [jk_row_ne _ _ (by omega)])), fun a ha => by (repeat first | rw [jk_row_same] | rw [jk_row_ne _ _ (by omega)])⟩
theorem cl_up_back {σ : jk_I} {s n : Nat} {t : jk_T} {ρ : jk_P} {g : Int → Int} {B l b : Int} (ha : md_all B g) (hr : cl_rel σ s g) (h : 0 ≤ l ∧ l < g 1) (hb : -9999 ≤ b ∧ b ≤ 9999) : cl_upQ s (md_runG g l b) (md_gap (md_runG g l b) l) σ n t ρ (some (jI (md_gap (md_runG g l b) l))) n t (jk_row (jk_row (σ) (s + 14) (jk_set (σ (s + 14)) (l) (b))) (s + 16) (jk_set (σ (s + 16)) (l) (1))) ρ := by
  obtain ⟨hi, hw, hx, hzf, hun⟩ := ha
  obtain ⟨⟨a0, a1, a2, a3⟩, hB, hC, hD⟩ := hr
  have i0 := hi.1
  have i1 := hi.2.1
  have i2 := hi.2.2.1
  have i3 := hi.2.2.2.1
  have hst := hi.2.2.2.2.2.2.2.1
  refine ⟨rfl, rfl, rfl, rfl, ⟨⟨by (repeat first | rw [jk_row_same] | rw [jk_row_ne _ _ (by omega)]); (try simp only [md_runG, jk_set]); (repeat first | rw [if_pos (by first | omega | trivial)] | rw [if_neg (by omega)]); all_goals (first | exact a0 | omega), by (repeat first | rw [jk_row_same] | rw [jk_row_ne _ _ (by omega)]); (try simp only [md_runG, jk_set]); (repeat first | rw [if_pos (by first | omega | trivial)] | rw [if_neg (by omega)]); all_goals (first | exact a1 | omega), by (repeat first | rw [jk_row_same] | rw [jk_row_ne _ _ (by omega)]); (try simp only [md_runG, jk_set]); (repeat first | rw [if_pos (by first | omega | trivial)] | rw [if_neg (by omega)]); all_goals (first | exact a2 | omega), by (repeat first | rw [jk_row_same] | rw [jk_row_ne _ _ (by omega)]); (try simp only [md_runG, jk_set]); (repeat first | rw [if_pos (by first | omega | trivial)] | rw [if_neg (by omega)]); all_goals (first | exact a3 | omega)⟩, cl_Bs hB (by (repeat first | rw [jk_row_same] | rw [jk_row_ne _ _ (by omega)])) (by (repeat first | rw [jk_row_same] | rw [jk_row_ne _ _ (by omega)])) (fun i hi9 => by unfold md_runG; (try simp only [jk_set]); (repeat first | rw [if_pos (by first | omega | trivial)] | rw [if_neg (by omega)])) (by omega), fun l2 hl => by
    rw [show md_runG g l b 1 = g 1 by unfold md_runG; (try simp only [jk_set]); (repeat first | rw [if_pos (by first | omega | trivial)] | rw [if_neg (by omega)])] at hl
    obtain ⟨c1, c2, c3, c4, c5, c6, c7, c8⟩ := hC l2 hl
    (repeat first | rw [jk_row_same] | rw [jk_row_ne _ _ (by omega)])
    by_cases e : l2 = l
    · subst e; unfold md_runG; (try simp only [jk_set]); (repeat first | rw [if_pos (by first | omega | trivial)] | rw [if_neg (by omega)]); exact ⟨c1, c2, c3, c4, ⟨fun _ => rfl, hb.1, hb.2⟩, rfl, c7, c8⟩
    · unfold md_runG; (try simp only [jk_set]); (repeat first | rw [if_pos (by first | omega | trivial)] | rw [if_neg (by omega)]); exact ⟨c1, c2, c3, c4, c5, c6, c7, c8⟩, cl_Ds hD (by (repeat first | rw [jk_row_same] | rw [jk_row_ne _ _ (by omega)])) (by (repeat first | rw [jk_row_same] | rw [jk_row_ne _ _ (by omega)])) (fun q hq9 => ⟨by (repeat first | rw [jk_row_same] | rw [jk_row_ne _ _ (by omega)]), by (repeat first | rw [jk_row_same] | rw [jk_row_ne _ _ (by omega)])⟩) (fun i hi9 => by unfold md_runG; (try simp only [jk_set]); (repeat first | rw [if_pos (by first | omega | trivial)] | rw [if_neg (by omega)])) (by omega) (fun q hq9 => (hst q hq9).1.2)⟩, cl_nn_same (fun q hq9 => by (repeat first | rw [jk_row_same] | rw [jk_row_ne _ _ (by omega)])), fun a ha => by (repeat first | rw [jk_row_same] | rw [jk_row_ne _ _ (by omega)])⟩
theorem cl_up_mark {σ : jk_I} {s n : Nat} {t : jk_T} {ρ : jk_P} {g : Int → Int} {B l w : Int} (ha : md_all B g) (hr : cl_rel σ s g) (h : 0 ≤ l ∧ l < g 1) : cl_upQ s (jk_set g (120 + l) w) (md_goods (jk_set g (120 + l) w)) σ n t ρ (some (jI (md_goods (jk_set g (120 + l) w)))) n t (jk_row (σ) (s + 18) (jk_set (σ (s + 18)) (l) (w))) ρ := by
  obtain ⟨hi, hw, hx, hzf, hun⟩ := ha
  obtain ⟨⟨a0, a1, a2, a3⟩, hB, hC, hD⟩ := hr
  have i0 := hi.1
  have i1 := hi.2.1
  have i2 := hi.2.2.1
  have i3 := hi.2.2.2.1
  have hst := hi.2.2.2.2.2.2.2.1
  refine ⟨rfl, rfl, rfl, rfl, ⟨⟨by (repeat first | rw [jk_row_same] | rw [jk_row_ne _ _ (by omega)]); (try simp only [jk_set]); (repeat first | rw [if_pos (by first | omega | trivial)] | rw [if_neg (by omega)]); all_goals (first | exact a0 | omega), by (repeat first | rw [jk_row_same] | rw [jk_row_ne _ _ (by omega)]); (try simp only [jk_set]); (repeat first | rw [if_pos (by first | omega | trivial)] | rw [if_neg (by omega)]); all_goals (first | exact a1 | omega), by (repeat first | rw [jk_row_same] | rw [jk_row_ne _ _ (by omega)]); (try simp only [jk_set]); (repeat first | rw [if_pos (by first | omega | trivial)] | rw [if_neg (by omega)]); all_goals (first | exact a2 | omega), by (repeat first | rw [jk_row_same] | rw [jk_row_ne _ _ (by omega)]); (try simp only [jk_set]); (repeat first | rw [if_pos (by first | omega | trivial)] | rw [if_neg (by omega)]); all_goals (first | exact a3 | omega)⟩, cl_Bs hB (by (repeat first | rw [jk_row_same] | rw [jk_row_ne _ _ (by omega)])) (by (repeat first | rw [jk_row_same] | rw [jk_row_ne _ _ (by omega)])) (fun i hi9 => by (try simp only [jk_set]); (repeat first | rw [if_pos (by first | omega | trivial)] | rw [if_neg (by omega)])) (by omega), fun l2 hl => by
    rw [show jk_set g (120 + l) w 1 = g 1 by (try simp only [jk_set]); (repeat first | rw [if_pos (by first | omega | trivial)] | rw [if_neg (by omega)])] at hl
    obtain ⟨c1, c2, c3, c4, c5, c6, c7, c8⟩ := hC l2 hl
    (repeat first | rw [jk_row_same] | rw [jk_row_ne _ _ (by omega)])
    by_cases e : l2 = l
    · subst e; (try simp only [jk_set]); (repeat first | rw [if_pos (by first | omega | trivial)] | rw [if_neg (by omega)]); exact ⟨c1, c2, c3, c4, c5, c6, rfl, c8⟩
    · (try simp only [jk_set]); (repeat first | rw [if_pos (by first | omega | trivial)] | rw [if_neg (by omega)]); exact ⟨c1, c2, c3, c4, c5, c6, c7, c8⟩, cl_Ds hD (by (repeat first | rw [jk_row_same] | rw [jk_row_ne _ _ (by omega)])) (by (repeat first | rw [jk_row_same] | rw [jk_row_ne _ _ (by omega)])) (fun q hq9 => ⟨by (repeat first | rw [jk_row_same] | rw [jk_row_ne _ _ (by omega)]), by (repeat first | rw [jk_row_same] | rw [jk_row_ne _ _ (by omega)])⟩) (fun i hi9 => by (try simp only [jk_set]); (repeat first | rw [if_pos (by first | omega | trivial)] | rw [if_neg (by omega)])) (by omega) (fun q hq9 => (hst q hq9).1.2)⟩, cl_nn_same (fun q hq9 => by (repeat first | rw [jk_row_same] | rw [jk_row_ne _ _ (by omega)])), fun a ha => by (repeat first | rw [jk_row_same] | rw [jk_row_ne _ _ (by omega)])⟩
theorem cl_up_profile {σ : jk_I} {s n : Nat} {t : jk_T} {ρ : jk_P} {g : Int → Int} {B p : Int} (ha : md_all B g) (hr : cl_rel σ s g) (h : g 2 < 4) : cl_upQ s (jk_set (jk_set g (152 + g 2) p) 2 (g 2 + 1)) (g 2) σ n t ρ (some (jI (g 2))) n t (jk_row (jk_row (jk_row (σ) (s + 22) (jk_set (σ (s + 22)) (g 2) (p))) (s + 24) (jk_set (σ (s + 24)) (g 2) (0))) s (jk_set (σ s) 12 (g 2 + 1))) ρ := by
  obtain ⟨hi, hw, hx, hzf, hun⟩ := ha
  obtain ⟨⟨a0, a1, a2, a3⟩, hB, hC, hD⟩ := hr
  have i0 := hi.1
  have i1 := hi.2.1
  have i2 := hi.2.2.1
  have i3 := hi.2.2.2.1
  have hst := hi.2.2.2.2.2.2.2.1
  refine ⟨rfl, rfl, rfl, rfl, ⟨⟨by (repeat first | rw [jk_row_same] | rw [jk_row_ne _ _ (by omega)]); (try simp only [jk_set]); (repeat first | rw [if_pos (by first | omega | trivial)] | rw [if_neg (by omega)]); all_goals (first | exact a0 | omega), by (repeat first | rw [jk_row_same] | rw [jk_row_ne _ _ (by omega)]); (try simp only [jk_set]); (repeat first | rw [if_pos (by first | omega | trivial)] | rw [if_neg (by omega)]); all_goals (first | exact a1 | omega), by (repeat first | rw [jk_row_same] | rw [jk_row_ne _ _ (by omega)]); (try simp only [jk_set]); (repeat first | rw [if_pos (by first | omega | trivial)] | rw [if_neg (by omega)]); all_goals (first | exact a2 | omega), by (repeat first | rw [jk_row_same] | rw [jk_row_ne _ _ (by omega)]); (try simp only [jk_set]); (repeat first | rw [if_pos (by first | omega | trivial)] | rw [if_neg (by omega)]); all_goals (first | exact a3 | omega)⟩, cl_Bs hB (by (repeat first | rw [jk_row_same] | rw [jk_row_ne _ _ (by omega)])) (by (repeat first | rw [jk_row_same] | rw [jk_row_ne _ _ (by omega)])) (fun i hi9 => by (try simp only [jk_set]); (repeat first | rw [if_pos (by first | omega | trivial)] | rw [if_neg (by omega)])) (by omega), cl_Cs hC ⟨by (repeat first | rw [jk_row_same] | rw [jk_row_ne _ _ (by omega)]), by (repeat first | rw [jk_row_same] | rw [jk_row_ne _ _ (by omega)]), by (repeat first | rw [jk_row_same] | rw [jk_row_ne _ _ (by omega)]), by (repeat first | rw [jk_row_same] | rw [jk_row_ne _ _ (by omega)]), by (repeat first | rw [jk_row_same] | rw [jk_row_ne _ _ (by omega)]), by (repeat first | rw [jk_row_same] | rw [jk_row_ne _ _ (by omega)]), by (repeat first | rw [jk_row_same] | rw [jk_row_ne _ _ (by omega)]), by (repeat first | rw [jk_row_same] | rw [jk_row_ne _ _ (by omega)])⟩ (fun i hi9 => by (try simp only [jk_set]); (repeat first | rw [if_pos (by first | omega | trivial)] | rw [if_neg (by omega)])) (by omega), fun q hq => by
    rw [jk_set_at] at hq
    have hu := hun.2.2 (g 2) ⟨by omega, by omega⟩
    (repeat first | rw [jk_row_same] | rw [jk_row_ne _ _ (by omega)])
    by_cases e : (q : Int) = g 2
    · rw [e]; (try simp only [jk_set]); (repeat first | rw [if_pos (by first | omega | trivial)] | rw [if_neg (by omega)]); exact ⟨rfl, hu.symm, fun k hk => by omega⟩
    · have hs9 := hst (q : Int) ⟨by omega, by omega⟩
      obtain ⟨d1, d2, d3⟩ := hD q (by omega)
      refine ⟨by (try simp only [jk_set]); (repeat first | rw [if_pos (by first | omega | trivial)] | rw [if_neg (by omega)]); exact d1, by (try simp only [jk_set]); (repeat first | rw [if_pos (by first | omega | trivial)] | rw [if_neg (by omega)]); exact d2, fun k hk => ?_⟩
      rw [show jk_set (jk_set g (152 + g 2) p) 2 (g 2 + 1) (156 + (q : Int)) = g (156 + (q : Int)) by (try simp only [jk_set]); (repeat first | rw [if_pos (by first | omega | trivial)] | rw [if_neg (by omega)])] at hk
      have d4 := d3 k hk
      (try simp only [jk_set]); (repeat first | rw [if_pos (by first | omega | trivial)] | rw [if_neg (by omega)]); exact d4⟩, cl_nn_same (fun q hq9 => by (repeat first | rw [jk_row_same] | rw [jk_row_ne _ _ (by omega)])), fun a ha => by (repeat first | rw [jk_row_same] | rw [jk_row_ne _ _ (by omega)])⟩
theorem cl_up_station {σ : jk_I} {s n : Nat} {t : jk_T} {ρ : jk_P} {g : Int → Int} {B d f : Int} (ha : md_all B g) (hr : cl_rel σ s g) {q : Nat} (h : (q : Int) < g 2) (h10 : g (156 + (q : Int)) < 10) (hd : 0 ≤ d ∧ d ≤ 99) : cl_upQ s (md_stG g (q : Int) d f) (g (156 + (q : Int)) + 1) σ n t ρ (some (jI (g (156 + (q : Int)) + 1))) n t (jk_row (jk_row (jk_row σ (s + (28 + 2 * q)) (jk_set (σ (s + (28 + 2 * q))) (g (156 + (q : Int))) d)) (s + (38 + 2 * q)) (jk_set (σ (s + (38 + 2 * q))) (g (156 + (q : Int))) f)) (s + 24) (jk_set (σ (s + 24)) (q : Int) (g (156 + (q : Int)) + 1))) ρ := by
  obtain ⟨hi, hw, hx, hzf, hun⟩ := ha
  obtain ⟨⟨a0, a1, a2, a3⟩, hB, hC, hD⟩ := hr
  have i0 := hi.1
  have i1 := hi.2.1
  have i2 := hi.2.2.1
  have i3 := hi.2.2.2.1
  have hst := hi.2.2.2.2.2.2.2.1
  have hsq := hst (q : Int) ⟨by omega, by omega⟩
  refine ⟨rfl, rfl, rfl, rfl, ⟨⟨by (repeat first | rw [jk_row_same] | rw [jk_row_ne _ _ (by omega)]); (try simp only [md_stG, jk_set]); (repeat first | rw [if_pos (by first | omega | trivial)] | rw [if_neg (by omega)]); all_goals (first | exact a0 | omega), by (repeat first | rw [jk_row_same] | rw [jk_row_ne _ _ (by omega)]); (try simp only [md_stG, jk_set]); (repeat first | rw [if_pos (by first | omega | trivial)] | rw [if_neg (by omega)]); all_goals (first | exact a1 | omega), by (repeat first | rw [jk_row_same] | rw [jk_row_ne _ _ (by omega)]); (try simp only [md_stG, jk_set]); (repeat first | rw [if_pos (by first | omega | trivial)] | rw [if_neg (by omega)]); all_goals (first | exact a2 | omega), by (repeat first | rw [jk_row_same] | rw [jk_row_ne _ _ (by omega)]); (try simp only [md_stG, jk_set]); (repeat first | rw [if_pos (by first | omega | trivial)] | rw [if_neg (by omega)]); all_goals (first | exact a3 | omega)⟩, cl_Bs hB (by (repeat first | rw [jk_row_same] | rw [jk_row_ne _ _ (by omega)])) (by (repeat first | rw [jk_row_same] | rw [jk_row_ne _ _ (by omega)])) (fun i hi9 => by unfold md_stG; (try simp only [jk_set]); (repeat first | rw [if_pos (by first | omega | trivial)] | rw [if_neg (by omega)])) (by omega), cl_Cs hC ⟨by (repeat first | rw [jk_row_same] | rw [jk_row_ne _ _ (by omega)]), by (repeat first | rw [jk_row_same] | rw [jk_row_ne _ _ (by omega)]), by (repeat first | rw [jk_row_same] | rw [jk_row_ne _ _ (by omega)]), by (repeat first | rw [jk_row_same] | rw [jk_row_ne _ _ (by omega)]), by (repeat first | rw [jk_row_same] | rw [jk_row_ne _ _ (by omega)]), by (repeat first | rw [jk_row_same] | rw [jk_row_ne _ _ (by omega)]), by (repeat first | rw [jk_row_same] | rw [jk_row_ne _ _ (by omega)]), by (repeat first | rw [jk_row_same] | rw [jk_row_ne _ _ (by omega)])⟩ (fun i hi9 => by unfold md_stG; (try simp only [jk_set]); (repeat first | rw [if_pos (by first | omega | trivial)] | rw [if_neg (by omega)])) (by omega), fun q2 hq => by
    rw [show md_stG g (q : Int) d f 2 = g 2 by unfold md_stG; (try simp only [jk_set]); (repeat first | rw [if_pos (by first | omega | trivial)] | rw [if_neg (by omega)])] at hq
    have hs8 := hst (q : Int) ⟨by omega, by omega⟩
    have hs9 := hst (q2 : Int) ⟨by omega, by omega⟩
    obtain ⟨d1, d2, d3⟩ := hD q2 (by omega)
    by_cases e : q2 = q
    · subst e
      refine ⟨by (repeat first | rw [jk_row_same] | rw [jk_row_ne _ _ (by omega)]); unfold md_stG; (try simp only [jk_set]); (repeat first | rw [if_pos (by first | omega | trivial)] | rw [if_neg (by omega)]); exact d1, by (repeat first | rw [jk_row_same] | rw [jk_row_ne _ _ (by omega)]); unfold md_stG; (try simp only [jk_set]); (repeat first | rw [if_pos (by first | omega | trivial)] | rw [if_neg (by omega)]), fun k hk => ?_⟩
      rw [show md_stG g (q2 : Int) d f (156 + (q2 : Int)) = g (156 + (q2 : Int)) + 1 by unfold md_stG; (try simp only [jk_set]); (repeat first | rw [if_pos (by first | omega | trivial)] | rw [if_neg (by omega)])] at hk
      (repeat first | rw [jk_row_same] | rw [jk_row_ne _ _ (by omega)])
      by_cases ek : k = g (156 + (q2 : Int))
      · rw [ek]; unfold md_stG; (try simp only [jk_set]); (repeat first | rw [if_pos (by first | omega | trivial)] | rw [if_neg (by omega)]); exact ⟨rfl, rfl⟩
      · have d4 := d3 k ⟨by omega, by omega⟩
        unfold md_stG; (try simp only [jk_set]); (repeat first | rw [if_pos (by first | omega | trivial)] | rw [if_neg (by omega)]); exact d4
    · refine ⟨by (repeat first | rw [jk_row_same] | rw [jk_row_ne _ _ (by omega)]); unfold md_stG; (try simp only [jk_set]); (repeat first | rw [if_pos (by first | omega | trivial)] | rw [if_neg (by omega)]); exact d1, by (repeat first | rw [jk_row_same] | rw [jk_row_ne _ _ (by omega)]); unfold md_stG; (try simp only [jk_set]); (repeat first | rw [if_pos (by first | omega | trivial)] | rw [if_neg (by omega)]); exact d2, fun k hk => ?_⟩
      rw [show md_stG g (q : Int) d f (156 + (q2 : Int)) = g (156 + (q2 : Int)) by unfold md_stG; (try simp only [jk_set]); (repeat first | rw [if_pos (by first | omega | trivial)] | rw [if_neg (by omega)])] at hk
      have d4 := d3 k hk
      (repeat first | rw [jk_row_same] | rw [jk_row_ne _ _ (by omega)])
      unfold md_stG; (try simp only [jk_set]); (repeat first | rw [if_pos (by first | omega | trivial)] | rw [if_neg (by omega)]); exact d4⟩, fun hn q2 hq2 => by
    by_cases e : q2 = q
    · subst e
      (repeat first | rw [jk_row_same] | rw [jk_row_ne _ _ (by omega)])
      by_cases e0 : g (156 + (q2 : Int)) = 0
      · rw [e0, jk_set_at]; omega
      · rw [jk_set_ne _ _ (by omega)]; exact hn q2 hq2
    · (repeat first | rw [jk_row_same] | rw [jk_row_ne _ _ (by omega)]); exact hn q2 hq2, fun a ha => by (repeat first | rw [jk_row_same] | rw [jk_row_ne _ _ (by omega)])⟩
theorem cl_up_water {σ : jk_I} {s n : Nat} {t : jk_T} {ρ : jk_P} {g : Int → Int} {B w : Int} (ha : md_all B g) (hr : cl_rel σ s g)  : cl_upQ s (jk_set g 3 w) (g 3) σ n t ρ (some (jI (g 3))) n t (jk_row σ s (jk_set (σ s) 17 w)) ρ := by
  obtain ⟨hi, hw, hx, hzf, hun⟩ := ha
  obtain ⟨⟨a0, a1, a2, a3⟩, hB, hC, hD⟩ := hr
  have i0 := hi.1
  have i1 := hi.2.1
  have i2 := hi.2.2.1
  have i3 := hi.2.2.2.1
  have hst := hi.2.2.2.2.2.2.2.1
  refine ⟨rfl, rfl, rfl, rfl, ⟨⟨by (repeat first | rw [jk_row_same] | rw [jk_row_ne _ _ (by omega)]); (try simp only [jk_set]); (repeat first | rw [if_pos (by first | omega | trivial)] | rw [if_neg (by omega)]); all_goals (first | exact a0 | omega), by (repeat first | rw [jk_row_same] | rw [jk_row_ne _ _ (by omega)]); (try simp only [jk_set]); (repeat first | rw [if_pos (by first | omega | trivial)] | rw [if_neg (by omega)]); all_goals (first | exact a1 | omega), by (repeat first | rw [jk_row_same] | rw [jk_row_ne _ _ (by omega)]); (try simp only [jk_set]); (repeat first | rw [if_pos (by first | omega | trivial)] | rw [if_neg (by omega)]); all_goals (first | exact a2 | omega), by (repeat first | rw [jk_row_same] | rw [jk_row_ne _ _ (by omega)]); (try simp only [jk_set]); (repeat first | rw [if_pos (by first | omega | trivial)] | rw [if_neg (by omega)]); all_goals (first | exact a3 | omega)⟩, cl_Bs hB (by (repeat first | rw [jk_row_same] | rw [jk_row_ne _ _ (by omega)])) (by (repeat first | rw [jk_row_same] | rw [jk_row_ne _ _ (by omega)])) (fun i hi9 => by (try simp only [jk_set]); (repeat first | rw [if_pos (by first | omega | trivial)] | rw [if_neg (by omega)])) (by omega), cl_Cs hC ⟨by (repeat first | rw [jk_row_same] | rw [jk_row_ne _ _ (by omega)]), by (repeat first | rw [jk_row_same] | rw [jk_row_ne _ _ (by omega)]), by (repeat first | rw [jk_row_same] | rw [jk_row_ne _ _ (by omega)]), by (repeat first | rw [jk_row_same] | rw [jk_row_ne _ _ (by omega)]), by (repeat first | rw [jk_row_same] | rw [jk_row_ne _ _ (by omega)]), by (repeat first | rw [jk_row_same] | rw [jk_row_ne _ _ (by omega)]), by (repeat first | rw [jk_row_same] | rw [jk_row_ne _ _ (by omega)]), by (repeat first | rw [jk_row_same] | rw [jk_row_ne _ _ (by omega)])⟩ (fun i hi9 => by (try simp only [jk_set]); (repeat first | rw [if_pos (by first | omega | trivial)] | rw [if_neg (by omega)])) (by omega), cl_Ds hD (by (repeat first | rw [jk_row_same] | rw [jk_row_ne _ _ (by omega)])) (by (repeat first | rw [jk_row_same] | rw [jk_row_ne _ _ (by omega)])) (fun q hq9 => ⟨by (repeat first | rw [jk_row_same] | rw [jk_row_ne _ _ (by omega)]), by (repeat first | rw [jk_row_same] | rw [jk_row_ne _ _ (by omega)])⟩) (fun i hi9 => by (try simp only [jk_set]); (repeat first | rw [if_pos (by first | omega | trivial)] | rw [if_neg (by omega)])) (by omega) (fun q hq9 => (hst q hq9).1.2)⟩, cl_nn_same (fun q hq9 => by (repeat first | rw [jk_row_same] | rw [jk_row_ne _ _ (by omega)])), fun a ha => by (repeat first | rw [jk_row_same] | rw [jk_row_ne _ _ (by omega)])⟩
theorem cl_up_clear {σ : jk_I} {s n : Nat} {t : jk_T} {ρ : jk_P} {g : Int → Int} {B  : Int} (ha : md_all B g) (hr : cl_rel σ s g)  : cl_upQ s (md_clr g (g 1)) (jk_sum (fun l => if g (136 + l) = 0 then 0 else 1) (g 1).toNat) σ n t ρ (some (jI (jk_sum (fun l => if g (136 + l) = 0 then 0 else 1) (g 1).toNat))) n t (jk_row σ (s + 20) (fun l => if 0 ≤ l ∧ l < g 1 then 0 else σ (s + 20) l)) ρ := by
  obtain ⟨hi, hw, hx, hzf, hun⟩ := ha
  obtain ⟨⟨a0, a1, a2, a3⟩, hB, hC, hD⟩ := hr
  have i0 := hi.1
  have i1 := hi.2.1
  have i2 := hi.2.2.1
  have i3 := hi.2.2.2.1
  have hst := hi.2.2.2.2.2.2.2.1
  refine ⟨rfl, rfl, rfl, rfl, ⟨⟨by (repeat first | rw [jk_row_same] | rw [jk_row_ne _ _ (by omega)]); (try simp only [md_clr]); (repeat first | rw [if_pos (by first | omega | trivial)] | rw [if_neg (by omega)]); all_goals (first | exact a0 | omega), by (repeat first | rw [jk_row_same] | rw [jk_row_ne _ _ (by omega)]); (try simp only [md_clr]); (repeat first | rw [if_pos (by first | omega | trivial)] | rw [if_neg (by omega)]); all_goals (first | exact a1 | omega), by (repeat first | rw [jk_row_same] | rw [jk_row_ne _ _ (by omega)]); (try simp only [md_clr]); (repeat first | rw [if_pos (by first | omega | trivial)] | rw [if_neg (by omega)]); all_goals (first | exact a2 | omega), by (repeat first | rw [jk_row_same] | rw [jk_row_ne _ _ (by omega)]); (try simp only [md_clr]); (repeat first | rw [if_pos (by first | omega | trivial)] | rw [if_neg (by omega)]); all_goals (first | exact a3 | omega)⟩, cl_Bs hB (by (repeat first | rw [jk_row_same] | rw [jk_row_ne _ _ (by omega)])) (by (repeat first | rw [jk_row_same] | rw [jk_row_ne _ _ (by omega)])) (fun i hi9 => by unfold md_clr; rw [if_neg (by omega)]) (by omega), fun l hl => by
    rw [show md_clr g (g 1) 1 = g 1 by unfold md_clr; rw [if_neg (by omega)]] at hl
    obtain ⟨c1, c2, c3, c4, c5, c6, c7, c8⟩ := hC l hl
    (repeat first | rw [jk_row_same] | rw [jk_row_ne _ _ (by omega)])
    unfold md_clr
    (repeat first | rw [if_pos (by omega)] | rw [if_neg (by omega)])
    exact ⟨c1, c2, c3, c4, c5, c6, c7, rfl⟩, cl_Ds hD (by (repeat first | rw [jk_row_same] | rw [jk_row_ne _ _ (by omega)])) (by (repeat first | rw [jk_row_same] | rw [jk_row_ne _ _ (by omega)])) (fun q hq9 => ⟨by (repeat first | rw [jk_row_same] | rw [jk_row_ne _ _ (by omega)]), by (repeat first | rw [jk_row_same] | rw [jk_row_ne _ _ (by omega)])⟩) (fun i hi9 => by unfold md_clr; rw [if_neg (by omega)]) (by omega) (fun q hq9 => (hst q hq9).1.2)⟩, cl_nn_same (fun q hq9 => by (repeat first | rw [jk_row_same] | rw [jk_row_ne _ _ (by omega)])), fun a ha => by (repeat first | rw [jk_row_same] | rw [jk_row_ne _ _ (by omega)])⟩
end CD0
