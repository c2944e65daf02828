section E0
/-- profiles lie at benchmarks -/
def md_sit (g : Int → Int) : Prop := ∀ q, 0 ≤ q ∧ q < g 2 → g (152 + q) < g 0
theorem md_sit_k {g g' : Int → Int} (h : md_sit g) (h4 : g 2 ≤ 4) (h0 : g 0 ≤ g' 0) (h2 : g' 2 = g 2) (hs : ∀ i, 152 ≤ i ∧ i < 156 → g' i = g i) : md_sit g' := fun q hq => by
  rw [h2] at hq
  rw [hs (152 + q) (by omega)]
  have := h q hq
  omega
theorem md_sit_new : md_sit (fun _ => 0) := fun q hq => absurd hq.2 (by show ¬ q < 0; omega)
theorem md_sit_points {B : Int} {g : Int → Int} (hi : md_inv B g) (h : md_sit g)  : md_sit (md_addsPoint g).2.2 := by
  have i0 := hi.1
  have i1 := hi.2.1
  have i2 := hi.2.2.1
  unfold md_addsPoint
  split
  · exact h
  · rename_i h9
    exact md_sit_k h i2.2 (by (try simp only [jk_set]); (repeat first | rw [if_pos (by first | omega | trivial)] | rw [if_neg (by omega)]); all_goals omega) (by (try simp only [jk_set]); (repeat first | rw [if_pos (by first | omega | trivial)] | rw [if_neg (by omega)]); all_goals rfl) (fun i hi9 => by (try simp only [jk_set]); (repeat first | rw [if_pos (by first | omega | trivial)] | rw [if_neg (by omega)]); all_goals rfl)
theorem md_sit_fixes {B : Int} {g : Int → Int} (hi : md_inv B g) (h : md_sit g) (p v : Int) : md_sit (md_fixes g p v).2.2 := by
  have i0 := hi.1
  have i1 := hi.2.1
  have i2 := hi.2.2.1
  unfold md_fixes
  split
  · exact h
  · rename_i h9
    have e1 := md_inT (by simpa using h9 : md_in p 0 (g 0 - 1) = true)
    split
    · exact h
    · exact md_sit_k h i2.2 (by unfold md_fixG; (try simp only [jk_set]); (repeat first | rw [if_pos (by first | omega | trivial)] | rw [if_neg (by omega)]); all_goals omega) (by unfold md_fixG; (try simp only [jk_set]); (repeat first | rw [if_pos (by first | omega | trivial)] | rw [if_neg (by omega)]); all_goals rfl) (fun i hi9 => by unfold md_fixG; (try simp only [jk_set]); (repeat first | rw [if_pos (by first | omega | trivial)] | rw [if_neg (by omega)]); all_goals rfl)
theorem md_sit_rels {B : Int} {g : Int → Int} (hi : md_inv B g) (h : md_sit g) (p : Int) : md_sit (md_releases g p).2.2 := by
  have i0 := hi.1
  have i1 := hi.2.1
  have i2 := hi.2.2.1
  unfold md_releases
  split
  · exact h
  · rename_i h9
    have e1 := md_inT (by simpa using h9 : md_in p 0 (g 0 - 1) = true)
    split
    · exact h
    · exact md_sit_k h i2.2 (by (try simp only [jk_set]); (repeat first | rw [if_pos (by first | omega | trivial)] | rw [if_neg (by omega)]); all_goals omega) (by (try simp only [jk_set]); (repeat first | rw [if_pos (by first | omega | trivial)] | rw [if_neg (by omega)]); all_goals rfl) (fun i hi9 => by (try simp only [jk_set]); (repeat first | rw [if_pos (by first | omega | trivial)] | rw [if_neg (by omega)]); all_goals rfl)
theorem md_sit_lines {B : Int} {g : Int → Int} (hi : md_inv B g) (h : md_sit g) (a b f len : Int) : md_sit (md_addsLine g a b f len).2.2 := by
  have i0 := hi.1
  have i1 := hi.2.1
  have i2 := hi.2.2.1
  unfold md_addsLine
  split
  · exact h
  · rename_i h9
    split
    · exact h
    · rename_i h9
      split
      · exact h
      · rename_i h9
        exact md_sit_k h i2.2 (by (try simp only [jk_set]); (repeat first | rw [if_pos (by first | omega | trivial)] | rw [if_neg (by omega)]); all_goals omega) (by (try simp only [jk_set]); (repeat first | rw [if_pos (by first | omega | trivial)] | rw [if_neg (by omega)]); all_goals rfl) (fun i hi9 => by (try simp only [jk_set]); (repeat first | rw [if_pos (by first | omega | trivial)] | rw [if_neg (by omega)]); all_goals rfl)
theorem md_sit_runs {B : Int} {g : Int → Int} (hi : md_inv B g) (h : md_sit g) (l b : Int) : md_sit (md_addsRun g l b).2.2 := by
  have i0 := hi.1
  have i1 := hi.2.1
  have i2 := hi.2.2.1
  unfold md_addsRun
  split
  · exact h
  · rename_i h9
    have e1 := md_inT (by simpa using h9 : md_in l 0 (g 1 - 1) = true)
    split
    · exact h
    · split
      · exact h
      · exact md_sit_k h i2.2 (by unfold md_runG; (try simp only [jk_set]); (repeat first | rw [if_pos (by first | omega | trivial)] | rw [if_neg (by omega)]); all_goals omega) (by unfold md_runG; (try simp only [jk_set]); (repeat first | rw [if_pos (by first | omega | trivial)] | rw [if_neg (by omega)]); all_goals rfl) (fun i hi9 => by unfold md_runG; (try simp only [jk_set]); (repeat first | rw [if_pos (by first | omega | trivial)] | rw [if_neg (by omega)]); all_goals rfl)
theorem md_sit_marks {B : Int} {g : Int → Int} (hi : md_inv B g) (h : md_sit g) (l w : Int) : md_sit (md_marks g l w).2.2 := by
  have i0 := hi.1
  have i1 := hi.2.1
  have i2 := hi.2.2.1
  unfold md_marks
  split
  · exact h
  · rename_i h9
    have e1 := md_inT (by simpa using h9 : md_in l 0 (g 1 - 1) = true)
    split
    · exact h
    · exact md_sit_k h i2.2 (by (try simp only [jk_set]); (repeat first | rw [if_pos (by first | omega | trivial)] | rw [if_neg (by omega)]); all_goals omega) (by (try simp only [jk_set]); (repeat first | rw [if_pos (by first | omega | trivial)] | rw [if_neg (by omega)]); all_goals rfl) (fun i hi9 => by (try simp only [jk_set]); (repeat first | rw [if_pos (by first | omega | trivial)] | rw [if_neg (by omega)]); all_goals rfl)
theorem md_sit_resets {B : Int} {g : Int → Int} (hi : md_inv B g) (h : md_sit g)  : md_sit (md_resets g).2.2 := by
  have i0 := hi.1
  have i1 := hi.2.1
  have i2 := hi.2.2.1
  unfold md_resets
  show md_sit (md_clr g (g 1))
  exact md_sit_k h i2.2 (by unfold md_clr; rw [if_neg (by omega)]; exact Int.le_refl _) (by unfold md_clr; rw [if_neg (by omega)]) (fun i hi9 => by unfold md_clr; rw [if_neg (by omega)])
theorem md_sit_profs {B : Int} {g : Int → Int} (hi : md_inv B g) (h : md_sit g) (p : Int) : md_sit (md_addsProfile g p).2.2 := by
  have i0 := hi.1
  have i1 := hi.2.1
  have i2 := hi.2.2.1
  unfold md_addsProfile
  split
  · exact h
  · rename_i h9
    have e1 := md_inT (by simpa using h9 : md_in p 0 (g 0 - 1) = true)
    split
    · exact h
    · rename_i h8
      intro q hq
      have hq : 0 ≤ q ∧ q < jk_set (jk_set g (152 + g 2) p) 2 (g 2 + 1) 2 := hq
      rw [jk_set_at] at hq
      show jk_set (jk_set g (152 + g 2) p) 2 (g 2 + 1) (152 + q) < jk_set (jk_set g (152 + g 2) p) 2 (g 2 + 1) 0
      rw [jk_set_ne _ _ (by omega), jk_set_ne _ _ (show ¬ (0 : Int) = 2 by decide), jk_set_ne _ _ (show ¬ (0 : Int) = 152 + g 2 by omega)]
      by_cases e : q = g 2
      · rw [e, jk_set_at]; omega
      · rw [jk_set_ne _ _ (by omega)]; exact h q ⟨by omega, by omega⟩
theorem md_sit_stats {B : Int} {g : Int → Int} (hi : md_inv B g) (h : md_sit g) (q d f : Int) : md_sit (md_addsStation g q d f).2.2 := by
  have i0 := hi.1
  have i1 := hi.2.1
  have i2 := hi.2.2.1
  unfold md_addsStation
  split
  · exact h
  · rename_i h9
    have e1 := md_inT (by simpa using h9 : md_in q 0 (g 2 - 1) = true)
    have hst := (hi.2.2.2.2.2.2.2.1 q ⟨by omega, by omega⟩).1
    split
    · exact h
    · split
      · exact h
      · rename_i h7
        exact md_sit_k h i2.2 (by unfold md_stG; (try simp only [jk_set]); (repeat first | rw [if_pos (by first | omega | trivial)] | rw [if_neg (by omega)]); all_goals omega) (by unfold md_stG; (try simp only [jk_set]); (repeat first | rw [if_pos (by first | omega | trivial)] | rw [if_neg (by omega)]); all_goals rfl) (fun i hi9 => by unfold md_stG; (try simp only [jk_set]); (repeat first | rw [if_pos (by first | omega | trivial)] | rw [if_neg (by omega)]); all_goals rfl)
theorem md_sit_waters {B : Int} {g : Int → Int} (hi : md_inv B g) (h : md_sit g) (w : Int) : md_sit (md_setsWater g w).2.2 := by
  have i0 := hi.1
  have i1 := hi.2.1
  have i2 := hi.2.2.1
  unfold md_setsWater
  split
  · exact h
  · rename_i h9
    exact md_sit_k h i2.2 (by (try simp only [jk_set]); (repeat first | rw [if_pos (by first | omega | trivial)] | rw [if_neg (by omega)]); all_goals omega) (by (try simp only [jk_set]); (repeat first | rw [if_pos (by first | omega | trivial)] | rw [if_neg (by omega)]); all_goals rfl) (fun i hi9 => by (try simp only [jk_set]); (repeat first | rw [if_pos (by first | omega | trivial)] | rw [if_neg (by omega)]); all_goals rfl)
theorem md_sit_shares {B : Int} {g : Int → Int} (hi : md_inv B g) (h : md_sit g) (l : Int) : md_sit (md_shares g l).2.2 := by
  have i0 := hi.1
  have i1 := hi.2.1
  have i2 := hi.2.2.1
  unfold md_shares
  split
  · exact h
  · split
    · exact h
    · show md_sit (md_shk g _ _ _ (g 1))
      exact md_sit_k h i2.2 (by unfold md_shk; rw [if_neg (by omega)]; exact Int.le_refl _) (by unfold md_shk; rw [if_neg (by omega)]) (fun i hi9 => by unfold md_shk; rw [if_neg (by omega)])
theorem md_sit_do {B : Int} {g : Int → Int} (hi : md_inv B g) (h : md_sit g) (P : Int → Int) (k : Int) : md_sit (md_do P k g).2.2 := by
  unfold md_do
  (repeat' split) <;> first | exact md_sit_points hi h | exact md_sit_fixes hi h _ _ | exact md_sit_rels hi h _ | exact md_sit_lines hi h _ _ _ _ | exact md_sit_runs hi h _ _ | exact md_sit_marks hi h _ _ | exact md_sit_resets hi h | exact md_sit_profs hi h _ | exact md_sit_stats hi h _ _ _ | exact md_sit_waters hi h _ | exact md_sit_shares hi h _
theorem md_sit_cl {B : Int} {g : Int → Int} (hi : md_inv B g) (h : md_sit g) (k : Nat) (a b c d : Int) : md_sit (cl_do k g a b c d).2.2 := by
  unfold cl_do
  split <;> first | exact md_sit_points hi h | exact md_sit_fixes hi h _ _ | exact md_sit_rels hi h _ | exact md_sit_lines hi h _ _ _ _ | exact md_sit_runs hi h _ _ | exact md_sit_marks hi h _ _ | exact md_sit_resets hi h | exact md_sit_profs hi h _ | exact md_sit_stats hi h _ _ _ | exact md_sit_waters hi h _ | exact md_sit_shares hi h _
theorem md_all_cl {B : Int} {g : Int → Int} (h : md_all B g) (hB : B + 85 ≤ 1100000) (k : Nat) (a b c d : Int) : md_all (B + 85) (cl_do k g a b c d).2.2 := by
  have hu : ∀ {f}, md_all B f → md_all (B + 85) f := fun h => md_all_up h (by omega) hB
  unfold cl_do
  split <;> first | exact hu (md_all_points h) | exact hu (md_all_fixes h _ _) | exact hu (md_all_rels h _) | exact hu (md_all_lines h _ _ _ _) | exact hu (md_all_runs h _ _) | exact hu (md_all_marks h _ _ (by first | exact Or.inl rfl | exact Or.inr rfl)) | exact hu (md_all_clr h) | exact hu (md_all_profs h _) | exact hu (md_all_stats h _ _ _) | exact hu (md_all_waters h _) | exact md_all_shares h hB _
end E0
