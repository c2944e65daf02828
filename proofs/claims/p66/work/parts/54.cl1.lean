section CL1
/-- the class's Survey: where its arrays lie, and which they are -/
def cl_r : Int → Option Nat := fun i => match i with
  | 1 => some 2 | 2 => some 4 | 4 => some 6 | 5 => some 8 | 6 => some 10 | 7 => some 12 | 8 => some 14 | 9 => some 16 | 10 => some 18 | 11 => some 20 | 13 => some 22 | 14 => some 24 | 15 => some 26 | 16 => some 36 | _ => none
def cl_t : Nat → Option (FieldType × Nat ⊕ Nat) := fun k => match k with
  | 2 => some (.inl (.boolean, 10)) | 4 => some (.inl (.int, 10)) | 6 => some (.inl (.int, 16)) | 8 => some (.inl (.int, 16)) | 10 => some (.inl (.int, 16)) | 12 => some (.inl (.int, 16)) | 14 => some (.inl (.int, 16)) | 16 => some (.inl (.boolean, 16)) | 18 => some (.inl (.boolean, 16)) | 20 => some (.inl (.int, 16)) | 22 => some (.inl (.int, 4)) | 24 => some (.inl (.int, 4)) | 26 => some (.inl (.array .int, 4)) | 36 => some (.inl (.array .int, 4))
  | 28 => some (.inl (.int, 10)) | 30 => some (.inl (.int, 10)) | 32 => some (.inl (.int, 10)) | 34 => some (.inl (.int, 10)) | 38 => some (.inl (.int, 10)) | 40 => some (.inl (.int, 10)) | 42 => some (.inl (.int, 10)) | 44 => some (.inl (.int, 10)) | _ => none
def cl_at (t : jk_T) (ρ : jk_P) (s : Nat) : Prop := t s = some (.inr 9) ∧ (∀ k v, cl_t k = some v → t (s + k) = some v) ∧ (∀ i k, cl_r i = some k → ρ s i = some (s + k)) ∧ ∀ q : Nat, q < 4 → ρ (s + 26) (q : Int) = some (s + (28 + 2 * q)) ∧ ρ (s + 36) (q : Int) = some (s + (38 + 2 * q))
/-- a Survey at s holds what the model's state g says: only what is in use -/
def cl_rel (σ : jk_I) (s : Nat) (g : Int → Int) : Prop := (σ s 0 = g 0 ∧ σ s 3 = g 1 ∧ σ s 12 = g 2 ∧ σ s 17 = g 3) ∧ (∀ p, 0 ≤ p ∧ p < g 0 → σ (s + 2) p = g (4 + p) ∧ (g (4 + p) = 1 → σ (s + 4) p = g (14 + p))) ∧ (∀ l, 0 ≤ l ∧ l < g 1 → σ (s + 6) l = g (24 + l) ∧ σ (s + 8) l = g (40 + l) ∧ σ (s + 10) l = g (56 + l) ∧ σ (s + 12) l = g (72 + l) ∧ ((g (88 + l) = 1 → σ (s + 14) l = g (104 + l)) ∧ -9999 ≤ σ (s + 14) l ∧ σ (s + 14) l ≤ 9999) ∧ σ (s + 16) l = g (88 + l) ∧ σ (s + 18) l = g (120 + l) ∧ σ (s + 20) l = g (136 + l)) ∧ ∀ q : Nat, (q : Int) < g 2 → σ (s + 22) (q : Int) = g (152 + (q : Int)) ∧ σ (s + 24) (q : Int) = g (156 + (q : Int)) ∧ ∀ k, 0 ≤ k ∧ k < g (156 + (q : Int)) → σ (s + (28 + 2 * q)) k = g (160 + 10 * (q : Int) + k) ∧ σ (s + (38 + 2 * q)) k = g (200 + 10 * (q : Int) + k)
def cl_has (c v : Int) : Bool := decide (0 ≤ v ∧ v < c)
theorem c_X9_hasBenchmark {G : jk_G} {n : Nat} {t : jk_T} {σ : jk_I} {ρ : jk_P} {s : Nat} {g : Int → Int} {v : Int} (hs : cl_at t ρ s) (hr : cl_rel σ s g) (hv : jk_in v) (hg : jk_in (g 0)) : jk_K G yX9_hasBenchmark mX9_hasBenchmark 0 0 [.ref s, jI v] n t σ ρ (jk_q (some (jI (jB (cl_has (g 0) v)))) n t σ ρ) jk_no := by
  refine jk_entryB (ls := [some (.ref s), some (jI v)]) jm_X9_hasBenchmark.1 rfl rfl rfl ?_
  refine jk_iload_n (q := 1) dX9_hasBenchmark_0 rfl rfl ?_
  refine jk_if_lt (q := 16) (q2 := 4) dX9_hasBenchmark_1 rfl rfl (by first | assumption | decide | omega) (fun h1 => ?_) (fun h1 => ?_)
  · refine jk_iconst (q := 17) dX9_hasBenchmark_16 rfl ?_
    exact jk_zret rfl (by first | assumption | decide | omega) dX9_hasBenchmark_17 (by refine jk_qI ?_; unfold cl_has; first | (rw [decide_eq_true (by omega)]; rfl) | (rw [decide_eq_false (by omega)]; rfl))
  · refine jk_iload_n (q := 5) dX9_hasBenchmark_4 rfl rfl ?_
    refine jk_aload_n (q := 6) dX9_hasBenchmark_5 rfl rfl ?_
    refine jk_getIR (q := 9) (k := 9) 0 0 rfl (by first | exact hs.1 | exact hs.2.1 _ _ rfl | assumption) (by first | exact jk_row_same _ _ _ | rfl | (rewrite [jk_row_ne _ _ (by omega)]; first | exact jk_row_same _ _ _ | rfl | (rewrite [jk_row_ne _ _ (by omega)]; first | exact jk_row_same _ _ _ | rfl | (rewrite [jk_row_ne _ _ (by omega)]; first | exact jk_row_same _ _ _ | rfl | (rewrite [jk_row_ne _ _ (by omega)]; first | rfl | rfl))))) rfl rfl jw_56 dX9_hasBenchmark_6 rfl ?_
    rw [hr.1.1]
    refine jk_icmp_ge (q := 16) (q2 := 12) dX9_hasBenchmark_9 rfl rfl (by first | assumption | decide | omega) (by first | assumption | decide | omega) (fun h2 => ?_) (fun h2 => ?_)
    · refine jk_iconst (q := 17) dX9_hasBenchmark_16 rfl ?_
      exact jk_zret rfl (by first | assumption | decide | omega) dX9_hasBenchmark_17 (by refine jk_qI ?_; unfold cl_has; first | (rw [decide_eq_true (by omega)]; rfl) | (rw [decide_eq_false (by omega)]; rfl))
    · refine jk_iconst (q := 13) dX9_hasBenchmark_12 rfl ?_
      refine jk_goto (q := 17) dX9_hasBenchmark_13 rfl ?_
      exact jk_zret rfl (by first | assumption | decide | omega) dX9_hasBenchmark_17 (by refine jk_qI ?_; unfold cl_has; first | (rw [decide_eq_true (by omega)]; rfl) | (rw [decide_eq_false (by omega)]; rfl))
theorem c_X9_hasLine {G : jk_G} {n : Nat} {t : jk_T} {σ : jk_I} {ρ : jk_P} {s : Nat} {g : Int → Int} {v : Int} (hs : cl_at t ρ s) (hr : cl_rel σ s g) (hv : jk_in v) (hg : jk_in (g 1)) : jk_K G yX9_hasLine mX9_hasLine 0 0 [.ref s, jI v] n t σ ρ (jk_q (some (jI (jB (cl_has (g 1) v)))) n t σ ρ) jk_no := by
  refine jk_entryB (ls := [some (.ref s), some (jI v)]) jm_X9_hasLine.1 rfl rfl rfl ?_
  refine jk_iload_n (q := 1) dX9_hasLine_0 rfl rfl ?_
  refine jk_if_lt (q := 16) (q2 := 4) dX9_hasLine_1 rfl rfl (by first | assumption | decide | omega) (fun h1 => ?_) (fun h1 => ?_)
  · refine jk_iconst (q := 17) dX9_hasLine_16 rfl ?_
    exact jk_zret rfl (by first | assumption | decide | omega) dX9_hasLine_17 (by refine jk_qI ?_; unfold cl_has; first | (rw [decide_eq_true (by omega)]; rfl) | (rw [decide_eq_false (by omega)]; rfl))
  · refine jk_iload_n (q := 5) dX9_hasLine_4 rfl rfl ?_
    refine jk_aload_n (q := 6) dX9_hasLine_5 rfl rfl ?_
    refine jk_getIR (q := 9) (k := 9) 3 3 rfl (by first | exact hs.1 | exact hs.2.1 _ _ rfl | assumption) (by first | exact jk_row_same _ _ _ | rfl | (rewrite [jk_row_ne _ _ (by omega)]; first | exact jk_row_same _ _ _ | rfl | (rewrite [jk_row_ne _ _ (by omega)]; first | exact jk_row_same _ _ _ | rfl | (rewrite [jk_row_ne _ _ (by omega)]; first | exact jk_row_same _ _ _ | rfl | (rewrite [jk_row_ne _ _ (by omega)]; first | rfl | rfl))))) rfl rfl jw_68 dX9_hasLine_6 rfl ?_
    rw [hr.1.2.1]
    refine jk_icmp_ge (q := 16) (q2 := 12) dX9_hasLine_9 rfl rfl (by first | assumption | decide | omega) (by first | assumption | decide | omega) (fun h2 => ?_) (fun h2 => ?_)
    · refine jk_iconst (q := 17) dX9_hasLine_16 rfl ?_
      exact jk_zret rfl (by first | assumption | decide | omega) dX9_hasLine_17 (by refine jk_qI ?_; unfold cl_has; first | (rw [decide_eq_true (by omega)]; rfl) | (rw [decide_eq_false (by omega)]; rfl))
    · refine jk_iconst (q := 13) dX9_hasLine_12 rfl ?_
      refine jk_goto (q := 17) dX9_hasLine_13 rfl ?_
      exact jk_zret rfl (by first | assumption | decide | omega) dX9_hasLine_17 (by refine jk_qI ?_; unfold cl_has; first | (rw [decide_eq_true (by omega)]; rfl) | (rw [decide_eq_false (by omega)]; rfl))
theorem c_X9_hasProfile {G : jk_G} {n : Nat} {t : jk_T} {σ : jk_I} {ρ : jk_P} {s : Nat} {g : Int → Int} {v : Int} (hs : cl_at t ρ s) (hr : cl_rel σ s g) (hv : jk_in v) (hg : jk_in (g 2)) : jk_K G yX9_hasProfile mX9_hasProfile 0 0 [.ref s, jI v] n t σ ρ (jk_q (some (jI (jB (cl_has (g 2) v)))) n t σ ρ) jk_no := by
  refine jk_entryB (ls := [some (.ref s), some (jI v)]) jm_X9_hasProfile.1 rfl rfl rfl ?_
  refine jk_iload_n (q := 1) dX9_hasProfile_0 rfl rfl ?_
  refine jk_if_lt (q := 16) (q2 := 4) dX9_hasProfile_1 rfl rfl (by first | assumption | decide | omega) (fun h1 => ?_) (fun h1 => ?_)
  · refine jk_iconst (q := 17) dX9_hasProfile_16 rfl ?_
    exact jk_zret rfl (by first | assumption | decide | omega) dX9_hasProfile_17 (by refine jk_qI ?_; unfold cl_has; first | (rw [decide_eq_true (by omega)]; rfl) | (rw [decide_eq_false (by omega)]; rfl))
  · refine jk_iload_n (q := 5) dX9_hasProfile_4 rfl rfl ?_
    refine jk_aload_n (q := 6) dX9_hasProfile_5 rfl rfl ?_
    refine jk_getIR (q := 9) (k := 9) 12 12 rfl (by first | exact hs.1 | exact hs.2.1 _ _ rfl | assumption) (by first | exact jk_row_same _ _ _ | rfl | (rewrite [jk_row_ne _ _ (by omega)]; first | exact jk_row_same _ _ _ | rfl | (rewrite [jk_row_ne _ _ (by omega)]; first | exact jk_row_same _ _ _ | rfl | (rewrite [jk_row_ne _ _ (by omega)]; first | exact jk_row_same _ _ _ | rfl | (rewrite [jk_row_ne _ _ (by omega)]; first | rfl | rfl))))) rfl rfl jw_105 dX9_hasProfile_6 rfl ?_
    rw [hr.1.2.2.1]
    refine jk_icmp_ge (q := 16) (q2 := 12) dX9_hasProfile_9 rfl rfl (by first | assumption | decide | omega) (by first | assumption | decide | omega) (fun h2 => ?_) (fun h2 => ?_)
    · refine jk_iconst (q := 17) dX9_hasProfile_16 rfl ?_
      exact jk_zret rfl (by first | assumption | decide | omega) dX9_hasProfile_17 (by refine jk_qI ?_; unfold cl_has; first | (rw [decide_eq_true (by omega)]; rfl) | (rw [decide_eq_false (by omega)]; rfl))
    · refine jk_iconst (q := 13) dX9_hasProfile_12 rfl ?_
      refine jk_goto (q := 17) dX9_hasProfile_13 rfl ?_
      exact jk_zret rfl (by first | assumption | decide | omega) dX9_hasProfile_17 (by refine jk_qI ?_; unfold cl_has; first | (rw [decide_eq_true (by omega)]; rfl) | (rw [decide_eq_false (by omega)]; rfl))
end CL1
