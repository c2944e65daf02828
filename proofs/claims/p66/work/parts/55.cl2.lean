section CL2
theorem c_X12_toleranceFor {G : jk_G} {n : Nat} {t : jk_T} {σ : jk_I} {ρ : jk_P} {len : Int} (hlen : 0 ≤ len ∧ len ≤ 800) : jk_K G yX12_toleranceFor mX12_toleranceFor 0 0 [jI len] n t σ ρ (jk_q (some (jI (md_tol len))) n t σ ρ) jk_no := by
  refine jk_entryB (ls := [some (jI len), none, none]) jm_X12_toleranceFor.1 rfl rfl rfl ?_
  refine jk_iconst (q := 1) dX12_toleranceFor_0 rfl ?_
  refine jk_istore1 (q := 2) dX12_toleranceFor_1 rfl rfl rfl ?_
  refine jk_iconst (q := 3) dX12_toleranceFor_2 rfl ?_
  refine jk_istore2 (q := 4) dX12_toleranceFor_3 rfl rfl rfl ?_
  have L4 : ∀ k4 : Nat, k4 ≤ 84 → (hk0 : (k4 : Int) * (k4 : Int) ≤ 9 * len) → jk_J G mX12_toleranceFor 4 [some (jI len), some (jI (k4 : Int)), some (jI ((k4 : Int) + 1))] [] n t σ ρ 0 0 (jk_q (some (jI (md_tol len))) n t σ ρ) jk_no := by
    refine jk_loop _ (fun k4 hk4 ih4 => ?_)
    intro  hk0
    have hsq : ((k4 : Int) + 1) * ((k4 : Int) + 1) ≤ 85 * 85 := Int.mul_le_mul (by omega) (by omega) (by omega) (by omega)
    have hsq0 : 0 ≤ ((k4 : Int) + 1) * ((k4 : Int) + 1) := Int.mul_nonneg (by omega) (by omega)
    refine jk_iload_n (q := 5) dX12_toleranceFor_4 rfl rfl ?_
    refine jk_bipush (q := 7) (y := 84) dX12_toleranceFor_5 rfl (by decide) ?_
    refine jk_icmp_gt (q := 28) (q2 := 10) dX12_toleranceFor_7 rfl rfl (by first | assumption | decide | omega) (by first | assumption | decide | omega) (fun h1 => ?_) (fun h1 => ?_)
    · refine jk_iload_n (q := 29) dX12_toleranceFor_28 rfl rfl ?_
      exact jk_iret rfl dX12_toleranceFor_29 (by refine jk_qI ?_; first | exact (md_tl_eq (by omega) hk0 (by omega) 84 (by omega)).symm | (have e : (k4 : Int) = 84 := (by omega); rw [e]; exact (md_tl_eq (by decide) (by rw [e] at hk0; omega) (by omega) 84 (by decide)).symm))
    · refine jk_iload_n (q := 11) dX12_toleranceFor_10 rfl rfl ?_
      refine jk_iload_n (q := 12) dX12_toleranceFor_11 rfl rfl ?_
      refine jk_imul (q := 13) dX12_toleranceFor_12 rfl ?_
      refine jk_bipush (q := 15) (y := 9) dX12_toleranceFor_13 rfl (by decide) ?_
      refine jk_iload_n (q := 16) dX12_toleranceFor_15 rfl rfl ?_
      refine jk_imul (q := 17) dX12_toleranceFor_16 rfl ?_
      refine jk_icmp_gt (q := 28) (q2 := 20) dX12_toleranceFor_17 rfl rfl (by first | assumption | decide | omega) (by first | assumption | decide | omega) (fun h2 => ?_) (fun h2 => ?_)
      · refine jk_iload_n (q := 29) dX12_toleranceFor_28 rfl rfl ?_
        exact jk_iret rfl dX12_toleranceFor_29 (by refine jk_qI ?_; first | exact (md_tl_eq (by omega) hk0 (by omega) 84 (by omega)).symm | (have e : (k4 : Int) = 84 := (by omega); rw [e]; exact (md_tl_eq (by decide) (by rw [e] at hk0; omega) (by omega) 84 (by decide)).symm))
      · refine jk_iload_n (q := 21) dX12_toleranceFor_20 rfl rfl ?_
        refine jk_istore1 (q := 22) dX12_toleranceFor_21 rfl rfl rfl ?_
        refine jk_iinc2 (q := 25) dX12_toleranceFor_22 rfl rfl rfl ?_
        refine jk_goto (q := 4) dX12_toleranceFor_25 rfl ?_
        refine jk_convl (ih4 (by omega) (by show ((k4 : Int) + 1) * ((k4 : Int) + 1) ≤ 9 * len; omega)) (jk_loc rfl (jk_loc (jk_li (by omega)) (jk_loc (jk_li (by omega)) rfl)))
  exact jk_convl (L4 0 (Nat.zero_le _) (by omega)) (jk_loc rfl (jk_loc rfl (jk_loc rfl rfl)))
theorem c_X9_levelled {G : jk_G} {n : Nat} {t : jk_T} {σ : jk_I} {ρ : jk_P} {s : Nat} {g : Int → Int} {B l : Int} (hs : cl_at t ρ s) (hr : cl_rel σ s g) (hi : md_inv B g) (hl : 0 ≤ l ∧ l < g 1) : jk_K G yX9_levelled mX9_levelled 0 0 [.ref s, jI l] n t σ ρ (jk_q (some (jI (md_lev g l))) n t σ ρ) jk_no := by
  have i1 := hi.2.1
  obtain ⟨r1, r2, r3, r4, r5, r6, r7, r8⟩ := hr.2.2.1 l hl
  obtain ⟨l1, l2, l3, l4, l5, l6, l7, l8⟩ := md_inv_ln hi (l := l) ⟨by omega, by omega⟩
  have hB := hi.2.2.2.2.2.2.1
  have r5' : g (88 + l) = 0 ∨ σ (s + 14) l = g (104 + l) := by rcases l5 with h | h; exact Or.inl h; exact Or.inr (r5.1 h)
  refine jk_entryB (ls := [some (.ref s), some (jI l)]) jm_X9_levelled.1 rfl rfl rfl ?_
  refine jk_aload_n (q := 1) dX9_levelled_0 rfl rfl ?_
  refine jk_getA (q := 4) (k := 9) 9 9 rfl (by first | exact hs.1 | exact hs.2.1 _ _ rfl | assumption) (by first | exact hs.2.2.1 _ _ rfl | assumption) rfl rfl jw_95 dX9_levelled_1 rfl ?_
  refine jk_iload_n (q := 5) dX9_levelled_4 rfl rfl ?_
  refine jk_zaldR (q := 6) (by first | exact hs.1 | exact hs.2.1 _ _ rfl | assumption) (by first | exact jk_row_same _ _ _ | rfl | (rewrite [jk_row_ne _ _ (by omega)]; first | exact jk_row_same _ _ _ | rfl | (rewrite [jk_row_ne _ _ (by omega)]; first | exact jk_row_same _ _ _ | rfl | (rewrite [jk_row_ne _ _ (by omega)]; first | exact jk_row_same _ _ _ | rfl | (rewrite [jk_row_ne _ _ (by omega)]; first | rfl | rfl))))) (by first | assumption | decide | omega | exact ⟨by omega, by omega⟩) dX9_levelled_5 rfl ?_
  refine jk_if_eq (q := 27) (q2 := 9) dX9_levelled_6 rfl rfl (by first | assumption | decide | omega | exact ⟨by omega, by omega⟩) (fun h1 => ?_) (fun h1 => ?_)
  · refine jk_aload_n (q := 28) dX9_levelled_27 rfl rfl ?_
    refine jk_getA (q := 31) (k := 9) 7 7 rfl (by first | exact hs.1 | exact hs.2.1 _ _ rfl | assumption) (by first | exact hs.2.2.1 _ _ rfl | assumption) rfl rfl jw_91 dX9_levelled_28 rfl ?_
    refine jk_iload_n (q := 32) dX9_levelled_31 rfl rfl ?_
    refine jk_ialdR (q := 33) (by first | exact hs.1 | exact hs.2.1 _ _ rfl | assumption) (by first | exact jk_row_same _ _ _ | rfl | (rewrite [jk_row_ne _ _ (by omega)]; first | exact jk_row_same _ _ _ | rfl | (rewrite [jk_row_ne _ _ (by omega)]; first | exact jk_row_same _ _ _ | rfl | (rewrite [jk_row_ne _ _ (by omega)]; first | exact jk_row_same _ _ _ | rfl | (rewrite [jk_row_ne _ _ (by omega)]; first | rfl | rfl))))) (by first | assumption | decide | omega | exact ⟨by omega, by omega⟩) dX9_levelled_32 rfl ?_
    exact jk_iret rfl dX9_levelled_33 (by refine jk_qI ?_; unfold md_lev; split <;> omega)
  · refine jk_aload_n (q := 10) dX9_levelled_9 rfl rfl ?_
    refine jk_getA (q := 13) (k := 9) 7 7 rfl (by first | exact hs.1 | exact hs.2.1 _ _ rfl | assumption) (by first | exact hs.2.2.1 _ _ rfl | assumption) rfl rfl jw_91 dX9_levelled_10 rfl ?_
    refine jk_iload_n (q := 14) dX9_levelled_13 rfl rfl ?_
    refine jk_ialdR (q := 15) (by first | exact hs.1 | exact hs.2.1 _ _ rfl | assumption) (by first | exact jk_row_same _ _ _ | rfl | (rewrite [jk_row_ne _ _ (by omega)]; first | exact jk_row_same _ _ _ | rfl | (rewrite [jk_row_ne _ _ (by omega)]; first | exact jk_row_same _ _ _ | rfl | (rewrite [jk_row_ne _ _ (by omega)]; first | exact jk_row_same _ _ _ | rfl | (rewrite [jk_row_ne _ _ (by omega)]; first | rfl | rfl))))) (by first | assumption | decide | omega | exact ⟨by omega, by omega⟩) dX9_levelled_14 rfl ?_
    refine jk_aload_n (q := 16) dX9_levelled_15 rfl rfl ?_
    refine jk_getA (q := 19) (k := 9) 8 8 rfl (by first | exact hs.1 | exact hs.2.1 _ _ rfl | assumption) (by first | exact hs.2.2.1 _ _ rfl | assumption) rfl rfl jw_93 dX9_levelled_16 rfl ?_
    refine jk_iload_n (q := 20) dX9_levelled_19 rfl rfl ?_
    refine jk_ialdR (q := 21) (by first | exact hs.1 | exact hs.2.1 _ _ rfl | assumption) (by first | exact jk_row_same _ _ _ | rfl | (rewrite [jk_row_ne _ _ (by omega)]; first | exact jk_row_same _ _ _ | rfl | (rewrite [jk_row_ne _ _ (by omega)]; first | exact jk_row_same _ _ _ | rfl | (rewrite [jk_row_ne _ _ (by omega)]; first | exact jk_row_same _ _ _ | rfl | (rewrite [jk_row_ne _ _ (by omega)]; first | rfl | rfl))))) (by first | assumption | decide | omega | exact ⟨by omega, by omega⟩) dX9_levelled_20 rfl ?_
    refine jk_isub (q := 22) dX9_levelled_21 rfl ?_
    refine jk_iconst (q := 23) dX9_levelled_22 rfl ?_
    refine jk_ishr1 (q := 24) dX9_levelled_23 rfl (by first | assumption | decide | omega | exact ⟨by omega, by omega⟩) ?_
    refine jk_goto (q := 33) dX9_levelled_24 rfl ?_
    exact jk_iret rfl dX9_levelled_33 (by refine jk_qI ?_; unfold md_lev; split <;> omega)
theorem c_X9_corrected {G : jk_G} {n : Nat} {t : jk_T} {σ : jk_I} {ρ : jk_P} {s : Nat} {g : Int → Int} {B l : Int} (hs : cl_at t ρ s) (hr : cl_rel σ s g) (hi : md_inv B g) (hl : 0 ≤ l ∧ l < g 1) : jk_K G yX9_corrected mX9_corrected 0 0 [.ref s, jI l] n t σ ρ (jk_q (some (jI (md_cor g l))) n t σ ρ) jk_no := by
  have i1 := hi.2.1
  obtain ⟨r1, r2, r3, r4, r5, r6, r7, r8⟩ := hr.2.2.1 l hl
  obtain ⟨l1, l2, l3, l4, l5, l6, l7, l8⟩ := md_inv_ln hi (l := l) ⟨by omega, by omega⟩
  have hB := hi.2.2.2.2.2.2.1
  have r5' : g (88 + l) = 0 ∨ σ (s + 14) l = g (104 + l) := by rcases l5 with h | h; exact Or.inl h; exact Or.inr (r5.1 h)
  refine jk_entryB (ls := [some (.ref s), some (jI l)]) jm_X9_corrected.1 rfl rfl rfl ?_
  refine jk_aload_n (q := 1) dX9_corrected_0 rfl rfl ?_
  refine jk_iload_n (q := 2) dX9_corrected_1 rfl rfl ?_
  refine jk_cV1p (q := 5) (c_X9_levelled hs hr hi hl) jm_X9_levelled jw_558 rfl (by first | exact hs.1 | exact hs.2.1 _ _ rfl | assumption) rfl rfl rfl dX9_corrected_2 rfl ?_
  refine jk_aload_n (q := 6) dX9_corrected_5 rfl rfl ?_
  refine jk_getA (q := 9) (k := 9) 11 11 rfl (by first | exact hs.1 | exact hs.2.1 _ _ rfl | assumption) (by first | exact hs.2.2.1 _ _ rfl | assumption) rfl rfl jw_101 dX9_corrected_6 rfl ?_
  refine jk_iload_n (q := 10) dX9_corrected_9 rfl rfl ?_
  refine jk_ialdR (q := 11) (by first | exact hs.1 | exact hs.2.1 _ _ rfl | assumption) (by first | exact jk_row_same _ _ _ | rfl | (rewrite [jk_row_ne _ _ (by omega)]; first | exact jk_row_same _ _ _ | rfl | (rewrite [jk_row_ne _ _ (by omega)]; first | exact jk_row_same _ _ _ | rfl | (rewrite [jk_row_ne _ _ (by omega)]; first | exact jk_row_same _ _ _ | rfl | (rewrite [jk_row_ne _ _ (by omega)]; first | rfl | rfl))))) (by first | assumption | decide | omega | exact ⟨by omega, by omega⟩) dX9_corrected_10 rfl ?_
  refine jk_iadd (q := 12) dX9_corrected_11 rfl ?_
  exact jk_iret rfl dX9_corrected_12 (by refine jk_qI ?_; unfold md_cor; omega)
theorem c_X9_sumOfRuns {G : jk_G} {n : Nat} {t : jk_T} {σ : jk_I} {ρ : jk_P} {s : Nat} {g : Int → Int} {B l : Int} (hs : cl_at t ρ s) (hr : cl_rel σ s g) (hi : md_inv B g) (hl : 0 ≤ l ∧ l < g 1) : jk_K G yX9_sumOfRuns mX9_sumOfRuns 0 0 [.ref s, jI l] n t σ ρ (jk_q (some (jI (σ (s + 12) l + σ (s + 14) l))) n t σ ρ) jk_no := by
  have i1 := hi.2.1
  obtain ⟨r1, r2, r3, r4, r5, r6, r7, r8⟩ := hr.2.2.1 l hl
  obtain ⟨l1, l2, l3, l4, l5, l6, l7, l8⟩ := md_inv_ln hi (l := l) ⟨by omega, by omega⟩
  have hB := hi.2.2.2.2.2.2.1
  have r5' : g (88 + l) = 0 ∨ σ (s + 14) l = g (104 + l) := by rcases l5 with h | h; exact Or.inl h; exact Or.inr (r5.1 h)
  refine jk_entryB (ls := [some (.ref s), some (jI l)]) jm_X9_sumOfRuns.1 rfl rfl rfl ?_
  refine jk_aload_n (q := 1) dX9_sumOfRuns_0 rfl rfl ?_
  refine jk_getA (q := 4) (k := 9) 7 7 rfl (by first | exact hs.1 | exact hs.2.1 _ _ rfl | assumption) (by first | exact hs.2.2.1 _ _ rfl | assumption) rfl rfl jw_91 dX9_sumOfRuns_1 rfl ?_
  refine jk_iload_n (q := 5) dX9_sumOfRuns_4 rfl rfl ?_
  refine jk_ialdR (q := 6) (by first | exact hs.1 | exact hs.2.1 _ _ rfl | assumption) (by first | exact jk_row_same _ _ _ | rfl | (rewrite [jk_row_ne _ _ (by omega)]; first | exact jk_row_same _ _ _ | rfl | (rewrite [jk_row_ne _ _ (by omega)]; first | exact jk_row_same _ _ _ | rfl | (rewrite [jk_row_ne _ _ (by omega)]; first | exact jk_row_same _ _ _ | rfl | (rewrite [jk_row_ne _ _ (by omega)]; first | rfl | rfl))))) (by first | assumption | decide | omega | exact ⟨by omega, by omega⟩) dX9_sumOfRuns_5 rfl ?_
  refine jk_aload_n (q := 7) dX9_sumOfRuns_6 rfl rfl ?_
  refine jk_getA (q := 10) (k := 9) 8 8 rfl (by first | exact hs.1 | exact hs.2.1 _ _ rfl | assumption) (by first | exact hs.2.2.1 _ _ rfl | assumption) rfl rfl jw_93 dX9_sumOfRuns_7 rfl ?_
  refine jk_iload_n (q := 11) dX9_sumOfRuns_10 rfl rfl ?_
  refine jk_ialdR (q := 12) (by first | exact hs.1 | exact hs.2.1 _ _ rfl | assumption) (by first | exact jk_row_same _ _ _ | rfl | (rewrite [jk_row_ne _ _ (by omega)]; first | exact jk_row_same _ _ _ | rfl | (rewrite [jk_row_ne _ _ (by omega)]; first | exact jk_row_same _ _ _ | rfl | (rewrite [jk_row_ne _ _ (by omega)]; first | exact jk_row_same _ _ _ | rfl | (rewrite [jk_row_ne _ _ (by omega)]; first | rfl | rfl))))) (by first | assumption | decide | omega | exact ⟨by omega, by omega⟩) dX9_sumOfRuns_11 rfl ?_
  refine jk_iadd (q := 13) dX9_sumOfRuns_12 rfl ?_
  exact jk_iret rfl dX9_sumOfRuns_13 (by exact jk_qr)
theorem c_X9_usable {G : jk_G} {n : Nat} {t : jk_T} {σ : jk_I} {ρ : jk_P} {s : Nat} {g : Int → Int} {B l : Int} (hs : cl_at t ρ s) (hr : cl_rel σ s g) (hi : md_inv B g) (hl : 0 ≤ l ∧ l < g 1) : jk_K G yX9_usable mX9_usable 0 0 [.ref s, jI l] n t σ ρ (jk_q (some (jI (jB (md_good g l)))) n t σ ρ) jk_no := by
  have i1 := hi.2.1
  obtain ⟨r1, r2, r3, r4, r5, r6, r7, r8⟩ := hr.2.2.1 l hl
  obtain ⟨l1, l2, l3, l4, l5, l6, l7, l8⟩ := md_inv_ln hi (l := l) ⟨by omega, by omega⟩
  have hB := hi.2.2.2.2.2.2.1
  have r5' : g (88 + l) = 0 ∨ σ (s + 14) l = g (104 + l) := by rcases l5 with h | h; exact Or.inl h; exact Or.inr (r5.1 h)
  refine jk_entryB (ls := [some (.ref s), some (jI l)]) jm_X9_usable.1 rfl rfl rfl ?_
  refine jk_aload_n (q := 1) dX9_usable_0 rfl rfl ?_
  refine jk_getA (q := 4) (k := 9) 10 10 rfl (by first | exact hs.1 | exact hs.2.1 _ _ rfl | assumption) (by first | exact hs.2.2.1 _ _ rfl | assumption) rfl rfl jw_98 dX9_usable_1 rfl ?_
  refine jk_iload_n (q := 5) dX9_usable_4 rfl rfl ?_
  refine jk_zaldR (q := 6) (by first | exact hs.1 | exact hs.2.1 _ _ rfl | assumption) (by first | exact jk_row_same _ _ _ | rfl | (rewrite [jk_row_ne _ _ (by omega)]; first | exact jk_row_same _ _ _ | rfl | (rewrite [jk_row_ne _ _ (by omega)]; first | exact jk_row_same _ _ _ | rfl | (rewrite [jk_row_ne _ _ (by omega)]; first | exact jk_row_same _ _ _ | rfl | (rewrite [jk_row_ne _ _ (by omega)]; first | rfl | rfl))))) (by first | assumption | decide | omega | exact ⟨by omega, by omega⟩) dX9_usable_5 rfl ?_
  refine jk_if_ne (q := 42) (q2 := 9) dX9_usable_6 rfl rfl (by first | assumption | decide | omega | exact ⟨by omega, by omega⟩) (fun h1 => ?_) (fun h1 => ?_)
  · refine jk_iconst (q := 43) dX9_usable_42 rfl ?_
    exact jk_zret rfl (by first | assumption | decide | omega | exact ⟨by omega, by omega⟩) dX9_usable_43 (by refine jk_qI ?_; unfold md_good md_gap; first | (rw [decide_eq_false (show ¬ g (120 + l) = 0 by omega)]; rfl) | (rw [decide_eq_true (show g (120 + l) = 0 by omega), decide_eq_true (show g (88 + l) = 0 by omega)]; rfl) | (rw [decide_eq_true (show g (120 + l) = 0 by omega), decide_eq_false (show ¬ g (88 + l) = 0 by omega), decide_eq_true (show md_abs (g (72 + l) + g (104 + l)) ≤ md_tol (g (56 + l)) by omega)]; rfl) | (rw [decide_eq_true (show g (120 + l) = 0 by omega), decide_eq_false (show ¬ g (88 + l) = 0 by omega), decide_eq_false (show ¬ md_abs (g (72 + l) + g (104 + l)) ≤ md_tol (g (56 + l)) by omega)]; rfl))
  · refine jk_aload_n (q := 10) dX9_usable_9 rfl rfl ?_
    refine jk_getA (q := 13) (k := 9) 9 9 rfl (by first | exact hs.1 | exact hs.2.1 _ _ rfl | assumption) (by first | exact hs.2.2.1 _ _ rfl | assumption) rfl rfl jw_95 dX9_usable_10 rfl ?_
    refine jk_iload_n (q := 14) dX9_usable_13 rfl rfl ?_
    refine jk_zaldR (q := 15) (by first | exact hs.1 | exact hs.2.1 _ _ rfl | assumption) (by first | exact jk_row_same _ _ _ | rfl | (rewrite [jk_row_ne _ _ (by omega)]; first | exact jk_row_same _ _ _ | rfl | (rewrite [jk_row_ne _ _ (by omega)]; first | exact jk_row_same _ _ _ | rfl | (rewrite [jk_row_ne _ _ (by omega)]; first | exact jk_row_same _ _ _ | rfl | (rewrite [jk_row_ne _ _ (by omega)]; first | rfl | rfl))))) (by first | assumption | decide | omega | exact ⟨by omega, by omega⟩) dX9_usable_14 rfl ?_
    refine jk_if_eq (q := 38) (q2 := 18) dX9_usable_15 rfl rfl (by first | assumption | decide | omega | exact ⟨by omega, by omega⟩) (fun h2 => ?_) (fun h2 => ?_)
    · refine jk_iconst (q := 39) dX9_usable_38 rfl ?_
      refine jk_goto (q := 43) dX9_usable_39 rfl ?_
      exact jk_zret rfl (by first | assumption | decide | omega | exact ⟨by omega, by omega⟩) dX9_usable_43 (by refine jk_qI ?_; unfold md_good md_gap; first | (rw [decide_eq_false (show ¬ g (120 + l) = 0 by omega)]; rfl) | (rw [decide_eq_true (show g (120 + l) = 0 by omega), decide_eq_true (show g (88 + l) = 0 by omega)]; rfl) | (rw [decide_eq_true (show g (120 + l) = 0 by omega), decide_eq_false (show ¬ g (88 + l) = 0 by omega), decide_eq_true (show md_abs (g (72 + l) + g (104 + l)) ≤ md_tol (g (56 + l)) by omega)]; rfl) | (rw [decide_eq_true (show g (120 + l) = 0 by omega), decide_eq_false (show ¬ g (88 + l) = 0 by omega), decide_eq_false (show ¬ md_abs (g (72 + l) + g (104 + l)) ≤ md_tol (g (56 + l)) by omega)]; rfl))
    · refine jk_aload_n (q := 19) dX9_usable_18 rfl rfl ?_
      refine jk_iload_n (q := 20) dX9_usable_19 rfl rfl ?_
      refine jk_cV1p (q := 23) (c_X9_sumOfRuns hs hr hi hl) jm_X9_sumOfRuns jw_509 rfl (by first | exact hs.1 | exact hs.2.1 _ _ rfl | assumption) rfl rfl rfl dX9_usable_20 rfl ?_
      rw [show σ (s + 12) l + σ (s + 14) l = g (72 + l) + g (104 + l) by omega]
      have hab : 0 ≤ md_abs (g (72 + l) + g (104 + l)) ∧ md_abs (g (72 + l) + g (104 + l)) ≤ 19998 := (by unfold md_abs; split <;> omega)
      have htb := md_tol_bd (g (56 + l))
      refine jk_mabs (q := 26) jw_513 rfl rfl (by first | assumption | decide | omega | exact ⟨by omega, by omega⟩) (by first | assumption | decide | omega | exact ⟨by omega, by omega⟩) dX9_usable_23 rfl ?_
      refine jk_aload_n (q := 27) dX9_usable_26 rfl rfl ?_
      refine jk_getA (q := 30) (k := 9) 6 6 rfl (by first | exact hs.1 | exact hs.2.1 _ _ rfl | assumption) (by first | exact hs.2.2.1 _ _ rfl | assumption) rfl rfl jw_85 dX9_usable_27 rfl ?_
      refine jk_iload_n (q := 31) dX9_usable_30 rfl rfl ?_
      refine jk_ialdR (q := 32) (by first | exact hs.1 | exact hs.2.1 _ _ rfl | assumption) (by first | exact jk_row_same _ _ _ | rfl | (rewrite [jk_row_ne _ _ (by omega)]; first | exact jk_row_same _ _ _ | rfl | (rewrite [jk_row_ne _ _ (by omega)]; first | exact jk_row_same _ _ _ | rfl | (rewrite [jk_row_ne _ _ (by omega)]; first | exact jk_row_same _ _ _ | rfl | (rewrite [jk_row_ne _ _ (by omega)]; first | rfl | rfl))))) (by first | assumption | decide | omega | exact ⟨by omega, by omega⟩) dX9_usable_31 rfl ?_
      rw [r3]
      refine jk_cS1pN (q := 35) (c_X12_toleranceFor (len := g (56 + l)) ⟨by omega, by omega⟩) jm_X12_toleranceFor jw_516 rfl rfl rfl dX9_usable_32 rfl ?_
      refine jk_icmp_gt (q := 42) (q2 := 38) dX9_usable_35 rfl rfl (by first | assumption | decide | omega | exact ⟨by omega, by omega⟩) (by first | assumption | decide | omega | exact ⟨by omega, by omega⟩) (fun h3 => ?_) (fun h3 => ?_)
      · refine jk_iconst (q := 43) dX9_usable_42 rfl ?_
        exact jk_zret rfl (by first | assumption | decide | omega | exact ⟨by omega, by omega⟩) dX9_usable_43 (by refine jk_qI ?_; unfold md_good md_gap; first | (rw [decide_eq_false (show ¬ g (120 + l) = 0 by omega)]; rfl) | (rw [decide_eq_true (show g (120 + l) = 0 by omega), decide_eq_true (show g (88 + l) = 0 by omega)]; rfl) | (rw [decide_eq_true (show g (120 + l) = 0 by omega), decide_eq_false (show ¬ g (88 + l) = 0 by omega), decide_eq_true (show md_abs (g (72 + l) + g (104 + l)) ≤ md_tol (g (56 + l)) by omega)]; rfl) | (rw [decide_eq_true (show g (120 + l) = 0 by omega), decide_eq_false (show ¬ g (88 + l) = 0 by omega), decide_eq_false (show ¬ md_abs (g (72 + l) + g (104 + l)) ≤ md_tol (g (56 + l)) by omega)]; rfl))
      · refine jk_iconst (q := 39) dX9_usable_38 rfl ?_
        refine jk_goto (q := 43) dX9_usable_39 rfl ?_
        exact jk_zret rfl (by first | assumption | decide | omega | exact ⟨by omega, by omega⟩) dX9_usable_43 (by refine jk_qI ?_; unfold md_good md_gap; first | (rw [decide_eq_false (show ¬ g (120 + l) = 0 by omega)]; rfl) | (rw [decide_eq_true (show g (120 + l) = 0 by omega), decide_eq_true (show g (88 + l) = 0 by omega)]; rfl) | (rw [decide_eq_true (show g (120 + l) = 0 by omega), decide_eq_false (show ¬ g (88 + l) = 0 by omega), decide_eq_true (show md_abs (g (72 + l) + g (104 + l)) ≤ md_tol (g (56 + l)) by omega)]; rfl) | (rw [decide_eq_true (show g (120 + l) = 0 by omega), decide_eq_false (show ¬ g (88 + l) = 0 by omega), decide_eq_false (show ¬ md_abs (g (72 + l) + g (104 + l)) ≤ md_tol (g (56 + l)) by omega)]; rfl))
end CL2
