section CD1
/-- the kind's trouble, from the model's code -/
def cl_tc : Nat → Int → Nat := fun k c => if c = 0 then 0 else match k with
  | 0 => 3 | 1 => c.toNat | 2 => (if c = 1 then 1 else 3) | 3 => c.toNat | 4 => c.toNat | 5 => (if c = 1 then 1 else 3) | 6 => (if c = 1 then 1 else 3)
  | 7 => (if c = 1 then 1 else if c = 2 then 4 else 5) | 9 => (if c = 1 then 1 else 3) | 10 => c.toNat | _ => 2
def cl_do (k : Nat) (g : Int → Int) (a b c d : Int) : md_R3 := match k with
  | 0 => md_addsPoint g | 1 => md_fixes g a b | 2 => md_releases g a | 3 => md_addsLine g a b c d | 4 => md_addsRun g a b | 5 => md_marks g a 0 | 6 => md_marks g a 1
  | 7 => md_shares g a | 8 => md_resets g | 9 => md_addsProfile g a | 10 => md_addsStation g a b c | _ => md_setsWater g a
theorem cl_hasT {c v : Int} (h : cl_has c v = true) : 0 ≤ v ∧ v < c := of_decide_eq_true h
theorem cl_hasF {c v : Int} (h : cl_has c v = false) : ¬ (0 ≤ v ∧ v < c) := of_decide_eq_false h
theorem cl_mi {c v : Int} : md_in v 0 (c - 1) = cl_has c v := by unfold md_in cl_has; exact decide_eq_decide.mpr ⟨fun h => ⟨by omega, by omega⟩, fun h => ⟨by omega, by omega⟩⟩
theorem c_X2_stateTroubleUnless {G : jk_G} {n : Nat} {t : jk_T} {σ : jk_I} {ρ : jk_P} {x : Int} (hz : zz_ok G) (hx : x = 0 ∨ x = 1) : jk_K G yX2_stateTroubleUnless mX2_stateTroubleUnless 0 0 [jI x] n t σ ρ (jk_q (some (.ref (if x = 1 then 12 else 15))) n t σ ρ) jk_no := by
  refine jk_entryB (ls := [some (jI x)]) jm_X2_stateTroubleUnless.1 rfl rfl rfl ?_
  refine jk_iload_n (q := 1) dX2_stateTroubleUnless_0 rfl rfl ?_
  refine jk_if_eq (q := 10) (q2 := 4) dX2_stateTroubleUnless_1 rfl rfl (by first | (rcases hx with rfl | rfl <;> decide) | decide) (fun z1 => ?_) (fun z1 => ?_)
  · refine jk_gets (q := 13) (a := 15) (zz_Ts hz (i := 3) (by decide)) jw_448 dX2_stateTroubleUnless_10 rfl ?_
    exact jk_aret rfl (by first | exact Or.inl ⟨_, rfl⟩ | exact Or.inr ⟨_, rfl⟩) dX2_stateTroubleUnless_13 (by refine jk_qR ?_; first | rw [if_neg (by omega)] | rw [if_pos (by omega)])
  · refine jk_gets (q := 7) (a := 12) (zz_Ts hz (i := 0) (by decide)) jw_446 dX2_stateTroubleUnless_4 rfl ?_
    refine jk_goto (q := 13) dX2_stateTroubleUnless_7 rfl ?_
    exact jk_aret rfl (by first | exact Or.inl ⟨_, rfl⟩ | exact Or.inr ⟨_, rfl⟩) dX2_stateTroubleUnless_13 (by refine jk_qR ?_; first | rw [if_neg (by omega)] | rw [if_pos (by omega)])
theorem c_X2_isHeight {G : jk_G} {n : Nat} {t : jk_T} {σ : jk_I} {ρ : jk_P} {v : Int} (hv : jk_in v) : jk_K G yX2_isHeight mX2_isHeight 0 0 [jI v] n t σ ρ (jk_q (some (jI (jB (decide (-99999 ≤ v ∧ v ≤ 99999))))) n t σ ρ) jk_no := by
  refine jk_entryB (ls := [some (jI v)]) jm_X2_isHeight.1 rfl rfl rfl ?_
  refine jk_iload_n (q := 1) dX2_isHeight_0 rfl rfl ?_
  refine jk_ldcV (q := 3) (x := -99999) jw_463 (by decide) dX2_isHeight_1 rfl ?_
  refine jk_ldcV (q := 5) (x := 99999) jw_464 (by decide) dX2_isHeight_3 rfl ?_
  refine jk_cS3pN (q := 8) (c_X12_within hv (by decide) (by decide)) jm_X12_within jw_465 rfl rfl rfl dX2_isHeight_5 rfl ?_
  exact jk_zret rfl (by first | assumption | decide | omega | exact jB_01 _ | exact jB_in _ | exact ⟨by omega, by omega⟩) dX2_isHeight_8 (by first | exact jk_qr | (refine jk_qT ?_; grind) | (refine jk_qF ?_; grind) | (refine jk_qI ?_; grind))
theorem c_X2_isRun {G : jk_G} {n : Nat} {t : jk_T} {σ : jk_I} {ρ : jk_P} {v : Int} (hv : jk_in v) : jk_K G yX2_isRun mX2_isRun 0 0 [jI v] n t σ ρ (jk_q (some (jI (jB (decide (-9999 ≤ v ∧ v ≤ 9999))))) n t σ ρ) jk_no := by
  refine jk_entryB (ls := [some (jI v)]) jm_X2_isRun.1 rfl rfl rfl ?_
  refine jk_iload_n (q := 1) dX2_isRun_0 rfl rfl ?_
  refine jk_sipush (q := 4) (y := -9999) dX2_isRun_1 rfl (by decide) ?_
  refine jk_sipush (q := 7) (y := 9999) dX2_isRun_4 rfl (by decide) ?_
  refine jk_cS3pN (q := 10) (c_X12_within hv (by decide) (by decide)) jm_X12_within jw_465 rfl rfl rfl dX2_isRun_7 rfl ?_
  exact jk_zret rfl (by first | assumption | decide | omega | exact jB_01 _ | exact jB_in _ | exact ⟨by omega, by omega⟩) dX2_isRun_10 (by first | exact jk_qr | (refine jk_qT ?_; grind) | (refine jk_qF ?_; grind) | (refine jk_qI ?_; grind))
theorem cl_in_dec {v a b : Int} : md_in v a b = decide (a ≤ v ∧ v ≤ b) := rfl
theorem c_X2_troubleWithFixing {G : jk_G} {n : Nat} {t : jk_T} {σ : jk_I} {ρ : jk_P} {c y w f s : Nat} {g : Int → Int} {B p v : Int} (hz : zz_ok G) (hch : ch_at t ρ c y w f s) (hr : cl_rel σ s g) (hi : md_inv B g) (hp : jk_in p) (hv : jk_in v) : jk_K G yX2_troubleWithFixing mX2_troubleWithFixing 0 0 [.ref c, jI p, jI v] n t σ ρ (jk_q (some (.ref (12 + cl_tc 1 (md_fixes g p v).1))) n t σ ρ) jk_no := by
  obtain ⟨hcc, hwa, hsh, hwy, hyc⟩ := id hch
  obtain ⟨-, -, hf, hfw⟩ := id hwa
  obtain ⟨-, -, -, -, hs, hsf⟩ := id hf
  have i0 := hi.1
  have i1 := hi.2.1
  have i2 := hi.2.2.1
  obtain ⟨q0, q1, q2, q3⟩ := hr.1
  refine jk_entryB (ls := [some (.ref c), some (jI p), some (jI v)]) jm_X2_troubleWithFixing.1 rfl rfl rfl ?_
  refine jk_aload_n (q := 1) dX2_troubleWithFixing_0 rfl rfl ?_
  refine jk_getA (q := 4) (k := 2) 0 0 rfl (by first | exact hcc.1 | exact hs.1 | exact hs.2.1 _ _ rfl | assumption) (by first | exact hcc.2.1 | exact hcc.2.2.1 | exact hcc.2.2.2.1 | exact hcc.2.2.2.2 | exact hs.2.2.1 _ _ rfl | assumption) rfl rfl jw_295 dX2_troubleWithFixing_1 rfl ?_
  refine jk_iload_n (q := 5) dX2_troubleWithFixing_4 rfl rfl ?_
  refine jk_cV1p (q := 8) (c_X9_hasBenchmark hs hr (by assumption) (by show jk_in (g 0); exact ⟨by omega, by omega⟩)) jm_X9_hasBenchmark jw_454 rfl (by first | exact hcc.1 | exact hs.1 | exact hs.2.1 _ _ rfl | assumption) rfl rfl rfl dX2_troubleWithFixing_5 rfl ?_
  refine jk_ifB_ne (q := 15) (q2 := 11) dX2_troubleWithFixing_8 rfl rfl (fun z1 => ?_) (fun z1 => ?_)
  · refine jk_iload_n (q := 16) dX2_troubleWithFixing_15 rfl rfl ?_
    refine jk_cS1p (q := 19) (c_X2_isHeight (by assumption)) jm_X2_isHeight jw_460 rfl rfl rfl dX2_troubleWithFixing_16 rfl ?_
    refine jk_ifB_eq (q := 28) (q2 := 22) dX2_troubleWithFixing_19 rfl rfl (fun z2 => ?_) (fun z2 => ?_)
    · refine jk_gets (q := 31) (a := 14) (zz_Ts hz (i := 2) (by decide)) jw_468 dX2_troubleWithFixing_28 rfl ?_
      exact jk_aret rfl (by first | exact Or.inl ⟨_, rfl⟩ | exact Or.inr ⟨_, rfl⟩) dX2_troubleWithFixing_31 (by 
              refine jk_qR ?_
              show _ = 12 + cl_tc 1 (md_fixes g p v).1
              clear hz hch hr hi hcc hwa hsh hf hs
              unfold md_fixes
              simp only [cl_mi, cl_in_dec]
              (try simp only [cl_has, decide_eq_true_eq, decide_eq_false_iff_not] at *)
              (try rcases hx9 with hx9 | hx9)
              all_goals first | (exfalso; omega) | ((repeat first | rw [if_pos (by first | omega | trivial)] | rw [if_neg (by omega)]) <;> rfl))
    · refine jk_gets (q := 25) (a := 12) (zz_Ts hz (i := 0) (by decide)) jw_446 dX2_troubleWithFixing_22 rfl ?_
      refine jk_goto (q := 31) dX2_troubleWithFixing_25 rfl ?_
      exact jk_aret rfl (by first | exact Or.inl ⟨_, rfl⟩ | exact Or.inr ⟨_, rfl⟩) dX2_troubleWithFixing_31 (by 
              refine jk_qR ?_
              show _ = 12 + cl_tc 1 (md_fixes g p v).1
              clear hz hch hr hi hcc hwa hsh hf hs
              unfold md_fixes
              simp only [cl_mi, cl_in_dec]
              (try simp only [cl_has, decide_eq_true_eq, decide_eq_false_iff_not] at *)
              (try rcases hx9 with hx9 | hx9)
              all_goals first | (exfalso; omega) | ((repeat first | rw [if_pos (by first | omega | trivial)] | rw [if_neg (by omega)]) <;> rfl))
  · refine jk_gets (q := 14) (a := 13) (zz_Ts hz (i := 1) (by decide)) jw_458 dX2_troubleWithFixing_11 rfl ?_
    exact jk_aret rfl (by first | exact Or.inl ⟨_, rfl⟩ | exact Or.inr ⟨_, rfl⟩) dX2_troubleWithFixing_14 (by 
            refine jk_qR ?_
            show _ = 12 + cl_tc 1 (md_fixes g p v).1
            clear hz hch hr hi hcc hwa hsh hf hs
            unfold md_fixes
            simp only [cl_mi, cl_in_dec]
            (try simp only [cl_has, decide_eq_true_eq, decide_eq_false_iff_not] at *)
            (try rcases hx9 with hx9 | hx9)
            all_goals first | (exfalso; omega) | ((repeat first | rw [if_pos (by first | omega | trivial)] | rw [if_neg (by omega)]) <;> rfl))
theorem c_X2_troubleWithFreeing {G : jk_G} {n : Nat} {t : jk_T} {σ : jk_I} {ρ : jk_P} {c y w f s : Nat} {g : Int → Int} {B p : Int} (hz : zz_ok G) (hch : ch_at t ρ c y w f s) (hr : cl_rel σ s g) (hi : md_inv B g) (hp : jk_in p) : jk_K G yX2_troubleWithFreeing mX2_troubleWithFreeing 0 0 [.ref c, jI p] n t σ ρ (jk_q (some (.ref (12 + cl_tc 2 (md_releases g p).1))) n t σ ρ) jk_no := by
  obtain ⟨hcc, hwa, hsh, hwy, hyc⟩ := id hch
  obtain ⟨-, -, hf, hfw⟩ := id hwa
  obtain ⟨-, -, -, -, hs, hsf⟩ := id hf
  have i0 := hi.1
  have i1 := hi.2.1
  have i2 := hi.2.2.1
  obtain ⟨q0, q1, q2, q3⟩ := hr.1
  refine jk_entryB (ls := [some (.ref c), some (jI p)]) jm_X2_troubleWithFreeing.1 rfl rfl rfl ?_
  refine jk_aload_n (q := 1) dX2_troubleWithFreeing_0 rfl rfl ?_
  refine jk_getA (q := 4) (k := 2) 0 0 rfl (by first | exact hcc.1 | exact hs.1 | exact hs.2.1 _ _ rfl | assumption) (by first | exact hcc.2.1 | exact hcc.2.2.1 | exact hcc.2.2.2.1 | exact hcc.2.2.2.2 | exact hs.2.2.1 _ _ rfl | assumption) rfl rfl jw_295 dX2_troubleWithFreeing_1 rfl ?_
  refine jk_iload_n (q := 5) dX2_troubleWithFreeing_4 rfl rfl ?_
  refine jk_cV1p (q := 8) (c_X9_hasBenchmark hs hr (by assumption) (by show jk_in (g 0); exact ⟨by omega, by omega⟩)) jm_X9_hasBenchmark jw_454 rfl (by first | exact hcc.1 | exact hs.1 | exact hs.2.1 _ _ rfl | assumption) rfl rfl rfl dX2_troubleWithFreeing_5 rfl ?_
  refine jk_ifB_ne (q := 15) (q2 := 11) dX2_troubleWithFreeing_8 rfl rfl (fun z1 => ?_) (fun z1 => ?_)
  · have hp9 := cl_hasT z1
    have hx9 := (md_inv_pt hi (p := p) ⟨by omega, by omega⟩).1
    have hv9 := (hr.2.1 p hp9).1
    refine jk_aload_n (q := 16) dX2_troubleWithFreeing_15 rfl rfl ?_
    refine jk_getA (q := 19) (k := 2) 0 0 rfl (by first | exact hcc.1 | exact hs.1 | exact hs.2.1 _ _ rfl | assumption) (by first | exact hcc.2.1 | exact hcc.2.2.1 | exact hcc.2.2.2.1 | exact hcc.2.2.2.2 | exact hs.2.2.1 _ _ rfl | assumption) rfl rfl jw_295 dX2_troubleWithFreeing_16 rfl ?_
    refine jk_getA (q := 22) (k := 9) 1 1 rfl (by first | exact hcc.1 | exact hs.1 | exact hs.2.1 _ _ rfl | assumption) (by first | exact hcc.2.1 | exact hcc.2.2.1 | exact hcc.2.2.2.1 | exact hcc.2.2.2.2 | exact hs.2.2.1 _ _ rfl | assumption) rfl rfl jw_61 dX2_troubleWithFreeing_19 rfl ?_
    refine jk_iload_n (q := 23) dX2_troubleWithFreeing_22 rfl rfl ?_
    refine jk_zaldR (q := 24) (by first | exact hcc.1 | exact hs.1 | exact hs.2.1 _ _ rfl | assumption) (by first | exact jk_row_same _ _ _ | ((repeat rewrite [jk_row_ne _ _ (by omega)]); first | exact jk_row_same _ _ _ | rfl)) (by first | assumption | decide | omega | exact jB_01 _ | exact jB_in _ | exact ⟨by omega, by omega⟩) dX2_troubleWithFreeing_23 rfl ?_
    rw [hv9]
    refine jk_cS1p (q := 27) (c_X2_stateTroubleUnless hz hx9) jm_X2_stateTroubleUnless jw_443 rfl rfl rfl dX2_troubleWithFreeing_24 rfl ?_
    exact jk_aret rfl (by first | exact Or.inl ⟨_, rfl⟩ | exact Or.inr ⟨_, rfl⟩) dX2_troubleWithFreeing_27 (by 
            refine jk_qR ?_
            show _ = 12 + cl_tc 2 (md_releases g p).1
            clear hz hch hr hi hcc hwa hsh hf hs
            unfold md_releases
            simp only [cl_mi, cl_in_dec]
            (try simp only [cl_has, decide_eq_true_eq, decide_eq_false_iff_not] at *)
            (try rcases hx9 with hx9 | hx9)
            all_goals first | (exfalso; omega) | ((repeat first | rw [if_pos (by first | omega | trivial)] | rw [if_neg (by omega)]) <;> rfl))
  · refine jk_gets (q := 14) (a := 13) (zz_Ts hz (i := 1) (by decide)) jw_458 dX2_troubleWithFreeing_11 rfl ?_
    exact jk_aret rfl (by first | exact Or.inl ⟨_, rfl⟩ | exact Or.inr ⟨_, rfl⟩) dX2_troubleWithFreeing_14 (by 
            refine jk_qR ?_
            show _ = 12 + cl_tc 2 (md_releases g p).1
            clear hz hch hr hi hcc hwa hsh hf hs
            unfold md_releases
            simp only [cl_mi, cl_in_dec]
            (try simp only [cl_has, decide_eq_true_eq, decide_eq_false_iff_not] at *)
            (try rcases hx9 with hx9 | hx9)
            all_goals first | (exfalso; omega) | ((repeat first | rw [if_pos (by first | omega | trivial)] | rw [if_neg (by omega)]) <;> rfl))
theorem c_X2_troubleWithLine {G : jk_G} {n : Nat} {t : jk_T} {σ : jk_I} {ρ : jk_P} {c y w f s : Nat} {g : Int → Int} {B a b v len : Int} (hz : zz_ok G) (hch : ch_at t ρ c y w f s) (hr : cl_rel σ s g) (hi : md_inv B g) (ha : jk_in a) (hb : jk_in b) (hv : jk_in v) (hl : jk_in len) : jk_K G yX2_troubleWithLine mX2_troubleWithLine 0 0 [.ref c, jI a, jI b, jI v, jI len] n t σ ρ (jk_q (some (.ref (12 + cl_tc 3 (md_addsLine g a b v len).1))) n t σ ρ) jk_no := by
  obtain ⟨hcc, hwa, hsh, hwy, hyc⟩ := id hch
  obtain ⟨-, -, hf, hfw⟩ := id hwa
  obtain ⟨-, -, -, -, hs, hsf⟩ := id hf
  have i0 := hi.1
  have i1 := hi.2.1
  have i2 := hi.2.2.1
  obtain ⟨q0, q1, q2, q3⟩ := hr.1
  refine jk_entryB (ls := [some (.ref c), some (jI a), some (jI b), some (jI v), some (jI len)]) jm_X2_troubleWithLine.1 rfl rfl rfl ?_
  refine jk_aload_n (q := 1) dX2_troubleWithLine_0 rfl rfl ?_
  refine jk_getA (q := 4) (k := 2) 0 0 rfl (by first | exact hcc.1 | exact hs.1 | exact hs.2.1 _ _ rfl | assumption) (by first | exact hcc.2.1 | exact hcc.2.2.1 | exact hcc.2.2.2.1 | exact hcc.2.2.2.2 | exact hs.2.2.1 _ _ rfl | assumption) rfl rfl jw_295 dX2_troubleWithLine_1 rfl ?_
  refine jk_iload_n (q := 5) dX2_troubleWithLine_4 rfl rfl ?_
  refine jk_cV1p (q := 8) (c_X9_hasBenchmark hs hr (by assumption) (by show jk_in (g 0); exact ⟨by omega, by omega⟩)) jm_X9_hasBenchmark jw_454 rfl (by first | exact hcc.1 | exact hs.1 | exact hs.2.1 _ _ rfl | assumption) rfl rfl rfl dX2_troubleWithLine_5 rfl ?_
  refine jk_ifB_eq (q := 22) (q2 := 11) dX2_troubleWithLine_8 rfl rfl (fun z1 => ?_) (fun z1 => ?_)
  · refine jk_gets (q := 25) (a := 13) (zz_Ts hz (i := 1) (by decide)) jw_458 dX2_troubleWithLine_22 rfl ?_
    exact jk_aret rfl (by first | exact Or.inl ⟨_, rfl⟩ | exact Or.inr ⟨_, rfl⟩) dX2_troubleWithLine_25 (by 
            refine jk_qR ?_
            show _ = 12 + cl_tc 3 (md_addsLine g a b v len).1
            clear hz hch hr hi hcc hwa hsh hf hs
            unfold md_addsLine
            simp only [cl_mi, cl_in_dec]
            (try simp only [cl_has, decide_eq_true_eq, decide_eq_false_iff_not] at *)
            (try rcases hx9 with hx9 | hx9)
            all_goals first | (exfalso; omega) | ((repeat first | rw [if_pos (by first | omega | trivial)] | rw [if_neg (by omega)]) <;> rfl))
  · refine jk_aload_n (q := 12) dX2_troubleWithLine_11 rfl rfl ?_
    refine jk_getA (q := 15) (k := 2) 0 0 rfl (by first | exact hcc.1 | exact hs.1 | exact hs.2.1 _ _ rfl | assumption) (by first | exact hcc.2.1 | exact hcc.2.2.1 | exact hcc.2.2.2.1 | exact hcc.2.2.2.2 | exact hs.2.2.1 _ _ rfl | assumption) rfl rfl jw_295 dX2_troubleWithLine_12 rfl ?_
    refine jk_iload_n (q := 16) dX2_troubleWithLine_15 rfl rfl ?_
    refine jk_cV1p (q := 19) (c_X9_hasBenchmark hs hr (by assumption) (by show jk_in (g 0); exact ⟨by omega, by omega⟩)) jm_X9_hasBenchmark jw_454 rfl (by first | exact hcc.1 | exact hs.1 | exact hs.2.1 _ _ rfl | assumption) rfl rfl rfl dX2_troubleWithLine_16 rfl ?_
    refine jk_ifB_ne (q := 26) (q2 := 22) dX2_troubleWithLine_19 rfl rfl (fun z2 => ?_) (fun z2 => ?_)
    · refine jk_iload_n (q := 27) dX2_troubleWithLine_26 rfl rfl ?_
      refine jk_iload_n (q := 28) dX2_troubleWithLine_27 rfl rfl ?_
      refine jk_icmp_eq (q := 49) (q2 := 31) dX2_troubleWithLine_28 rfl rfl (by first | assumption | decide | omega | exact jB_01 _ | exact jB_in _ | exact ⟨by omega, by omega⟩) (by first | assumption | decide | omega | exact jB_01 _ | exact jB_in _ | exact ⟨by omega, by omega⟩) (fun z3 => ?_) (fun z3 => ?_)
      · refine jk_gets (q := 52) (a := 14) (zz_Ts hz (i := 2) (by decide)) jw_468 dX2_troubleWithLine_49 rfl ?_
        exact jk_aret rfl (by first | exact Or.inl ⟨_, rfl⟩ | exact Or.inr ⟨_, rfl⟩) dX2_troubleWithLine_52 (by 
                refine jk_qR ?_
                show _ = 12 + cl_tc 3 (md_addsLine g a b v len).1
                clear hz hch hr hi hcc hwa hsh hf hs
                unfold md_addsLine
                simp only [cl_mi, cl_in_dec]
                (try simp only [cl_has, decide_eq_true_eq, decide_eq_false_iff_not] at *)
                (try rcases hx9 with hx9 | hx9)
                all_goals first | (exfalso; omega) | ((repeat first | rw [if_pos (by first | omega | trivial)] | rw [if_neg (by omega)]) <;> rfl))
      · refine jk_iload_n (q := 32) dX2_troubleWithLine_31 rfl rfl ?_
        refine jk_cS1p (q := 35) (c_X2_isRun (by assumption)) jm_X2_isRun jw_478 rfl rfl rfl dX2_troubleWithLine_32 rfl ?_
        refine jk_ifB_eq (q := 49) (q2 := 38) dX2_troubleWithLine_35 rfl rfl (fun z4 => ?_) (fun z4 => ?_)
        · refine jk_gets (q := 52) (a := 14) (zz_Ts hz (i := 2) (by decide)) jw_468 dX2_troubleWithLine_49 rfl ?_
          exact jk_aret rfl (by first | exact Or.inl ⟨_, rfl⟩ | exact Or.inr ⟨_, rfl⟩) dX2_troubleWithLine_52 (by 
                  refine jk_qR ?_
                  show _ = 12 + cl_tc 3 (md_addsLine g a b v len).1
                  clear hz hch hr hi hcc hwa hsh hf hs
                  unfold md_addsLine
                  simp only [cl_mi, cl_in_dec]
                  (try simp only [cl_has, decide_eq_true_eq, decide_eq_false_iff_not] at *)
                  (try rcases hx9 with hx9 | hx9)
                  all_goals first | (exfalso; omega) | ((repeat first | rw [if_pos (by first | omega | trivial)] | rw [if_neg (by omega)]) <;> rfl))
        · refine jk_iload (q := 40) dX2_troubleWithLine_38 rfl rfl ?_
          refine jk_iconst (q := 41) dX2_troubleWithLine_40 rfl ?_
          refine jk_bipush (q := 43) (y := 50) dX2_troubleWithLine_41 rfl (by decide) ?_
          refine jk_cS3pN (q := 46) (c_X12_within hl (by decide) (by decide)) jm_X12_within jw_465 rfl rfl rfl dX2_troubleWithLine_43 rfl ?_
          refine jk_ifB_ne (q := 53) (q2 := 49) dX2_troubleWithLine_46 rfl rfl (fun z5 => ?_) (fun z5 => ?_)
          · refine jk_aload_n (q := 54) dX2_troubleWithLine_53 rfl rfl ?_
            refine jk_getA (q := 57) (k := 2) 0 0 rfl (by first | exact hcc.1 | exact hs.1 | exact hs.2.1 _ _ rfl | assumption) (by first | exact hcc.2.1 | exact hcc.2.2.1 | exact hcc.2.2.2.1 | exact hcc.2.2.2.2 | exact hs.2.2.1 _ _ rfl | assumption) rfl rfl jw_295 dX2_troubleWithLine_54 rfl ?_
            refine jk_getIR (q := 60) (k := 9) 3 3 rfl (by first | exact hcc.1 | exact hs.1 | exact hs.2.1 _ _ rfl | assumption) (by first | exact jk_row_same _ _ _ | ((repeat rewrite [jk_row_ne _ _ (by omega)]); first | exact jk_row_same _ _ _ | rfl)) rfl rfl jw_70 dX2_troubleWithLine_57 rfl ?_
            rw [q1]
            refine jk_bipush (q := 62) (y := 16) dX2_troubleWithLine_60 rfl (by decide) ?_
            refine jk_icmp_ge (q := 69) (q2 := 65) dX2_troubleWithLine_62 rfl rfl (by first | assumption | decide | omega | exact jB_01 _ | exact jB_in _ | exact ⟨by omega, by omega⟩) (by first | assumption | decide | omega | exact jB_01 _ | exact jB_in _ | exact ⟨by omega, by omega⟩) (fun z6 => ?_) (fun z6 => ?_)
            · refine jk_iconst (q := 70) dX2_troubleWithLine_69 rfl ?_
              refine jk_cS1p (q := 73) (c_X2_stateTroubleUnless hz (by first | exact Or.inl rfl | exact Or.inr rfl)) jm_X2_stateTroubleUnless jw_443 rfl rfl rfl dX2_troubleWithLine_70 rfl ?_
              exact jk_aret rfl (by first | exact Or.inl ⟨_, rfl⟩ | exact Or.inr ⟨_, rfl⟩) dX2_troubleWithLine_73 (by 
                      refine jk_qR ?_
                      show _ = 12 + cl_tc 3 (md_addsLine g a b v len).1
                      clear hz hch hr hi hcc hwa hsh hf hs
                      unfold md_addsLine
                      simp only [cl_mi, cl_in_dec]
                      (try simp only [cl_has, decide_eq_true_eq, decide_eq_false_iff_not] at *)
                      (try rcases hx9 with hx9 | hx9)
                      all_goals first | (exfalso; omega) | ((repeat first | rw [if_pos (by first | omega | trivial)] | rw [if_neg (by omega)]) <;> rfl))
            · refine jk_iconst (q := 66) dX2_troubleWithLine_65 rfl ?_
              refine jk_goto (q := 70) dX2_troubleWithLine_66 rfl ?_
              refine jk_cS1p (q := 73) (c_X2_stateTroubleUnless hz (by first | exact Or.inl rfl | exact Or.inr rfl)) jm_X2_stateTroubleUnless jw_443 rfl rfl rfl dX2_troubleWithLine_70 rfl ?_
              exact jk_aret rfl (by first | exact Or.inl ⟨_, rfl⟩ | exact Or.inr ⟨_, rfl⟩) dX2_troubleWithLine_73 (by 
                      refine jk_qR ?_
                      show _ = 12 + cl_tc 3 (md_addsLine g a b v len).1
                      clear hz hch hr hi hcc hwa hsh hf hs
                      unfold md_addsLine
                      simp only [cl_mi, cl_in_dec]
                      (try simp only [cl_has, decide_eq_true_eq, decide_eq_false_iff_not] at *)
                      (try rcases hx9 with hx9 | hx9)
                      all_goals first | (exfalso; omega) | ((repeat first | rw [if_pos (by first | omega | trivial)] | rw [if_neg (by omega)]) <;> rfl))
          · refine jk_gets (q := 52) (a := 14) (zz_Ts hz (i := 2) (by decide)) jw_468 dX2_troubleWithLine_49 rfl ?_
            exact jk_aret rfl (by first | exact Or.inl ⟨_, rfl⟩ | exact Or.inr ⟨_, rfl⟩) dX2_troubleWithLine_52 (by 
                    refine jk_qR ?_
                    show _ = 12 + cl_tc 3 (md_addsLine g a b v len).1
                    clear hz hch hr hi hcc hwa hsh hf hs
                    unfold md_addsLine
                    simp only [cl_mi, cl_in_dec]
                    (try simp only [cl_has, decide_eq_true_eq, decide_eq_false_iff_not] at *)
                    (try rcases hx9 with hx9 | hx9)
                    all_goals first | (exfalso; omega) | ((repeat first | rw [if_pos (by first | omega | trivial)] | rw [if_neg (by omega)]) <;> rfl))
    · refine jk_gets (q := 25) (a := 13) (zz_Ts hz (i := 1) (by decide)) jw_458 dX2_troubleWithLine_22 rfl ?_
      exact jk_aret rfl (by first | exact Or.inl ⟨_, rfl⟩ | exact Or.inr ⟨_, rfl⟩) dX2_troubleWithLine_25 (by 
              refine jk_qR ?_
              show _ = 12 + cl_tc 3 (md_addsLine g a b v len).1
              clear hz hch hr hi hcc hwa hsh hf hs
              unfold md_addsLine
              simp only [cl_mi, cl_in_dec]
              (try simp only [cl_has, decide_eq_true_eq, decide_eq_false_iff_not] at *)
              (try rcases hx9 with hx9 | hx9)
              all_goals first | (exfalso; omega) | ((repeat first | rw [if_pos (by first | omega | trivial)] | rw [if_neg (by omega)]) <;> rfl))
theorem c_X2_troubleWithBackwardRun {G : jk_G} {n : Nat} {t : jk_T} {σ : jk_I} {ρ : jk_P} {c y w f s : Nat} {g : Int → Int} {B l v : Int} (hz : zz_ok G) (hch : ch_at t ρ c y w f s) (hr : cl_rel σ s g) (hi : md_inv B g) (hl : jk_in l) (hv : jk_in v) : jk_K G yX2_troubleWithBackwardRun mX2_troubleWithBackwardRun 0 0 [.ref c, jI l, jI v] n t σ ρ (jk_q (some (.ref (12 + cl_tc 4 (md_addsRun g l v).1))) n t σ ρ) jk_no := by
  obtain ⟨hcc, hwa, hsh, hwy, hyc⟩ := id hch
  obtain ⟨-, -, hf, hfw⟩ := id hwa
  obtain ⟨-, -, -, -, hs, hsf⟩ := id hf
  have i0 := hi.1
  have i1 := hi.2.1
  have i2 := hi.2.2.1
  obtain ⟨q0, q1, q2, q3⟩ := hr.1
  refine jk_entryB (ls := [some (.ref c), some (jI l), some (jI v)]) jm_X2_troubleWithBackwardRun.1 rfl rfl rfl ?_
  refine jk_aload_n (q := 1) dX2_troubleWithBackwardRun_0 rfl rfl ?_
  refine jk_getA (q := 4) (k := 2) 0 0 rfl (by first | exact hcc.1 | exact hs.1 | exact hs.2.1 _ _ rfl | assumption) (by first | exact hcc.2.1 | exact hcc.2.2.1 | exact hcc.2.2.2.1 | exact hcc.2.2.2.2 | exact hs.2.2.1 _ _ rfl | assumption) rfl rfl jw_295 dX2_troubleWithBackwardRun_1 rfl ?_
  refine jk_iload_n (q := 5) dX2_troubleWithBackwardRun_4 rfl rfl ?_
  refine jk_cV1p (q := 8) (c_X9_hasLine hs hr (by assumption) (by show jk_in (g 1); exact ⟨by omega, by omega⟩)) jm_X9_hasLine jw_485 rfl (by first | exact hcc.1 | exact hs.1 | exact hs.2.1 _ _ rfl | assumption) rfl rfl rfl dX2_troubleWithBackwardRun_5 rfl ?_
  refine jk_ifB_ne (q := 15) (q2 := 11) dX2_troubleWithBackwardRun_8 rfl rfl (fun z1 => ?_) (fun z1 => ?_)
  · refine jk_iload_n (q := 16) dX2_troubleWithBackwardRun_15 rfl rfl ?_
    refine jk_cS1p (q := 19) (c_X2_isRun (by assumption)) jm_X2_isRun jw_478 rfl rfl rfl dX2_troubleWithBackwardRun_16 rfl ?_
    refine jk_ifB_ne (q := 26) (q2 := 22) dX2_troubleWithBackwardRun_19 rfl rfl (fun z2 => ?_) (fun z2 => ?_)
    · have hl9 := cl_hasT z1
      have hx9 := (md_inv_ln hi (l := l) ⟨by omega, by omega⟩).2.2.2.2.1
      have hv9 := (hr.2.2.1 l hl9).2.2.2.2.2.1
      refine jk_aload_n (q := 27) dX2_troubleWithBackwardRun_26 rfl rfl ?_
      refine jk_getA (q := 30) (k := 2) 0 0 rfl (by first | exact hcc.1 | exact hs.1 | exact hs.2.1 _ _ rfl | assumption) (by first | exact hcc.2.1 | exact hcc.2.2.1 | exact hcc.2.2.2.1 | exact hcc.2.2.2.2 | exact hs.2.2.1 _ _ rfl | assumption) rfl rfl jw_295 dX2_troubleWithBackwardRun_27 rfl ?_
      refine jk_getA (q := 33) (k := 9) 9 9 rfl (by first | exact hcc.1 | exact hs.1 | exact hs.2.1 _ _ rfl | assumption) (by first | exact hcc.2.1 | exact hcc.2.2.1 | exact hcc.2.2.2.1 | exact hcc.2.2.2.2 | exact hs.2.2.1 _ _ rfl | assumption) rfl rfl jw_96 dX2_troubleWithBackwardRun_30 rfl ?_
      refine jk_iload_n (q := 34) dX2_troubleWithBackwardRun_33 rfl rfl ?_
      refine jk_zaldR (q := 35) (by first | exact hcc.1 | exact hs.1 | exact hs.2.1 _ _ rfl | assumption) (by first | exact jk_row_same _ _ _ | ((repeat rewrite [jk_row_ne _ _ (by omega)]); first | exact jk_row_same _ _ _ | rfl)) (by first | assumption | decide | omega | exact jB_01 _ | exact jB_in _ | exact ⟨by omega, by omega⟩) dX2_troubleWithBackwardRun_34 rfl ?_
      rw [hv9]
      refine jk_if_ne (q := 42) (q2 := 38) dX2_troubleWithBackwardRun_35 rfl rfl (by first | assumption | decide | omega | exact jB_01 _ | exact jB_in _ | exact ⟨by omega, by omega⟩) (fun z3 => ?_) (fun z3 => ?_)
      · refine jk_iconst (q := 43) dX2_troubleWithBackwardRun_42 rfl ?_
        refine jk_cS1p (q := 46) (c_X2_stateTroubleUnless hz (by first | exact Or.inl rfl | exact Or.inr rfl)) jm_X2_stateTroubleUnless jw_443 rfl rfl rfl dX2_troubleWithBackwardRun_43 rfl ?_
        exact jk_aret rfl (by first | exact Or.inl ⟨_, rfl⟩ | exact Or.inr ⟨_, rfl⟩) dX2_troubleWithBackwardRun_46 (by 
                refine jk_qR ?_
                show _ = 12 + cl_tc 4 (md_addsRun g l v).1
                clear hz hch hr hi hcc hwa hsh hf hs
                unfold md_addsRun
                simp only [cl_mi, cl_in_dec]
                (try simp only [cl_has, decide_eq_true_eq, decide_eq_false_iff_not] at *)
                (try rcases hx9 with hx9 | hx9)
                all_goals first | (exfalso; omega) | ((repeat first | rw [if_pos (by first | omega | trivial)] | rw [if_neg (by omega)]) <;> rfl))
      · refine jk_iconst (q := 39) dX2_troubleWithBackwardRun_38 rfl ?_
        refine jk_goto (q := 43) dX2_troubleWithBackwardRun_39 rfl ?_
        refine jk_cS1p (q := 46) (c_X2_stateTroubleUnless hz (by first | exact Or.inl rfl | exact Or.inr rfl)) jm_X2_stateTroubleUnless jw_443 rfl rfl rfl dX2_troubleWithBackwardRun_43 rfl ?_
        exact jk_aret rfl (by first | exact Or.inl ⟨_, rfl⟩ | exact Or.inr ⟨_, rfl⟩) dX2_troubleWithBackwardRun_46 (by 
                refine jk_qR ?_
                show _ = 12 + cl_tc 4 (md_addsRun g l v).1
                clear hz hch hr hi hcc hwa hsh hf hs
                unfold md_addsRun
                simp only [cl_mi, cl_in_dec]
                (try simp only [cl_has, decide_eq_true_eq, decide_eq_false_iff_not] at *)
                (try rcases hx9 with hx9 | hx9)
                all_goals first | (exfalso; omega) | ((repeat first | rw [if_pos (by first | omega | trivial)] | rw [if_neg (by omega)]) <;> rfl))
    · refine jk_gets (q := 25) (a := 14) (zz_Ts hz (i := 2) (by decide)) jw_468 dX2_troubleWithBackwardRun_22 rfl ?_
      exact jk_aret rfl (by first | exact Or.inl ⟨_, rfl⟩ | exact Or.inr ⟨_, rfl⟩) dX2_troubleWithBackwardRun_25 (by 
              refine jk_qR ?_
              show _ = 12 + cl_tc 4 (md_addsRun g l v).1
              clear hz hch hr hi hcc hwa hsh hf hs
              unfold md_addsRun
              simp only [cl_mi, cl_in_dec]
              (try simp only [cl_has, decide_eq_true_eq, decide_eq_false_iff_not] at *)
              (try rcases hx9 with hx9 | hx9)
              all_goals first | (exfalso; omega) | ((repeat first | rw [if_pos (by first | omega | trivial)] | rw [if_neg (by omega)]) <;> rfl))
  · refine jk_gets (q := 14) (a := 13) (zz_Ts hz (i := 1) (by decide)) jw_458 dX2_troubleWithBackwardRun_11 rfl ?_
    exact jk_aret rfl (by first | exact Or.inl ⟨_, rfl⟩ | exact Or.inr ⟨_, rfl⟩) dX2_troubleWithBackwardRun_14 (by 
            refine jk_qR ?_
            show _ = 12 + cl_tc 4 (md_addsRun g l v).1
            clear hz hch hr hi hcc hwa hsh hf hs
            unfold md_addsRun
            simp only [cl_mi, cl_in_dec]
            (try simp only [cl_has, decide_eq_true_eq, decide_eq_false_iff_not] at *)
            (try rcases hx9 with hx9 | hx9)
            all_goals first | (exfalso; omega) | ((repeat first | rw [if_pos (by first | omega | trivial)] | rw [if_neg (by omega)]) <;> rfl))
theorem c_X2_troubleWithExclusionE {G : jk_G} {n : Nat} {t : jk_T} {σ : jk_I} {ρ : jk_P} {c y w f s : Nat} {g : Int → Int} {B l : Int} (hz : zz_ok G) (hch : ch_at t ρ c y w f s) (hr : cl_rel σ s g) (hi : md_inv B g) (hl : jk_in l) : jk_K G yX2_troubleWithExclusion mX2_troubleWithExclusion 0 0 [.ref c, jI l, jI 1] n t σ ρ (jk_q (some (.ref (12 + cl_tc 5 (md_marks g l 0).1))) n t σ ρ) jk_no := by
  obtain ⟨hcc, hwa, hsh, hwy, hyc⟩ := id hch
  obtain ⟨-, -, hf, hfw⟩ := id hwa
  obtain ⟨-, -, -, -, hs, hsf⟩ := id hf
  have i0 := hi.1
  have i1 := hi.2.1
  have i2 := hi.2.2.1
  obtain ⟨q0, q1, q2, q3⟩ := hr.1
  refine jk_entryB (ls := [some (.ref c), some (jI l), some (jI 1)]) jm_X2_troubleWithExclusion.1 rfl rfl rfl ?_
  refine jk_aload_n (q := 1) dX2_troubleWithExclusion_0 rfl rfl ?_
  refine jk_getA (q := 4) (k := 2) 0 0 rfl (by first | exact hcc.1 | exact hs.1 | exact hs.2.1 _ _ rfl | assumption) (by first | exact hcc.2.1 | exact hcc.2.2.1 | exact hcc.2.2.2.1 | exact hcc.2.2.2.2 | exact hs.2.2.1 _ _ rfl | assumption) rfl rfl jw_295 dX2_troubleWithExclusion_1 rfl ?_
  refine jk_iload_n (q := 5) dX2_troubleWithExclusion_4 rfl rfl ?_
  refine jk_cV1p (q := 8) (c_X9_hasLine hs hr (by assumption) (by show jk_in (g 1); exact ⟨by omega, by omega⟩)) jm_X9_hasLine jw_485 rfl (by first | exact hcc.1 | exact hs.1 | exact hs.2.1 _ _ rfl | assumption) rfl rfl rfl dX2_troubleWithExclusion_5 rfl ?_
  refine jk_ifB_ne (q := 15) (q2 := 11) dX2_troubleWithExclusion_8 rfl rfl (fun z1 => ?_) (fun z1 => ?_)
  · have hl9 := cl_hasT z1
    have hx9 := (md_inv_ln hi (l := l) ⟨by omega, by omega⟩).2.2.2.2.2.2.1
    have hv9 := (hr.2.2.1 l hl9).2.2.2.2.2.2.1
    refine jk_aload_n (q := 16) dX2_troubleWithExclusion_15 rfl rfl ?_
    refine jk_getA (q := 19) (k := 2) 0 0 rfl (by first | exact hcc.1 | exact hs.1 | exact hs.2.1 _ _ rfl | assumption) (by first | exact hcc.2.1 | exact hcc.2.2.1 | exact hcc.2.2.2.1 | exact hcc.2.2.2.2 | exact hs.2.2.1 _ _ rfl | assumption) rfl rfl jw_295 dX2_troubleWithExclusion_16 rfl ?_
    refine jk_getA (q := 22) (k := 9) 10 10 rfl (by first | exact hcc.1 | exact hs.1 | exact hs.2.1 _ _ rfl | assumption) (by first | exact hcc.2.1 | exact hcc.2.2.1 | exact hcc.2.2.2.1 | exact hcc.2.2.2.2 | exact hs.2.2.1 _ _ rfl | assumption) rfl rfl jw_99 dX2_troubleWithExclusion_19 rfl ?_
    refine jk_iload_n (q := 23) dX2_troubleWithExclusion_22 rfl rfl ?_
    refine jk_zaldR (q := 24) (by first | exact hcc.1 | exact hs.1 | exact hs.2.1 _ _ rfl | assumption) (by first | exact jk_row_same _ _ _ | ((repeat rewrite [jk_row_ne _ _ (by omega)]); first | exact jk_row_same _ _ _ | rfl)) (by first | assumption | decide | omega | exact jB_01 _ | exact jB_in _ | exact ⟨by omega, by omega⟩) dX2_troubleWithExclusion_23 rfl ?_
    rw [hv9]
    refine jk_iload_n (q := 25) dX2_troubleWithExclusion_24 rfl rfl ?_
    refine jk_icmp_eq (q := 32) (q2 := 28) dX2_troubleWithExclusion_25 rfl rfl (by first | assumption | decide | omega | exact jB_01 _ | exact jB_in _ | exact ⟨by omega, by omega⟩) (by first | assumption | decide | omega | exact jB_01 _ | exact jB_in _ | exact ⟨by omega, by omega⟩) (fun z2 => ?_) (fun z2 => ?_)
    · refine jk_iconst (q := 33) dX2_troubleWithExclusion_32 rfl ?_
      refine jk_cS1p (q := 36) (c_X2_stateTroubleUnless hz (by first | exact Or.inl rfl | exact Or.inr rfl)) jm_X2_stateTroubleUnless jw_443 rfl rfl rfl dX2_troubleWithExclusion_33 rfl ?_
      exact jk_aret rfl (by first | exact Or.inl ⟨_, rfl⟩ | exact Or.inr ⟨_, rfl⟩) dX2_troubleWithExclusion_36 (by 
              refine jk_qR ?_
              show _ = 12 + cl_tc 5 (md_marks g l 0).1
              clear hz hch hr hi hcc hwa hsh hf hs
              unfold md_marks
              simp only [cl_mi, cl_in_dec]
              (try simp only [cl_has, decide_eq_true_eq, decide_eq_false_iff_not] at *)
              (try rcases hx9 with hx9 | hx9)
              all_goals first | (exfalso; omega) | ((repeat first | rw [if_pos (by first | omega | trivial)] | rw [if_neg (by omega)]) <;> rfl))
    · refine jk_iconst (q := 29) dX2_troubleWithExclusion_28 rfl ?_
      refine jk_goto (q := 33) dX2_troubleWithExclusion_29 rfl ?_
      refine jk_cS1p (q := 36) (c_X2_stateTroubleUnless hz (by first | exact Or.inl rfl | exact Or.inr rfl)) jm_X2_stateTroubleUnless jw_443 rfl rfl rfl dX2_troubleWithExclusion_33 rfl ?_
      exact jk_aret rfl (by first | exact Or.inl ⟨_, rfl⟩ | exact Or.inr ⟨_, rfl⟩) dX2_troubleWithExclusion_36 (by 
              refine jk_qR ?_
              show _ = 12 + cl_tc 5 (md_marks g l 0).1
              clear hz hch hr hi hcc hwa hsh hf hs
              unfold md_marks
              simp only [cl_mi, cl_in_dec]
              (try simp only [cl_has, decide_eq_true_eq, decide_eq_false_iff_not] at *)
              (try rcases hx9 with hx9 | hx9)
              all_goals first | (exfalso; omega) | ((repeat first | rw [if_pos (by first | omega | trivial)] | rw [if_neg (by omega)]) <;> rfl))
  · refine jk_gets (q := 14) (a := 13) (zz_Ts hz (i := 1) (by decide)) jw_458 dX2_troubleWithExclusion_11 rfl ?_
    exact jk_aret rfl (by first | exact Or.inl ⟨_, rfl⟩ | exact Or.inr ⟨_, rfl⟩) dX2_troubleWithExclusion_14 (by 
            refine jk_qR ?_
            show _ = 12 + cl_tc 5 (md_marks g l 0).1
            clear hz hch hr hi hcc hwa hsh hf hs
            unfold md_marks
            simp only [cl_mi, cl_in_dec]
            (try simp only [cl_has, decide_eq_true_eq, decide_eq_false_iff_not] at *)
            (try rcases hx9 with hx9 | hx9)
            all_goals first | (exfalso; omega) | ((repeat first | rw [if_pos (by first | omega | trivial)] | rw [if_neg (by omega)]) <;> rfl))
theorem c_X2_troubleWithExclusionI {G : jk_G} {n : Nat} {t : jk_T} {σ : jk_I} {ρ : jk_P} {c y w f s : Nat} {g : Int → Int} {B l : Int} (hz : zz_ok G) (hch : ch_at t ρ c y w f s) (hr : cl_rel σ s g) (hi : md_inv B g) (hl : jk_in l) : jk_K G yX2_troubleWithExclusion mX2_troubleWithExclusion 0 0 [.ref c, jI l, jI 0] n t σ ρ (jk_q (some (.ref (12 + cl_tc 6 (md_marks g l 1).1))) n t σ ρ) jk_no := by
  obtain ⟨hcc, hwa, hsh, hwy, hyc⟩ := id hch
  obtain ⟨-, -, hf, hfw⟩ := id hwa
  obtain ⟨-, -, -, -, hs, hsf⟩ := id hf
  have i0 := hi.1
  have i1 := hi.2.1
  have i2 := hi.2.2.1
  obtain ⟨q0, q1, q2, q3⟩ := hr.1
  refine jk_entryB (ls := [some (.ref c), some (jI l), some (jI 0)]) jm_X2_troubleWithExclusion.1 rfl rfl rfl ?_
  refine jk_aload_n (q := 1) dX2_troubleWithExclusion_0 rfl rfl ?_
  refine jk_getA (q := 4) (k := 2) 0 0 rfl (by first | exact hcc.1 | exact hs.1 | exact hs.2.1 _ _ rfl | assumption) (by first | exact hcc.2.1 | exact hcc.2.2.1 | exact hcc.2.2.2.1 | exact hcc.2.2.2.2 | exact hs.2.2.1 _ _ rfl | assumption) rfl rfl jw_295 dX2_troubleWithExclusion_1 rfl ?_
  refine jk_iload_n (q := 5) dX2_troubleWithExclusion_4 rfl rfl ?_
  refine jk_cV1p (q := 8) (c_X9_hasLine hs hr (by assumption) (by show jk_in (g 1); exact ⟨by omega, by omega⟩)) jm_X9_hasLine jw_485 rfl (by first | exact hcc.1 | exact hs.1 | exact hs.2.1 _ _ rfl | assumption) rfl rfl rfl dX2_troubleWithExclusion_5 rfl ?_
  refine jk_ifB_ne (q := 15) (q2 := 11) dX2_troubleWithExclusion_8 rfl rfl (fun z1 => ?_) (fun z1 => ?_)
  · have hl9 := cl_hasT z1
    have hx9 := (md_inv_ln hi (l := l) ⟨by omega, by omega⟩).2.2.2.2.2.2.1
    have hv9 := (hr.2.2.1 l hl9).2.2.2.2.2.2.1
    refine jk_aload_n (q := 16) dX2_troubleWithExclusion_15 rfl rfl ?_
    refine jk_getA (q := 19) (k := 2) 0 0 rfl (by first | exact hcc.1 | exact hs.1 | exact hs.2.1 _ _ rfl | assumption) (by first | exact hcc.2.1 | exact hcc.2.2.1 | exact hcc.2.2.2.1 | exact hcc.2.2.2.2 | exact hs.2.2.1 _ _ rfl | assumption) rfl rfl jw_295 dX2_troubleWithExclusion_16 rfl ?_
    refine jk_getA (q := 22) (k := 9) 10 10 rfl (by first | exact hcc.1 | exact hs.1 | exact hs.2.1 _ _ rfl | assumption) (by first | exact hcc.2.1 | exact hcc.2.2.1 | exact hcc.2.2.2.1 | exact hcc.2.2.2.2 | exact hs.2.2.1 _ _ rfl | assumption) rfl rfl jw_99 dX2_troubleWithExclusion_19 rfl ?_
    refine jk_iload_n (q := 23) dX2_troubleWithExclusion_22 rfl rfl ?_
    refine jk_zaldR (q := 24) (by first | exact hcc.1 | exact hs.1 | exact hs.2.1 _ _ rfl | assumption) (by first | exact jk_row_same _ _ _ | ((repeat rewrite [jk_row_ne _ _ (by omega)]); first | exact jk_row_same _ _ _ | rfl)) (by first | assumption | decide | omega | exact jB_01 _ | exact jB_in _ | exact ⟨by omega, by omega⟩) dX2_troubleWithExclusion_23 rfl ?_
    rw [hv9]
    refine jk_iload_n (q := 25) dX2_troubleWithExclusion_24 rfl rfl ?_
    refine jk_icmp_eq (q := 32) (q2 := 28) dX2_troubleWithExclusion_25 rfl rfl (by first | assumption | decide | omega | exact jB_01 _ | exact jB_in _ | exact ⟨by omega, by omega⟩) (by first | assumption | decide | omega | exact jB_01 _ | exact jB_in _ | exact ⟨by omega, by omega⟩) (fun z2 => ?_) (fun z2 => ?_)
    · refine jk_iconst (q := 33) dX2_troubleWithExclusion_32 rfl ?_
      refine jk_cS1p (q := 36) (c_X2_stateTroubleUnless hz (by first | exact Or.inl rfl | exact Or.inr rfl)) jm_X2_stateTroubleUnless jw_443 rfl rfl rfl dX2_troubleWithExclusion_33 rfl ?_
      exact jk_aret rfl (by first | exact Or.inl ⟨_, rfl⟩ | exact Or.inr ⟨_, rfl⟩) dX2_troubleWithExclusion_36 (by 
              refine jk_qR ?_
              show _ = 12 + cl_tc 6 (md_marks g l 1).1
              clear hz hch hr hi hcc hwa hsh hf hs
              unfold md_marks
              simp only [cl_mi, cl_in_dec]
              (try simp only [cl_has, decide_eq_true_eq, decide_eq_false_iff_not] at *)
              (try rcases hx9 with hx9 | hx9)
              all_goals first | (exfalso; omega) | ((repeat first | rw [if_pos (by first | omega | trivial)] | rw [if_neg (by omega)]) <;> rfl))
    · refine jk_iconst (q := 29) dX2_troubleWithExclusion_28 rfl ?_
      refine jk_goto (q := 33) dX2_troubleWithExclusion_29 rfl ?_
      refine jk_cS1p (q := 36) (c_X2_stateTroubleUnless hz (by first | exact Or.inl rfl | exact Or.inr rfl)) jm_X2_stateTroubleUnless jw_443 rfl rfl rfl dX2_troubleWithExclusion_33 rfl ?_
      exact jk_aret rfl (by first | exact Or.inl ⟨_, rfl⟩ | exact Or.inr ⟨_, rfl⟩) dX2_troubleWithExclusion_36 (by 
              refine jk_qR ?_
              show _ = 12 + cl_tc 6 (md_marks g l 1).1
              clear hz hch hr hi hcc hwa hsh hf hs
              unfold md_marks
              simp only [cl_mi, cl_in_dec]
              (try simp only [cl_has, decide_eq_true_eq, decide_eq_false_iff_not] at *)
              (try rcases hx9 with hx9 | hx9)
              all_goals first | (exfalso; omega) | ((repeat first | rw [if_pos (by first | omega | trivial)] | rw [if_neg (by omega)]) <;> rfl))
  · refine jk_gets (q := 14) (a := 13) (zz_Ts hz (i := 1) (by decide)) jw_458 dX2_troubleWithExclusion_11 rfl ?_
    exact jk_aret rfl (by first | exact Or.inl ⟨_, rfl⟩ | exact Or.inr ⟨_, rfl⟩) dX2_troubleWithExclusion_14 (by 
            refine jk_qR ?_
            show _ = 12 + cl_tc 6 (md_marks g l 1).1
            clear hz hch hr hi hcc hwa hsh hf hs
            unfold md_marks
            simp only [cl_mi, cl_in_dec]
            (try simp only [cl_has, decide_eq_true_eq, decide_eq_false_iff_not] at *)
            (try rcases hx9 with hx9 | hx9)
            all_goals first | (exfalso; omega) | ((repeat first | rw [if_pos (by first | omega | trivial)] | rw [if_neg (by omega)]) <;> rfl))
theorem c_X2_troubleWithProfile {G : jk_G} {n : Nat} {t : jk_T} {σ : jk_I} {ρ : jk_P} {c y w f s : Nat} {g : Int → Int} {B p : Int} (hz : zz_ok G) (hch : ch_at t ρ c y w f s) (hr : cl_rel σ s g) (hi : md_inv B g) (hp : jk_in p) : jk_K G yX2_troubleWithProfile mX2_troubleWithProfile 0 0 [.ref c, jI p] n t σ ρ (jk_q (some (.ref (12 + cl_tc 9 (md_addsProfile g p).1))) n t σ ρ) jk_no := by
  obtain ⟨hcc, hwa, hsh, hwy, hyc⟩ := id hch
  obtain ⟨-, -, hf, hfw⟩ := id hwa
  obtain ⟨-, -, -, -, hs, hsf⟩ := id hf
  have i0 := hi.1
  have i1 := hi.2.1
  have i2 := hi.2.2.1
  obtain ⟨q0, q1, q2, q3⟩ := hr.1
  refine jk_entryB (ls := [some (.ref c), some (jI p)]) jm_X2_troubleWithProfile.1 rfl rfl rfl ?_
  refine jk_aload_n (q := 1) dX2_troubleWithProfile_0 rfl rfl ?_
  refine jk_getA (q := 4) (k := 2) 0 0 rfl (by first | exact hcc.1 | exact hs.1 | exact hs.2.1 _ _ rfl | assumption) (by first | exact hcc.2.1 | exact hcc.2.2.1 | exact hcc.2.2.2.1 | exact hcc.2.2.2.2 | exact hs.2.2.1 _ _ rfl | assumption) rfl rfl jw_295 dX2_troubleWithProfile_1 rfl ?_
  refine jk_iload_n (q := 5) dX2_troubleWithProfile_4 rfl rfl ?_
  refine jk_cV1p (q := 8) (c_X9_hasBenchmark hs hr (by assumption) (by show jk_in (g 0); exact ⟨by omega, by omega⟩)) jm_X9_hasBenchmark jw_454 rfl (by first | exact hcc.1 | exact hs.1 | exact hs.2.1 _ _ rfl | assumption) rfl rfl rfl dX2_troubleWithProfile_5 rfl ?_
  refine jk_ifB_ne (q := 15) (q2 := 11) dX2_troubleWithProfile_8 rfl rfl (fun z1 => ?_) (fun z1 => ?_)
  · refine jk_aload_n (q := 16) dX2_troubleWithProfile_15 rfl rfl ?_
    refine jk_getA (q := 19) (k := 2) 0 0 rfl (by first | exact hcc.1 | exact hs.1 | exact hs.2.1 _ _ rfl | assumption) (by first | exact hcc.2.1 | exact hcc.2.2.1 | exact hcc.2.2.2.1 | exact hcc.2.2.2.2 | exact hs.2.2.1 _ _ rfl | assumption) rfl rfl jw_295 dX2_troubleWithProfile_16 rfl ?_
    refine jk_getIR (q := 22) (k := 9) 12 12 rfl (by first | exact hcc.1 | exact hs.1 | exact hs.2.1 _ _ rfl | assumption) (by first | exact jk_row_same _ _ _ | ((repeat rewrite [jk_row_ne _ _ (by omega)]); first | exact jk_row_same _ _ _ | rfl)) rfl rfl jw_106 dX2_troubleWithProfile_19 rfl ?_
    rw [q2]
    refine jk_iconst (q := 23) dX2_troubleWithProfile_22 rfl ?_
    refine jk_icmp_ge (q := 30) (q2 := 26) dX2_troubleWithProfile_23 rfl rfl (by first | assumption | decide | omega | exact jB_01 _ | exact jB_in _ | exact ⟨by omega, by omega⟩) (by first | assumption | decide | omega | exact jB_01 _ | exact jB_in _ | exact ⟨by omega, by omega⟩) (fun z2 => ?_) (fun z2 => ?_)
    · refine jk_iconst (q := 31) dX2_troubleWithProfile_30 rfl ?_
      refine jk_cS1p (q := 34) (c_X2_stateTroubleUnless hz (by first | exact Or.inl rfl | exact Or.inr rfl)) jm_X2_stateTroubleUnless jw_443 rfl rfl rfl dX2_troubleWithProfile_31 rfl ?_
      exact jk_aret rfl (by first | exact Or.inl ⟨_, rfl⟩ | exact Or.inr ⟨_, rfl⟩) dX2_troubleWithProfile_34 (by 
              refine jk_qR ?_
              show _ = 12 + cl_tc 9 (md_addsProfile g p).1
              clear hz hch hr hi hcc hwa hsh hf hs
              unfold md_addsProfile
              simp only [cl_mi, cl_in_dec]
              (try simp only [cl_has, decide_eq_true_eq, decide_eq_false_iff_not] at *)
              (try rcases hx9 with hx9 | hx9)
              all_goals first | (exfalso; omega) | ((repeat first | rw [if_pos (by first | omega | trivial)] | rw [if_neg (by omega)]) <;> rfl))
    · refine jk_iconst (q := 27) dX2_troubleWithProfile_26 rfl ?_
      refine jk_goto (q := 31) dX2_troubleWithProfile_27 rfl ?_
      refine jk_cS1p (q := 34) (c_X2_stateTroubleUnless hz (by first | exact Or.inl rfl | exact Or.inr rfl)) jm_X2_stateTroubleUnless jw_443 rfl rfl rfl dX2_troubleWithProfile_31 rfl ?_
      exact jk_aret rfl (by first | exact Or.inl ⟨_, rfl⟩ | exact Or.inr ⟨_, rfl⟩) dX2_troubleWithProfile_34 (by 
              refine jk_qR ?_
              show _ = 12 + cl_tc 9 (md_addsProfile g p).1
              clear hz hch hr hi hcc hwa hsh hf hs
              unfold md_addsProfile
              simp only [cl_mi, cl_in_dec]
              (try simp only [cl_has, decide_eq_true_eq, decide_eq_false_iff_not] at *)
              (try rcases hx9 with hx9 | hx9)
              all_goals first | (exfalso; omega) | ((repeat first | rw [if_pos (by first | omega | trivial)] | rw [if_neg (by omega)]) <;> rfl))
  · refine jk_gets (q := 14) (a := 13) (zz_Ts hz (i := 1) (by decide)) jw_458 dX2_troubleWithProfile_11 rfl ?_
    exact jk_aret rfl (by first | exact Or.inl ⟨_, rfl⟩ | exact Or.inr ⟨_, rfl⟩) dX2_troubleWithProfile_14 (by 
            refine jk_qR ?_
            show _ = 12 + cl_tc 9 (md_addsProfile g p).1
            clear hz hch hr hi hcc hwa hsh hf hs
            unfold md_addsProfile
            simp only [cl_mi, cl_in_dec]
            (try simp only [cl_has, decide_eq_true_eq, decide_eq_false_iff_not] at *)
            (try rcases hx9 with hx9 | hx9)
            all_goals first | (exfalso; omega) | ((repeat first | rw [if_pos (by first | omega | trivial)] | rw [if_neg (by omega)]) <;> rfl))
theorem c_X2_troubleWithStation {G : jk_G} {n : Nat} {t : jk_T} {σ : jk_I} {ρ : jk_P} {c y w f s : Nat} {g : Int → Int} {B p d v : Int} (hz : zz_ok G) (hch : ch_at t ρ c y w f s) (hr : cl_rel σ s g) (hi : md_inv B g) (hp : jk_in p) (hd : jk_in d) (hv : jk_in v) : jk_K G yX2_troubleWithStation mX2_troubleWithStation 0 0 [.ref c, jI p, jI d, jI v] n t σ ρ (jk_q (some (.ref (12 + cl_tc 10 (md_addsStation g p d v).1))) n t σ ρ) jk_no := by
  obtain ⟨hcc, hwa, hsh, hwy, hyc⟩ := id hch
  obtain ⟨-, -, hf, hfw⟩ := id hwa
  obtain ⟨-, -, -, -, hs, hsf⟩ := id hf
  have i0 := hi.1
  have i1 := hi.2.1
  have i2 := hi.2.2.1
  obtain ⟨q0, q1, q2, q3⟩ := hr.1
  refine jk_entryB (ls := [some (.ref c), some (jI p), some (jI d), some (jI v), none]) jm_X2_troubleWithStation.1 rfl rfl rfl ?_
  refine jk_aload_n (q := 1) dX2_troubleWithStation_0 rfl rfl ?_
  refine jk_getA (q := 4) (k := 2) 0 0 rfl (by first | exact hcc.1 | exact hs.1 | exact hs.2.1 _ _ rfl | exact (cl_rows hs hq4).1 | assumption) (by first | exact hcc.2.1 | exact hcc.2.2.1 | exact hcc.2.2.2.1 | exact hcc.2.2.2.2 | exact hs.2.2.1 _ _ rfl | exact (hs.2.2.2 q hq4).1 | assumption) rfl rfl jw_295 dX2_troubleWithStation_1 rfl ?_
  refine jk_iload_n (q := 5) dX2_troubleWithStation_4 rfl rfl ?_
  refine jk_cV1p (q := 8) (c_X9_hasProfile hs hr (by assumption) (by show jk_in (g 2); exact ⟨by omega, by omega⟩)) jm_X9_hasProfile jw_578 rfl (by first | exact hcc.1 | exact hs.1 | exact hs.2.1 _ _ rfl | exact (cl_rows hs hq4).1 | assumption) rfl rfl rfl dX2_troubleWithStation_5 rfl ?_
  refine jk_ifB_ne (q := 15) (q2 := 11) dX2_troubleWithStation_8 rfl rfl (fun z1 => ?_) (fun z1 => ?_)
  · have hp9 := cl_hasT z1
    obtain ⟨q, hq9⟩ : ∃ q : Nat, p = (q : Int) := ⟨p.toNat, by omega⟩
    subst hq9
    have hq4 : q < 4 := by omega
    obtain ⟨r1, r2, r3⟩ := hr.2.2.2 q hp9.2
    have hst := (hi.2.2.2.2.2.2.2.1 (q : Int) ⟨by omega, by omega⟩).1
    have hgb : ∀ i, 160 ≤ i ∧ i < 240 → -999 ≤ g i ∧ g i ≤ 999 := hi.2.2.2.2.2.2.2.2
    refine jk_iload_n (q := 16) dX2_troubleWithStation_15 rfl rfl ?_
    refine jk_iconst (q := 17) dX2_troubleWithStation_16 rfl ?_
    refine jk_bipush (q := 19) (y := 99) dX2_troubleWithStation_17 rfl (by decide) ?_
    refine jk_cS3pN (q := 22) (c_X12_within (by assumption) (by decide) (by decide)) jm_X12_within jw_465 rfl rfl rfl dX2_troubleWithStation_19 rfl ?_
    refine jk_ifB_eq (q := 38) (q2 := 25) dX2_troubleWithStation_22 rfl rfl (fun z2 => ?_) (fun z2 => ?_)
    · refine jk_gets (q := 41) (a := 14) (zz_Ts hz (i := 2) (by decide)) jw_468 dX2_troubleWithStation_38 rfl ?_
      exact jk_aret rfl (by first | exact Or.inl ⟨_, rfl⟩ | exact Or.inr ⟨_, rfl⟩) dX2_troubleWithStation_41 (by 
              refine jk_qR ?_
              show _ = 12 + cl_tc 10 (md_addsStation g _ d v).1
              clear hz hch hr hi hcc hwa hsh hf hs
              unfold md_addsStation
              simp only [cl_mi, cl_in_dec]
              (try simp only [cl_has, decide_eq_true_eq, decide_eq_false_iff_not] at *)
              (try rcases hx9 with hx9 | hx9)
              all_goals first | (exfalso; omega) | ((repeat first | rw [if_pos (by first | omega | trivial)] | rw [if_neg (by omega)]) <;> rfl))
    · refine jk_iload_n (q := 26) dX2_troubleWithStation_25 rfl rfl ?_
      refine jk_sipush (q := 29) (y := -999) dX2_troubleWithStation_26 rfl (by decide) ?_
      refine jk_sipush (q := 32) (y := 999) dX2_troubleWithStation_29 rfl (by decide) ?_
      refine jk_cS3pN (q := 35) (c_X12_within (by assumption) (by decide) (by decide)) jm_X12_within jw_465 rfl rfl rfl dX2_troubleWithStation_32 rfl ?_
      refine jk_ifB_ne (q := 42) (q2 := 38) dX2_troubleWithStation_35 rfl rfl (fun z3 => ?_) (fun z3 => ?_)
      · refine jk_aload_n (q := 43) dX2_troubleWithStation_42 rfl rfl ?_
        refine jk_getA (q := 46) (k := 2) 0 0 rfl (by first | exact hcc.1 | exact hs.1 | exact hs.2.1 _ _ rfl | exact (cl_rows hs hq4).1 | assumption) (by first | exact hcc.2.1 | exact hcc.2.2.1 | exact hcc.2.2.2.1 | exact hcc.2.2.2.2 | exact hs.2.2.1 _ _ rfl | exact (hs.2.2.2 q hq4).1 | assumption) rfl rfl jw_295 dX2_troubleWithStation_43 rfl ?_
        refine jk_getA (q := 49) (k := 9) 14 14 rfl (by first | exact hcc.1 | exact hs.1 | exact hs.2.1 _ _ rfl | exact (cl_rows hs hq4).1 | assumption) (by first | exact hcc.2.1 | exact hcc.2.2.1 | exact hcc.2.2.2.1 | exact hcc.2.2.2.2 | exact hs.2.2.1 _ _ rfl | exact (hs.2.2.2 q hq4).1 | assumption) rfl rfl jw_113 dX2_troubleWithStation_46 rfl ?_
        refine jk_iload_n (q := 50) dX2_troubleWithStation_49 rfl rfl ?_
        refine jk_ialdR (q := 51) (by first | exact hcc.1 | exact hs.1 | exact hs.2.1 _ _ rfl | exact (cl_rows hs hq4).1 | assumption) (by first | exact jk_row_same _ _ _ | ((repeat rewrite [jk_row_ne _ _ (by omega)]); first | exact jk_row_same _ _ _ | rfl)) (by first | assumption | decide | omega | exact jB_01 _ | exact jB_in _ | exact ⟨by omega, by omega⟩) dX2_troubleWithStation_50 rfl ?_
        rw [r2]
        refine jk_istore4 (q := 53) dX2_troubleWithStation_51 rfl rfl rfl ?_
        refine jk_iload (q := 55) dX2_troubleWithStation_53 rfl rfl ?_
        refine jk_bipush (q := 57) (y := 10) dX2_troubleWithStation_55 rfl (by decide) ?_
        refine jk_icmp_ge (q := 87) (q2 := 60) dX2_troubleWithStation_57 rfl rfl (by first | assumption | decide | omega | exact jB_01 _ | exact jB_in _ | exact ⟨by omega, by omega⟩) (by first | assumption | decide | omega | exact jB_01 _ | exact jB_in _ | exact ⟨by omega, by omega⟩) (fun z4 => ?_) (fun z4 => ?_)
        · refine jk_iconst (q := 88) dX2_troubleWithStation_87 rfl ?_
          refine jk_cS1p (q := 91) (c_X2_stateTroubleUnless hz (by first | exact Or.inl rfl | exact Or.inr rfl)) jm_X2_stateTroubleUnless jw_443 rfl rfl rfl dX2_troubleWithStation_88 rfl ?_
          exact jk_aret rfl (by first | exact Or.inl ⟨_, rfl⟩ | exact Or.inr ⟨_, rfl⟩) dX2_troubleWithStation_91 (by 
                  refine jk_qR ?_
                  show _ = 12 + cl_tc 10 (md_addsStation g _ d v).1
                  clear hz hch hr hi hcc hwa hsh hf hs
                  unfold md_addsStation
                  simp only [cl_mi, cl_in_dec]
                  (try simp only [cl_has, decide_eq_true_eq, decide_eq_false_iff_not] at *)
                  (try rcases hx9 with hx9 | hx9)
                  all_goals first | (exfalso; omega) | ((repeat first | rw [if_pos (by first | omega | trivial)] | rw [if_neg (by omega)]) <;> rfl))
        · refine jk_iload (q := 62) dX2_troubleWithStation_60 rfl rfl ?_
          refine jk_if_eq (q := 83) (q2 := 65) dX2_troubleWithStation_62 rfl rfl (by first | assumption | decide | omega | exact jB_01 _ | exact jB_in _ | exact ⟨by omega, by omega⟩) (fun z5 => ?_) (fun z5 => ?_)
          · refine jk_iconst (q := 84) dX2_troubleWithStation_83 rfl ?_
            refine jk_goto (q := 88) dX2_troubleWithStation_84 rfl ?_
            refine jk_cS1p (q := 91) (c_X2_stateTroubleUnless hz (by first | exact Or.inl rfl | exact Or.inr rfl)) jm_X2_stateTroubleUnless jw_443 rfl rfl rfl dX2_troubleWithStation_88 rfl ?_
            exact jk_aret rfl (by first | exact Or.inl ⟨_, rfl⟩ | exact Or.inr ⟨_, rfl⟩) dX2_troubleWithStation_91 (by 
                    refine jk_qR ?_
                    show _ = 12 + cl_tc 10 (md_addsStation g _ d v).1
                    clear hz hch hr hi hcc hwa hsh hf hs
                    unfold md_addsStation
                    simp only [cl_mi, cl_in_dec]
                    (try simp only [cl_has, decide_eq_true_eq, decide_eq_false_iff_not] at *)
                    (try rcases hx9 with hx9 | hx9)
                    all_goals first | (exfalso; omega) | ((repeat first | rw [if_pos (by first | omega | trivial)] | rw [if_neg (by omega)]) <;> rfl))
          · have r4 := (r3 (g (156 + (q : Int)) - 1) ⟨by omega, by omega⟩).1
            have r5 := hgb (160 + 10 * (q : Int) + (g (156 + (q : Int)) - 1)) ⟨by omega, by omega⟩
            refine jk_iload_n (q := 66) dX2_troubleWithStation_65 rfl rfl ?_
            refine jk_aload_n (q := 67) dX2_troubleWithStation_66 rfl rfl ?_
            refine jk_getA (q := 70) (k := 2) 0 0 rfl (by first | exact hcc.1 | exact hs.1 | exact hs.2.1 _ _ rfl | exact (cl_rows hs hq4).1 | assumption) (by first | exact hcc.2.1 | exact hcc.2.2.1 | exact hcc.2.2.2.1 | exact hcc.2.2.2.2 | exact hs.2.2.1 _ _ rfl | exact (hs.2.2.2 q hq4).1 | assumption) rfl rfl jw_295 dX2_troubleWithStation_67 rfl ?_
            refine jk_getA (q := 73) (k := 9) 15 15 rfl (by first | exact hcc.1 | exact hs.1 | exact hs.2.1 _ _ rfl | exact (cl_rows hs hq4).1 | assumption) (by first | exact hcc.2.1 | exact hcc.2.2.1 | exact hcc.2.2.2.1 | exact hcc.2.2.2.2 | exact hs.2.2.1 _ _ rfl | exact (hs.2.2.2 q hq4).1 | assumption) rfl rfl jw_117 dX2_troubleWithStation_70 rfl ?_
            refine jk_iload_n (q := 74) dX2_troubleWithStation_73 rfl rfl ?_
            refine jk_aald (q := 75) (ty := .array .int) rfl rfl (by first | exact hcc.1 | exact hs.1 | exact hs.2.1 _ _ rfl | exact (cl_rows hs hq4).1 | assumption) (by first | assumption | decide | omega | exact jB_01 _ | exact jB_in _ | exact ⟨by omega, by omega⟩) (by first | exact hcc.2.1 | exact hcc.2.2.1 | exact hcc.2.2.2.1 | exact hcc.2.2.2.2 | exact hs.2.2.1 _ _ rfl | exact (hs.2.2.2 q hq4).1 | assumption) dX2_troubleWithStation_74 rfl ?_
            refine jk_iload (q := 77) dX2_troubleWithStation_75 rfl rfl ?_
            refine jk_iconst (q := 78) dX2_troubleWithStation_77 rfl ?_
            refine jk_isub (q := 79) dX2_troubleWithStation_78 rfl ?_
            refine jk_ialdR (q := 80) (by first | exact hcc.1 | exact hs.1 | exact hs.2.1 _ _ rfl | exact (cl_rows hs hq4).1 | assumption) (by first | exact jk_row_same _ _ _ | ((repeat rewrite [jk_row_ne _ _ (by omega)]); first | exact jk_row_same _ _ _ | rfl)) (by first | assumption | decide | omega | exact jB_01 _ | exact jB_in _ | exact ⟨by omega, by omega⟩) dX2_troubleWithStation_79 rfl ?_
            rw [r4]
            refine jk_icmp_le (q := 87) (q2 := 83) dX2_troubleWithStation_80 rfl rfl (by first | assumption | decide | omega | exact jB_01 _ | exact jB_in _ | exact ⟨by omega, by omega⟩) (by first | assumption | decide | omega | exact jB_01 _ | exact jB_in _ | exact ⟨by omega, by omega⟩) (fun z6 => ?_) (fun z6 => ?_)
            · refine jk_iconst (q := 88) dX2_troubleWithStation_87 rfl ?_
              refine jk_cS1p (q := 91) (c_X2_stateTroubleUnless hz (by first | exact Or.inl rfl | exact Or.inr rfl)) jm_X2_stateTroubleUnless jw_443 rfl rfl rfl dX2_troubleWithStation_88 rfl ?_
              exact jk_aret rfl (by first | exact Or.inl ⟨_, rfl⟩ | exact Or.inr ⟨_, rfl⟩) dX2_troubleWithStation_91 (by 
                      refine jk_qR ?_
                      show _ = 12 + cl_tc 10 (md_addsStation g _ d v).1
                      clear hz hch hr hi hcc hwa hsh hf hs
                      unfold md_addsStation
                      simp only [cl_mi, cl_in_dec]
                      (try simp only [cl_has, decide_eq_true_eq, decide_eq_false_iff_not] at *)
                      (try rcases hx9 with hx9 | hx9)
                      all_goals first | (exfalso; omega) | ((repeat first | rw [if_pos (by first | omega | trivial)] | rw [if_neg (by omega)]) <;> rfl))
            · refine jk_iconst (q := 84) dX2_troubleWithStation_83 rfl ?_
              refine jk_goto (q := 88) dX2_troubleWithStation_84 rfl ?_
              refine jk_cS1p (q := 91) (c_X2_stateTroubleUnless hz (by first | exact Or.inl rfl | exact Or.inr rfl)) jm_X2_stateTroubleUnless jw_443 rfl rfl rfl dX2_troubleWithStation_88 rfl ?_
              exact jk_aret rfl (by first | exact Or.inl ⟨_, rfl⟩ | exact Or.inr ⟨_, rfl⟩) dX2_troubleWithStation_91 (by 
                      refine jk_qR ?_
                      show _ = 12 + cl_tc 10 (md_addsStation g _ d v).1
                      clear hz hch hr hi hcc hwa hsh hf hs
                      unfold md_addsStation
                      simp only [cl_mi, cl_in_dec]
                      (try simp only [cl_has, decide_eq_true_eq, decide_eq_false_iff_not] at *)
                      (try rcases hx9 with hx9 | hx9)
                      all_goals first | (exfalso; omega) | ((repeat first | rw [if_pos (by first | omega | trivial)] | rw [if_neg (by omega)]) <;> rfl))
      · refine jk_gets (q := 41) (a := 14) (zz_Ts hz (i := 2) (by decide)) jw_468 dX2_troubleWithStation_38 rfl ?_
        exact jk_aret rfl (by first | exact Or.inl ⟨_, rfl⟩ | exact Or.inr ⟨_, rfl⟩) dX2_troubleWithStation_41 (by 
                refine jk_qR ?_
                show _ = 12 + cl_tc 10 (md_addsStation g _ d v).1
                clear hz hch hr hi hcc hwa hsh hf hs
                unfold md_addsStation
                simp only [cl_mi, cl_in_dec]
                (try simp only [cl_has, decide_eq_true_eq, decide_eq_false_iff_not] at *)
                (try rcases hx9 with hx9 | hx9)
                all_goals first | (exfalso; omega) | ((repeat first | rw [if_pos (by first | omega | trivial)] | rw [if_neg (by omega)]) <;> rfl))
  · refine jk_gets (q := 14) (a := 13) (zz_Ts hz (i := 1) (by decide)) jw_458 dX2_troubleWithStation_11 rfl ?_
    exact jk_aret rfl (by first | exact Or.inl ⟨_, rfl⟩ | exact Or.inr ⟨_, rfl⟩) dX2_troubleWithStation_14 (by 
            refine jk_qR ?_
            show _ = 12 + cl_tc 10 (md_addsStation g _ d v).1
            clear hz hch hr hi hcc hwa hsh hf hs
            unfold md_addsStation
            simp only [cl_mi, cl_in_dec]
            (try simp only [cl_has, decide_eq_true_eq, decide_eq_false_iff_not] at *)
            (try rcases hx9 with hx9 | hx9)
            all_goals first | (exfalso; omega) | ((repeat first | rw [if_pos (by first | omega | trivial)] | rw [if_neg (by omega)]) <;> rfl))
theorem c_X2_putBenchmark {G : jk_G} {n : Nat} {t : jk_T} {σ : jk_I} {ρ : jk_P} {c y w f s : Nat} {g : Int → Int} {B  : Int} (hch : ch_at t ρ c y w f s) (ha : md_all B g) (hr : cl_rel σ s g) (h : g 0 < 10) : jk_K G yX2_putBenchmark mX2_putBenchmark 0 0 [.ref c] n t σ ρ (cl_upQ s (jk_set g 0 (g 0 + 1)) (g 0) σ n t ρ) jk_no := by
  have hi := ha.1
  obtain ⟨hcc, hwa, hsh, hwy, hyc⟩ := id hch
  obtain ⟨-, -, hf, hfw⟩ := id hwa
  obtain ⟨-, -, -, -, hs, hsf⟩ := id hf
  have i0 := hi.1
  have i1 := hi.2.1
  have i2 := hi.2.2.1
  obtain ⟨q0, q1, q2, q3⟩ := hr.1
  refine jk_entryB (ls := [some (.ref c), none]) jm_X2_putBenchmark.1 rfl rfl rfl ?_
  refine jk_aload_n (q := 1) dX2_putBenchmark_0 rfl rfl ?_
  refine jk_getA (q := 4) (k := 2) 0 0 rfl (by first | exact hcc.1 | exact hs.1 | exact hs.2.1 _ _ rfl | assumption) (by first | exact hcc.2.1 | exact hcc.2.2.1 | exact hcc.2.2.2.1 | exact hcc.2.2.2.2 | exact hs.2.2.1 _ _ rfl | assumption) rfl rfl jw_295 dX2_putBenchmark_1 rfl ?_
  refine jk_getIR (q := 7) (k := 9) 0 0 rfl (by first | exact hcc.1 | exact hs.1 | exact hs.2.1 _ _ rfl | assumption) (by first | exact jk_row_same _ _ _ | ((repeat rewrite [jk_row_ne _ _ (by omega)]); first | exact jk_row_same _ _ _ | rfl)) rfl rfl jw_55 dX2_putBenchmark_4 rfl ?_
  rw [q0]
  refine jk_istore1 (q := 8) dX2_putBenchmark_7 rfl rfl rfl ?_
  refine jk_aload_n (q := 9) dX2_putBenchmark_8 rfl rfl ?_
  refine jk_getA (q := 12) (k := 2) 0 0 rfl (by first | exact hcc.1 | exact hs.1 | exact hs.2.1 _ _ rfl | assumption) (by first | exact hcc.2.1 | exact hcc.2.2.1 | exact hcc.2.2.2.1 | exact hcc.2.2.2.2 | exact hs.2.2.1 _ _ rfl | assumption) rfl rfl jw_295 dX2_putBenchmark_9 rfl ?_
  refine jk_getA (q := 15) (k := 9) 1 1 rfl (by first | exact hcc.1 | exact hs.1 | exact hs.2.1 _ _ rfl | assumption) (by first | exact hcc.2.1 | exact hcc.2.2.1 | exact hcc.2.2.2.1 | exact hcc.2.2.2.2 | exact hs.2.2.1 _ _ rfl | assumption) rfl rfl jw_61 dX2_putBenchmark_12 rfl ?_
  refine jk_iload_n (q := 16) dX2_putBenchmark_15 rfl rfl ?_
  refine jk_iconst (q := 17) dX2_putBenchmark_16 rfl ?_
  refine jk_zastR (q := 18) (by first | exact hcc.1 | exact hs.1 | exact hs.2.1 _ _ rfl | assumption) (by first | exact jk_row_same _ _ _ | ((repeat rewrite [jk_row_ne _ _ (by omega)]); first | exact jk_row_same _ _ _ | rfl)) (by first | assumption | decide | omega | exact jB_01 _ | exact jB_in _ | exact ⟨by omega, by omega⟩) (by first | assumption | decide | omega | exact jB_01 _ | exact jB_in _ | exact ⟨by omega, by omega⟩) dX2_putBenchmark_17 rfl ?_
  refine jk_aload_n (q := 19) dX2_putBenchmark_18 rfl rfl ?_
  refine jk_getA (q := 22) (k := 2) 0 0 rfl (by first | exact hcc.1 | exact hs.1 | exact hs.2.1 _ _ rfl | assumption) (by first | exact hcc.2.1 | exact hcc.2.2.1 | exact hcc.2.2.2.1 | exact hcc.2.2.2.2 | exact hs.2.2.1 _ _ rfl | assumption) rfl rfl jw_295 dX2_putBenchmark_19 rfl ?_
  refine jk_getA (q := 25) (k := 9) 2 2 rfl (by first | exact hcc.1 | exact hs.1 | exact hs.2.1 _ _ rfl | assumption) (by first | exact hcc.2.1 | exact hcc.2.2.1 | exact hcc.2.2.2.1 | exact hcc.2.2.2.2 | exact hs.2.2.1 _ _ rfl | assumption) rfl rfl jw_65 dX2_putBenchmark_22 rfl ?_
  refine jk_iload_n (q := 26) dX2_putBenchmark_25 rfl rfl ?_
  refine jk_iconst (q := 27) dX2_putBenchmark_26 rfl ?_
  refine jk_iastR (q := 28) (by first | exact hcc.1 | exact hs.1 | exact hs.2.1 _ _ rfl | assumption) (by first | exact jk_row_same _ _ _ | ((repeat rewrite [jk_row_ne _ _ (by omega)]); first | exact jk_row_same _ _ _ | rfl)) (by first | assumption | decide | omega | exact jB_01 _ | exact jB_in _ | exact ⟨by omega, by omega⟩) dX2_putBenchmark_27 rfl ?_
  refine jk_aload_n (q := 29) dX2_putBenchmark_28 rfl rfl ?_
  refine jk_getA (q := 32) (k := 2) 0 0 rfl (by first | exact hcc.1 | exact hs.1 | exact hs.2.1 _ _ rfl | assumption) (by first | exact hcc.2.1 | exact hcc.2.2.1 | exact hcc.2.2.2.1 | exact hcc.2.2.2.2 | exact hs.2.2.1 _ _ rfl | assumption) rfl rfl jw_295 dX2_putBenchmark_29 rfl ?_
  refine jk_dup (q := 33) dX2_putBenchmark_32 rfl rfl ?_
  refine jk_getIR (q := 36) (k := 9) 0 0 rfl (by first | exact hcc.1 | exact hs.1 | exact hs.2.1 _ _ rfl | assumption) (by first | exact jk_row_same _ _ _ | ((repeat rewrite [jk_row_ne _ _ (by omega)]); first | exact jk_row_same _ _ _ | rfl)) rfl rfl jw_55 dX2_putBenchmark_33 rfl ?_
  rw [q0]
  refine jk_iconst (q := 37) dX2_putBenchmark_36 rfl ?_
  refine jk_iadd (q := 38) dX2_putBenchmark_37 rfl ?_
  refine jk_putIR (q := 41) (k := 9) 0 0 rfl (by first | exact hcc.1 | exact hs.1 | exact hs.2.1 _ _ rfl | assumption) (by first | exact jk_row_same _ _ _ | ((repeat rewrite [jk_row_ne _ _ (by omega)]); first | exact jk_row_same _ _ _ | rfl)) rfl rfl rfl jw_55 dX2_putBenchmark_38 rfl ?_
  refine jk_iload_n (q := 42) dX2_putBenchmark_41 rfl rfl ?_
  exact jk_iret rfl dX2_putBenchmark_42 (by exact cl_up_point ha hr h)
theorem c_X2_putLine {G : jk_G} {n : Nat} {t : jk_T} {σ : jk_I} {ρ : jk_P} {c y w f s : Nat} {g : Int → Int} {B a b v len : Int} (hch : ch_at t ρ c y w f s) (ha : md_all B g) (hr : cl_rel σ s g) (h : g 1 < 16) : jk_K G yX2_putLine mX2_putLine 0 0 [.ref c, jI a, jI b, jI v, jI len] n t σ ρ (cl_upQ s (jk_set (jk_set (jk_set (jk_set (jk_set g (24 + g 1) a) (40 + g 1) b) (72 + g 1) v) (56 + g 1) len) 1 (g 1 + 1)) (g 1) σ n t ρ) jk_no := by
  have hi := ha.1
  obtain ⟨hcc, hwa, hsh, hwy, hyc⟩ := id hch
  obtain ⟨-, -, hf, hfw⟩ := id hwa
  obtain ⟨-, -, -, -, hs, hsf⟩ := id hf
  have i0 := hi.1
  have i1 := hi.2.1
  have i2 := hi.2.2.1
  obtain ⟨q0, q1, q2, q3⟩ := hr.1
  refine jk_entryB (ls := [some (.ref c), some (jI a), some (jI b), some (jI v), some (jI len), none]) jm_X2_putLine.1 rfl rfl rfl ?_
  refine jk_aload_n (q := 1) dX2_putLine_0 rfl rfl ?_
  refine jk_getA (q := 4) (k := 2) 0 0 rfl (by first | exact hcc.1 | exact hs.1 | exact hs.2.1 _ _ rfl | assumption) (by first | exact hcc.2.1 | exact hcc.2.2.1 | exact hcc.2.2.2.1 | exact hcc.2.2.2.2 | exact hs.2.2.1 _ _ rfl | assumption) rfl rfl jw_295 dX2_putLine_1 rfl ?_
  refine jk_getIR (q := 7) (k := 9) 3 3 rfl (by first | exact hcc.1 | exact hs.1 | exact hs.2.1 _ _ rfl | assumption) (by first | exact jk_row_same _ _ _ | ((repeat rewrite [jk_row_ne _ _ (by omega)]); first | exact jk_row_same _ _ _ | rfl)) rfl rfl jw_70 dX2_putLine_4 rfl ?_
  rw [q1]
  refine jk_istore5 (q := 9) dX2_putLine_7 rfl rfl rfl ?_
  refine jk_aload_n (q := 10) dX2_putLine_9 rfl rfl ?_
  refine jk_getA (q := 13) (k := 2) 0 0 rfl (by first | exact hcc.1 | exact hs.1 | exact hs.2.1 _ _ rfl | assumption) (by first | exact hcc.2.1 | exact hcc.2.2.1 | exact hcc.2.2.2.1 | exact hcc.2.2.2.2 | exact hs.2.2.1 _ _ rfl | assumption) rfl rfl jw_295 dX2_putLine_10 rfl ?_
  refine jk_getA (q := 16) (k := 9) 4 4 rfl (by first | exact hcc.1 | exact hs.1 | exact hs.2.1 _ _ rfl | assumption) (by first | exact hcc.2.1 | exact hcc.2.2.1 | exact hcc.2.2.2.1 | exact hcc.2.2.2.2 | exact hs.2.2.1 _ _ rfl | assumption) rfl rfl jw_77 dX2_putLine_13 rfl ?_
  refine jk_iload (q := 18) dX2_putLine_16 rfl rfl ?_
  refine jk_iload_n (q := 19) dX2_putLine_18 rfl rfl ?_
  refine jk_iastR (q := 20) (by first | exact hcc.1 | exact hs.1 | exact hs.2.1 _ _ rfl | assumption) (by first | exact jk_row_same _ _ _ | ((repeat rewrite [jk_row_ne _ _ (by omega)]); first | exact jk_row_same _ _ _ | rfl)) (by first | assumption | decide | omega | exact jB_01 _ | exact jB_in _ | exact ⟨by omega, by omega⟩) dX2_putLine_19 rfl ?_
  refine jk_aload_n (q := 21) dX2_putLine_20 rfl rfl ?_
  refine jk_getA (q := 24) (k := 2) 0 0 rfl (by first | exact hcc.1 | exact hs.1 | exact hs.2.1 _ _ rfl | assumption) (by first | exact hcc.2.1 | exact hcc.2.2.1 | exact hcc.2.2.2.1 | exact hcc.2.2.2.2 | exact hs.2.2.1 _ _ rfl | assumption) rfl rfl jw_295 dX2_putLine_21 rfl ?_
  refine jk_getA (q := 27) (k := 9) 5 5 rfl (by first | exact hcc.1 | exact hs.1 | exact hs.2.1 _ _ rfl | assumption) (by first | exact hcc.2.1 | exact hcc.2.2.1 | exact hcc.2.2.2.1 | exact hcc.2.2.2.2 | exact hs.2.2.1 _ _ rfl | assumption) rfl rfl jw_83 dX2_putLine_24 rfl ?_
  refine jk_iload (q := 29) dX2_putLine_27 rfl rfl ?_
  refine jk_iload_n (q := 30) dX2_putLine_29 rfl rfl ?_
  refine jk_iastR (q := 31) (by first | exact hcc.1 | exact hs.1 | exact hs.2.1 _ _ rfl | assumption) (by first | exact jk_row_same _ _ _ | ((repeat rewrite [jk_row_ne _ _ (by omega)]); first | exact jk_row_same _ _ _ | rfl)) (by first | assumption | decide | omega | exact jB_01 _ | exact jB_in _ | exact ⟨by omega, by omega⟩) dX2_putLine_30 rfl ?_
  refine jk_aload_n (q := 32) dX2_putLine_31 rfl rfl ?_
  refine jk_getA (q := 35) (k := 2) 0 0 rfl (by first | exact hcc.1 | exact hs.1 | exact hs.2.1 _ _ rfl | assumption) (by first | exact hcc.2.1 | exact hcc.2.2.1 | exact hcc.2.2.2.1 | exact hcc.2.2.2.2 | exact hs.2.2.1 _ _ rfl | assumption) rfl rfl jw_295 dX2_putLine_32 rfl ?_
  refine jk_getA (q := 38) (k := 9) 6 6 rfl (by first | exact hcc.1 | exact hs.1 | exact hs.2.1 _ _ rfl | assumption) (by first | exact hcc.2.1 | exact hcc.2.2.1 | exact hcc.2.2.2.1 | exact hcc.2.2.2.2 | exact hs.2.2.1 _ _ rfl | assumption) rfl rfl jw_89 dX2_putLine_35 rfl ?_
  refine jk_iload (q := 40) dX2_putLine_38 rfl rfl ?_
  refine jk_iload (q := 42) dX2_putLine_40 rfl rfl ?_
  refine jk_iastR (q := 43) (by first | exact hcc.1 | exact hs.1 | exact hs.2.1 _ _ rfl | assumption) (by first | exact jk_row_same _ _ _ | ((repeat rewrite [jk_row_ne _ _ (by omega)]); first | exact jk_row_same _ _ _ | rfl)) (by first | assumption | decide | omega | exact jB_01 _ | exact jB_in _ | exact ⟨by omega, by omega⟩) dX2_putLine_42 rfl ?_
  refine jk_aload_n (q := 44) dX2_putLine_43 rfl rfl ?_
  refine jk_getA (q := 47) (k := 2) 0 0 rfl (by first | exact hcc.1 | exact hs.1 | exact hs.2.1 _ _ rfl | assumption) (by first | exact hcc.2.1 | exact hcc.2.2.1 | exact hcc.2.2.2.1 | exact hcc.2.2.2.2 | exact hs.2.2.1 _ _ rfl | assumption) rfl rfl jw_295 dX2_putLine_44 rfl ?_
  refine jk_getA (q := 50) (k := 9) 7 7 rfl (by first | exact hcc.1 | exact hs.1 | exact hs.2.1 _ _ rfl | assumption) (by first | exact hcc.2.1 | exact hcc.2.2.1 | exact hcc.2.2.2.1 | exact hcc.2.2.2.2 | exact hs.2.2.1 _ _ rfl | assumption) rfl rfl jw_92 dX2_putLine_47 rfl ?_
  refine jk_iload (q := 52) dX2_putLine_50 rfl rfl ?_
  refine jk_iload_n (q := 53) dX2_putLine_52 rfl rfl ?_
  refine jk_iastR (q := 54) (by first | exact hcc.1 | exact hs.1 | exact hs.2.1 _ _ rfl | assumption) (by first | exact jk_row_same _ _ _ | ((repeat rewrite [jk_row_ne _ _ (by omega)]); first | exact jk_row_same _ _ _ | rfl)) (by first | assumption | decide | omega | exact jB_01 _ | exact jB_in _ | exact ⟨by omega, by omega⟩) dX2_putLine_53 rfl ?_
  refine jk_aload_n (q := 55) dX2_putLine_54 rfl rfl ?_
  refine jk_getA (q := 58) (k := 2) 0 0 rfl (by first | exact hcc.1 | exact hs.1 | exact hs.2.1 _ _ rfl | assumption) (by first | exact hcc.2.1 | exact hcc.2.2.1 | exact hcc.2.2.2.1 | exact hcc.2.2.2.2 | exact hs.2.2.1 _ _ rfl | assumption) rfl rfl jw_295 dX2_putLine_55 rfl ?_
  refine jk_getA (q := 61) (k := 9) 8 8 rfl (by first | exact hcc.1 | exact hs.1 | exact hs.2.1 _ _ rfl | assumption) (by first | exact hcc.2.1 | exact hcc.2.2.1 | exact hcc.2.2.2.1 | exact hcc.2.2.2.2 | exact hs.2.2.1 _ _ rfl | assumption) rfl rfl jw_94 dX2_putLine_58 rfl ?_
  refine jk_iload (q := 63) dX2_putLine_61 rfl rfl ?_
  refine jk_iconst (q := 64) dX2_putLine_63 rfl ?_
  refine jk_iastR (q := 65) (by first | exact hcc.1 | exact hs.1 | exact hs.2.1 _ _ rfl | assumption) (by first | exact jk_row_same _ _ _ | ((repeat rewrite [jk_row_ne _ _ (by omega)]); first | exact jk_row_same _ _ _ | rfl)) (by first | assumption | decide | omega | exact jB_01 _ | exact jB_in _ | exact ⟨by omega, by omega⟩) dX2_putLine_64 rfl ?_
  refine jk_aload_n (q := 66) dX2_putLine_65 rfl rfl ?_
  refine jk_getA (q := 69) (k := 2) 0 0 rfl (by first | exact hcc.1 | exact hs.1 | exact hs.2.1 _ _ rfl | assumption) (by first | exact hcc.2.1 | exact hcc.2.2.1 | exact hcc.2.2.2.1 | exact hcc.2.2.2.2 | exact hs.2.2.1 _ _ rfl | assumption) rfl rfl jw_295 dX2_putLine_66 rfl ?_
  refine jk_getA (q := 72) (k := 9) 9 9 rfl (by first | exact hcc.1 | exact hs.1 | exact hs.2.1 _ _ rfl | assumption) (by first | exact hcc.2.1 | exact hcc.2.2.1 | exact hcc.2.2.2.1 | exact hcc.2.2.2.2 | exact hs.2.2.1 _ _ rfl | assumption) rfl rfl jw_96 dX2_putLine_69 rfl ?_
  refine jk_iload (q := 74) dX2_putLine_72 rfl rfl ?_
  refine jk_iconst (q := 75) dX2_putLine_74 rfl ?_
  refine jk_zastR (q := 76) (by first | exact hcc.1 | exact hs.1 | exact hs.2.1 _ _ rfl | assumption) (by first | exact jk_row_same _ _ _ | ((repeat rewrite [jk_row_ne _ _ (by omega)]); first | exact jk_row_same _ _ _ | rfl)) (by first | assumption | decide | omega | exact jB_01 _ | exact jB_in _ | exact ⟨by omega, by omega⟩) (by first | assumption | decide | omega | exact jB_01 _ | exact jB_in _ | exact ⟨by omega, by omega⟩) dX2_putLine_75 rfl ?_
  refine jk_aload_n (q := 77) dX2_putLine_76 rfl rfl ?_
  refine jk_getA (q := 80) (k := 2) 0 0 rfl (by first | exact hcc.1 | exact hs.1 | exact hs.2.1 _ _ rfl | assumption) (by first | exact hcc.2.1 | exact hcc.2.2.1 | exact hcc.2.2.2.1 | exact hcc.2.2.2.2 | exact hs.2.2.1 _ _ rfl | assumption) rfl rfl jw_295 dX2_putLine_77 rfl ?_
  refine jk_getA (q := 83) (k := 9) 10 10 rfl (by first | exact hcc.1 | exact hs.1 | exact hs.2.1 _ _ rfl | assumption) (by first | exact hcc.2.1 | exact hcc.2.2.1 | exact hcc.2.2.2.1 | exact hcc.2.2.2.2 | exact hs.2.2.1 _ _ rfl | assumption) rfl rfl jw_99 dX2_putLine_80 rfl ?_
  refine jk_iload (q := 85) dX2_putLine_83 rfl rfl ?_
  refine jk_iconst (q := 86) dX2_putLine_85 rfl ?_
  refine jk_zastR (q := 87) (by first | exact hcc.1 | exact hs.1 | exact hs.2.1 _ _ rfl | assumption) (by first | exact jk_row_same _ _ _ | ((repeat rewrite [jk_row_ne _ _ (by omega)]); first | exact jk_row_same _ _ _ | rfl)) (by first | assumption | decide | omega | exact jB_01 _ | exact jB_in _ | exact ⟨by omega, by omega⟩) (by first | assumption | decide | omega | exact jB_01 _ | exact jB_in _ | exact ⟨by omega, by omega⟩) dX2_putLine_86 rfl ?_
  refine jk_aload_n (q := 88) dX2_putLine_87 rfl rfl ?_
  refine jk_getA (q := 91) (k := 2) 0 0 rfl (by first | exact hcc.1 | exact hs.1 | exact hs.2.1 _ _ rfl | assumption) (by first | exact hcc.2.1 | exact hcc.2.2.1 | exact hcc.2.2.2.1 | exact hcc.2.2.2.2 | exact hs.2.2.1 _ _ rfl | assumption) rfl rfl jw_295 dX2_putLine_88 rfl ?_
  refine jk_getA (q := 94) (k := 9) 11 11 rfl (by first | exact hcc.1 | exact hs.1 | exact hs.2.1 _ _ rfl | assumption) (by first | exact hcc.2.1 | exact hcc.2.2.1 | exact hcc.2.2.2.1 | exact hcc.2.2.2.2 | exact hs.2.2.1 _ _ rfl | assumption) rfl rfl jw_103 dX2_putLine_91 rfl ?_
  refine jk_iload (q := 96) dX2_putLine_94 rfl rfl ?_
  refine jk_iconst (q := 97) dX2_putLine_96 rfl ?_
  refine jk_iastR (q := 98) (by first | exact hcc.1 | exact hs.1 | exact hs.2.1 _ _ rfl | assumption) (by first | exact jk_row_same _ _ _ | ((repeat rewrite [jk_row_ne _ _ (by omega)]); first | exact jk_row_same _ _ _ | rfl)) (by first | assumption | decide | omega | exact jB_01 _ | exact jB_in _ | exact ⟨by omega, by omega⟩) dX2_putLine_97 rfl ?_
  refine jk_aload_n (q := 99) dX2_putLine_98 rfl rfl ?_
  refine jk_getA (q := 102) (k := 2) 0 0 rfl (by first | exact hcc.1 | exact hs.1 | exact hs.2.1 _ _ rfl | assumption) (by first | exact hcc.2.1 | exact hcc.2.2.1 | exact hcc.2.2.2.1 | exact hcc.2.2.2.2 | exact hs.2.2.1 _ _ rfl | assumption) rfl rfl jw_295 dX2_putLine_99 rfl ?_
  refine jk_dup (q := 103) dX2_putLine_102 rfl rfl ?_
  refine jk_getIR (q := 106) (k := 9) 3 3 rfl (by first | exact hcc.1 | exact hs.1 | exact hs.2.1 _ _ rfl | assumption) (by first | exact jk_row_same _ _ _ | ((repeat rewrite [jk_row_ne _ _ (by omega)]); first | exact jk_row_same _ _ _ | rfl)) rfl rfl jw_70 dX2_putLine_103 rfl ?_
  rw [q1]
  refine jk_iconst (q := 107) dX2_putLine_106 rfl ?_
  refine jk_iadd (q := 108) dX2_putLine_107 rfl ?_
  refine jk_putIR (q := 111) (k := 9) 3 3 rfl (by first | exact hcc.1 | exact hs.1 | exact hs.2.1 _ _ rfl | assumption) (by first | exact jk_row_same _ _ _ | ((repeat rewrite [jk_row_ne _ _ (by omega)]); first | exact jk_row_same _ _ _ | rfl)) rfl rfl rfl jw_70 dX2_putLine_108 rfl ?_
  refine jk_iload (q := 113) dX2_putLine_111 rfl rfl ?_
  exact jk_iret rfl dX2_putLine_113 (by exact cl_up_line ha hr h)
theorem c_X2_putProfile {G : jk_G} {n : Nat} {t : jk_T} {σ : jk_I} {ρ : jk_P} {c y w f s : Nat} {g : Int → Int} {B p : Int} (hch : ch_at t ρ c y w f s) (ha : md_all B g) (hr : cl_rel σ s g) (h : g 2 < 4) : jk_K G yX2_putProfile mX2_putProfile 0 0 [.ref c, jI p] n t σ ρ (cl_upQ s (jk_set (jk_set g (152 + g 2) p) 2 (g 2 + 1)) (g 2) σ n t ρ) jk_no := by
  have hi := ha.1
  obtain ⟨hcc, hwa, hsh, hwy, hyc⟩ := id hch
  obtain ⟨-, -, hf, hfw⟩ := id hwa
  obtain ⟨-, -, -, -, hs, hsf⟩ := id hf
  have i0 := hi.1
  have i1 := hi.2.1
  have i2 := hi.2.2.1
  obtain ⟨q0, q1, q2, q3⟩ := hr.1
  refine jk_entryB (ls := [some (.ref c), some (jI p), none]) jm_X2_putProfile.1 rfl rfl rfl ?_
  refine jk_aload_n (q := 1) dX2_putProfile_0 rfl rfl ?_
  refine jk_getA (q := 4) (k := 2) 0 0 rfl (by first | exact hcc.1 | exact hs.1 | exact hs.2.1 _ _ rfl | assumption) (by first | exact hcc.2.1 | exact hcc.2.2.1 | exact hcc.2.2.2.1 | exact hcc.2.2.2.2 | exact hs.2.2.1 _ _ rfl | assumption) rfl rfl jw_295 dX2_putProfile_1 rfl ?_
  refine jk_getIR (q := 7) (k := 9) 12 12 rfl (by first | exact hcc.1 | exact hs.1 | exact hs.2.1 _ _ rfl | assumption) (by first | exact jk_row_same _ _ _ | ((repeat rewrite [jk_row_ne _ _ (by omega)]); first | exact jk_row_same _ _ _ | rfl)) rfl rfl jw_106 dX2_putProfile_4 rfl ?_
  rw [q2]
  refine jk_istore2 (q := 8) dX2_putProfile_7 rfl rfl rfl ?_
  refine jk_aload_n (q := 9) dX2_putProfile_8 rfl rfl ?_
  refine jk_getA (q := 12) (k := 2) 0 0 rfl (by first | exact hcc.1 | exact hs.1 | exact hs.2.1 _ _ rfl | assumption) (by first | exact hcc.2.1 | exact hcc.2.2.1 | exact hcc.2.2.2.1 | exact hcc.2.2.2.2 | exact hs.2.2.1 _ _ rfl | assumption) rfl rfl jw_295 dX2_putProfile_9 rfl ?_
  refine jk_getA (q := 15) (k := 9) 13 13 rfl (by first | exact hcc.1 | exact hs.1 | exact hs.2.1 _ _ rfl | assumption) (by first | exact hcc.2.1 | exact hcc.2.2.1 | exact hcc.2.2.2.1 | exact hcc.2.2.2.2 | exact hs.2.2.1 _ _ rfl | assumption) rfl rfl jw_109 dX2_putProfile_12 rfl ?_
  refine jk_iload_n (q := 16) dX2_putProfile_15 rfl rfl ?_
  refine jk_iload_n (q := 17) dX2_putProfile_16 rfl rfl ?_
  refine jk_iastR (q := 18) (by first | exact hcc.1 | exact hs.1 | exact hs.2.1 _ _ rfl | assumption) (by first | exact jk_row_same _ _ _ | ((repeat rewrite [jk_row_ne _ _ (by omega)]); first | exact jk_row_same _ _ _ | rfl)) (by first | assumption | decide | omega | exact jB_01 _ | exact jB_in _ | exact ⟨by omega, by omega⟩) dX2_putProfile_17 rfl ?_
  refine jk_aload_n (q := 19) dX2_putProfile_18 rfl rfl ?_
  refine jk_getA (q := 22) (k := 2) 0 0 rfl (by first | exact hcc.1 | exact hs.1 | exact hs.2.1 _ _ rfl | assumption) (by first | exact hcc.2.1 | exact hcc.2.2.1 | exact hcc.2.2.2.1 | exact hcc.2.2.2.2 | exact hs.2.2.1 _ _ rfl | assumption) rfl rfl jw_295 dX2_putProfile_19 rfl ?_
  refine jk_getA (q := 25) (k := 9) 14 14 rfl (by first | exact hcc.1 | exact hs.1 | exact hs.2.1 _ _ rfl | assumption) (by first | exact hcc.2.1 | exact hcc.2.2.1 | exact hcc.2.2.2.1 | exact hcc.2.2.2.2 | exact hs.2.2.1 _ _ rfl | assumption) rfl rfl jw_113 dX2_putProfile_22 rfl ?_
  refine jk_iload_n (q := 26) dX2_putProfile_25 rfl rfl ?_
  refine jk_iconst (q := 27) dX2_putProfile_26 rfl ?_
  refine jk_iastR (q := 28) (by first | exact hcc.1 | exact hs.1 | exact hs.2.1 _ _ rfl | assumption) (by first | exact jk_row_same _ _ _ | ((repeat rewrite [jk_row_ne _ _ (by omega)]); first | exact jk_row_same _ _ _ | rfl)) (by first | assumption | decide | omega | exact jB_01 _ | exact jB_in _ | exact ⟨by omega, by omega⟩) dX2_putProfile_27 rfl ?_
  refine jk_aload_n (q := 29) dX2_putProfile_28 rfl rfl ?_
  refine jk_getA (q := 32) (k := 2) 0 0 rfl (by first | exact hcc.1 | exact hs.1 | exact hs.2.1 _ _ rfl | assumption) (by first | exact hcc.2.1 | exact hcc.2.2.1 | exact hcc.2.2.2.1 | exact hcc.2.2.2.2 | exact hs.2.2.1 _ _ rfl | assumption) rfl rfl jw_295 dX2_putProfile_29 rfl ?_
  refine jk_dup (q := 33) dX2_putProfile_32 rfl rfl ?_
  refine jk_getIR (q := 36) (k := 9) 12 12 rfl (by first | exact hcc.1 | exact hs.1 | exact hs.2.1 _ _ rfl | assumption) (by first | exact jk_row_same _ _ _ | ((repeat rewrite [jk_row_ne _ _ (by omega)]); first | exact jk_row_same _ _ _ | rfl)) rfl rfl jw_106 dX2_putProfile_33 rfl ?_
  rw [q2]
  refine jk_iconst (q := 37) dX2_putProfile_36 rfl ?_
  refine jk_iadd (q := 38) dX2_putProfile_37 rfl ?_
  refine jk_putIR (q := 41) (k := 9) 12 12 rfl (by first | exact hcc.1 | exact hs.1 | exact hs.2.1 _ _ rfl | assumption) (by first | exact jk_row_same _ _ _ | ((repeat rewrite [jk_row_ne _ _ (by omega)]); first | exact jk_row_same _ _ _ | rfl)) rfl rfl rfl jw_106 dX2_putProfile_38 rfl ?_
  refine jk_iload_n (q := 42) dX2_putProfile_41 rfl rfl ?_
  exact jk_iret rfl dX2_putProfile_42 (by exact cl_up_profile ha hr h)
theorem c_X2_putStation {G : jk_G} {n : Nat} {t : jk_T} {σ : jk_I} {ρ : jk_P} {c y w f s : Nat} {g : Int → Int} {B d v : Int} {q : Nat} (hch : ch_at t ρ c y w f s) (ha : md_all B g) (hr : cl_rel σ s g) (h : (q : Int) < g 2) (h10 : g (156 + (q : Int)) < 10) (hd : 0 ≤ d ∧ d ≤ 99) : jk_K G yX2_putStation mX2_putStation 0 0 [.ref c, jI (q : Int), jI d, jI v] n t σ ρ (cl_upQ s (md_stG g (q : Int) d v) (g (156 + (q : Int)) + 1) σ n t ρ) jk_no := by
  have hi := ha.1
  obtain ⟨hcc, hwa, hsh, hwy, hyc⟩ := id hch
  obtain ⟨-, -, hf, hfw⟩ := id hwa
  obtain ⟨-, -, -, -, hs, hsf⟩ := id hf
  have i0 := hi.1
  have i1 := hi.2.1
  have i2 := hi.2.2.1
  obtain ⟨q0, q1, q2, q3⟩ := hr.1
  have hq4 : q < 4 := by omega
  obtain ⟨r1, r2, r3⟩ := hr.2.2.2 q h
  have hst := (hi.2.2.2.2.2.2.2.1 (q : Int) ⟨by omega, by omega⟩).1
  refine jk_entryB (ls := [some (.ref c), some (jI (q : Int)), some (jI d), some (jI v), none]) jm_X2_putStation.1 rfl rfl rfl ?_
  refine jk_aload_n (q := 1) dX2_putStation_0 rfl rfl ?_
  refine jk_getA (q := 4) (k := 2) 0 0 rfl (by first | exact hcc.1 | exact hs.1 | exact hs.2.1 _ _ rfl | exact (cl_rows hs hq4).1 | exact (cl_rows hs hq4).2 | assumption) (by first | exact hcc.2.1 | exact hcc.2.2.1 | exact hcc.2.2.2.1 | exact hcc.2.2.2.2 | exact hs.2.2.1 _ _ rfl | exact (hs.2.2.2 q hq4).1 | exact (hs.2.2.2 q hq4).2 | assumption) rfl rfl jw_295 dX2_putStation_1 rfl ?_
  refine jk_getA (q := 7) (k := 9) 14 14 rfl (by first | exact hcc.1 | exact hs.1 | exact hs.2.1 _ _ rfl | exact (cl_rows hs hq4).1 | exact (cl_rows hs hq4).2 | assumption) (by first | exact hcc.2.1 | exact hcc.2.2.1 | exact hcc.2.2.2.1 | exact hcc.2.2.2.2 | exact hs.2.2.1 _ _ rfl | exact (hs.2.2.2 q hq4).1 | exact (hs.2.2.2 q hq4).2 | assumption) rfl rfl jw_113 dX2_putStation_4 rfl ?_
  refine jk_iload_n (q := 8) dX2_putStation_7 rfl rfl ?_
  refine jk_ialdR (q := 9) (by first | exact hcc.1 | exact hs.1 | exact hs.2.1 _ _ rfl | exact (cl_rows hs hq4).1 | exact (cl_rows hs hq4).2 | assumption) (by first | exact jk_row_same _ _ _ | ((repeat rewrite [jk_row_ne _ _ (by omega)]); first | exact jk_row_same _ _ _ | rfl)) (by first | assumption | decide | omega | exact jB_01 _ | exact jB_in _ | exact ⟨by omega, by omega⟩) dX2_putStation_8 rfl ?_
  rw [r2]
  refine jk_istore4 (q := 11) dX2_putStation_9 rfl rfl rfl ?_
  refine jk_aload_n (q := 12) dX2_putStation_11 rfl rfl ?_
  refine jk_getA (q := 15) (k := 2) 0 0 rfl (by first | exact hcc.1 | exact hs.1 | exact hs.2.1 _ _ rfl | exact (cl_rows hs hq4).1 | exact (cl_rows hs hq4).2 | assumption) (by first | exact hcc.2.1 | exact hcc.2.2.1 | exact hcc.2.2.2.1 | exact hcc.2.2.2.2 | exact hs.2.2.1 _ _ rfl | exact (hs.2.2.2 q hq4).1 | exact (hs.2.2.2 q hq4).2 | assumption) rfl rfl jw_295 dX2_putStation_12 rfl ?_
  refine jk_getA (q := 18) (k := 9) 15 15 rfl (by first | exact hcc.1 | exact hs.1 | exact hs.2.1 _ _ rfl | exact (cl_rows hs hq4).1 | exact (cl_rows hs hq4).2 | assumption) (by first | exact hcc.2.1 | exact hcc.2.2.1 | exact hcc.2.2.2.1 | exact hcc.2.2.2.2 | exact hs.2.2.1 _ _ rfl | exact (hs.2.2.2 q hq4).1 | exact (hs.2.2.2 q hq4).2 | assumption) rfl rfl jw_117 dX2_putStation_15 rfl ?_
  refine jk_iload_n (q := 19) dX2_putStation_18 rfl rfl ?_
  refine jk_aald (q := 20) (ty := .array .int) rfl rfl (by first | exact hcc.1 | exact hs.1 | exact hs.2.1 _ _ rfl | exact (cl_rows hs hq4).1 | exact (cl_rows hs hq4).2 | assumption) (by first | assumption | decide | omega | exact jB_01 _ | exact jB_in _ | exact ⟨by omega, by omega⟩) (by first | exact hcc.2.1 | exact hcc.2.2.1 | exact hcc.2.2.2.1 | exact hcc.2.2.2.2 | exact hs.2.2.1 _ _ rfl | exact (hs.2.2.2 q hq4).1 | exact (hs.2.2.2 q hq4).2 | assumption) dX2_putStation_19 rfl ?_
  refine jk_iload (q := 22) dX2_putStation_20 rfl rfl ?_
  refine jk_iload_n (q := 23) dX2_putStation_22 rfl rfl ?_
  refine jk_iastR (q := 24) (by first | exact hcc.1 | exact hs.1 | exact hs.2.1 _ _ rfl | exact (cl_rows hs hq4).1 | exact (cl_rows hs hq4).2 | assumption) (by first | exact jk_row_same _ _ _ | ((repeat rewrite [jk_row_ne _ _ (by omega)]); first | exact jk_row_same _ _ _ | rfl)) (by first | assumption | decide | omega | exact jB_01 _ | exact jB_in _ | exact ⟨by omega, by omega⟩) dX2_putStation_23 rfl ?_
  refine jk_aload_n (q := 25) dX2_putStation_24 rfl rfl ?_
  refine jk_getA (q := 28) (k := 2) 0 0 rfl (by first | exact hcc.1 | exact hs.1 | exact hs.2.1 _ _ rfl | exact (cl_rows hs hq4).1 | exact (cl_rows hs hq4).2 | assumption) (by first | exact hcc.2.1 | exact hcc.2.2.1 | exact hcc.2.2.2.1 | exact hcc.2.2.2.2 | exact hs.2.2.1 _ _ rfl | exact (hs.2.2.2 q hq4).1 | exact (hs.2.2.2 q hq4).2 | assumption) rfl rfl jw_295 dX2_putStation_25 rfl ?_
  refine jk_getA (q := 31) (k := 9) 16 16 rfl (by first | exact hcc.1 | exact hs.1 | exact hs.2.1 _ _ rfl | exact (cl_rows hs hq4).1 | exact (cl_rows hs hq4).2 | assumption) (by first | exact hcc.2.1 | exact hcc.2.2.1 | exact hcc.2.2.2.1 | exact hcc.2.2.2.2 | exact hs.2.2.1 _ _ rfl | exact (hs.2.2.2 q hq4).1 | exact (hs.2.2.2 q hq4).2 | assumption) rfl rfl jw_120 dX2_putStation_28 rfl ?_
  refine jk_iload_n (q := 32) dX2_putStation_31 rfl rfl ?_
  refine jk_aald (q := 33) (ty := .array .int) rfl rfl (by first | exact hcc.1 | exact hs.1 | exact hs.2.1 _ _ rfl | exact (cl_rows hs hq4).1 | exact (cl_rows hs hq4).2 | assumption) (by first | assumption | decide | omega | exact jB_01 _ | exact jB_in _ | exact ⟨by omega, by omega⟩) (by first | exact hcc.2.1 | exact hcc.2.2.1 | exact hcc.2.2.2.1 | exact hcc.2.2.2.2 | exact hs.2.2.1 _ _ rfl | exact (hs.2.2.2 q hq4).1 | exact (hs.2.2.2 q hq4).2 | assumption) dX2_putStation_32 rfl ?_
  refine jk_iload (q := 35) dX2_putStation_33 rfl rfl ?_
  refine jk_iload_n (q := 36) dX2_putStation_35 rfl rfl ?_
  refine jk_iastR (q := 37) (by first | exact hcc.1 | exact hs.1 | exact hs.2.1 _ _ rfl | exact (cl_rows hs hq4).1 | exact (cl_rows hs hq4).2 | assumption) (by first | exact jk_row_same _ _ _ | ((repeat rewrite [jk_row_ne _ _ (by omega)]); first | exact jk_row_same _ _ _ | rfl)) (by first | assumption | decide | omega | exact jB_01 _ | exact jB_in _ | exact ⟨by omega, by omega⟩) dX2_putStation_36 rfl ?_
  refine jk_aload_n (q := 38) dX2_putStation_37 rfl rfl ?_
  refine jk_getA (q := 41) (k := 2) 0 0 rfl (by first | exact hcc.1 | exact hs.1 | exact hs.2.1 _ _ rfl | exact (cl_rows hs hq4).1 | exact (cl_rows hs hq4).2 | assumption) (by first | exact hcc.2.1 | exact hcc.2.2.1 | exact hcc.2.2.2.1 | exact hcc.2.2.2.2 | exact hs.2.2.1 _ _ rfl | exact (hs.2.2.2 q hq4).1 | exact (hs.2.2.2 q hq4).2 | assumption) rfl rfl jw_295 dX2_putStation_38 rfl ?_
  refine jk_getA (q := 44) (k := 9) 14 14 rfl (by first | exact hcc.1 | exact hs.1 | exact hs.2.1 _ _ rfl | exact (cl_rows hs hq4).1 | exact (cl_rows hs hq4).2 | assumption) (by first | exact hcc.2.1 | exact hcc.2.2.1 | exact hcc.2.2.2.1 | exact hcc.2.2.2.2 | exact hs.2.2.1 _ _ rfl | exact (hs.2.2.2 q hq4).1 | exact (hs.2.2.2 q hq4).2 | assumption) rfl rfl jw_113 dX2_putStation_41 rfl ?_
  refine jk_iload_n (q := 45) dX2_putStation_44 rfl rfl ?_
  refine jk_dup2 (q := 46) dX2_putStation_45 rfl rfl rfl ?_
  refine jk_ialdR (q := 47) (by first | exact hcc.1 | exact hs.1 | exact hs.2.1 _ _ rfl | exact (cl_rows hs hq4).1 | exact (cl_rows hs hq4).2 | assumption) (by first | exact jk_row_same _ _ _ | ((repeat rewrite [jk_row_ne _ _ (by omega)]); first | exact jk_row_same _ _ _ | rfl)) (by first | assumption | decide | omega | exact jB_01 _ | exact jB_in _ | exact ⟨by omega, by omega⟩) dX2_putStation_46 rfl ?_
  rw [r2]
  refine jk_iconst (q := 48) dX2_putStation_47 rfl ?_
  refine jk_iadd (q := 49) dX2_putStation_48 rfl ?_
  refine jk_iastR (q := 50) (by first | exact hcc.1 | exact hs.1 | exact hs.2.1 _ _ rfl | exact (cl_rows hs hq4).1 | exact (cl_rows hs hq4).2 | assumption) (by first | exact jk_row_same _ _ _ | ((repeat rewrite [jk_row_ne _ _ (by omega)]); first | exact jk_row_same _ _ _ | rfl)) (by first | assumption | decide | omega | exact jB_01 _ | exact jB_in _ | exact ⟨by omega, by omega⟩) dX2_putStation_49 rfl ?_
  refine jk_aload_n (q := 51) dX2_putStation_50 rfl rfl ?_
  refine jk_getA (q := 54) (k := 2) 0 0 rfl (by first | exact hcc.1 | exact hs.1 | exact hs.2.1 _ _ rfl | exact (cl_rows hs hq4).1 | exact (cl_rows hs hq4).2 | assumption) (by first | exact hcc.2.1 | exact hcc.2.2.1 | exact hcc.2.2.2.1 | exact hcc.2.2.2.2 | exact hs.2.2.1 _ _ rfl | exact (hs.2.2.2 q hq4).1 | exact (hs.2.2.2 q hq4).2 | assumption) rfl rfl jw_295 dX2_putStation_51 rfl ?_
  refine jk_getA (q := 57) (k := 9) 14 14 rfl (by first | exact hcc.1 | exact hs.1 | exact hs.2.1 _ _ rfl | exact (cl_rows hs hq4).1 | exact (cl_rows hs hq4).2 | assumption) (by first | exact hcc.2.1 | exact hcc.2.2.1 | exact hcc.2.2.2.1 | exact hcc.2.2.2.2 | exact hs.2.2.1 _ _ rfl | exact (hs.2.2.2 q hq4).1 | exact (hs.2.2.2 q hq4).2 | assumption) rfl rfl jw_113 dX2_putStation_54 rfl ?_
  refine jk_iload_n (q := 58) dX2_putStation_57 rfl rfl ?_
  refine jk_ialdR (q := 59) (by first | exact hcc.1 | exact hs.1 | exact hs.2.1 _ _ rfl | exact (cl_rows hs hq4).1 | exact (cl_rows hs hq4).2 | assumption) (by first | exact jk_row_same _ _ _ | ((repeat rewrite [jk_row_ne _ _ (by omega)]); first | exact jk_row_same _ _ _ | rfl)) (by first | assumption | decide | omega | exact jB_01 _ | exact jB_in _ | exact ⟨by omega, by omega⟩) dX2_putStation_58 rfl ?_
  rw [jk_set_at]
  exact jk_iret rfl dX2_putStation_59 (by exact cl_up_station ha hr h h10 hd)
theorem c_X2_putWater {G : jk_G} {n : Nat} {t : jk_T} {σ : jk_I} {ρ : jk_P} {c y w f s : Nat} {g : Int → Int} {B v : Int} (hch : ch_at t ρ c y w f s) (ha : md_all B g) (hr : cl_rel σ s g)  : jk_K G yX2_putWater mX2_putWater 0 0 [.ref c, jI v] n t σ ρ (cl_upQ s (jk_set g 3 v) (g 3) σ n t ρ) jk_no := by
  have hi := ha.1
  obtain ⟨hcc, hwa, hsh, hwy, hyc⟩ := id hch
  obtain ⟨-, -, hf, hfw⟩ := id hwa
  obtain ⟨-, -, -, -, hs, hsf⟩ := id hf
  have i0 := hi.1
  have i1 := hi.2.1
  have i2 := hi.2.2.1
  obtain ⟨q0, q1, q2, q3⟩ := hr.1
  refine jk_entryB (ls := [some (.ref c), some (jI v), none]) jm_X2_putWater.1 rfl rfl rfl ?_
  refine jk_aload_n (q := 1) dX2_putWater_0 rfl rfl ?_
  refine jk_getA (q := 4) (k := 2) 0 0 rfl (by first | exact hcc.1 | exact hs.1 | exact hs.2.1 _ _ rfl | assumption) (by first | exact hcc.2.1 | exact hcc.2.2.1 | exact hcc.2.2.2.1 | exact hcc.2.2.2.2 | exact hs.2.2.1 _ _ rfl | assumption) rfl rfl jw_295 dX2_putWater_1 rfl ?_
  refine jk_getIR (q := 7) (k := 9) 17 17 rfl (by first | exact hcc.1 | exact hs.1 | exact hs.2.1 _ _ rfl | assumption) (by first | exact jk_row_same _ _ _ | ((repeat rewrite [jk_row_ne _ _ (by omega)]); first | exact jk_row_same _ _ _ | rfl)) rfl rfl jw_122 dX2_putWater_4 rfl ?_
  rw [q3]
  refine jk_istore2 (q := 8) dX2_putWater_7 rfl rfl rfl ?_
  refine jk_aload_n (q := 9) dX2_putWater_8 rfl rfl ?_
  refine jk_getA (q := 12) (k := 2) 0 0 rfl (by first | exact hcc.1 | exact hs.1 | exact hs.2.1 _ _ rfl | assumption) (by first | exact hcc.2.1 | exact hcc.2.2.1 | exact hcc.2.2.2.1 | exact hcc.2.2.2.2 | exact hs.2.2.1 _ _ rfl | assumption) rfl rfl jw_295 dX2_putWater_9 rfl ?_
  refine jk_iload_n (q := 13) dX2_putWater_12 rfl rfl ?_
  refine jk_putIR (q := 16) (k := 9) 17 17 rfl (by first | exact hcc.1 | exact hs.1 | exact hs.2.1 _ _ rfl | assumption) (by first | exact jk_row_same _ _ _ | ((repeat rewrite [jk_row_ne _ _ (by omega)]); first | exact jk_row_same _ _ _ | rfl)) rfl rfl rfl jw_122 dX2_putWater_13 rfl ?_
  refine jk_iload_n (q := 17) dX2_putWater_16 rfl rfl ?_
  exact jk_iret rfl dX2_putWater_17 (by exact cl_up_water ha hr)
theorem cl_clr_S (σ : jk_I) (a : Nat) (r : Int → Int) (k : Nat) : jk_row σ a (fun l => if 0 ≤ l ∧ l < ((k + 1 : Nat) : Int) then 0 else r l) = jk_row (jk_row σ a (fun l => if 0 ≤ l ∧ l < (k : Int) then 0 else r l)) a (jk_set (fun l => if 0 ≤ l ∧ l < (k : Int) then 0 else r l) (k : Int) 0) := by
  funext b j
  simp only [jk_row, jk_set]
  by_cases h : b = a
  · rw [if_pos h, if_pos h]
    by_cases e : j = (k : Int)
    · subst e; rw [jk_set_at, if_pos (by omega)]
    · rw [jk_set_ne _ _ e]
      by_cases e2 : 0 ≤ j ∧ j < (k : Int)
      · rw [if_pos (by omega), if_pos e2]
      · rw [if_neg (by omega), if_neg e2]
  · rw [if_neg h, if_neg h, if_neg h]
theorem c_X2_clearCorrections {G : jk_G} {n : Nat} {t : jk_T} {σ : jk_I} {ρ : jk_P} {c y w f s : Nat} {g : Int → Int} {B : Int} (hch : ch_at t ρ c y w f s) (ha : md_all B g) (hr : cl_rel σ s g) : jk_K G yX2_clearCorrections mX2_clearCorrections 0 0 [.ref c] n t σ ρ (cl_upQ s (md_clr g (g 1)) (jk_sum (fun l => if g (136 + l) = 0 then 0 else 1) (g 1).toNat) σ n t ρ) jk_no := by
  have hi := ha.1
  obtain ⟨hcc, hwa, hsh, hwy, hyc⟩ := id hch
  obtain ⟨-, -, hf, hfw⟩ := id hwa
  obtain ⟨-, -, -, -, hs, hsf⟩ := id hf
  have i0 := hi.1
  have i1 := hi.2.1
  have i2 := hi.2.2.1
  obtain ⟨q0, q1, q2, q3⟩ := hr.1
  refine jk_entryB (ls := [some (.ref c), none, none]) jm_X2_clearCorrections.1 rfl rfl rfl ?_
  refine jk_iconst (q := 1) dX2_clearCorrections_0 rfl ?_
  refine jk_istore1 (q := 2) dX2_clearCorrections_1 rfl rfl rfl ?_
  refine jk_iconst (q := 3) dX2_clearCorrections_2 rfl ?_
  refine jk_istore2 (q := 4) dX2_clearCorrections_3 rfl rfl rfl ?_
  have L4 : ∀ k4 : Nat, k4 ≤ (g 1).toNat → jk_J G mX2_clearCorrections 4 [some (.ref c), some (jI (jk_sum (fun l => if g (136 + l) = 0 then 0 else 1) k4)), some (jI (k4 : Int))] [] n t (jk_row σ (s + 20) (fun l => if 0 ≤ l ∧ l < (k4 : Int) then 0 else σ (s + 20) l)) ρ 0 0 (cl_upQ s (md_clr g (g 1)) (jk_sum (fun l => if g (136 + l) = 0 then 0 else 1) (g 1).toNat) σ n t ρ) jk_no := by
    refine jk_loop _ (fun k4 hk4 ih4 => ?_)
    have hsb := jk_sum_bd (f := fun l => if g (136 + l) = 0 then 0 else 1) (a := 0) (b := 1) (fun i => by show 0 ≤ (if g (136 + i) = 0 then (0 : Int) else 1) ∧ (if g (136 + i) = 0 then (0 : Int) else 1) ≤ 1; split <;> decide) k4
    refine jk_iload_n (q := 5) dX2_clearCorrections_4 rfl rfl ?_
    refine jk_aload_n (q := 6) dX2_clearCorrections_5 rfl rfl ?_
    refine jk_getA (q := 9) (k := 2) 0 0 rfl (by first | exact hcc.1 | exact hs.1 | exact hs.2.1 _ _ rfl | assumption) (by first | exact hcc.2.1 | exact hcc.2.2.1 | exact hcc.2.2.2.1 | exact hcc.2.2.2.2 | exact hs.2.2.1 _ _ rfl | assumption) rfl rfl jw_295 dX2_clearCorrections_6 rfl ?_
    refine jk_getIR (q := 12) (k := 9) 3 3 rfl (by first | exact hcc.1 | exact hs.1 | exact hs.2.1 _ _ rfl | assumption) (by first | exact jk_row_same _ _ _ | ((repeat rewrite [jk_row_ne _ _ (by omega)]); first | exact jk_row_same _ _ _ | rfl)) rfl rfl jw_70 dX2_clearCorrections_9 rfl ?_
    rw [q1]
    refine jk_icmp_ge (q := 51) (q2 := 15) dX2_clearCorrections_12 rfl rfl (by first | assumption | decide | omega | exact jB_01 _ | exact jB_in _ | exact ⟨by omega, by omega⟩) (by first | assumption | decide | omega | exact jB_01 _ | exact jB_in _ | exact ⟨by omega, by omega⟩) (fun z1 => ?_) (fun z1 => ?_)
    · refine jk_iload_n (q := 52) dX2_clearCorrections_51 rfl rfl ?_
      exact jk_iret rfl dX2_clearCorrections_52 (by 
              have e9 : (g 1).toNat = k4 := by omega
              have e8 : (k4 : Int) = g 1 := by omega
              rw [e8]
              have := cl_up_clear (n := n) (t := t) (ρ := ρ) ha hr
              rw [e9] at this ⊢
              exact this)
    · have hv9 := (hr.2.2.1 (k4 : Int) ⟨by omega, by omega⟩).2.2.2.2.2.2.2
      have hx9 := (md_inv_ln hi (l := (k4 : Int)) ⟨by omega, by omega⟩).2.2.2.2.2.2.2
      have hB9 := hi.2.2.2.2.2.2.1
      refine jk_iload_n (q := 16) dX2_clearCorrections_15 rfl rfl ?_
      refine jk_aload_n (q := 17) dX2_clearCorrections_16 rfl rfl ?_
      refine jk_getA (q := 20) (k := 2) 0 0 rfl (by first | exact hcc.1 | exact hs.1 | exact hs.2.1 _ _ rfl | assumption) (by first | exact hcc.2.1 | exact hcc.2.2.1 | exact hcc.2.2.2.1 | exact hcc.2.2.2.2 | exact hs.2.2.1 _ _ rfl | assumption) rfl rfl jw_295 dX2_clearCorrections_17 rfl ?_
      refine jk_getA (q := 23) (k := 9) 11 11 rfl (by first | exact hcc.1 | exact hs.1 | exact hs.2.1 _ _ rfl | assumption) (by first | exact hcc.2.1 | exact hcc.2.2.1 | exact hcc.2.2.2.1 | exact hcc.2.2.2.2 | exact hs.2.2.1 _ _ rfl | assumption) rfl rfl jw_103 dX2_clearCorrections_20 rfl ?_
      refine jk_iload_n (q := 24) dX2_clearCorrections_23 rfl rfl ?_
      refine jk_ialdR (q := 25) (by first | exact hcc.1 | exact hs.1 | exact hs.2.1 _ _ rfl | assumption) (by first | exact jk_row_same _ _ _ | ((repeat rewrite [jk_row_ne _ _ (by omega)]); first | exact jk_row_same _ _ _ | rfl)) (by first | assumption | decide | omega | exact jB_01 _ | exact jB_in _ | exact ⟨by omega, by omega⟩) dX2_clearCorrections_24 rfl ?_
      rw [show (if 0 ≤ (k4 : Int) ∧ (k4 : Int) < (k4 : Int) then 0 else σ (s + 20) (k4 : Int)) = σ (s + 20) (k4 : Int) from if_neg (by omega), hv9]
      refine jk_if_eq (q := 32) (q2 := 28) dX2_clearCorrections_25 rfl rfl (by first | assumption | decide | omega | exact jB_01 _ | exact jB_in _ | exact ⟨by omega, by omega⟩) (fun z2 => ?_) (fun z2 => ?_)
      · refine jk_iconst (q := 33) dX2_clearCorrections_32 rfl ?_
        refine jk_iadd (q := 34) dX2_clearCorrections_33 rfl ?_
        refine jk_istore1 (q := 35) dX2_clearCorrections_34 rfl rfl rfl ?_
        refine jk_aload_n (q := 36) dX2_clearCorrections_35 rfl rfl ?_
        refine jk_getA (q := 39) (k := 2) 0 0 rfl (by first | exact hcc.1 | exact hs.1 | exact hs.2.1 _ _ rfl | assumption) (by first | exact hcc.2.1 | exact hcc.2.2.1 | exact hcc.2.2.2.1 | exact hcc.2.2.2.2 | exact hs.2.2.1 _ _ rfl | assumption) rfl rfl jw_295 dX2_clearCorrections_36 rfl ?_
        refine jk_getA (q := 42) (k := 9) 11 11 rfl (by first | exact hcc.1 | exact hs.1 | exact hs.2.1 _ _ rfl | assumption) (by first | exact hcc.2.1 | exact hcc.2.2.1 | exact hcc.2.2.2.1 | exact hcc.2.2.2.2 | exact hs.2.2.1 _ _ rfl | assumption) rfl rfl jw_103 dX2_clearCorrections_39 rfl ?_
        refine jk_iload_n (q := 43) dX2_clearCorrections_42 rfl rfl ?_
        refine jk_iconst (q := 44) dX2_clearCorrections_43 rfl ?_
        refine jk_iastR (q := 45) (by first | exact hcc.1 | exact hs.1 | exact hs.2.1 _ _ rfl | assumption) (by first | exact jk_row_same _ _ _ | ((repeat rewrite [jk_row_ne _ _ (by omega)]); first | exact jk_row_same _ _ _ | rfl)) (by first | assumption | decide | omega | exact jB_01 _ | exact jB_in _ | exact ⟨by omega, by omega⟩) dX2_clearCorrections_44 rfl ?_
        refine jk_iinc2 (q := 48) dX2_clearCorrections_45 rfl rfl rfl ?_
        refine jk_goto (q := 4) dX2_clearCorrections_48 rfl ?_
        refine jk_conv (ih4 (by omega)) (jk_loc rfl (jk_loc (jk_li ?_) (jk_loc (jk_li ?_) rfl))) ?_
        · show jk_sum (fun l => if g (136 + l) = 0 then 0 else 1) k4 + (if g (136 + (k4 : Int)) = 0 then 0 else 1) = _
          first | rw [if_pos (by omega)] | rw [if_neg (by omega)]
        · omega
        · exact cl_clr_S _ _ _ _
      · refine jk_iconst (q := 29) dX2_clearCorrections_28 rfl ?_
        refine jk_goto (q := 33) dX2_clearCorrections_29 rfl ?_
        refine jk_iadd (q := 34) dX2_clearCorrections_33 rfl ?_
        refine jk_istore1 (q := 35) dX2_clearCorrections_34 rfl rfl rfl ?_
        refine jk_aload_n (q := 36) dX2_clearCorrections_35 rfl rfl ?_
        refine jk_getA (q := 39) (k := 2) 0 0 rfl (by first | exact hcc.1 | exact hs.1 | exact hs.2.1 _ _ rfl | assumption) (by first | exact hcc.2.1 | exact hcc.2.2.1 | exact hcc.2.2.2.1 | exact hcc.2.2.2.2 | exact hs.2.2.1 _ _ rfl | assumption) rfl rfl jw_295 dX2_clearCorrections_36 rfl ?_
        refine jk_getA (q := 42) (k := 9) 11 11 rfl (by first | exact hcc.1 | exact hs.1 | exact hs.2.1 _ _ rfl | assumption) (by first | exact hcc.2.1 | exact hcc.2.2.1 | exact hcc.2.2.2.1 | exact hcc.2.2.2.2 | exact hs.2.2.1 _ _ rfl | assumption) rfl rfl jw_103 dX2_clearCorrections_39 rfl ?_
        refine jk_iload_n (q := 43) dX2_clearCorrections_42 rfl rfl ?_
        refine jk_iconst (q := 44) dX2_clearCorrections_43 rfl ?_
        refine jk_iastR (q := 45) (by first | exact hcc.1 | exact hs.1 | exact hs.2.1 _ _ rfl | assumption) (by first | exact jk_row_same _ _ _ | ((repeat rewrite [jk_row_ne _ _ (by omega)]); first | exact jk_row_same _ _ _ | rfl)) (by first | assumption | decide | omega | exact jB_01 _ | exact jB_in _ | exact ⟨by omega, by omega⟩) dX2_clearCorrections_44 rfl ?_
        refine jk_iinc2 (q := 48) dX2_clearCorrections_45 rfl rfl rfl ?_
        refine jk_goto (q := 4) dX2_clearCorrections_48 rfl ?_
        refine jk_conv (ih4 (by omega)) (jk_loc rfl (jk_loc (jk_li ?_) (jk_loc (jk_li ?_) rfl))) ?_
        · show jk_sum (fun l => if g (136 + l) = 0 then 0 else 1) k4 + (if g (136 + (k4 : Int)) = 0 then 0 else 1) = _
          first | rw [if_pos (by omega)] | rw [if_neg (by omega)]
        · omega
        · exact cl_clr_S _ _ _ _
  refine jk_conv (L4 0 (Nat.zero_le _)) rfl ?_
  funext a j
  simp only [jk_row]
  split
  · rename_i h9; subst h9; exact if_neg (by omega)
  · rfl
end CD1
