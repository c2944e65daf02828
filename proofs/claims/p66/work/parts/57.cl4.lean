section CL4
/-- line i is ahead of line l, by the size of its discrepancy -/
def cl_ahd (g : Int → Int) (l i : Int) : Bool := decide (g (88 + i) = 1 ∧ (md_abs (md_gap g i) > md_abs (md_gap g l) ∨ (md_abs (md_gap g i) = md_abs (md_gap g l) ∧ i < l)))
theorem cl_ahd_T {g : Int → Int} {l i : Int} (h : g (88 + i) = 1) (h2 : md_abs (md_gap g i) > md_abs (md_gap g l) ∨ (md_abs (md_gap g i) = md_abs (md_gap g l) ∧ i < l)) : jB (cl_ahd g l i) = 1 := by unfold cl_ahd; rw [decide_eq_true ⟨h, h2⟩]; rfl
theorem cl_ahd_F {g : Int → Int} {l i : Int} (h : ¬ (g (88 + i) = 1 ∧ (md_abs (md_gap g i) > md_abs (md_gap g l) ∨ (md_abs (md_gap g i) = md_abs (md_gap g l) ∧ i < l)))) : jB (cl_ahd g l i) = 0 := by unfold cl_ahd; rw [decide_eq_false h]; rfl
theorem c_X9_linesAheadOf {G : jk_G} {n : Nat} {t : jk_T} {σ : jk_I} {ρ : jk_P} {s : Nat} {g : Int → Int} {B l : Int} (hs : cl_at t ρ s) (hr : cl_rel σ s g) (hi : md_inv B g) (hl : 0 ≤ l ∧ l < g 1) (hd : g (88 + l) = 1) : jk_K G yX9_linesAheadOf mX9_linesAheadOf 0 0 [.ref s, jI l] n t σ ρ (jk_q (some (jI (jk_sum (fun i => jB (cl_ahd g l i)) (g 1).toNat))) n t σ ρ) jk_no := by
  have i1 := hi.2.1
  obtain ⟨r1, r2, r3, r4, r5, r6, r7, r8⟩ := hr.2.2.1 l hl
  obtain ⟨l1, l2, l3, l4, l5, l6, l7, l8⟩ := md_inv_ln hi (l := l) ⟨by omega, by omega⟩
  have hsum : σ (s + 12) l + σ (s + 14) l = md_gap g l := by have := r5.1 hd; unfold md_gap; omega
  have hab : 0 ≤ md_abs (md_gap g l) ∧ md_abs (md_gap g l) ≤ 19998 := (by unfold md_abs md_gap; split <;> omega)
  have hgb : -19998 ≤ md_gap g l ∧ md_gap g l ≤ 19998 := (by unfold md_gap; omega)
  refine jk_entryB (ls := [some (.ref s), some (jI l), none, none, none, none]) jm_X9_linesAheadOf.1 rfl rfl rfl ?_
  refine jk_aload_n (q := 1) dX9_linesAheadOf_0 rfl rfl ?_
  refine jk_iload_n (q := 2) dX9_linesAheadOf_1 rfl rfl ?_
  refine jk_cV1p (q := 5) (c_X9_sumOfRuns hs hr hi hl) jm_X9_sumOfRuns jw_509 rfl (by first | exact hs.1 | exact hs.2.1 _ _ rfl | assumption) rfl rfl rfl dX9_linesAheadOf_2 rfl ?_
  rw [show σ (s + 12) l + σ (s + 14) l = md_gap g l from hsum]
  refine jk_mabs (q := 8) jw_513 rfl rfl (by first | assumption | decide | omega | exact ⟨by omega, by omega⟩) (by first | assumption | decide | omega | exact ⟨by omega, by omega⟩) dX9_linesAheadOf_5 rfl ?_
  refine jk_istore2 (q := 9) dX9_linesAheadOf_8 rfl rfl rfl ?_
  refine jk_iconst (q := 10) dX9_linesAheadOf_9 rfl ?_
  refine jk_istore3 (q := 11) dX9_linesAheadOf_10 rfl rfl rfl ?_
  refine jk_iconst (q := 12) dX9_linesAheadOf_11 rfl ?_
  refine jk_istore4 (q := 14) dX9_linesAheadOf_12 rfl rfl rfl ?_
  have L14 : ∀ k14 : Nat, k14 ≤ (g 1).toNat → jk_J G mX9_linesAheadOf 14 [some (.ref s), some (jI l), some (jI (md_abs (md_gap g l))), some (jI (jk_sum (fun i => jB (cl_ahd g l i)) k14)), some (jI (k14 : Int)), none] [] n t σ ρ 0 0 (jk_q (some (jI (jk_sum (fun i => jB (cl_ahd g l i)) (g 1).toNat))) n t σ ρ) jk_no := by
    refine jk_loop _ (fun k14 hk14 ih14 => ?_)
    refine jk_iload (q := 16) dX9_linesAheadOf_14 rfl rfl ?_
    refine jk_aload_n (q := 17) dX9_linesAheadOf_16 rfl rfl ?_
    refine jk_getIR (q := 20) (k := 9) 3 3 rfl (by first | exact hs.1 | exact hs.2.1 _ _ rfl | assumption) (by first | exact jk_row_same _ _ _ | rfl | (rewrite [jk_row_ne _ _ (by omega)]; first | exact jk_row_same _ _ _ | rfl | (rewrite [jk_row_ne _ _ (by omega)]; first | exact jk_row_same _ _ _ | rfl | (rewrite [jk_row_ne _ _ (by omega)]; first | exact jk_row_same _ _ _ | rfl | (rewrite [jk_row_ne _ _ (by omega)]; first | rfl | rfl))))) rfl rfl jw_68 dX9_linesAheadOf_17 rfl ?_
    rw [hr.1.2.1]
    refine jk_icmp_ge (q := 71) (q2 := 23) dX9_linesAheadOf_20 rfl rfl (by first | assumption | decide | omega | exact ⟨by omega, by omega⟩) (by first | assumption | decide | omega | exact ⟨by omega, by omega⟩) (fun h1 => ?_) (fun h1 => ?_)
    · refine jk_iload_n (q := 72) dX9_linesAheadOf_71 rfl rfl ?_
      exact jk_iret rfl dX9_linesAheadOf_72 (by refine jk_qI ?_; rw [show (g 1).toNat = k14 by omega])
    · refine jk_aload_n (q := 24) dX9_linesAheadOf_23 rfl rfl ?_
      obtain ⟨q1, q2, q3, q4, q5, q6, q7, q8⟩ := hr.2.2.1 (k14 : Int) ⟨by omega, by omega⟩
      obtain ⟨u1, u2, u3, u4, u5, u6, u7, u8⟩ := md_inv_ln hi (l := (k14 : Int)) ⟨by omega, by omega⟩
      refine jk_iload (q := 26) dX9_linesAheadOf_24 rfl rfl ?_
      refine jk_cV1p (q := 29) (c_X9_sumOfRuns hs hr hi (l := (k14 : Int)) ⟨by omega, by omega⟩) jm_X9_sumOfRuns jw_509 rfl (by first | exact hs.1 | exact hs.2.1 _ _ rfl | assumption) rfl rfl rfl dX9_linesAheadOf_26 rfl ?_
      refine jk_mabs (q := 32) jw_513 rfl rfl (by first | assumption | decide | omega | exact ⟨by omega, by omega⟩) (by first | assumption | decide | omega | exact ⟨by omega, by omega⟩) dX9_linesAheadOf_29 rfl ?_
      have hab2 : 0 ≤ md_abs (σ (s + 12) (k14 : Int) + σ (s + 14) (k14 : Int)) ∧ md_abs (σ (s + 12) (k14 : Int) + σ (s + 14) (k14 : Int)) ≤ 19998 := (by unfold md_abs; split <;> omega)
      refine jk_istore5 (q := 34) dX9_linesAheadOf_32 rfl rfl rfl ?_
      refine jk_aload_n (q := 35) dX9_linesAheadOf_34 rfl rfl ?_
      refine jk_getA (q := 38) (k := 9) 9 9 rfl (by first | exact hs.1 | exact hs.2.1 _ _ rfl | assumption) (by first | exact hs.2.2.1 _ _ rfl | assumption) rfl rfl jw_95 dX9_linesAheadOf_35 rfl ?_
      refine jk_iload (q := 40) dX9_linesAheadOf_38 rfl rfl ?_
      refine jk_zaldR (q := 41) (by first | exact hs.1 | exact hs.2.1 _ _ rfl | assumption) (by first | exact jk_row_same _ _ _ | rfl | (rewrite [jk_row_ne _ _ (by omega)]; first | exact jk_row_same _ _ _ | rfl | (rewrite [jk_row_ne _ _ (by omega)]; first | exact jk_row_same _ _ _ | rfl | (rewrite [jk_row_ne _ _ (by omega)]; first | exact jk_row_same _ _ _ | rfl | (rewrite [jk_row_ne _ _ (by omega)]; first | rfl | rfl))))) (by first | assumption | decide | omega | exact ⟨by omega, by omega⟩) dX9_linesAheadOf_40 rfl ?_
      refine jk_if_eq (q := 65) (q2 := 44) dX9_linesAheadOf_41 rfl rfl (by first | assumption | decide | omega | exact ⟨by omega, by omega⟩) (fun h2 => ?_) (fun h2 => ?_)
      · refine jk_iinc4 (q := 68) dX9_linesAheadOf_65 rfl rfl rfl ?_
        refine jk_goto (q := 14) dX9_linesAheadOf_68 rfl ?_
        refine jk_convw (ih14 (by omega)) (jk_wkS rfl (jk_wkS rfl (jk_wkS rfl (jk_wkS (jk_li ?_) (jk_wkS rfl (jk_wkN jk_wk0))))))
        show jk_sum (fun i => jB (cl_ahd g l i)) k14 + jB (cl_ahd g l (k14 : Int)) = _
        first | (rw [cl_ahd_T (by omega) (by omega)]; done) | (rw [cl_ahd_F (by omega)]; omega)
      · have hgp : σ (s + 12) (k14 : Int) + σ (s + 14) (k14 : Int) = md_gap g (k14 : Int) := (by have := q5.1 (by omega); unfold md_gap; omega)
        rw [hgp] at hab2 ⊢
        refine jk_iload (q := 46) dX9_linesAheadOf_44 rfl rfl ?_
        refine jk_iload_n (q := 47) dX9_linesAheadOf_46 rfl rfl ?_
        refine jk_icmp_gt (q := 62) (q2 := 50) dX9_linesAheadOf_47 rfl rfl (by first | assumption | decide | omega | exact ⟨by omega, by omega⟩) (by first | assumption | decide | omega | exact ⟨by omega, by omega⟩) (fun h3 => ?_) (fun h3 => ?_)
        · refine jk_iinc3 (q := 65) dX9_linesAheadOf_62 rfl rfl rfl ?_
          refine jk_iinc4 (q := 68) dX9_linesAheadOf_65 rfl rfl rfl ?_
          refine jk_goto (q := 14) dX9_linesAheadOf_68 rfl ?_
          refine jk_convw (ih14 (by omega)) (jk_wkS rfl (jk_wkS rfl (jk_wkS rfl (jk_wkS (jk_li ?_) (jk_wkS rfl (jk_wkN jk_wk0))))))
          show jk_sum (fun i => jB (cl_ahd g l i)) k14 + jB (cl_ahd g l (k14 : Int)) = _
          first | (rw [cl_ahd_T (by omega) (by omega)]; done) | (rw [cl_ahd_F (by omega)]; omega)
        · refine jk_iload (q := 52) dX9_linesAheadOf_50 rfl rfl ?_
          refine jk_iload_n (q := 53) dX9_linesAheadOf_52 rfl rfl ?_
          refine jk_icmp_ne (q := 65) (q2 := 56) dX9_linesAheadOf_53 rfl rfl (by first | assumption | decide | omega | exact ⟨by omega, by omega⟩) (by first | assumption | decide | omega | exact ⟨by omega, by omega⟩) (fun h4 => ?_) (fun h4 => ?_)
          · refine jk_iinc4 (q := 68) dX9_linesAheadOf_65 rfl rfl rfl ?_
            refine jk_goto (q := 14) dX9_linesAheadOf_68 rfl ?_
            refine jk_convw (ih14 (by omega)) (jk_wkS rfl (jk_wkS rfl (jk_wkS rfl (jk_wkS (jk_li ?_) (jk_wkS rfl (jk_wkN jk_wk0))))))
            show jk_sum (fun i => jB (cl_ahd g l i)) k14 + jB (cl_ahd g l (k14 : Int)) = _
            first | (rw [cl_ahd_T (by omega) (by omega)]; done) | (rw [cl_ahd_F (by omega)]; omega)
          · refine jk_iload (q := 58) dX9_linesAheadOf_56 rfl rfl ?_
            refine jk_iload_n (q := 59) dX9_linesAheadOf_58 rfl rfl ?_
            refine jk_icmp_ge (q := 65) (q2 := 62) dX9_linesAheadOf_59 rfl rfl (by first | assumption | decide | omega | exact ⟨by omega, by omega⟩) (by first | assumption | decide | omega | exact ⟨by omega, by omega⟩) (fun h5 => ?_) (fun h5 => ?_)
            · refine jk_iinc4 (q := 68) dX9_linesAheadOf_65 rfl rfl rfl ?_
              refine jk_goto (q := 14) dX9_linesAheadOf_68 rfl ?_
              refine jk_convw (ih14 (by omega)) (jk_wkS rfl (jk_wkS rfl (jk_wkS rfl (jk_wkS (jk_li ?_) (jk_wkS rfl (jk_wkN jk_wk0))))))
              show jk_sum (fun i => jB (cl_ahd g l i)) k14 + jB (cl_ahd g l (k14 : Int)) = _
              first | (rw [cl_ahd_T (by omega) (by omega)]; done) | (rw [cl_ahd_F (by omega)]; omega)
            · refine jk_iinc3 (q := 65) dX9_linesAheadOf_62 rfl rfl rfl ?_
              refine jk_iinc4 (q := 68) dX9_linesAheadOf_65 rfl rfl rfl ?_
              refine jk_goto (q := 14) dX9_linesAheadOf_68 rfl ?_
              refine jk_convw (ih14 (by omega)) (jk_wkS rfl (jk_wkS rfl (jk_wkS rfl (jk_wkS (jk_li ?_) (jk_wkS rfl (jk_wkN jk_wk0))))))
              show jk_sum (fun i => jB (cl_ahd g l i)) k14 + jB (cl_ahd g l (k14 : Int)) = _
              first | (rw [cl_ahd_T (by omega) (by omega)]; done) | (rw [cl_ahd_F (by omega)]; omega)
  exact jk_convw (L14 0 (Nat.zero_le _)) (jk_wkS rfl (jk_wkS rfl (jk_wkS rfl (jk_wkS rfl (jk_wkS rfl (jk_wkN jk_wk0))))))
theorem cl_ahd_eq (g : Int → Int) (l i : Int) : cl_ahd g l i = (decide (g (88 + i) = 1) && md_wrs g i l) := by
  unfold cl_ahd md_wrs
  rw [Bool.eq_iff_iff, Bool.and_eq_true, decide_eq_true_iff, decide_eq_true_iff, decide_eq_true_iff]
  omega
theorem cl_lcnt (g : Int → Int) (l : Int) : jk_sum (fun i => jB (cl_ahd g l i)) (g 1).toNat = md_lcnt g l := jk_sum_cong _ (fun i _ _ => by rw [cl_ahd_eq])
theorem c_X9_lineAtRank {G : jk_G} {n : Nat} {t : jk_T} {σ : jk_I} {ρ : jk_P} {s : Nat} {g : Int → Int} {B r : Int} (hs : cl_at t ρ s) (hr : cl_rel σ s g) (hi : md_inv B g) (hri : jk_in r) : jk_K G yX9_lineAtRank mX9_lineAtRank 0 0 [.ref s, jI r] n t σ ρ (jk_q (some (jI (jk_fnd (md_ldP g r) (g 1).toNat))) n t σ ρ) jk_no := by
  have i1 := hi.2.1
  refine jk_entryB (ls := [some (.ref s), some (jI r), none]) jm_X9_lineAtRank.1 rfl rfl rfl ?_
  refine jk_iconst (q := 1) dX9_lineAtRank_0 rfl ?_
  refine jk_istore2 (q := 2) dX9_lineAtRank_1 rfl rfl rfl ?_
  have L2 : ∀ k2 : Nat, k2 ≤ (g 1).toNat → (hf : jk_fnd (md_ldP g r) k2 = -1) → jk_J G mX9_lineAtRank 2 [some (.ref s), some (jI r), some (jI (k2 : Int))] [] n t σ ρ 0 0 (jk_q (some (jI (jk_fnd (md_ldP g r) (g 1).toNat))) n t σ ρ) jk_no := by
    refine jk_loop _ (fun k2 hk2 ih2 => ?_)
    intro  hf
    refine jk_iload_n (q := 3) dX9_lineAtRank_2 rfl rfl ?_
    refine jk_aload_n (q := 4) dX9_lineAtRank_3 rfl rfl ?_
    refine jk_getIR (q := 7) (k := 9) 3 3 rfl (by first | exact hs.1 | exact hs.2.1 _ _ rfl | assumption) (by first | exact jk_row_same _ _ _ | rfl | (rewrite [jk_row_ne _ _ (by omega)]; first | exact jk_row_same _ _ _ | rfl | (rewrite [jk_row_ne _ _ (by omega)]; first | exact jk_row_same _ _ _ | rfl | (rewrite [jk_row_ne _ _ (by omega)]; first | exact jk_row_same _ _ _ | rfl | (rewrite [jk_row_ne _ _ (by omega)]; first | rfl | rfl))))) rfl rfl jw_68 dX9_lineAtRank_4 rfl ?_
    rw [hr.1.2.1]
    refine jk_icmp_ge (q := 36) (q2 := 10) dX9_lineAtRank_7 rfl rfl (by first | assumption | decide | omega | exact ⟨by omega, by omega⟩) (by first | assumption | decide | omega | exact ⟨by omega, by omega⟩) (fun h1 => ?_) (fun h1 => ?_)
    · refine jk_iconst (q := 37) dX9_lineAtRank_36 rfl ?_
      exact jk_iret rfl dX9_lineAtRank_37 (by refine jk_qI ?_; rw [show (g 1).toNat = k2 by omega]; exact hf.symm)
    · obtain ⟨q1, q2, q3, q4, q5, q6, q7, q8⟩ := hr.2.2.1 (k2 : Int) ⟨by omega, by omega⟩
      obtain ⟨u1, u2, u3, u4, u5, u6, u7, u8⟩ := md_inv_ln hi (l := (k2 : Int)) ⟨by omega, by omega⟩
      refine jk_aload_n (q := 11) dX9_lineAtRank_10 rfl rfl ?_
      refine jk_getA (q := 14) (k := 9) 9 9 rfl (by first | exact hs.1 | exact hs.2.1 _ _ rfl | assumption) (by first | exact hs.2.2.1 _ _ rfl | assumption) rfl rfl jw_95 dX9_lineAtRank_11 rfl ?_
      refine jk_iload_n (q := 15) dX9_lineAtRank_14 rfl rfl ?_
      refine jk_zaldR (q := 16) (by first | exact hs.1 | exact hs.2.1 _ _ rfl | assumption) (by first | exact jk_row_same _ _ _ | rfl | (rewrite [jk_row_ne _ _ (by omega)]; first | exact jk_row_same _ _ _ | rfl | (rewrite [jk_row_ne _ _ (by omega)]; first | exact jk_row_same _ _ _ | rfl | (rewrite [jk_row_ne _ _ (by omega)]; first | exact jk_row_same _ _ _ | rfl | (rewrite [jk_row_ne _ _ (by omega)]; first | rfl | rfl))))) (by first | assumption | decide | omega | exact ⟨by omega, by omega⟩) dX9_lineAtRank_15 rfl ?_
      refine jk_if_eq (q := 30) (q2 := 19) dX9_lineAtRank_16 rfl rfl (by first | assumption | decide | omega | exact ⟨by omega, by omega⟩) (fun h2 => ?_) (fun h2 => ?_)
      · refine jk_iinc2 (q := 33) dX9_lineAtRank_30 rfl rfl rfl ?_
        refine jk_goto (q := 2) dX9_lineAtRank_33 rfl ?_
        refine jk_convw (ih2 (by omega) (jk_fnd_S hf (by unfold md_ldP; first | (rw [decide_eq_false (show ¬ g (88 + (k2 : Int)) = 1 by omega)]; rfl) | (rw [decide_eq_false (show ¬ md_lcnt g (k2 : Int) = r by omega), Bool.and_false])))) (jk_wkS rfl (jk_wkS rfl (jk_wkS rfl jk_wk0)))
      · refine jk_aload_n (q := 20) dX9_lineAtRank_19 rfl rfl ?_
        refine jk_iload_n (q := 21) dX9_lineAtRank_20 rfl rfl ?_
        refine jk_cV1p (q := 24) (c_X9_linesAheadOf hs hr hi (l := (k2 : Int)) ⟨by omega, by omega⟩ (by omega)) jm_X9_linesAheadOf jw_981 rfl (by first | exact hs.1 | exact hs.2.1 _ _ rfl | assumption) rfl rfl rfl dX9_lineAtRank_21 rfl ?_
        rw [cl_lcnt]
        have hlb := jk_sum_bd (f := fun x => jB (decide (g (88 + x) = 1) && md_wrs g x (k2 : Int))) (a := 0) (b := 1) (fun i => by show 0 ≤ jB _ ∧ jB _ ≤ 1; cases (decide (g (88 + i) = 1) && md_wrs g i (k2 : Int)) <;> decide) (g 1).toNat
        have hlc : 0 ≤ md_lcnt g (k2 : Int) ∧ md_lcnt g (k2 : Int) ≤ 16 := (by unfold md_lcnt; omega)
        refine jk_iload_n (q := 25) dX9_lineAtRank_24 rfl rfl ?_
        refine jk_icmp_ne (q := 30) (q2 := 28) dX9_lineAtRank_25 rfl rfl (by first | assumption | decide | omega | exact ⟨by omega, by omega⟩) (by first | assumption | decide | omega | exact ⟨by omega, by omega⟩) (fun h3 => ?_) (fun h3 => ?_)
        · refine jk_iinc2 (q := 33) dX9_lineAtRank_30 rfl rfl rfl ?_
          refine jk_goto (q := 2) dX9_lineAtRank_33 rfl ?_
          refine jk_convw (ih2 (by omega) (jk_fnd_S hf (by unfold md_ldP; first | (rw [decide_eq_false (show ¬ g (88 + (k2 : Int)) = 1 by omega)]; rfl) | (rw [decide_eq_false (show ¬ md_lcnt g (k2 : Int) = r by omega), Bool.and_false])))) (jk_wkS rfl (jk_wkS rfl (jk_wkS rfl jk_wk0)))
        · refine jk_iload_n (q := 29) dX9_lineAtRank_28 rfl rfl ?_
          exact jk_iret rfl dX9_lineAtRank_29 (by refine jk_qI ?_; exact Eq.symm <| jk_fnd_hit hf (by unfold md_ldP; rw [decide_eq_true (show g (88 + (k2 : Int)) = 1 by omega), decide_eq_true (show md_lcnt g (k2 : Int) = r by omega)]; rfl) _ (by omega))
  exact jk_convw (L2 0 (Nat.zero_le _) rfl) (jk_wkS rfl (jk_wkS rfl (jk_wkS rfl jk_wk0)))
end CL4
