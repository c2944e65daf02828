section CL3
theorem c_X9_fixedBenchmarks {G : jk_G} {n : Nat} {t : jk_T} {σ : jk_I} {ρ : jk_P} {s : Nat} {g : Int → Int} {B : Int} (hs : cl_at t ρ s) (hr : cl_rel σ s g) (hi : md_inv B g) : jk_K G yX9_fixedBenchmarks mX9_fixedBenchmarks 0 0 [.ref s] n t σ ρ (jk_q (some (jI (jk_sum (fun o => g (4 + o)) (g 0).toNat))) n t σ ρ) jk_no := by
  have i0 := hi.1
  have i1 := hi.2.1
  refine jk_entryB (ls := [some (.ref s), none, none]) jm_X9_fixedBenchmarks.1 rfl rfl rfl ?_
  refine jk_iconst (q := 1) dX9_fixedBenchmarks_0 rfl ?_
  refine jk_istore1 (q := 2) dX9_fixedBenchmarks_1 rfl rfl rfl ?_
  refine jk_iconst (q := 3) dX9_fixedBenchmarks_2 rfl ?_
  refine jk_istore2 (q := 4) dX9_fixedBenchmarks_3 rfl rfl rfl ?_
  have L4 : ∀ k4 : Nat, k4 ≤ (g 0).toNat → jk_J G mX9_fixedBenchmarks 4 [some (.ref s), some (jI (jk_sum (fun o => g (4 + o)) k4)), some (jI (k4 : Int))] [] n t σ ρ 0 0 (jk_q (some (jI (jk_sum (fun o => g (4 + o)) (g 0).toNat))) n t σ ρ) jk_no := by
    refine jk_loop _ (fun k4 hk4 ih4 => ?_)
    refine jk_iload_n (q := 5) dX9_fixedBenchmarks_4 rfl rfl ?_
    refine jk_aload_n (q := 6) dX9_fixedBenchmarks_5 rfl rfl ?_
    refine jk_getIR (q := 9) (k := 9) 0 0 rfl (by first | exact hs.1 | exact hs.2.1 _ _ rfl | assumption) (by first | exact jk_row_same _ _ _ | rfl | (rewrite [jk_row_ne _ _ (by omega)]; first | exact jk_row_same _ _ _ | rfl | (rewrite [jk_row_ne _ _ (by omega)]; first | exact jk_row_same _ _ _ | rfl | (rewrite [jk_row_ne _ _ (by omega)]; first | exact jk_row_same _ _ _ | rfl | (rewrite [jk_row_ne _ _ (by omega)]; first | rfl | rfl))))) rfl rfl jw_56 dX9_fixedBenchmarks_6 rfl ?_
    rw [hr.1.1]
    refine jk_icmp_ge (q := 35) (q2 := 12) dX9_fixedBenchmarks_9 rfl rfl (by first | assumption | decide | omega | exact jB_01 _ | exact ⟨by omega, by omega⟩) (by first | assumption | decide | omega | exact jB_01 _ | exact ⟨by omega, by omega⟩) (fun h1 => ?_) (fun h1 => ?_)
    · refine jk_iload_n (q := 36) dX9_fixedBenchmarks_35 rfl rfl ?_
      exact jk_iret rfl dX9_fixedBenchmarks_36 (by refine jk_qI ?_; rw [show (g 0).toNat = k4 by omega])
    · have p1 := (hr.2.1 (k4 : Int) ⟨by omega, by omega⟩).1
      have p2 := (hi.2.2.2.2.1 (k4 : Int) ⟨by omega, by omega⟩).1
      refine jk_iload_n (q := 13) dX9_fixedBenchmarks_12 rfl rfl ?_
      refine jk_aload_n (q := 14) dX9_fixedBenchmarks_13 rfl rfl ?_
      refine jk_getA (q := 17) (k := 9) 1 1 rfl (by first | exact hs.1 | exact hs.2.1 _ _ rfl | assumption) (by first | exact hs.2.2.1 _ _ rfl | assumption) rfl rfl jw_59 dX9_fixedBenchmarks_14 rfl ?_
      refine jk_iload_n (q := 18) dX9_fixedBenchmarks_17 rfl rfl ?_
      refine jk_zaldR (q := 19) (by first | exact hs.1 | exact hs.2.1 _ _ rfl | assumption) (by first | exact jk_row_same _ _ _ | rfl | (rewrite [jk_row_ne _ _ (by omega)]; first | exact jk_row_same _ _ _ | rfl | (rewrite [jk_row_ne _ _ (by omega)]; first | exact jk_row_same _ _ _ | rfl | (rewrite [jk_row_ne _ _ (by omega)]; first | exact jk_row_same _ _ _ | rfl | (rewrite [jk_row_ne _ _ (by omega)]; first | rfl | rfl))))) (by first | assumption | decide | omega | exact jB_01 _ | exact ⟨by omega, by omega⟩) dX9_fixedBenchmarks_18 rfl ?_
      refine jk_if_eq (q := 26) (q2 := 22) dX9_fixedBenchmarks_19 rfl rfl (by first | assumption | decide | omega | exact jB_01 _ | exact ⟨by omega, by omega⟩) (fun h2 => ?_) (fun h2 => ?_)
      · refine jk_iconst (q := 27) dX9_fixedBenchmarks_26 rfl ?_
        refine jk_iadd (q := 28) dX9_fixedBenchmarks_27 rfl ?_
        refine jk_istore1 (q := 29) dX9_fixedBenchmarks_28 rfl rfl rfl ?_
        refine jk_iinc2 (q := 32) dX9_fixedBenchmarks_29 rfl rfl rfl ?_
        refine jk_goto (q := 4) dX9_fixedBenchmarks_32 rfl ?_
        refine jk_convl (ih4 (by omega)) (jk_loc rfl (jk_loc (jk_li ?_) (jk_loc rfl rfl)))
        show jk_sum (fun o => g (4 + o)) k4 + g (4 + (k4 : Int)) = _
        omega
      · refine jk_iconst (q := 23) dX9_fixedBenchmarks_22 rfl ?_
        refine jk_goto (q := 27) dX9_fixedBenchmarks_23 rfl ?_
        refine jk_iadd (q := 28) dX9_fixedBenchmarks_27 rfl ?_
        refine jk_istore1 (q := 29) dX9_fixedBenchmarks_28 rfl rfl rfl ?_
        refine jk_iinc2 (q := 32) dX9_fixedBenchmarks_29 rfl rfl rfl ?_
        refine jk_goto (q := 4) dX9_fixedBenchmarks_32 rfl ?_
        refine jk_convl (ih4 (by omega)) (jk_loc rfl (jk_loc (jk_li ?_) (jk_loc rfl rfl)))
        show jk_sum (fun o => g (4 + o)) k4 + g (4 + (k4 : Int)) = _
        omega
  exact jk_convl (L4 0 (Nat.zero_le _)) (jk_loc rfl (jk_loc rfl (jk_loc rfl rfl)))
theorem c_X9_usableLines {G : jk_G} {n : Nat} {t : jk_T} {σ : jk_I} {ρ : jk_P} {s : Nat} {g : Int → Int} {B : Int} (hs : cl_at t ρ s) (hr : cl_rel σ s g) (hi : md_inv B g) : jk_K G yX9_usableLines mX9_usableLines 0 0 [.ref s] n t σ ρ (jk_q (some (jI (jk_sum (fun l => jB (md_good g l)) (g 1).toNat))) n t σ ρ) jk_no := by
  have i0 := hi.1
  have i1 := hi.2.1
  refine jk_entryB (ls := [some (.ref s), none, none]) jm_X9_usableLines.1 rfl rfl rfl ?_
  refine jk_iconst (q := 1) dX9_usableLines_0 rfl ?_
  refine jk_istore1 (q := 2) dX9_usableLines_1 rfl rfl rfl ?_
  refine jk_iconst (q := 3) dX9_usableLines_2 rfl ?_
  refine jk_istore2 (q := 4) dX9_usableLines_3 rfl rfl rfl ?_
  have L4 : ∀ k4 : Nat, k4 ≤ (g 1).toNat → jk_J G mX9_usableLines 4 [some (.ref s), some (jI (jk_sum (fun l => jB (md_good g l)) k4)), some (jI (k4 : Int))] [] n t σ ρ 0 0 (jk_q (some (jI (jk_sum (fun l => jB (md_good g l)) (g 1).toNat))) n t σ ρ) jk_no := by
    refine jk_loop _ (fun k4 hk4 ih4 => ?_)
    refine jk_iload_n (q := 5) dX9_usableLines_4 rfl rfl ?_
    refine jk_aload_n (q := 6) dX9_usableLines_5 rfl rfl ?_
    refine jk_getIR (q := 9) (k := 9) 3 3 rfl (by first | exact hs.1 | exact hs.2.1 _ _ rfl | assumption) (by first | exact jk_row_same _ _ _ | rfl | (rewrite [jk_row_ne _ _ (by omega)]; first | exact jk_row_same _ _ _ | rfl | (rewrite [jk_row_ne _ _ (by omega)]; first | exact jk_row_same _ _ _ | rfl | (rewrite [jk_row_ne _ _ (by omega)]; first | exact jk_row_same _ _ _ | rfl | (rewrite [jk_row_ne _ _ (by omega)]; first | rfl | rfl))))) rfl rfl jw_68 dX9_usableLines_6 rfl ?_
    rw [hr.1.2.1]
    refine jk_icmp_ge (q := 34) (q2 := 12) dX9_usableLines_9 rfl rfl (by first | assumption | decide | omega | exact jB_01 _ | exact ⟨by omega, by omega⟩) (by first | assumption | decide | omega | exact jB_01 _ | exact ⟨by omega, by omega⟩) (fun h1 => ?_) (fun h1 => ?_)
    · refine jk_iload_n (q := 35) dX9_usableLines_34 rfl rfl ?_
      exact jk_iret rfl dX9_usableLines_35 (by refine jk_qI ?_; rw [show (g 1).toNat = k4 by omega])
    · refine jk_iload_n (q := 13) dX9_usableLines_12 rfl rfl ?_
      refine jk_aload_n (q := 14) dX9_usableLines_13 rfl rfl ?_
      refine jk_iload_n (q := 15) dX9_usableLines_14 rfl rfl ?_
      refine jk_cV1p (q := 18) (c_X9_usable hs hr hi ⟨by omega, by omega⟩) jm_X9_usable jw_767 rfl (by first | exact hs.1 | exact hs.2.1 _ _ rfl | assumption) rfl rfl rfl dX9_usableLines_15 rfl ?_
      refine jk_ifB_eq (q := 25) (q2 := 21) dX9_usableLines_18 rfl rfl (fun h2 => ?_) (fun h2 => ?_)
      · refine jk_iconst (q := 26) dX9_usableLines_25 rfl ?_
        refine jk_iadd (q := 27) dX9_usableLines_26 rfl ?_
        refine jk_istore1 (q := 28) dX9_usableLines_27 rfl rfl rfl ?_
        refine jk_iinc2 (q := 31) dX9_usableLines_28 rfl rfl rfl ?_
        refine jk_goto (q := 4) dX9_usableLines_31 rfl ?_
        refine jk_convl (ih4 (by omega)) (jk_loc rfl (jk_loc (jk_li ?_) (jk_loc rfl rfl)))
        first | (simp [jk_sum, *, jB_t, jB_f]; done) | (unfold jk_sum; simp only [*]; omega) | (unfold jk_sum; omega)
      · refine jk_iconst (q := 22) dX9_usableLines_21 rfl ?_
        refine jk_goto (q := 26) dX9_usableLines_22 rfl ?_
        refine jk_iadd (q := 27) dX9_usableLines_26 rfl ?_
        refine jk_istore1 (q := 28) dX9_usableLines_27 rfl rfl rfl ?_
        refine jk_iinc2 (q := 31) dX9_usableLines_28 rfl rfl rfl ?_
        refine jk_goto (q := 4) dX9_usableLines_31 rfl ?_
        refine jk_convl (ih4 (by omega)) (jk_loc rfl (jk_loc (jk_li ?_) (jk_loc rfl rfl)))
        first | (simp [jk_sum, *, jB_t, jB_f]; done) | (unfold jk_sum; simp only [*]; omega) | (unfold jk_sum; omega)
  exact jk_convl (L4 0 (Nat.zero_le _)) (jk_loc rfl (jk_loc rfl (jk_loc rfl rfl)))
theorem c_X9_usableLength {G : jk_G} {n : Nat} {t : jk_T} {σ : jk_I} {ρ : jk_P} {s : Nat} {g : Int → Int} {B : Int} (hs : cl_at t ρ s) (hr : cl_rel σ s g) (hi : md_inv B g) : jk_K G yX9_usableLength mX9_usableLength 0 0 [.ref s] n t σ ρ (jk_q (some (jI (jk_sum (fun l => if md_good g l = true then g (56 + l) else 0) (g 1).toNat))) n t σ ρ) jk_no := by
  have i0 := hi.1
  have i1 := hi.2.1
  refine jk_entryB (ls := [some (.ref s), none, none]) jm_X9_usableLength.1 rfl rfl rfl ?_
  refine jk_iconst (q := 1) dX9_usableLength_0 rfl ?_
  refine jk_istore1 (q := 2) dX9_usableLength_1 rfl rfl rfl ?_
  refine jk_iconst (q := 3) dX9_usableLength_2 rfl ?_
  refine jk_istore2 (q := 4) dX9_usableLength_3 rfl rfl rfl ?_
  have L4 : ∀ k4 : Nat, k4 ≤ (g 1).toNat → jk_J G mX9_usableLength 4 [some (.ref s), some (jI (jk_sum (fun l => if md_good g l = true then g (56 + l) else 0) k4)), some (jI (k4 : Int))] [] n t σ ρ 0 0 (jk_q (some (jI (jk_sum (fun l => if md_good g l = true then g (56 + l) else 0) (g 1).toNat))) n t σ ρ) jk_no := by
    refine jk_loop _ (fun k4 hk4 ih4 => ?_)
    refine jk_iload_n (q := 5) dX9_usableLength_4 rfl rfl ?_
    refine jk_aload_n (q := 6) dX9_usableLength_5 rfl rfl ?_
    refine jk_getIR (q := 9) (k := 9) 3 3 rfl (by first | exact hs.1 | exact hs.2.1 _ _ rfl | assumption) (by first | exact jk_row_same _ _ _ | rfl | (rewrite [jk_row_ne _ _ (by omega)]; first | exact jk_row_same _ _ _ | rfl | (rewrite [jk_row_ne _ _ (by omega)]; first | exact jk_row_same _ _ _ | rfl | (rewrite [jk_row_ne _ _ (by omega)]; first | exact jk_row_same _ _ _ | rfl | (rewrite [jk_row_ne _ _ (by omega)]; first | rfl | rfl))))) rfl rfl jw_68 dX9_usableLength_6 rfl ?_
    rw [hr.1.2.1]
    refine jk_icmp_ge (q := 39) (q2 := 12) dX9_usableLength_9 rfl rfl (by first | assumption | decide | omega | exact jB_01 _ | exact ⟨by omega, by omega⟩) (by first | assumption | decide | omega | exact jB_01 _ | exact ⟨by omega, by omega⟩) (fun h1 => ?_) (fun h1 => ?_)
    · refine jk_iload_n (q := 40) dX9_usableLength_39 rfl rfl ?_
      exact jk_iret rfl dX9_usableLength_40 (by refine jk_qI ?_; rw [show (g 1).toNat = k4 by omega])
    · have q3 := (hr.2.2.1 (k4 : Int) ⟨by omega, by omega⟩).2.2.1
      refine jk_iload_n (q := 13) dX9_usableLength_12 rfl rfl ?_
      refine jk_aload_n (q := 14) dX9_usableLength_13 rfl rfl ?_
      refine jk_iload_n (q := 15) dX9_usableLength_14 rfl rfl ?_
      refine jk_cV1p (q := 18) (c_X9_usable hs hr hi ⟨by omega, by omega⟩) jm_X9_usable jw_767 rfl (by first | exact hs.1 | exact hs.2.1 _ _ rfl | assumption) rfl rfl rfl dX9_usableLength_15 rfl ?_
      refine jk_ifB_eq (q := 30) (q2 := 21) dX9_usableLength_18 rfl rfl (fun h2 => ?_) (fun h2 => ?_)
      · refine jk_iconst (q := 31) dX9_usableLength_30 rfl ?_
        refine jk_iadd (q := 32) dX9_usableLength_31 rfl ?_
        refine jk_istore1 (q := 33) dX9_usableLength_32 rfl rfl rfl ?_
        refine jk_iinc2 (q := 36) dX9_usableLength_33 rfl rfl rfl ?_
        refine jk_goto (q := 4) dX9_usableLength_36 rfl ?_
        refine jk_convl (ih4 (by omega)) (jk_loc rfl (jk_loc (jk_li ?_) (jk_loc rfl rfl)))
        show jk_sum (fun l => if md_good g l = true then g (56 + l) else 0) k4 + (if md_good g (k4 : Int) = true then g (56 + (k4 : Int)) else 0) = _
        first | (rw [if_pos (by assumption)]; omega) | rw [if_neg (by simp [*])]
      · refine jk_aload_n (q := 22) dX9_usableLength_21 rfl rfl ?_
        refine jk_getA (q := 25) (k := 9) 6 6 rfl (by first | exact hs.1 | exact hs.2.1 _ _ rfl | assumption) (by first | exact hs.2.2.1 _ _ rfl | assumption) rfl rfl jw_85 dX9_usableLength_22 rfl ?_
        refine jk_iload_n (q := 26) dX9_usableLength_25 rfl rfl ?_
        refine jk_ialdR (q := 27) (by first | exact hs.1 | exact hs.2.1 _ _ rfl | assumption) (by first | exact jk_row_same _ _ _ | rfl | (rewrite [jk_row_ne _ _ (by omega)]; first | exact jk_row_same _ _ _ | rfl | (rewrite [jk_row_ne _ _ (by omega)]; first | exact jk_row_same _ _ _ | rfl | (rewrite [jk_row_ne _ _ (by omega)]; first | exact jk_row_same _ _ _ | rfl | (rewrite [jk_row_ne _ _ (by omega)]; first | rfl | rfl))))) (by first | assumption | decide | omega | exact jB_01 _ | exact ⟨by omega, by omega⟩) dX9_usableLength_26 rfl ?_
        refine jk_goto (q := 31) dX9_usableLength_27 rfl ?_
        refine jk_iadd (q := 32) dX9_usableLength_31 rfl ?_
        refine jk_istore1 (q := 33) dX9_usableLength_32 rfl rfl rfl ?_
        refine jk_iinc2 (q := 36) dX9_usableLength_33 rfl rfl rfl ?_
        refine jk_goto (q := 4) dX9_usableLength_36 rfl ?_
        refine jk_convl (ih4 (by omega)) (jk_loc rfl (jk_loc (jk_li ?_) (jk_loc rfl rfl)))
        show jk_sum (fun l => if md_good g l = true then g (56 + l) else 0) k4 + (if md_good g (k4 : Int) = true then g (56 + (k4 : Int)) else 0) = _
        first | (rw [if_pos (by assumption)]; omega) | rw [if_neg (by simp [*])]
  exact jk_convl (L4 0 (Nat.zero_le _)) (jk_loc rfl (jk_loc rfl (jk_loc rfl rfl)))
end CL3
