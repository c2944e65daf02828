section CF3
theorem c_X3_closesLoop {G : jk_G} {n : Nat} {t : jk_T} {σ : jk_I} {ρ : jk_P} {f s : Nat} {g : Int → Int} {B l : Int} (hf : fo_at t ρ f s) (hr : cl_rel σ s g) (hi : md_inv B g) (ho : fo_ok σ f g) (hl : 0 ≤ l ∧ l < g 1) : jk_K G yX3_closesLoop mX3_closesLoop 0 0 [.ref f, jI l] n t σ ρ (jk_q (some (jI (jB (md_clo g (md_T g) l)))) n t σ ρ) jk_no := by
  obtain ⟨hf1, hf2, hf3, hf4, hs, hsf⟩ := id hf
  have i0 := hi.1
  have i1 := hi.2.1
  have i2 := hi.2.2.1.2
  obtain ⟨ho1, ho2, -⟩ := id ho
  have htr := md_kr_tr hi 50
  have hT01 := htr.1 l ⟨by omega, by omega⟩
  have hT02 : md_T g l = 0 ∨ md_T g l = 1 := hT01
  have hTv := ho1 l ⟨by omega, by omega⟩
  refine jk_entryB (ls := [some (.ref f), some (jI l)]) jm_X3_closesLoop.1 rfl rfl rfl ?_
  refine jk_aload_n (q := 1) dX3_closesLoop_0 rfl rfl ?_
  refine jk_getA (q := 4) (k := 3) 0 0 rfl (by first | exact hf1 | exact hs.1 | exact hf2 _ _ rfl | exact hs.2.1 _ _ rfl | assumption) (by first | exact hf4 | exact hf3 _ _ rfl | exact hs.2.2.1 _ _ rfl | assumption) rfl rfl jw_189 dX3_closesLoop_1 rfl ?_
  refine jk_iload_n (q := 5) dX3_closesLoop_4 rfl rfl ?_
  refine jk_cV1p (q := 8) (c_X9_usable hs hr hi hl) jm_X9_usable jw_505 rfl (by first | exact hf1 | exact hs.1 | exact hf2 _ _ rfl | exact hs.2.1 _ _ rfl | assumption) rfl rfl rfl dX3_closesLoop_5 rfl ?_
  refine jk_ifB_eq (q := 24) (q2 := 11) dX3_closesLoop_8 rfl rfl (fun z1 => ?_) (fun z1 => ?_)
  · refine jk_iconst (q := 25) dX3_closesLoop_24 rfl ?_
    exact jk_zret rfl (by first | assumption | decide | omega | exact jB_01 _ | exact jB_in _ | exact ⟨by omega, by omega⟩) dX3_closesLoop_25 (by refine jk_qI ?_; unfold md_clo; first | (rw [show md_good g l = false by assumption]; rfl) | (rw [show md_good g l = true by assumption, decide_eq_true (show md_T g l = 0 by have := ho1 l ⟨by omega, by omega⟩; omega)]; rfl) | (rw [decide_eq_false (show ¬ md_T g l = 0 by have := ho1 l ⟨by omega, by omega⟩; omega), Bool.and_false]; rfl))
  · refine jk_aload_n (q := 12) dX3_closesLoop_11 rfl rfl ?_
    refine jk_getA (q := 15) (k := 3) 4 4 rfl (by first | exact hf1 | exact hs.1 | exact hf2 _ _ rfl | exact hs.2.1 _ _ rfl | assumption) (by first | exact hf4 | exact hf3 _ _ rfl | exact hs.2.2.1 _ _ rfl | assumption) rfl rfl jw_193 dX3_closesLoop_12 rfl ?_
    refine jk_iload_n (q := 16) dX3_closesLoop_15 rfl rfl ?_
    refine jk_zaldR (q := 17) (by first | exact hf1 | exact hs.1 | exact hf2 _ _ rfl | exact hs.2.1 _ _ rfl | assumption) (by first | exact jk_row_same _ _ _ | ((repeat rewrite [jk_row_ne _ _ (by omega)]); first | exact jk_row_same _ _ _ | rfl)) (by first | assumption | decide | omega | exact jB_01 _ | exact jB_in _ | exact ⟨by omega, by omega⟩) dX3_closesLoop_16 rfl ?_
    refine jk_if_ne (q := 24) (q2 := 20) dX3_closesLoop_17 rfl rfl (by first | assumption | decide | omega | exact jB_01 _ | exact jB_in _ | exact ⟨by omega, by omega⟩) (fun z2 => ?_) (fun z2 => ?_)
    · refine jk_iconst (q := 25) dX3_closesLoop_24 rfl ?_
      exact jk_zret rfl (by first | assumption | decide | omega | exact jB_01 _ | exact jB_in _ | exact ⟨by omega, by omega⟩) dX3_closesLoop_25 (by refine jk_qI ?_; unfold md_clo; first | (rw [show md_good g l = false by assumption]; rfl) | (rw [show md_good g l = true by assumption, decide_eq_true (show md_T g l = 0 by have := ho1 l ⟨by omega, by omega⟩; omega)]; rfl) | (rw [decide_eq_false (show ¬ md_T g l = 0 by have := ho1 l ⟨by omega, by omega⟩; omega), Bool.and_false]; rfl))
    · refine jk_iconst (q := 21) dX3_closesLoop_20 rfl ?_
      refine jk_goto (q := 25) dX3_closesLoop_21 rfl ?_
      exact jk_zret rfl (by first | assumption | decide | omega | exact jB_01 _ | exact jB_in _ | exact ⟨by omega, by omega⟩) dX3_closesLoop_25 (by refine jk_qI ?_; unfold md_clo; first | (rw [show md_good g l = false by assumption]; rfl) | (rw [show md_good g l = true by assumption, decide_eq_true (show md_T g l = 0 by have := ho1 l ⟨by omega, by omega⟩; omega)]; rfl) | (rw [decide_eq_false (show ¬ md_T g l = 0 by have := ho1 l ⟨by omega, by omega⟩; omega), Bool.and_false]; rfl))
theorem c_X3_takenLength {G : jk_G} {n : Nat} {t : jk_T} {σ : jk_I} {ρ : jk_P} {f s : Nat} {g : Int → Int} {B : Int} (hf : fo_at t ρ f s) (hr : cl_rel σ s g) (hi : md_inv B g) (ho : fo_ok σ f g) : jk_K G yX3_takenLength mX3_takenLength 0 0 [.ref f] n t σ ρ (jk_q (some (jI (jk_sum (fun l => md_T g l * g (56 + l)) (g 1).toNat))) n t σ ρ) jk_no := by
  obtain ⟨hf1, hf2, hf3, hf4, hs, hsf⟩ := id hf
  have i0 := hi.1
  have i1 := hi.2.1
  have i2 := hi.2.2.1.2
  obtain ⟨ho1, ho2, -⟩ := id ho
  have htr := md_kr_tr hi 50
  refine jk_entryB (ls := [some (.ref f), none, none]) jm_X3_takenLength.1 rfl rfl rfl ?_
  refine jk_iconst (q := 1) dX3_takenLength_0 rfl ?_
  refine jk_istore1 (q := 2) dX3_takenLength_1 rfl rfl rfl ?_
  refine jk_iconst (q := 3) dX3_takenLength_2 rfl ?_
  refine jk_istore2 (q := 4) dX3_takenLength_3 rfl rfl rfl ?_
  have L4 : ∀ k4 : Nat, k4 ≤ (g 1).toNat → jk_J G mX3_takenLength 4 [some (.ref f), some (jI (jk_sum (fun l => md_T g l * g (56 + l)) k4)), some (jI (k4 : Int))] [] n t σ ρ 0 0 (jk_q (some (jI (jk_sum (fun l => md_T g l * g (56 + l)) (g 1).toNat))) n t σ ρ) jk_no := by
    refine jk_loop _ (fun k4 hk4 ih4 => ?_)
    refine jk_iload_n (q := 5) dX3_takenLength_4 rfl rfl ?_
    refine jk_aload_n (q := 6) dX3_takenLength_5 rfl rfl ?_
    refine jk_getA (q := 9) (k := 3) 0 0 rfl (by first | exact hf1 | exact hs.1 | exact hf2 _ _ rfl | exact hs.2.1 _ _ rfl | assumption) (by first | exact hf4 | exact hf3 _ _ rfl | exact hs.2.2.1 _ _ rfl | assumption) rfl rfl jw_189 dX3_takenLength_6 rfl ?_
    refine jk_getIR (q := 12) (k := 9) 3 3 rfl (by first | exact hf1 | exact hs.1 | exact hf2 _ _ rfl | exact hs.2.1 _ _ rfl | assumption) (by first | exact jk_row_same _ _ _ | ((repeat rewrite [jk_row_ne _ _ (by omega)]); first | exact jk_row_same _ _ _ | rfl)) rfl rfl jw_67 dX3_takenLength_9 rfl ?_
    rw [hr.1.2.1]
    refine jk_icmp_ge (q := 46) (q2 := 15) dX3_takenLength_12 rfl rfl (by first | assumption | decide | omega | exact jB_01 _ | exact jB_in _ | exact ⟨by omega, by omega⟩) (by first | assumption | decide | omega | exact jB_01 _ | exact jB_in _ | exact ⟨by omega, by omega⟩) (fun z1 => ?_) (fun z1 => ?_)
    · refine jk_iload_n (q := 47) dX3_takenLength_46 rfl rfl ?_
      exact jk_iret rfl dX3_takenLength_47 (by refine jk_qI ?_; rw [show (g 1).toNat = k4 by omega])
    · have hT := ho1 (k4 : Int) ⟨by omega, by omega⟩
      have hT2 := htr.1 (k4 : Int) ⟨by omega, by omega⟩
      have hT3 : md_T g (k4 : Int) = 0 ∨ md_T g (k4 : Int) = 1 := hT2
      have hq := (hr.2.2.1 (k4 : Int) ⟨by omega, by omega⟩).2.2.1
      refine jk_iload_n (q := 16) dX3_takenLength_15 rfl rfl ?_
      refine jk_aload_n (q := 17) dX3_takenLength_16 rfl rfl ?_
      refine jk_getA (q := 20) (k := 3) 4 4 rfl (by first | exact hf1 | exact hs.1 | exact hf2 _ _ rfl | exact hs.2.1 _ _ rfl | assumption) (by first | exact hf4 | exact hf3 _ _ rfl | exact hs.2.2.1 _ _ rfl | assumption) rfl rfl jw_193 dX3_takenLength_17 rfl ?_
      refine jk_iload_n (q := 21) dX3_takenLength_20 rfl rfl ?_
      refine jk_zaldR (q := 22) (by first | exact hf1 | exact hs.1 | exact hf2 _ _ rfl | exact hs.2.1 _ _ rfl | assumption) (by first | exact jk_row_same _ _ _ | ((repeat rewrite [jk_row_ne _ _ (by omega)]); first | exact jk_row_same _ _ _ | rfl)) (by first | assumption | decide | omega | exact jB_01 _ | exact jB_in _ | exact ⟨by omega, by omega⟩) dX3_takenLength_21 rfl ?_
      refine jk_if_eq (q := 37) (q2 := 25) dX3_takenLength_22 rfl rfl (by first | assumption | decide | omega | exact jB_01 _ | exact jB_in _ | exact ⟨by omega, by omega⟩) (fun z2 => ?_) (fun z2 => ?_)
      · refine jk_iconst (q := 38) dX3_takenLength_37 rfl ?_
        refine jk_iadd (q := 39) dX3_takenLength_38 rfl ?_
        refine jk_istore1 (q := 40) dX3_takenLength_39 rfl rfl rfl ?_
        refine jk_iinc2 (q := 43) dX3_takenLength_40 rfl rfl rfl ?_
        refine jk_goto (q := 4) dX3_takenLength_43 rfl ?_
        refine jk_convw (ih4 (by omega)) (jk_wkS rfl (jk_wkS (jk_li ?_) (jk_wkS rfl jk_wk0)))
        show jk_sum (fun l => md_T g l * g (56 + l)) k4 + md_T g (k4 : Int) * g (56 + (k4 : Int)) = _
        first | (rw [show md_T g (k4 : Int) = 0 by omega]; omega) | (rw [show md_T g (k4 : Int) = 1 by omega, show σ (s + 10) (k4 : Int) = g (56 + (k4 : Int)) from hq]; omega)
      · refine jk_aload_n (q := 26) dX3_takenLength_25 rfl rfl ?_
        refine jk_getA (q := 29) (k := 3) 0 0 rfl (by first | exact hf1 | exact hs.1 | exact hf2 _ _ rfl | exact hs.2.1 _ _ rfl | assumption) (by first | exact hf4 | exact hf3 _ _ rfl | exact hs.2.2.1 _ _ rfl | assumption) rfl rfl jw_189 dX3_takenLength_26 rfl ?_
        refine jk_getA (q := 32) (k := 9) 6 6 rfl (by first | exact hf1 | exact hs.1 | exact hf2 _ _ rfl | exact hs.2.1 _ _ rfl | assumption) (by first | exact hf4 | exact hf3 _ _ rfl | exact hs.2.2.1 _ _ rfl | assumption) rfl rfl jw_87 dX3_takenLength_29 rfl ?_
        refine jk_iload_n (q := 33) dX3_takenLength_32 rfl rfl ?_
        refine jk_ialdR (q := 34) (by first | exact hf1 | exact hs.1 | exact hf2 _ _ rfl | exact hs.2.1 _ _ rfl | assumption) (by first | exact jk_row_same _ _ _ | ((repeat rewrite [jk_row_ne _ _ (by omega)]); first | exact jk_row_same _ _ _ | rfl)) (by first | assumption | decide | omega | exact jB_01 _ | exact jB_in _ | exact ⟨by omega, by omega⟩) dX3_takenLength_33 rfl ?_
        refine jk_goto (q := 38) dX3_takenLength_34 rfl ?_
        refine jk_iadd (q := 39) dX3_takenLength_38 rfl ?_
        refine jk_istore1 (q := 40) dX3_takenLength_39 rfl rfl rfl ?_
        refine jk_iinc2 (q := 43) dX3_takenLength_40 rfl rfl rfl ?_
        refine jk_goto (q := 4) dX3_takenLength_43 rfl ?_
        refine jk_convw (ih4 (by omega)) (jk_wkS rfl (jk_wkS (jk_li ?_) (jk_wkS rfl jk_wk0)))
        show jk_sum (fun l => md_T g l * g (56 + l)) k4 + md_T g (k4 : Int) * g (56 + (k4 : Int)) = _
        first | (rw [show md_T g (k4 : Int) = 0 by omega]; omega) | (rw [show md_T g (k4 : Int) = 1 by omega, show σ (s + 10) (k4 : Int) = g (56 + (k4 : Int)) from hq]; omega)
  exact jk_convw (L4 0 (Nat.zero_le _)) (jk_wkS rfl (jk_wkS rfl (jk_wkS rfl jk_wk0)))
theorem c_X3_trees {G : jk_G} {n : Nat} {t : jk_T} {σ : jk_I} {ρ : jk_P} {f s : Nat} {g : Int → Int} {B : Int} (hf : fo_at t ρ f s) (hr : cl_rel σ s g) (hi : md_inv B g) (ho : fo_ok σ f g) : jk_K G yX3_trees mX3_trees 0 0 [.ref f] n t σ ρ (jk_q (some (jI (jk_sum (fun p => if md_Ro g p = p then 1 else 0) (g 0).toNat))) n t σ ρ) jk_no := by
  obtain ⟨hf1, hf2, hf3, hf4, hs, hsf⟩ := id hf
  have i0 := hi.1
  have i1 := hi.2.1
  have i2 := hi.2.2.1.2
  obtain ⟨ho1, ho2, -⟩ := id ho
  have htr := md_kr_tr hi 50
  refine jk_entryB (ls := [some (.ref f), none, none]) jm_X3_trees.1 rfl rfl rfl ?_
  refine jk_iconst (q := 1) dX3_trees_0 rfl ?_
  refine jk_istore1 (q := 2) dX3_trees_1 rfl rfl rfl ?_
  refine jk_iconst (q := 3) dX3_trees_2 rfl ?_
  refine jk_istore2 (q := 4) dX3_trees_3 rfl rfl rfl ?_
  have L4 : ∀ k4 : Nat, k4 ≤ (g 0).toNat → jk_J G mX3_trees 4 [some (.ref f), some (jI (jk_sum (fun p => if md_Ro g p = p then 1 else 0) k4)), some (jI (k4 : Int))] [] n t σ ρ 0 0 (jk_q (some (jI (jk_sum (fun p => if md_Ro g p = p then 1 else 0) (g 0).toNat))) n t σ ρ) jk_no := by
    refine jk_loop _ (fun k4 hk4 ih4 => ?_)
    refine jk_iload_n (q := 5) dX3_trees_4 rfl rfl ?_
    refine jk_aload_n (q := 6) dX3_trees_5 rfl rfl ?_
    refine jk_getA (q := 9) (k := 3) 0 0 rfl (by first | exact hf1 | exact hs.1 | exact hf2 _ _ rfl | exact hs.2.1 _ _ rfl | assumption) (by first | exact hf4 | exact hf3 _ _ rfl | exact hs.2.2.1 _ _ rfl | assumption) rfl rfl jw_189 dX3_trees_6 rfl ?_
    refine jk_getIR (q := 12) (k := 9) 0 0 rfl (by first | exact hf1 | exact hs.1 | exact hf2 _ _ rfl | exact hs.2.1 _ _ rfl | assumption) (by first | exact jk_row_same _ _ _ | ((repeat rewrite [jk_row_ne _ _ (by omega)]); first | exact jk_row_same _ _ _ | rfl)) rfl rfl jw_57 dX3_trees_9 rfl ?_
    rw [hr.1.1]
    refine jk_icmp_ge (q := 39) (q2 := 15) dX3_trees_12 rfl rfl (by first | assumption | decide | omega | exact jB_01 _ | exact jB_in _ | exact ⟨by omega, by omega⟩) (by first | assumption | decide | omega | exact jB_01 _ | exact jB_in _ | exact ⟨by omega, by omega⟩) (fun z1 => ?_) (fun z1 => ?_)
    · refine jk_iload_n (q := 40) dX3_trees_39 rfl rfl ?_
      exact jk_iret rfl dX3_trees_40 (by refine jk_qI ?_; rw [show (g 0).toNat = k4 by omega])
    · have hT := ho2 (k4 : Int) ⟨by omega, by omega⟩
      have hT2 := htr.2 (k4 : Int) ⟨by omega, by omega⟩
      have hT3 : 0 ≤ md_Ro g (k4 : Int) ∧ md_Ro g (k4 : Int) < 10 := hT2
      refine jk_iload_n (q := 16) dX3_trees_15 rfl rfl ?_
      refine jk_aload_n (q := 17) dX3_trees_16 rfl rfl ?_
      refine jk_getA (q := 20) (k := 3) 5 5 rfl (by first | exact hf1 | exact hs.1 | exact hf2 _ _ rfl | exact hs.2.1 _ _ rfl | assumption) (by first | exact hf4 | exact hf3 _ _ rfl | exact hs.2.2.1 _ _ rfl | assumption) rfl rfl jw_197 dX3_trees_17 rfl ?_
      refine jk_iload_n (q := 21) dX3_trees_20 rfl rfl ?_
      refine jk_ialdR (q := 22) (by first | exact hf1 | exact hs.1 | exact hf2 _ _ rfl | exact hs.2.1 _ _ rfl | assumption) (by first | exact jk_row_same _ _ _ | ((repeat rewrite [jk_row_ne _ _ (by omega)]); first | exact jk_row_same _ _ _ | rfl)) (by first | assumption | decide | omega | exact jB_01 _ | exact jB_in _ | exact ⟨by omega, by omega⟩) dX3_trees_21 rfl ?_
      refine jk_iload_n (q := 23) dX3_trees_22 rfl rfl ?_
      refine jk_icmp_ne (q := 30) (q2 := 26) dX3_trees_23 rfl rfl (by first | assumption | decide | omega | exact jB_01 _ | exact jB_in _ | exact ⟨by omega, by omega⟩) (by first | assumption | decide | omega | exact jB_01 _ | exact jB_in _ | exact ⟨by omega, by omega⟩) (fun z2 => ?_) (fun z2 => ?_)
      · refine jk_iconst (q := 31) dX3_trees_30 rfl ?_
        refine jk_iadd (q := 32) dX3_trees_31 rfl ?_
        refine jk_istore1 (q := 33) dX3_trees_32 rfl rfl rfl ?_
        refine jk_iinc2 (q := 36) dX3_trees_33 rfl rfl rfl ?_
        refine jk_goto (q := 4) dX3_trees_36 rfl ?_
        refine jk_convw (ih4 (by omega)) (jk_wkS rfl (jk_wkS (jk_li ?_) (jk_wkS rfl jk_wk0)))
        show jk_sum (fun p => if md_Ro g p = p then 1 else 0) k4 + (if md_Ro g (k4 : Int) = (k4 : Int) then 1 else 0) = _
        first | rw [if_pos (show md_Ro g (k4 : Int) = (k4 : Int) by omega)] | rw [if_neg (show ¬ md_Ro g (k4 : Int) = (k4 : Int) by omega)]
      · refine jk_iconst (q := 27) dX3_trees_26 rfl ?_
        refine jk_goto (q := 31) dX3_trees_27 rfl ?_
        refine jk_iadd (q := 32) dX3_trees_31 rfl ?_
        refine jk_istore1 (q := 33) dX3_trees_32 rfl rfl rfl ?_
        refine jk_iinc2 (q := 36) dX3_trees_33 rfl rfl rfl ?_
        refine jk_goto (q := 4) dX3_trees_36 rfl ?_
        refine jk_convw (ih4 (by omega)) (jk_wkS rfl (jk_wkS (jk_li ?_) (jk_wkS rfl jk_wk0)))
        show jk_sum (fun p => if md_Ro g p = p then 1 else 0) k4 + (if md_Ro g (k4 : Int) = (k4 : Int) then 1 else 0) = _
        first | rw [if_pos (show md_Ro g (k4 : Int) = (k4 : Int) by omega)] | rw [if_neg (show ¬ md_Ro g (k4 : Int) = (k4 : Int) by omega)]
  exact jk_convw (L4 0 (Nat.zero_le _)) (jk_wkS rfl (jk_wkS rfl (jk_wkS rfl jk_wk0)))
theorem c_X3_loops {G : jk_G} {n : Nat} {t : jk_T} {σ : jk_I} {ρ : jk_P} {f s : Nat} {g : Int → Int} {B : Int} (hf : fo_at t ρ f s) (hr : cl_rel σ s g) (hi : md_inv B g) (ho : fo_ok σ f g) : jk_K G yX3_loops mX3_loops 0 0 [.ref f] n t σ ρ (jk_q (some (jI (jk_sum (fun l => jB (md_clo g (md_T g) l)) (g 1).toNat))) n t σ ρ) jk_no := by
  obtain ⟨hf1, hf2, hf3, hf4, hs, hsf⟩ := id hf
  have i0 := hi.1
  have i1 := hi.2.1
  have i2 := hi.2.2.1.2
  obtain ⟨ho1, ho2, -⟩ := id ho
  have htr := md_kr_tr hi 50
  refine jk_entryB (ls := [some (.ref f), none, none]) jm_X3_loops.1 rfl rfl rfl ?_
  refine jk_iconst (q := 1) dX3_loops_0 rfl ?_
  refine jk_istore1 (q := 2) dX3_loops_1 rfl rfl rfl ?_
  refine jk_iconst (q := 3) dX3_loops_2 rfl ?_
  refine jk_istore2 (q := 4) dX3_loops_3 rfl rfl rfl ?_
  have L4 : ∀ k4 : Nat, k4 ≤ (g 1).toNat → jk_J G mX3_loops 4 [some (.ref f), some (jI (jk_sum (fun l => jB (md_clo g (md_T g) l)) k4)), some (jI (k4 : Int))] [] n t σ ρ 0 0 (jk_q (some (jI (jk_sum (fun l => jB (md_clo g (md_T g) l)) (g 1).toNat))) n t σ ρ) jk_no := by
    refine jk_loop _ (fun k4 hk4 ih4 => ?_)
    refine jk_iload_n (q := 5) dX3_loops_4 rfl rfl ?_
    refine jk_aload_n (q := 6) dX3_loops_5 rfl rfl ?_
    refine jk_getA (q := 9) (k := 3) 0 0 rfl (by first | exact hf1 | exact hs.1 | exact hf2 _ _ rfl | exact hs.2.1 _ _ rfl | assumption) (by first | exact hf4 | exact hf3 _ _ rfl | exact hs.2.2.1 _ _ rfl | assumption) rfl rfl jw_189 dX3_loops_6 rfl ?_
    refine jk_getIR (q := 12) (k := 9) 3 3 rfl (by first | exact hf1 | exact hs.1 | exact hf2 _ _ rfl | exact hs.2.1 _ _ rfl | assumption) (by first | exact jk_row_same _ _ _ | ((repeat rewrite [jk_row_ne _ _ (by omega)]); first | exact jk_row_same _ _ _ | rfl)) rfl rfl jw_67 dX3_loops_9 rfl ?_
    rw [hr.1.2.1]
    refine jk_icmp_ge (q := 37) (q2 := 15) dX3_loops_12 rfl rfl (by first | assumption | decide | omega | exact jB_01 _ | exact jB_in _ | exact ⟨by omega, by omega⟩) (by first | assumption | decide | omega | exact jB_01 _ | exact jB_in _ | exact ⟨by omega, by omega⟩) (fun z1 => ?_) (fun z1 => ?_)
    · refine jk_iload_n (q := 38) dX3_loops_37 rfl rfl ?_
      exact jk_iret rfl dX3_loops_38 (by refine jk_qI ?_; rw [show (g 1).toNat = k4 by omega])
    · refine jk_iload_n (q := 16) dX3_loops_15 rfl rfl ?_
      refine jk_aload_n (q := 17) dX3_loops_16 rfl rfl ?_
      refine jk_iload_n (q := 18) dX3_loops_17 rfl rfl ?_
      refine jk_cV1p (q := 21) (c_X3_closesLoop hf hr hi ho ⟨by omega, by omega⟩) jm_X3_closesLoop jw_1025 rfl (by first | exact hf1 | exact hs.1 | exact hf2 _ _ rfl | exact hs.2.1 _ _ rfl | assumption) rfl rfl rfl dX3_loops_18 rfl ?_
      refine jk_ifB_eq (q := 28) (q2 := 24) dX3_loops_21 rfl rfl (fun z2 => ?_) (fun z2 => ?_)
      · refine jk_iconst (q := 29) dX3_loops_28 rfl ?_
        refine jk_iadd (q := 30) dX3_loops_29 rfl ?_
        refine jk_istore1 (q := 31) dX3_loops_30 rfl rfl rfl ?_
        refine jk_iinc2 (q := 34) dX3_loops_31 rfl rfl rfl ?_
        refine jk_goto (q := 4) dX3_loops_34 rfl ?_
        refine jk_convw (ih4 (by omega)) (jk_wkS rfl (jk_wkS (jk_li ?_) (jk_wkS rfl jk_wk0)))
        show jk_sum (fun l => jB (md_clo g (md_T g) l)) k4 + jB (md_clo g (md_T g) (k4 : Int)) = _
        first | (rw [show md_clo g (md_T g) (k4 : Int) = true by assumption]; rfl) | (rw [show md_clo g (md_T g) (k4 : Int) = false by assumption]; rfl)
      · refine jk_iconst (q := 25) dX3_loops_24 rfl ?_
        refine jk_goto (q := 29) dX3_loops_25 rfl ?_
        refine jk_iadd (q := 30) dX3_loops_29 rfl ?_
        refine jk_istore1 (q := 31) dX3_loops_30 rfl rfl rfl ?_
        refine jk_iinc2 (q := 34) dX3_loops_31 rfl rfl rfl ?_
        refine jk_goto (q := 4) dX3_loops_34 rfl ?_
        refine jk_convw (ih4 (by omega)) (jk_wkS rfl (jk_wkS (jk_li ?_) (jk_wkS rfl jk_wk0)))
        show jk_sum (fun l => jB (md_clo g (md_T g) l)) k4 + jB (md_clo g (md_T g) (k4 : Int)) = _
        first | (rw [show md_clo g (md_T g) (k4 : Int) = true by assumption]; rfl) | (rw [show md_clo g (md_T g) (k4 : Int) = false by assumption]; rfl)
  exact jk_convw (L4 0 (Nat.zero_le _)) (jk_wkS rfl (jk_wkS rfl (jk_wkS rfl jk_wk0)))
theorem c_X3_closingLineAt {G : jk_G} {n : Nat} {t : jk_T} {σ : jk_I} {ρ : jk_P} {f s : Nat} {g : Int → Int} {B p : Int} (hf : fo_at t ρ f s) (hr : cl_rel σ s g) (hi : md_inv B g) (ho : fo_ok σ f g) (hp : jk_in p) : jk_K G yX3_closingLineAt mX3_closingLineAt 0 0 [.ref f, jI p] n t σ ρ (jk_q (some (jI (jk_fnd (md_laP g p) (g 1).toNat))) n t σ ρ) jk_no := by
  obtain ⟨hf1, hf2, hf3, hf4, hs, hsf⟩ := id hf
  have i0 := hi.1
  have i1 := hi.2.1
  have i2 := hi.2.2.1.2
  obtain ⟨ho1, ho2, -⟩ := id ho
  have htr := md_kr_tr hi 50
  refine jk_entryB (ls := [some (.ref f), some (jI p), none, none]) jm_X3_closingLineAt.1 rfl rfl rfl ?_
  refine jk_iconst (q := 1) dX3_closingLineAt_0 rfl ?_
  refine jk_istore2 (q := 2) dX3_closingLineAt_1 rfl rfl rfl ?_
  refine jk_iconst (q := 3) dX3_closingLineAt_2 rfl ?_
  refine jk_istore3 (q := 4) dX3_closingLineAt_3 rfl rfl rfl ?_
  have L4 : ∀ k4 : Nat, k4 ≤ (g 1).toNat → (hfd : jk_fnd (md_laP g p) k4 = -1) → jk_J G mX3_closingLineAt 4 [some (.ref f), some (jI p), some (jI (jk_sum (fun j => jB (md_clo g (md_T g) j)) k4)), some (jI (k4 : Int))] [] n t σ ρ 0 0 (jk_q (some (jI (jk_fnd (md_laP g p) (g 1).toNat))) n t σ ρ) jk_no := by
    refine jk_loop _ (fun k4 hk4 ih4 => ?_)
    intro  hfd
    refine jk_iload_n (q := 5) dX3_closingLineAt_4 rfl rfl ?_
    refine jk_aload_n (q := 6) dX3_closingLineAt_5 rfl rfl ?_
    refine jk_getA (q := 9) (k := 3) 0 0 rfl (by first | exact hf1 | exact hs.1 | exact hf2 _ _ rfl | exact hs.2.1 _ _ rfl | assumption) (by first | exact hf4 | exact hf3 _ _ rfl | exact hs.2.2.1 _ _ rfl | assumption) rfl rfl jw_189 dX3_closingLineAt_6 rfl ?_
    refine jk_getIR (q := 12) (k := 9) 3 3 rfl (by first | exact hf1 | exact hs.1 | exact hf2 _ _ rfl | exact hs.2.1 _ _ rfl | assumption) (by first | exact jk_row_same _ _ _ | ((repeat rewrite [jk_row_ne _ _ (by omega)]); first | exact jk_row_same _ _ _ | rfl)) rfl rfl jw_67 dX3_closingLineAt_9 rfl ?_
    rw [hr.1.2.1]
    refine jk_icmp_ge (q := 39) (q2 := 15) dX3_closingLineAt_12 rfl rfl (by first | assumption | decide | omega | exact jB_01 _ | exact jB_in _ | exact ⟨by omega, by omega⟩) (by first | assumption | decide | omega | exact jB_01 _ | exact jB_in _ | exact ⟨by omega, by omega⟩) (fun z1 => ?_) (fun z1 => ?_)
    · refine jk_iconst (q := 40) dX3_closingLineAt_39 rfl ?_
      exact jk_iret rfl dX3_closingLineAt_40 (by refine jk_qI ?_; rw [show (g 1).toNat = k4 by omega]; exact hfd.symm)
    · refine jk_aload_n (q := 16) dX3_closingLineAt_15 rfl rfl ?_
      refine jk_iload_n (q := 17) dX3_closingLineAt_16 rfl rfl ?_
      refine jk_cV1p (q := 20) (c_X3_closesLoop hf hr hi ho ⟨by omega, by omega⟩) jm_X3_closesLoop jw_1025 rfl (by first | exact hf1 | exact hs.1 | exact hf2 _ _ rfl | exact hs.2.1 _ _ rfl | assumption) rfl rfl rfl dX3_closingLineAt_17 rfl ?_
      refine jk_ifB_eq (q := 33) (q2 := 23) dX3_closingLineAt_20 rfl rfl (fun z2 => ?_) (fun z2 => ?_)
      · refine jk_iinc3 (q := 36) dX3_closingLineAt_33 rfl rfl rfl ?_
        refine jk_goto (q := 4) dX3_closingLineAt_36 rfl ?_
        refine jk_convw (ih4 (by omega) (jk_fnd_S hfd (by unfold md_laP; first | (rw [show md_clo g (md_T g) (k4 : Int) = false by assumption]; rfl) | (rw [show ((k4 : Nat) : Int).toNat = k4 by omega, decide_eq_false (show ¬ jk_sum (fun j => jB (md_clo g (md_T g) j)) k4 = p by omega), Bool.and_false])))) (jk_wkS rfl (jk_wkS rfl (jk_wkS (jk_li ?_) (jk_wkS rfl jk_wk0))))
        show jk_sum (fun j => jB (md_clo g (md_T g) j)) k4 + jB (md_clo g (md_T g) (k4 : Int)) = _
        first | (rw [show md_clo g (md_T g) (k4 : Int) = true by assumption]; rfl) | (rw [show md_clo g (md_T g) (k4 : Int) = false by assumption, jB_f]; omega)
      · have hsb := jk_sum_bd (f := fun j => jB (md_clo g (md_T g) j)) (a := 0) (b := 1) (fun i => by show 0 ≤ jB _ ∧ jB _ ≤ 1; cases md_clo g (md_T g) i <;> decide) k4
        refine jk_iload_n (q := 24) dX3_closingLineAt_23 rfl rfl ?_
        refine jk_iload_n (q := 25) dX3_closingLineAt_24 rfl rfl ?_
        refine jk_icmp_ne (q := 30) (q2 := 28) dX3_closingLineAt_25 rfl rfl (by first | assumption | decide | omega | exact jB_01 _ | exact jB_in _ | exact ⟨by omega, by omega⟩) (by first | assumption | decide | omega | exact jB_01 _ | exact jB_in _ | exact ⟨by omega, by omega⟩) (fun z3 => ?_) (fun z3 => ?_)
        · refine jk_iinc2 (q := 33) dX3_closingLineAt_30 rfl rfl rfl ?_
          refine jk_iinc3 (q := 36) dX3_closingLineAt_33 rfl rfl rfl ?_
          refine jk_goto (q := 4) dX3_closingLineAt_36 rfl ?_
          refine jk_convw (ih4 (by omega) (jk_fnd_S hfd (by unfold md_laP; first | (rw [show md_clo g (md_T g) (k4 : Int) = false by assumption]; rfl) | (rw [show ((k4 : Nat) : Int).toNat = k4 by omega, decide_eq_false (show ¬ jk_sum (fun j => jB (md_clo g (md_T g) j)) k4 = p by omega), Bool.and_false])))) (jk_wkS rfl (jk_wkS rfl (jk_wkS (jk_li ?_) (jk_wkS rfl jk_wk0))))
          show jk_sum (fun j => jB (md_clo g (md_T g) j)) k4 + jB (md_clo g (md_T g) (k4 : Int)) = _
          first | (rw [show md_clo g (md_T g) (k4 : Int) = true by assumption]; rfl) | (rw [show md_clo g (md_T g) (k4 : Int) = false by assumption, jB_f]; omega)
        · refine jk_iload_n (q := 29) dX3_closingLineAt_28 rfl rfl ?_
          exact jk_iret rfl dX3_closingLineAt_29 (by refine jk_qI ?_; exact Eq.symm <| jk_fnd_hit hfd (by unfold md_laP; rw [show md_clo g (md_T g) (k4 : Int) = true by assumption, show ((k4 : Nat) : Int).toNat = k4 by omega, decide_eq_true (by omega)]; rfl) _ (by omega))
  exact jk_convw (L4 0 (Nat.zero_le _) rfl) (jk_wkS rfl (jk_wkS rfl (jk_wkS rfl (jk_wkS rfl jk_wk0))))
def cm_crs (g K : Int → Int) (l : Int) : Bool := decide (K (g (24 + l)) ≠ K (g (40 + l)))
def cm_flo (g Od K : Int → Int) (N : Nat) : Int := if jk_fnd (fun i => cm_crs g K (Od i)) N = -1 then -1 else Od (jk_fnd (fun i => cm_crs g K (Od i)) N)
theorem c_X3_firstLineOutOfReached {G : jk_G} {n : Nat} {t : jk_T} {σ : jk_I} {ρ : jk_P} {f s N : Nat} {g Od K : Int → Int} {B : Int} (hf : fo_at t ρ f s) (hr : cl_rel σ s g) (hi : md_inv B g) (hN : σ f 2 = (N : Int)) (hN16 : N ≤ 16) (hOd : σ (f + 2) = Od) (hsr : cm_srt g Od N (g 1)) (hK : σ (f + 4) = K) (hkb : md_kb K) : jk_K G yX3_firstLineOutOfReached mX3_firstLineOutOfReached 0 0 [.ref f] n t σ ρ (jk_q (some (jI (cm_flo g Od K N))) n t σ ρ) jk_no := by
  obtain ⟨hf1, hf2, hf3, hf4, hs, hsf⟩ := id hf
  have i0 := hi.1
  have i1 := hi.2.1
  have i2 := hi.2.2.1.2
  refine jk_entryB (ls := [some (.ref f), none, none]) jm_X3_firstLineOutOfReached.1 rfl rfl rfl ?_
  refine jk_iconst (q := 1) dX3_firstLineOutOfReached_0 rfl ?_
  refine jk_istore1 (q := 2) dX3_firstLineOutOfReached_1 rfl rfl rfl ?_
  have L2 : ∀ k2 : Nat, k2 ≤ N → (hfd : jk_fnd (fun i => cm_crs g K (Od i)) k2 = -1) → jk_J G mX3_firstLineOutOfReached 2 [some (.ref f), some (jI (k2 : Int)), none] [] n t σ ρ 0 0 (jk_q (some (jI (cm_flo g Od K N))) n t σ ρ) jk_no := by
    refine jk_loop _ (fun k2 hk2 ih2 => ?_)
    intro  hfd
    refine jk_iload_n (q := 3) dX3_firstLineOutOfReached_2 rfl rfl ?_
    refine jk_aload_n (q := 4) dX3_firstLineOutOfReached_3 rfl rfl ?_
    refine jk_getIR (q := 7) (k := 3) 2 2 rfl (by first | exact hf1 | exact hs.1 | exact hf2 _ _ rfl | exact hs.2.1 _ _ rfl | assumption) (by first | exact jk_row_same _ _ _ | ((repeat rewrite [jk_row_ne _ _ (by omega)]); first | exact jk_row_same _ _ _ | exact hOd | exact hK | rfl)) rfl rfl jw_191 dX3_firstLineOutOfReached_4 rfl ?_
    rw [hN]
    refine jk_icmp_ge (q := 56) (q2 := 10) dX3_firstLineOutOfReached_7 rfl rfl (by first | assumption | decide | omega | exact jB_01 _ | exact jB_in _ | exact ⟨by omega, by omega⟩) (by first | assumption | decide | omega | exact jB_01 _ | exact jB_in _ | exact ⟨by omega, by omega⟩) (fun z1 => ?_) (fun z1 => ?_)
    · refine jk_iconst (q := 57) dX3_firstLineOutOfReached_56 rfl ?_
      exact jk_iret rfl dX3_firstLineOutOfReached_57 (by refine jk_qI ?_; unfold cm_flo; rw [show N = k2 by omega, if_pos hfd])
    · have hb := hsr.1 k2 (by omega)
      have hb1 := hb.1
      obtain ⟨l1, l2, -⟩ := md_inv_ln hi (l := Od (k2 : Int)) ⟨by omega, by omega⟩
      obtain ⟨q1, q2, -⟩ := hr.2.2.1 (Od (k2 : Int)) ⟨by omega, by omega⟩
      have kk1 := hkb _ l1
      have kk2 := hkb _ l2
      refine jk_aload_n (q := 11) dX3_firstLineOutOfReached_10 rfl rfl ?_
      refine jk_getA (q := 14) (k := 3) 1 1 rfl (by first | exact hf1 | exact hs.1 | exact hf2 _ _ rfl | exact hs.2.1 _ _ rfl | assumption) (by first | exact hf4 | exact hf3 _ _ rfl | exact hs.2.2.1 _ _ rfl | assumption) rfl rfl jw_190 dX3_firstLineOutOfReached_11 rfl ?_
      refine jk_iload_n (q := 15) dX3_firstLineOutOfReached_14 rfl rfl ?_
      refine jk_ialdR (q := 16) (by first | exact hf1 | exact hs.1 | exact hf2 _ _ rfl | exact hs.2.1 _ _ rfl | assumption) (by first | exact jk_row_same _ _ _ | ((repeat rewrite [jk_row_ne _ _ (by omega)]); first | exact jk_row_same _ _ _ | exact hOd | exact hK | rfl)) (by first | assumption | decide | omega | exact jB_01 _ | exact jB_in _ | exact ⟨by omega, by omega⟩) dX3_firstLineOutOfReached_15 rfl ?_
      refine jk_istore2 (q := 17) dX3_firstLineOutOfReached_16 rfl rfl rfl ?_
      refine jk_aload_n (q := 18) dX3_firstLineOutOfReached_17 rfl rfl ?_
      refine jk_getA (q := 21) (k := 3) 3 3 rfl (by first | exact hf1 | exact hs.1 | exact hf2 _ _ rfl | exact hs.2.1 _ _ rfl | assumption) (by first | exact hf4 | exact hf3 _ _ rfl | exact hs.2.2.1 _ _ rfl | assumption) rfl rfl jw_192 dX3_firstLineOutOfReached_18 rfl ?_
      refine jk_aload_n (q := 22) dX3_firstLineOutOfReached_21 rfl rfl ?_
      refine jk_getA (q := 25) (k := 3) 0 0 rfl (by first | exact hf1 | exact hs.1 | exact hf2 _ _ rfl | exact hs.2.1 _ _ rfl | assumption) (by first | exact hf4 | exact hf3 _ _ rfl | exact hs.2.2.1 _ _ rfl | assumption) rfl rfl jw_189 dX3_firstLineOutOfReached_22 rfl ?_
      refine jk_getA (q := 28) (k := 9) 4 4 rfl (by first | exact hf1 | exact hs.1 | exact hf2 _ _ rfl | exact hs.2.1 _ _ rfl | assumption) (by first | exact hf4 | exact hf3 _ _ rfl | exact hs.2.2.1 _ _ rfl | assumption) rfl rfl jw_75 dX3_firstLineOutOfReached_25 rfl ?_
      refine jk_iload_n (q := 29) dX3_firstLineOutOfReached_28 rfl rfl ?_
      refine jk_ialdR (q := 30) (by first | exact hf1 | exact hs.1 | exact hf2 _ _ rfl | exact hs.2.1 _ _ rfl | assumption) (by first | exact jk_row_same _ _ _ | ((repeat rewrite [jk_row_ne _ _ (by omega)]); first | exact jk_row_same _ _ _ | exact hOd | exact hK | rfl)) (by first | assumption | decide | omega | exact jB_01 _ | exact jB_in _ | exact ⟨by omega, by omega⟩) dX3_firstLineOutOfReached_29 rfl ?_
      rw [q1]
      refine jk_zaldR (q := 31) (by first | exact hf1 | exact hs.1 | exact hf2 _ _ rfl | exact hs.2.1 _ _ rfl | assumption) (by first | exact jk_row_same _ _ _ | ((repeat rewrite [jk_row_ne _ _ (by omega)]); first | exact jk_row_same _ _ _ | exact hOd | exact hK | rfl)) (by first | assumption | decide | omega | exact jB_01 _ | exact jB_in _ | exact ⟨by omega, by omega⟩) dX3_firstLineOutOfReached_30 rfl ?_
      refine jk_aload_n (q := 32) dX3_firstLineOutOfReached_31 rfl rfl ?_
      refine jk_getA (q := 35) (k := 3) 3 3 rfl (by first | exact hf1 | exact hs.1 | exact hf2 _ _ rfl | exact hs.2.1 _ _ rfl | assumption) (by first | exact hf4 | exact hf3 _ _ rfl | exact hs.2.2.1 _ _ rfl | assumption) rfl rfl jw_192 dX3_firstLineOutOfReached_32 rfl ?_
      refine jk_aload_n (q := 36) dX3_firstLineOutOfReached_35 rfl rfl ?_
      refine jk_getA (q := 39) (k := 3) 0 0 rfl (by first | exact hf1 | exact hs.1 | exact hf2 _ _ rfl | exact hs.2.1 _ _ rfl | assumption) (by first | exact hf4 | exact hf3 _ _ rfl | exact hs.2.2.1 _ _ rfl | assumption) rfl rfl jw_189 dX3_firstLineOutOfReached_36 rfl ?_
      refine jk_getA (q := 42) (k := 9) 5 5 rfl (by first | exact hf1 | exact hs.1 | exact hf2 _ _ rfl | exact hs.2.1 _ _ rfl | assumption) (by first | exact hf4 | exact hf3 _ _ rfl | exact hs.2.2.1 _ _ rfl | assumption) rfl rfl jw_81 dX3_firstLineOutOfReached_39 rfl ?_
      refine jk_iload_n (q := 43) dX3_firstLineOutOfReached_42 rfl rfl ?_
      refine jk_ialdR (q := 44) (by first | exact hf1 | exact hs.1 | exact hf2 _ _ rfl | exact hs.2.1 _ _ rfl | assumption) (by first | exact jk_row_same _ _ _ | ((repeat rewrite [jk_row_ne _ _ (by omega)]); first | exact jk_row_same _ _ _ | exact hOd | exact hK | rfl)) (by first | assumption | decide | omega | exact jB_01 _ | exact jB_in _ | exact ⟨by omega, by omega⟩) dX3_firstLineOutOfReached_43 rfl ?_
      rw [q2]
      refine jk_zaldR (q := 45) (by first | exact hf1 | exact hs.1 | exact hf2 _ _ rfl | exact hs.2.1 _ _ rfl | assumption) (by first | exact jk_row_same _ _ _ | ((repeat rewrite [jk_row_ne _ _ (by omega)]); first | exact jk_row_same _ _ _ | exact hOd | exact hK | rfl)) (by first | assumption | decide | omega | exact jB_01 _ | exact jB_in _ | exact ⟨by omega, by omega⟩) dX3_firstLineOutOfReached_44 rfl ?_
      refine jk_icmp_eq (q := 50) (q2 := 48) dX3_firstLineOutOfReached_45 rfl rfl (by first | assumption | decide | omega | exact jB_01 _ | exact jB_in _ | exact ⟨by omega, by omega⟩) (by first | assumption | decide | omega | exact jB_01 _ | exact jB_in _ | exact ⟨by omega, by omega⟩) (fun z2 => ?_) (fun z2 => ?_)
      · refine jk_iinc1 (q := 53) dX3_firstLineOutOfReached_50 rfl rfl rfl ?_
        refine jk_goto (q := 2) dX3_firstLineOutOfReached_53 rfl ?_
        exact jk_convw (ih2 (by omega) (jk_fnd_S hfd (by unfold cm_crs; rw [decide_eq_false (fun q => q (by assumption))]))) (jk_wkS rfl (jk_wkS rfl (jk_wkN jk_wk0)))
      · refine jk_iload_n (q := 49) dX3_firstLineOutOfReached_48 rfl rfl ?_
        exact jk_iret rfl dX3_firstLineOutOfReached_49 (by refine jk_qI ?_; unfold cm_flo; rw [jk_fnd_hit (k := k2) hfd (by unfold cm_crs; rw [decide_eq_true (by assumption)]) _ (by omega), if_neg (by omega)])
  exact jk_convw (L2 0 (Nat.zero_le _) rfl) (jk_wkS rfl (jk_wkS rfl (jk_wkN jk_wk0)))
end CF3
