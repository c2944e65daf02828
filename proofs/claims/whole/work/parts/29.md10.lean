section MD10
theorem c_X13_fixes {G : jk_G} {n : Nat} {t : jk_T} {σ : jk_I} {ρ : jk_P} {m : Nat} {g O : Int → Int} {B : Int} {p v : Int} (hm : md_at t ρ m) (hg : σ (m + 2) = g) (hi : md_inv B g) (ho : σ m = O) (hp : jk_in p) (hv : jk_in v) : jk_K G yX13_fixes mX13_fixes 0 0 [.ref m, jI p, jI v] n t σ ρ (jk_q (some (jI (md_fixes g p v).2.1)) n t (md_res σ m O (md_fixes g p v)) ρ) jk_no := by
  refine jk_entryB (ls := [some (.ref m), some (jI p), some (jI v), none, none]) jm_X13_fixes.1 rfl rfl rfl ?_
  obtain ⟨i0, i1, i2, i3, -⟩ := id hi
  refine jk_aload_n (q := 1) dX13_fixes_0 rfl rfl ?_
  refine jk_iload_n (q := 2) dX13_fixes_1 rfl rfl ?_
  refine jk_cV1p (q := 5) (c_X13_isPoint hm hg hi (by first | assumption)) jm_X13_isPoint jw_1957 rfl (by first | exact hm.1 | exact hm.2.1 _ _ rfl | assumption) rfl rfl rfl dX13_fixes_2 rfl ?_
  refine jk_ifB_ne (q := 14) (q2 := 8) dX13_fixes_5 rfl rfl (fun h1 => ?_) (fun h1 => ?_)
  · refine jk_iload_n (q := 15) dX13_fixes_14 rfl rfl ?_
    refine jk_ldcV (q := 17) (x := -99999) jw_1964 (by decide) dX13_fixes_15 rfl ?_
    refine jk_ldcV (q := 19) (x := 99999) jw_1965 (by decide) dX13_fixes_17 rfl ?_
    refine jk_cS3p (q := 22) (c_X13_in (by assumption) (by decide) (by decide)) jm_X13_in jw_1961 rfl rfl rfl dX13_fixes_19 rfl ?_
    refine jk_ifB_ne (q := 31) (q2 := 25) dX13_fixes_22 rfl rfl (fun h2 => ?_) (fun h2 => ?_)
    · have hp2 := md_inT (by assumption : md_in p 0 (g 0 - 1) = true)
      refine jk_aload_n (q := 32) dX13_fixes_31 rfl rfl ?_
      refine jk_getA (q := 35) (k := 13) 0 0 rfl (by first | exact hm.1 | exact hm.2.1 _ _ rfl | assumption) (by first | exact hm.2.2 _ _ rfl | assumption) rfl rfl jw_1848 dX13_fixes_32 rfl ?_
      refine jk_iconst (q := 36) dX13_fixes_35 rfl ?_
      refine jk_iload_n (q := 37) dX13_fixes_36 rfl rfl ?_
      refine jk_iadd (q := 38) dX13_fixes_37 rfl ?_
      refine jk_iconst (q := 39) dX13_fixes_38 rfl ?_
      refine jk_iastR (q := 40) (by first | exact hm.1 | exact hm.2.1 _ _ rfl | assumption) (by first | exact jk_row_same _ _ _ | exact hg | exact ho | (rewrite [jk_row_ne _ _ (by omega)]; first | exact jk_row_same _ _ _ | exact hg | exact ho | (rewrite [jk_row_ne _ _ (by omega)]; first | exact jk_row_same _ _ _ | exact hg | exact ho | (rewrite [jk_row_ne _ _ (by omega)]; first | exact jk_row_same _ _ _ | exact hg | exact ho | (rewrite [jk_row_ne _ _ (by omega)]; first | exact hg | exact ho | rfl))))) (by first | decide | omega | exact jB_01 _) dX13_fixes_39 rfl ?_
      refine jk_aload_n (q := 41) dX13_fixes_40 rfl rfl ?_
      refine jk_getA (q := 44) (k := 13) 0 0 rfl (by first | exact hm.1 | exact hm.2.1 _ _ rfl | assumption) (by first | exact hm.2.2 _ _ rfl | assumption) rfl rfl jw_1848 dX13_fixes_41 rfl ?_
      refine jk_bipush (q := 46) (y := 14) dX13_fixes_44 rfl (by decide) ?_
      refine jk_iload_n (q := 47) dX13_fixes_46 rfl rfl ?_
      refine jk_iadd (q := 48) dX13_fixes_47 rfl ?_
      refine jk_iload_n (q := 49) dX13_fixes_48 rfl rfl ?_
      refine jk_iastR (q := 50) (by first | exact hm.1 | exact hm.2.1 _ _ rfl | assumption) (by first | exact jk_row_same _ _ _ | exact hg | exact ho | (rewrite [jk_row_ne _ _ (by omega)]; first | exact jk_row_same _ _ _ | exact hg | exact ho | (rewrite [jk_row_ne _ _ (by omega)]; first | exact jk_row_same _ _ _ | exact hg | exact ho | (rewrite [jk_row_ne _ _ (by omega)]; first | exact jk_row_same _ _ _ | exact hg | exact ho | (rewrite [jk_row_ne _ _ (by omega)]; first | exact hg | exact ho | rfl))))) (by first | decide | omega | exact jB_01 _) dX13_fixes_49 rfl ?_
      refine jk_iconst (q := 51) dX13_fixes_50 rfl ?_
      refine jk_istore3 (q := 52) dX13_fixes_51 rfl rfl rfl ?_
      refine jk_iconst (q := 53) dX13_fixes_52 rfl ?_
      refine jk_istore4 (q := 55) dX13_fixes_53 rfl rfl rfl ?_
      have L55 : ∀ k55 : Nat, k55 ≤ (g 0).toNat → ∀ (σ1 : jk_I), (hs1 : σ1 = jk_row σ (m + 2) (md_fixG g p v)) → jk_J G mX13_fixes 55 [some (.ref m), some (jI p), some (jI v), some (jI (jk_sum (fun o => md_fixG g p v (4 + o)) k55)), some (jI (k55 : Int))] [] n t σ1 ρ 0 0 (jk_q (some (jI (md_fixes g p v).2.1)) n t (md_res σ m O (md_fixes g p v)) ρ) jk_no := by
        refine jk_loop _ (fun k55 hk55 ih55 => ?_)
        intro σ1 hs1
        have hg1 : σ1 (m + 2) = md_fixG g p v := by rw [hs1, jk_row_same]
        have ho1 : σ1 m = O := by rw [hs1, jk_row_ne _ _ (by omega)]; exact ho
        refine jk_iload (q := 57) dX13_fixes_55 rfl rfl ?_
        refine jk_aload_n (q := 58) dX13_fixes_57 rfl rfl ?_
        refine jk_getA (q := 61) (k := 13) 0 0 rfl (by first | exact hm.1 | exact hm.2.1 _ _ rfl | assumption) (by first | exact hm.2.2 _ _ rfl | assumption) rfl rfl jw_1848 dX13_fixes_58 rfl ?_
        refine jk_iconst (q := 62) dX13_fixes_61 rfl ?_
        refine jk_ialdR (q := 63) (by first | exact hm.1 | exact hm.2.1 _ _ rfl | assumption) (by first | exact jk_row_same _ _ _ | exact hg1 | exact ho1 | (rewrite [jk_row_ne _ _ (by omega)]; first | exact jk_row_same _ _ _ | exact hg1 | exact ho1 | (rewrite [jk_row_ne _ _ (by omega)]; first | exact jk_row_same _ _ _ | exact hg1 | exact ho1 | (rewrite [jk_row_ne _ _ (by omega)]; first | exact jk_row_same _ _ _ | exact hg1 | exact ho1 | (rewrite [jk_row_ne _ _ (by omega)]; first | exact hg1 | exact ho1 | rfl))))) (by first | decide | omega | exact jB_01 _) dX13_fixes_62 rfl ?_
        rw [show md_fixG g p v 0 = g 0 by unfold md_fixG; rw [jk_set_ne _ _ (by omega), jk_set_ne _ _ (by omega)]]
        refine jk_icmp_ge (q := 84) (q2 := 66) dX13_fixes_63 rfl rfl (by first | decide | omega | exact jB_01 _) (by first | decide | omega | exact jB_01 _) (fun h3 => ?_) (fun h3 => ?_)
        · refine jk_aload_n (q := 85) dX13_fixes_84 rfl rfl ?_
          rw [show k55 = (g 0).toNat by omega]
          refine jk_iload_n (q := 86) dX13_fixes_85 rfl rfl ?_
          refine jk_cV1p (q := 89) (c_X13_done hm ho1) jm_X13_done jw_1941 rfl (by first | exact hm.1 | exact hm.2.1 _ _ rfl | assumption) rfl rfl rfl dX13_fixes_86 rfl ?_
          exact jk_iret rfl dX13_fixes_89 (by exact md_q (k := 0) (v := jk_sum (fun o => md_fixG g p v (4 + o)) (g 0).toNat) (g' := md_fixG g p v) (by unfold md_fixes; simp [*]) (by rw [hs1]; rfl))
        · refine jk_iload_n (q := 67) dX13_fixes_66 rfl rfl ?_
          refine jk_aload_n (q := 68) dX13_fixes_67 rfl rfl ?_
          refine jk_getA (q := 71) (k := 13) 0 0 rfl (by first | exact hm.1 | exact hm.2.1 _ _ rfl | assumption) (by first | exact hm.2.2 _ _ rfl | assumption) rfl rfl jw_1848 dX13_fixes_68 rfl ?_
          refine jk_iconst (q := 72) dX13_fixes_71 rfl ?_
          refine jk_iload (q := 74) dX13_fixes_72 rfl rfl ?_
          refine jk_iadd (q := 75) dX13_fixes_74 rfl ?_
          refine jk_ialdR (q := 76) (by first | exact hm.1 | exact hm.2.1 _ _ rfl | assumption) (by first | exact jk_row_same _ _ _ | exact hg1 | exact ho1 | (rewrite [jk_row_ne _ _ (by omega)]; first | exact jk_row_same _ _ _ | exact hg1 | exact ho1 | (rewrite [jk_row_ne _ _ (by omega)]; first | exact jk_row_same _ _ _ | exact hg1 | exact ho1 | (rewrite [jk_row_ne _ _ (by omega)]; first | exact jk_row_same _ _ _ | exact hg1 | exact ho1 | (rewrite [jk_row_ne _ _ (by omega)]; first | exact hg1 | exact ho1 | rfl))))) (by first | decide | omega | exact jB_01 _) dX13_fixes_75 rfl ?_
          refine jk_iadd (q := 77) dX13_fixes_76 rfl ?_
          refine jk_istore3 (q := 78) dX13_fixes_77 rfl rfl rfl ?_
          refine jk_iinc4 (q := 81) dX13_fixes_78 rfl rfl rfl ?_
          refine jk_goto (q := 55) dX13_fixes_81 rfl ?_
          exact ih55 (by omega) _ hs1
      exact L55 0 (Nat.zero_le _) _ (by rw [jk_row_row]; rfl)
    · refine jk_aload_n (q := 26) dX13_fixes_25 rfl rfl ?_
      refine jk_iconst (q := 27) dX13_fixes_26 rfl ?_
      refine jk_cV1p (q := 30) (c_X13_fails hm (by first | exact ho | exact (jk_row_ne _ _ (by omega)).trans ho)) jm_X13_fails jw_1937 rfl (by first | exact hm.1 | exact hm.2.1 _ _ rfl | assumption) rfl rfl rfl dX13_fixes_27 rfl ?_
      exact jk_iret rfl dX13_fixes_30 (by exact md_q (k := 2) (v := 0) (g' := g) (by unfold md_fixes; simp [*] <;> omega) (by unfold md_res md_th; simp only [jk_row_row, jk_row_id hg]; try rfl))
  · refine jk_aload_n (q := 9) dX13_fixes_8 rfl rfl ?_
    refine jk_iconst (q := 10) dX13_fixes_9 rfl ?_
    refine jk_cV1p (q := 13) (c_X13_fails hm (by first | exact ho | exact (jk_row_ne _ _ (by omega)).trans ho)) jm_X13_fails jw_1937 rfl (by first | exact hm.1 | exact hm.2.1 _ _ rfl | assumption) rfl rfl rfl dX13_fixes_10 rfl ?_
    exact jk_iret rfl dX13_fixes_13 (by exact md_q (k := 1) (v := 0) (g' := g) (by unfold md_fixes; simp [*] <;> omega) (by unfold md_res md_th; simp only [jk_row_row, jk_row_id hg]; try rfl))
theorem md_clr_S (g : Int → Int) (k : Nat) : jk_set (md_clr g (k : Int)) (136 + (k : Int)) 0 = md_clr g ((k + 1 : Nat) : Int) := by
  funext p
  unfold jk_set md_clr
  by_cases hp : p = 136 + (k : Int)
  · subst hp; rw [if_pos rfl, if_pos (by omega)]
  · rw [if_neg hp]
    by_cases h : 136 ≤ p ∧ p < 136 + (k : Int)
    · rw [if_pos h, if_pos (by omega)]
    · rw [if_neg h, if_neg (by omega)]
theorem md_clr_0 (g : Int → Int) : md_clr g ((0 : Nat) : Int) = g := by funext p; unfold md_clr; rw [if_neg (by omega)]
theorem c_X13_resets {G : jk_G} {n : Nat} {t : jk_T} {σ : jk_I} {ρ : jk_P} {m : Nat} {g O : Int → Int} {B : Int} (hm : md_at t ρ m) (hg : σ (m + 2) = g) (hi : md_inv B g) (ho : σ m = O)  : jk_K G yX13_resets mX13_resets 0 0 [.ref m] n t σ ρ (jk_q (some (jI (md_resets g).2.1)) n t (md_res σ m O (md_resets g)) ρ) jk_no := by
  refine jk_entryB (ls := [some (.ref m), none, none]) jm_X13_resets.1 rfl rfl rfl ?_
  obtain ⟨i0, i1, i2, i3, -⟩ := id hi
  refine jk_iconst (q := 1) dX13_resets_0 rfl ?_
  refine jk_istore1 (q := 2) dX13_resets_1 rfl rfl rfl ?_
  refine jk_iconst (q := 3) dX13_resets_2 rfl ?_
  refine jk_istore2 (q := 4) dX13_resets_3 rfl rfl rfl ?_
  have L4 : ∀ k4 : Nat, k4 ≤ (g 1).toNat → ∀ (σ1 : jk_I), (hs1 : σ1 = jk_row σ (m + 2) (md_clr g (k4 : Int))) → jk_J G mX13_resets 4 [some (.ref m), some (jI (jk_sum (fun l => if g (136 + l) = 0 then 0 else 1) k4)), some (jI (k4 : Int))] [] n t σ1 ρ 0 0 (jk_q (some (jI (md_resets g).2.1)) n t (md_res σ m O (md_resets g)) ρ) jk_no := by
    refine jk_loop _ (fun k4 hk4 ih4 => ?_)
    intro σ1 hs1
    have hg1 : σ1 (m + 2) = md_clr g (k4 : Int) := by rw [hs1, jk_row_same]
    have ho1 : σ1 m = O := by rw [hs1, jk_row_ne _ _ (by omega)]; exact ho
    refine jk_iload_n (q := 5) dX13_resets_4 rfl rfl ?_
    refine jk_aload_n (q := 6) dX13_resets_5 rfl rfl ?_
    refine jk_getA (q := 9) (k := 13) 0 0 rfl (by first | exact hm.1 | exact hm.2.1 _ _ rfl | assumption) (by first | exact hm.2.2 _ _ rfl | assumption) rfl rfl jw_1848 dX13_resets_6 rfl ?_
    refine jk_iconst (q := 10) dX13_resets_9 rfl ?_
    refine jk_ialdR (q := 11) (by first | exact hm.1 | exact hm.2.1 _ _ rfl | assumption) (by first | exact jk_row_same _ _ _ | exact hg1 | exact ho1 | (rewrite [jk_row_ne _ _ (by omega)]; first | exact jk_row_same _ _ _ | exact hg1 | exact ho1 | (rewrite [jk_row_ne _ _ (by omega)]; first | exact jk_row_same _ _ _ | exact hg1 | exact ho1 | (rewrite [jk_row_ne _ _ (by omega)]; first | exact jk_row_same _ _ _ | exact hg1 | exact ho1 | (rewrite [jk_row_ne _ _ (by omega)]; first | exact hg1 | exact ho1 | rfl))))) (by first | decide | omega | exact jB_01 _) dX13_resets_10 rfl ?_
    rw [show md_clr g (k4 : Int) 1 = g 1 from if_neg (by omega)]
    refine jk_icmp_ge (q := 52) (q2 := 14) dX13_resets_11 rfl rfl (by first | decide | omega | exact jB_01 _) (by first | decide | omega | exact jB_01 _) (fun h1 => ?_) (fun h1 => ?_)
    · refine jk_aload_n (q := 53) dX13_resets_52 rfl rfl ?_
      refine jk_iload_n (q := 54) dX13_resets_53 rfl rfl ?_
      refine jk_cV1p (q := 57) (c_X13_done hm ho1) jm_X13_done jw_1941 rfl (by first | exact hm.1 | exact hm.2.1 _ _ rfl | assumption) rfl rfl rfl dX13_resets_54 rfl ?_
      exact jk_iret rfl dX13_resets_57 (by rw [show (k4 : Nat) = (g 1).toNat by omega]; exact md_q (k := 0) (v := jk_sum (fun l => if g (136 + l) = 0 then 0 else 1) (g 1).toNat) (g' := md_clr g (g 1)) rfl (by rw [hs1, show ((k4 : Nat) : Int) = g 1 by omega]; rfl))
    · refine jk_iload_n (q := 15) dX13_resets_14 rfl rfl ?_
      refine jk_aload_n (q := 16) dX13_resets_15 rfl rfl ?_
      refine jk_getA (q := 19) (k := 13) 0 0 rfl (by first | exact hm.1 | exact hm.2.1 _ _ rfl | assumption) (by first | exact hm.2.2 _ _ rfl | assumption) rfl rfl jw_1848 dX13_resets_16 rfl ?_
      refine jk_sipush (q := 22) (y := 136) dX13_resets_19 rfl (by decide) ?_
      refine jk_iload_n (q := 23) dX13_resets_22 rfl rfl ?_
      refine jk_iadd (q := 24) dX13_resets_23 rfl ?_
      refine jk_ialdR (q := 25) (by first | exact hm.1 | exact hm.2.1 _ _ rfl | assumption) (by first | exact jk_row_same _ _ _ | exact hg1 | exact ho1 | (rewrite [jk_row_ne _ _ (by omega)]; first | exact jk_row_same _ _ _ | exact hg1 | exact ho1 | (rewrite [jk_row_ne _ _ (by omega)]; first | exact jk_row_same _ _ _ | exact hg1 | exact ho1 | (rewrite [jk_row_ne _ _ (by omega)]; first | exact jk_row_same _ _ _ | exact hg1 | exact ho1 | (rewrite [jk_row_ne _ _ (by omega)]; first | exact hg1 | exact ho1 | rfl))))) (by first | decide | omega | exact jB_01 _) dX13_resets_24 rfl ?_
      rw [show md_clr g (k4 : Int) (136 + (k4 : Int)) = g (136 + (k4 : Int)) from if_neg (by omega)]
      obtain ⟨e1, e2, e3, e4, e5, e6, e7, e8⟩ := md_inv_ln hi (l := (k4 : Int)) ⟨by omega, by omega⟩
      have hB := hi.2.2.2.2.2.2.1
      refine jk_if_eq (q := 32) (q2 := 28) dX13_resets_25 rfl rfl (by first | decide | omega | exact jB_01 _) (fun h2 => ?_) (fun h2 => ?_)
      · refine jk_iconst (q := 33) dX13_resets_32 rfl ?_
        refine jk_iadd (q := 34) dX13_resets_33 rfl ?_
        refine jk_istore1 (q := 35) dX13_resets_34 rfl rfl rfl ?_
        refine jk_aload_n (q := 36) dX13_resets_35 rfl rfl ?_
        refine jk_getA (q := 39) (k := 13) 0 0 rfl (by first | exact hm.1 | exact hm.2.1 _ _ rfl | assumption) (by first | exact hm.2.2 _ _ rfl | assumption) rfl rfl jw_1848 dX13_resets_36 rfl ?_
        refine jk_sipush (q := 42) (y := 136) dX13_resets_39 rfl (by decide) ?_
        refine jk_iload_n (q := 43) dX13_resets_42 rfl rfl ?_
        refine jk_iadd (q := 44) dX13_resets_43 rfl ?_
        refine jk_iconst (q := 45) dX13_resets_44 rfl ?_
        refine jk_iastR (q := 46) (by first | exact hm.1 | exact hm.2.1 _ _ rfl | assumption) (by first | exact jk_row_same _ _ _ | exact hg1 | exact ho1 | (rewrite [jk_row_ne _ _ (by omega)]; first | exact jk_row_same _ _ _ | exact hg1 | exact ho1 | (rewrite [jk_row_ne _ _ (by omega)]; first | exact jk_row_same _ _ _ | exact hg1 | exact ho1 | (rewrite [jk_row_ne _ _ (by omega)]; first | exact jk_row_same _ _ _ | exact hg1 | exact ho1 | (rewrite [jk_row_ne _ _ (by omega)]; first | exact hg1 | exact ho1 | rfl))))) (by first | decide | omega | exact jB_01 _) dX13_resets_45 rfl ?_
        refine jk_iinc2 (q := 49) dX13_resets_46 rfl rfl rfl ?_
        refine jk_goto (q := 4) dX13_resets_49 rfl ?_
        refine jk_convl (ih4 (by omega) _ ?_) (jk_loc rfl (jk_loc (jk_li ?_) rfl))
        · rw [hs1, jk_row_row, md_clr_S]
        · simp [jk_sum, *]
      · refine jk_iconst (q := 29) dX13_resets_28 rfl ?_
        refine jk_goto (q := 33) dX13_resets_29 rfl ?_
        refine jk_iadd (q := 34) dX13_resets_33 rfl ?_
        refine jk_istore1 (q := 35) dX13_resets_34 rfl rfl rfl ?_
        refine jk_aload_n (q := 36) dX13_resets_35 rfl rfl ?_
        refine jk_getA (q := 39) (k := 13) 0 0 rfl (by first | exact hm.1 | exact hm.2.1 _ _ rfl | assumption) (by first | exact hm.2.2 _ _ rfl | assumption) rfl rfl jw_1848 dX13_resets_36 rfl ?_
        refine jk_sipush (q := 42) (y := 136) dX13_resets_39 rfl (by decide) ?_
        refine jk_iload_n (q := 43) dX13_resets_42 rfl rfl ?_
        refine jk_iadd (q := 44) dX13_resets_43 rfl ?_
        refine jk_iconst (q := 45) dX13_resets_44 rfl ?_
        refine jk_iastR (q := 46) (by first | exact hm.1 | exact hm.2.1 _ _ rfl | assumption) (by first | exact jk_row_same _ _ _ | exact hg1 | exact ho1 | (rewrite [jk_row_ne _ _ (by omega)]; first | exact jk_row_same _ _ _ | exact hg1 | exact ho1 | (rewrite [jk_row_ne _ _ (by omega)]; first | exact jk_row_same _ _ _ | exact hg1 | exact ho1 | (rewrite [jk_row_ne _ _ (by omega)]; first | exact jk_row_same _ _ _ | exact hg1 | exact ho1 | (rewrite [jk_row_ne _ _ (by omega)]; first | exact hg1 | exact ho1 | rfl))))) (by first | decide | omega | exact jB_01 _) dX13_resets_45 rfl ?_
        refine jk_iinc2 (q := 49) dX13_resets_46 rfl rfl rfl ?_
        refine jk_goto (q := 4) dX13_resets_49 rfl ?_
        refine jk_convl (ih4 (by omega) _ ?_) (jk_loc rfl (jk_loc (jk_li ?_) rfl))
        · rw [hs1, jk_row_row, md_clr_S]
        · simp [jk_sum, *]
  exact L4 0 (Nat.zero_le _) σ (by rw [md_clr_0, jk_row_id hg])
def md_zf (k : Int) (f : Int → Int) : Prop := ∀ p, p < 0 ∨ k ≤ p → f p = 0
theorem md_zf_set {k : Int} {f : Int → Int} (h : md_zf k f) {i v : Int} (hi : 0 ≤ i ∧ i < k) : md_zf k (jk_set f i v) := fun p hp => by
  rw [jk_set_ne _ _ (by omega)]; exact h p hp
theorem md_take_z {B : Int} {g : Int → Int} (hi : md_inv B g) {s : md_SS} (h : md_zf 16 s.1 ∧ md_zf 10 s.2) {l : Int} (hl : 0 ≤ l ∧ l < 16) : md_zf 16 (md_take g s l).1 ∧ md_zf 10 (md_take g s l).2 := by
  unfold md_take
  split
  · refine ⟨md_zf_set h.1 hl, fun p hp => ?_⟩
    show md_uni s.2 (g 0) _ _ p = 0
    unfold md_uni
    have := hi.1
    rw [if_neg (by omega)]
    exact h.2 p hp
  · exact h
theorem md_li_z {B : Int} {g : Int → Int} (hi : md_inv B g) {L : Int} {s : md_SS} (h : md_zf 16 s.1 ∧ md_zf 10 s.2) : ∀ k : Nat, k ≤ 16 → md_zf 16 (md_li g L k s).1 ∧ md_zf 10 (md_li g L k s).2
  | 0, _ => h
  | k + 1, hk => by
    unfold md_li
    split
    · exact md_take_z hi (md_li_z hi h k (by omega)) ⟨by omega, by omega⟩
    · exact md_li_z hi h k (by omega)
theorem md_kr_z {B : Int} {g : Int → Int} (hi : md_inv B g) : ∀ L : Nat, md_zf 16 (md_kr g L).1 ∧ md_zf 10 (md_kr g L).2
  | 0 => ⟨fun _ _ => rfl, fun p hp => by show (if 0 ≤ p ∧ p < 10 then p else 0) = 0; rw [if_neg (by omega)]⟩
  | L + 1 => md_li_z hi (md_kr_z hi L) _ (by have := hi.2.1; omega)
theorem md_pass_z {B : Int} {g T : Int → Int} (hi : md_inv B g) {s : md_SS} (h : md_zf 10 s.1 ∧ md_zf 10 s.2) {l : Int} (hl : 0 ≤ l ∧ l < 16) : md_zf 10 (md_pass g T s l).1 ∧ md_zf 10 (md_pass g T s l).2 := by
  obtain ⟨a, b, -⟩ := md_inv_ln hi hl
  unfold md_pass
  split
  · exact h
  · refine ⟨md_zf_set (md_zf_set h.1 a) b, ?_⟩
    show md_zf 10 (if _ then _ else _)
    split
    · exact md_zf_set h.2 a
    · exact md_zf_set h.2 b
theorem md_pl_z {B : Int} {g T : Int → Int} (hi : md_inv B g) {s : md_SS} (h : md_zf 10 s.1 ∧ md_zf 10 s.2) : ∀ k : Nat, k ≤ 16 → md_zf 10 (md_pl g T k s).1 ∧ md_zf 10 (md_pl g T k s).2
  | 0, _ => h
  | k + 1, hk => md_pass_z hi (md_pl_z hi h k (by omega)) ⟨by omega, by omega⟩
theorem md_it_z {B : Int} {g : Int → Int} (hi : md_inv B g) : ∀ j : Nat, md_zf 10 (md_it g j).1 ∧ md_zf 10 (md_it g j).2
  | 0 => ⟨fun p hp => by show (if (0 ≤ p ∧ p < 10) ∧ md_Ro g p = p then (1 : Int) else 0) = 0; rw [if_neg (by omega)], fun _ _ => rfl⟩
  | j + 1 => md_pl_z hi (md_it_z hi j) _ (by have := hi.2.1; omega)
theorem md_gr_at (σ : jk_I) (m : Nat) (g : Int → Int) : md_gr σ m g (m + 14) = md_T g ∧ md_gr σ m g (m + 16) = md_Ro g ∧ md_gr σ m g (m + 20) = (md_fin g).1 ∧ md_gr σ m g (m + 18) = (md_fin g).2 := by
  unfold md_gr
  refine ⟨?_, ?_, ?_, jk_row_same _ _ _⟩
  · rw [jk_row_ne _ _ (by omega), jk_row_ne _ _ (by omega), jk_row_ne _ _ (by omega), jk_row_same]
  · rw [jk_row_ne _ _ (by omega), jk_row_ne _ _ (by omega), jk_row_same]
  · rw [jk_row_ne _ _ (by omega), jk_row_same]
theorem md_gr_ne (σ : jk_I) (m : Nat) (g : Int → Int) {a : Nat} (h : a ≠ m + 14 ∧ a ≠ m + 16 ∧ a ≠ m + 18 ∧ a ≠ m + 20) : md_gr σ m g a = σ a := by
  unfold md_gr
  rw [jk_row_ne _ _ h.2.2.1, jk_row_ne _ _ h.2.2.2, jk_row_ne _ _ h.2.1, jk_row_ne _ _ h.1]
theorem md_gr_z {B : Int} {g : Int → Int} (hi : md_inv B g) {σ : jk_I} {m : Nat} (hz : md_z σ m) (hz1 : md_z10 σ m) : md_z (md_gr σ m g) m ∧ md_z10 (md_gr σ m g) m := by
  obtain ⟨a, b, c, d⟩ := md_gr_at σ m g
  refine ⟨fun p hp => ⟨?_, ?_, ?_⟩, fun p hp => ⟨?_, ?_, ?_, ?_⟩⟩
  · rw [a]; exact (md_kr_z hi 50).1 p hp
  · rw [md_gr_ne _ _ _ ⟨by omega, by omega, by omega, by omega⟩]; exact (hz p hp).2.1
  · rw [md_gr_ne _ _ _ ⟨by omega, by omega, by omega, by omega⟩]; exact (hz p hp).2.2
  · rw [b]; exact (md_kr_z hi 50).2 p hp
  · rw [d]; exact (md_it_z hi 11).2 p hp
  · rw [c]; exact (md_it_z hi 11).1 p hp
  · rw [md_gr_ne _ _ _ ⟨by omega, by omega, by omega, by omega⟩]; exact (hz1 p hp).2.2.2
/-- every line that closes a loop can be gone around -/
def md_loops (g : Int → Int) : Prop := ∀ l, 0 ≤ l ∧ l < g 1 → md_clo g (md_T g) l = true → ∃ J, md_ok g (md_reach g (md_T g) (g (24 + l))).2 (g (40 + l)) (g (24 + l)) J
def md_lp (σ : jk_I) (m : Nat) (g : Int → Int) (l : Int) : jk_I := jk_row (jk_row (jk_row (md_gr σ m g) (m + 26) (md_reach g (md_T g) (g (24 + l))).2) (m + 20) (md_reach g (md_T g) (g (24 + l))).1) (m + 22) (md_sgn g (md_T g) l)
def md_why (g : Int → Int) (l : Int) : Int := if md_in l 0 (g 1 - 1) = false then 1 else if md_clo g (md_T g) l = false then 2 else 0
def md_whyS (σ : jk_I) (m : Nat) (g : Int → Int) (l : Int) : jk_I := if md_in l 0 (g 1 - 1) = false then σ else if md_clo g (md_T g) l = false then md_gr σ m g else md_lp σ m g l
theorem md_qw {n : Nat} {t : jk_T} {σ σ' : jk_I} {ρ : jk_P} {m : Nat} {g : Int → Int} {l v : Int} (h1 : md_why g l = v) (h2 : md_whyS σ m g l = σ') : jk_q (some (jI (md_why g l))) n t (md_whyS σ m g l) ρ (some (jI v)) n t σ' ρ := by subst h1 h2; exact jk_qr
theorem c_X13_whyNoLoop {G : jk_G} {n : Nat} {t : jk_T} {σ : jk_I} {ρ : jk_P} {m : Nat} {g : Int → Int} {B : Int} {l : Int} (hm : md_at t ρ m) (hg : σ (m + 2) = g) (hi : md_inv B g) (hz : md_z σ m) (hz1 : md_z10 σ m) (hJ : md_loops g) (hl : jk_in l) : jk_K G yX13_whyNoLoop mX13_whyNoLoop 0 0 [.ref m, jI l] n t σ ρ (jk_q (some (jI (md_why g l))) n t (md_whyS σ m g l) ρ) jk_no := by
  refine jk_entryB (ls := [some (.ref m), some (jI l)]) jm_X13_whyNoLoop.1 rfl rfl rfl ?_
  obtain ⟨i0, i1, i2, i3, -⟩ := id hi
  have hgr := md_gr_z hi hz hz1
  refine jk_aload_n (q := 1) dX13_whyNoLoop_0 rfl rfl ?_
  refine jk_iload_n (q := 2) dX13_whyNoLoop_1 rfl rfl ?_
  refine jk_cV1p (q := 5) (c_X13_isLine hm hg hi hl) jm_X13_isLine jw_1990 rfl (by first | exact hm.1 | exact hm.2.1 _ _ rfl | assumption) rfl rfl rfl dX13_whyNoLoop_2 rfl ?_
  refine jk_ifB_ne (q := 10) (q2 := 8) dX13_whyNoLoop_5 rfl rfl (fun h1 => ?_) (fun h1 => ?_)
  · have hp2 := md_inT (by assumption : md_in l 0 (g 1 - 1) = true)
    refine jk_aload_n (q := 11) dX13_whyNoLoop_10 rfl rfl ?_
    refine jk_cV0v (q := 14) (c_X13_grows hm hg hi hz hz1) jm_X13_grows jw_2036 rfl (by first | exact hm.1 | exact hm.2.1 _ _ rfl | assumption) rfl rfl rfl dX13_whyNoLoop_11 rfl ?_
    refine jk_aload_n (q := 15) dX13_whyNoLoop_14 rfl rfl ?_
    refine jk_iload_n (q := 16) dX13_whyNoLoop_15 rfl rfl ?_
    refine jk_cV1p (q := 19) (c_X13_closes (T := md_T g) hm ((md_gr_ne _ _ _ ⟨by omega, by omega, by omega, by omega⟩).trans hg) hi (md_gr_at σ m g).1 (md_kr_tr hi 50).1 ⟨by omega, by omega⟩) jm_X13_closes jw_2063 rfl (by first | exact hm.1 | exact hm.2.1 _ _ rfl | assumption) rfl rfl rfl dX13_whyNoLoop_16 rfl ?_
    refine jk_ifB_ne (q := 24) (q2 := 22) dX13_whyNoLoop_19 rfl rfl (fun h2 => ?_) (fun h2 => ?_)
    · obtain ⟨J, hJ9⟩ := hJ l ⟨by omega, by omega⟩ (by assumption)
      refine jk_aload_n (q := 25) dX13_whyNoLoop_24 rfl rfl ?_
      refine jk_iload_n (q := 26) dX13_whyNoLoop_25 rfl rfl ?_
      refine jk_cV1v (q := 29) (c_X13_circles hm ((md_gr_ne _ _ _ ⟨by omega, by omega, by omega, by omega⟩).trans hg) hi (md_gr_at σ m g).1 (md_kr_tr hi 50).1 hgr.1 hgr.2 ⟨by omega, by omega⟩ hJ9) jm_X13_circles jw_2067 rfl (by first | exact hm.1 | exact hm.2.1 _ _ rfl | assumption) rfl rfl rfl dX13_whyNoLoop_26 rfl ?_
      refine jk_iconst (q := 30) dX13_whyNoLoop_29 rfl ?_
      exact jk_iret rfl dX13_whyNoLoop_30 (by exact md_qw (by unfold md_why; simp [*]) (by unfold md_whyS; simp [*]; rfl))
    · refine jk_iconst (q := 23) dX13_whyNoLoop_22 rfl ?_
      exact jk_iret rfl dX13_whyNoLoop_23 (by exact md_qw (by unfold md_why; simp [*]) (by unfold md_whyS; simp [*]))
  · refine jk_iconst (q := 9) dX13_whyNoLoop_8 rfl ?_
    exact jk_iret rfl dX13_whyNoLoop_9 (by exact md_qw (by unfold md_why; simp [*]) (by unfold md_whyS; simp [*]))
end MD10
