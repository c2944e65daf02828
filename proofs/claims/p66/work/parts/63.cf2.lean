section CF2
def cm_agr (s s2 : md_SS) : Prop := (∀ l, 0 ≤ l ∧ l < 16 → s.1 l = s2.1 l) ∧ ∀ p, 0 ≤ p ∧ p < 10 → s.2 p = s2.2 p
theorem cm_agr_take {B : Int} {g : Int → Int} (hi : md_inv B g) {s s2 : md_SS} (h : cm_agr s s2) {l : Int} (hl : 0 ≤ l ∧ l < 16) : cm_agr (md_take g s l) (md_take g s2 l) := by
  obtain ⟨a, b, -⟩ := md_inv_ln hi hl
  have ea := h.2 _ a
  have eb := h.2 _ b
  unfold md_take
  rw [ea, eb]
  split
  · refine ⟨fun x hx => ?_, fun p hp => ?_⟩
    · show jk_set s.1 l 1 x = jk_set s2.1 l 1 x
      unfold jk_set
      rw [h.1 x hx]
    · show md_uni s.2 _ _ _ p = md_uni s2.2 _ _ _ p
      unfold md_uni
      rw [ea, eb, h.2 p hp]
  · exact h
theorem cm_agr_fold {B : Int} {g Od : Int → Int} {N : Nat} (hi : md_inv B g) (hs : cm_srt g Od N (g 1)) {s s2 : md_SS} (h : cm_agr s s2) : ∀ k : Nat, k ≤ N → cm_agr (cm_fold g Od k s) (cm_fold g Od k s2)
  | 0, _ => h
  | k + 1, hk => cm_agr_take hi (cm_agr_fold hi hs h k (by omega)) (by have := (hs.1 k (by omega)).1; have := hi.2.1; omega)
theorem cm_fold_tr {B : Int} {g Od : Int → Int} {N : Nat} (hi : md_inv B g) (hs : cm_srt g Od N (g 1)) {s : md_SS} (h : md_tr s) : ∀ k : Nat, k ≤ N → md_tr (cm_fold g Od k s)
  | 0, _ => h
  | k + 1, hk => md_take_tr hi (cm_fold_tr hi hs h k (by omega)) (by have := (hs.1 k (by omega)).1; have := hi.2.1; omega)
theorem c_X3_consider {G : jk_G} {n : Nat} {t : jk_T} {σ : jk_I} {ρ : jk_P} {f s : Nat} {g T r : Int → Int} {B l : Int} (hf : fo_at t ρ f s) (hr : cl_rel σ s g) (hi : md_inv B g) (hT : σ (f + 6) = T) (hR : σ (f + 8) = r) (hrb : ∀ p, 0 ≤ p ∧ p < 10 → 0 ≤ r p ∧ r p < 10) (hl : 0 ≤ l ∧ l < g 1) (hg : md_good g l = true) : jk_K G yX3_consider mX3_consider 0 0 [.ref f, jI l] n t σ ρ (jk_q none n t (jk_row (jk_row σ (f + 6) (md_take g (T, r) l).1) (f + 8) (md_take g (T, r) l).2) ρ) jk_no := by
  obtain ⟨hf1, hf2, hf3, hf4, hs, hsf⟩ := id hf
  have i0 := hi.1
  have i1 := hi.2.1
  have i2 := hi.2.2.1.2
  obtain ⟨l1, l2, -⟩ := md_inv_ln hi (l := l) ⟨by omega, by omega⟩
  obtain ⟨q1, q2, -⟩ := hr.2.2.1 l hl
  have ra := hrb _ l1
  have rb := hrb _ l2
  refine jk_entryB (ls := [some (.ref f), some (jI l), none, none, none, none, none]) jm_X3_consider.1 rfl rfl rfl ?_
  refine jk_aload_n (q := 1) dX3_consider_0 rfl rfl ?_
  refine jk_getA (q := 4) (k := 3) 5 5 rfl (by first | exact hf1 | exact hs.1 | exact hf2 _ _ rfl | exact hs.2.1 _ _ rfl | assumption) (by first | exact hf4 | exact hf3 _ _ rfl | exact hs.2.2.1 _ _ rfl | assumption) rfl rfl jw_197 dX3_consider_1 rfl ?_
  refine jk_aload_n (q := 5) dX3_consider_4 rfl rfl ?_
  refine jk_getA (q := 8) (k := 3) 0 0 rfl (by first | exact hf1 | exact hs.1 | exact hf2 _ _ rfl | exact hs.2.1 _ _ rfl | assumption) (by first | exact hf4 | exact hf3 _ _ rfl | exact hs.2.2.1 _ _ rfl | assumption) rfl rfl jw_189 dX3_consider_5 rfl ?_
  refine jk_getA (q := 11) (k := 9) 4 4 rfl (by first | exact hf1 | exact hs.1 | exact hf2 _ _ rfl | exact hs.2.1 _ _ rfl | assumption) (by first | exact hf4 | exact hf3 _ _ rfl | exact hs.2.2.1 _ _ rfl | assumption) rfl rfl jw_75 dX3_consider_8 rfl ?_
  refine jk_iload_n (q := 12) dX3_consider_11 rfl rfl ?_
  refine jk_ialdR (q := 13) (by first | exact hf1 | exact hs.1 | exact hf2 _ _ rfl | exact hs.2.1 _ _ rfl | assumption) (by first | exact jk_row_same _ _ _ | ((repeat rewrite [jk_row_ne _ _ (by omega)]); first | exact jk_row_same _ _ _ | exact hT | exact hR | rfl)) (by first | assumption | decide | omega | exact jB_01 _ | exact ⟨by omega, by omega⟩) dX3_consider_12 rfl ?_
  rw [q1]
  refine jk_ialdR (q := 14) (by first | exact hf1 | exact hs.1 | exact hf2 _ _ rfl | exact hs.2.1 _ _ rfl | assumption) (by first | exact jk_row_same _ _ _ | ((repeat rewrite [jk_row_ne _ _ (by omega)]); first | exact jk_row_same _ _ _ | exact hT | exact hR | rfl)) (by first | assumption | decide | omega | exact jB_01 _ | exact ⟨by omega, by omega⟩) dX3_consider_13 rfl ?_
  refine jk_istore2 (q := 15) dX3_consider_14 rfl rfl rfl ?_
  refine jk_aload_n (q := 16) dX3_consider_15 rfl rfl ?_
  refine jk_getA (q := 19) (k := 3) 5 5 rfl (by first | exact hf1 | exact hs.1 | exact hf2 _ _ rfl | exact hs.2.1 _ _ rfl | assumption) (by first | exact hf4 | exact hf3 _ _ rfl | exact hs.2.2.1 _ _ rfl | assumption) rfl rfl jw_197 dX3_consider_16 rfl ?_
  refine jk_aload_n (q := 20) dX3_consider_19 rfl rfl ?_
  refine jk_getA (q := 23) (k := 3) 0 0 rfl (by first | exact hf1 | exact hs.1 | exact hf2 _ _ rfl | exact hs.2.1 _ _ rfl | assumption) (by first | exact hf4 | exact hf3 _ _ rfl | exact hs.2.2.1 _ _ rfl | assumption) rfl rfl jw_189 dX3_consider_20 rfl ?_
  refine jk_getA (q := 26) (k := 9) 5 5 rfl (by first | exact hf1 | exact hs.1 | exact hf2 _ _ rfl | exact hs.2.1 _ _ rfl | assumption) (by first | exact hf4 | exact hf3 _ _ rfl | exact hs.2.2.1 _ _ rfl | assumption) rfl rfl jw_81 dX3_consider_23 rfl ?_
  refine jk_iload_n (q := 27) dX3_consider_26 rfl rfl ?_
  refine jk_ialdR (q := 28) (by first | exact hf1 | exact hs.1 | exact hf2 _ _ rfl | exact hs.2.1 _ _ rfl | assumption) (by first | exact jk_row_same _ _ _ | ((repeat rewrite [jk_row_ne _ _ (by omega)]); first | exact jk_row_same _ _ _ | exact hT | exact hR | rfl)) (by first | assumption | decide | omega | exact jB_01 _ | exact ⟨by omega, by omega⟩) dX3_consider_27 rfl ?_
  rw [q2]
  refine jk_ialdR (q := 29) (by first | exact hf1 | exact hs.1 | exact hf2 _ _ rfl | exact hs.2.1 _ _ rfl | assumption) (by first | exact jk_row_same _ _ _ | ((repeat rewrite [jk_row_ne _ _ (by omega)]); first | exact jk_row_same _ _ _ | exact hT | exact hR | rfl)) (by first | assumption | decide | omega | exact jB_01 _ | exact ⟨by omega, by omega⟩) dX3_consider_28 rfl ?_
  refine jk_istore3 (q := 30) dX3_consider_29 rfl rfl rfl ?_
  refine jk_iload_n (q := 31) dX3_consider_30 rfl rfl ?_
  refine jk_iload_n (q := 32) dX3_consider_31 rfl rfl ?_
  refine jk_icmp_ne (q := 36) (q2 := 35) dX3_consider_32 rfl rfl (by first | assumption | decide | omega | exact jB_01 _ | exact ⟨by omega, by omega⟩) (by first | assumption | decide | omega | exact jB_01 _ | exact ⟨by omega, by omega⟩) (fun z1 => ?_) (fun z1 => ?_)
  · refine jk_aload_n (q := 37) dX3_consider_36 rfl rfl ?_
    refine jk_getA (q := 40) (k := 3) 4 4 rfl (by first | exact hf1 | exact hs.1 | exact hf2 _ _ rfl | exact hs.2.1 _ _ rfl | assumption) (by first | exact hf4 | exact hf3 _ _ rfl | exact hs.2.2.1 _ _ rfl | assumption) rfl rfl jw_193 dX3_consider_37 rfl ?_
    refine jk_iload_n (q := 41) dX3_consider_40 rfl rfl ?_
    refine jk_iconst (q := 42) dX3_consider_41 rfl ?_
    refine jk_zastR (q := 43) (by first | exact hf1 | exact hs.1 | exact hf2 _ _ rfl | exact hs.2.1 _ _ rfl | assumption) (by first | exact jk_row_same _ _ _ | ((repeat rewrite [jk_row_ne _ _ (by omega)]); first | exact jk_row_same _ _ _ | exact hT | exact hR | rfl)) (by first | assumption | decide | omega | exact jB_01 _ | exact ⟨by omega, by omega⟩) (by first | assumption | decide | omega | exact jB_01 _ | exact ⟨by omega, by omega⟩) dX3_consider_42 rfl ?_
    have hmm : 0 ≤ (if r (g (40 + l)) < r (g (24 + l)) then r (g (40 + l)) else r (g (24 + l))) ∧ (if r (g (40 + l)) < r (g (24 + l)) then r (g (40 + l)) else r (g (24 + l))) < 10 := (by split <;> omega)
    have hmx : 0 ≤ (if r (g (24 + l)) < r (g (40 + l)) then r (g (40 + l)) else r (g (24 + l))) ∧ (if r (g (24 + l)) < r (g (40 + l)) then r (g (40 + l)) else r (g (24 + l))) < 10 := (by split <;> omega)
    refine jk_iload_n (q := 44) dX3_consider_43 rfl rfl ?_
    refine jk_iload_n (q := 45) dX3_consider_44 rfl rfl ?_
    refine jk_mmin (q := 48) jw_523 rfl rfl (by first | assumption | decide | omega | exact jB_01 _ | exact ⟨by omega, by omega⟩) (by first | assumption | decide | omega | exact jB_01 _ | exact ⟨by omega, by omega⟩) dX3_consider_45 rfl ?_
    refine jk_istore4 (q := 50) dX3_consider_48 rfl rfl rfl ?_
    refine jk_iload_n (q := 51) dX3_consider_50 rfl rfl ?_
    refine jk_iload_n (q := 52) dX3_consider_51 rfl rfl ?_
    refine jk_mmax (q := 55) jw_526 rfl rfl (by first | assumption | decide | omega | exact jB_01 _ | exact ⟨by omega, by omega⟩) (by first | assumption | decide | omega | exact jB_01 _ | exact ⟨by omega, by omega⟩) dX3_consider_52 rfl ?_
    refine jk_istore5 (q := 57) dX3_consider_55 rfl rfl rfl ?_
    obtain ⟨lo, hlo⟩ : ∃ lo, lo = (if r (g (40 + l)) < r (g (24 + l)) then r (g (40 + l)) else r (g (24 + l))) := ⟨_, rfl⟩
    obtain ⟨hh, hhh⟩ : ∃ hh, hh = (if r (g (24 + l)) < r (g (40 + l)) then r (g (40 + l)) else r (g (24 + l))) := ⟨_, rfl⟩
    rw [← hlo, ← hhh]
    rw [← hlo] at hmm
    rw [← hhh] at hmx
    refine jk_iconst (q := 58) dX3_consider_57 rfl ?_
    refine jk_istore6 (q := 60) dX3_consider_58 rfl rfl rfl ?_
    have L60 : ∀ k60 : Nat, k60 ≤ (g 0).toNat → ∀ (σ1 : jk_I), (h1 : σ1 = jk_row (jk_row σ (f + 6) (jk_set T l 1)) (f + 8) (fun p => if 0 ≤ p ∧ p < (k60 : Int) ∧ r p = hh then lo else r p)) → jk_J G mX3_consider 60 [some (.ref f), some (jI l), some (jI (r (g (24 + l)))), some (jI (r (g (40 + l)))), some (jI lo), some (jI hh), some (jI (k60 : Int))] [] n t σ1 ρ 0 0 (jk_q none n t (jk_row (jk_row σ (f + 6) (md_take g (T, r) l).1) (f + 8) (md_take g (T, r) l).2) ρ) jk_no := by
      refine jk_loop _ (fun k60 hk60 ih60 => ?_)
      intro σ1 h1
      have hr1 : cl_rel σ1 s g := cl_rel_same i2 (fun a h2 h3 => by rw [h1, jk_row_ne _ _ (by omega), jk_row_ne _ _ (by omega)]) hr
      have hq1 : σ1 (f + 8) = (fun p => if 0 ≤ p ∧ p < (k60 : Int) ∧ r p = hh then lo else r p) := by rw [h1, jk_row_same]
      refine jk_iload (q := 62) dX3_consider_60 rfl rfl ?_
      refine jk_aload_n (q := 63) dX3_consider_62 rfl rfl ?_
      refine jk_getA (q := 66) (k := 3) 0 0 rfl (by first | exact hf1 | exact hs.1 | exact hf2 _ _ rfl | exact hs.2.1 _ _ rfl | assumption) (by first | exact hf4 | exact hf3 _ _ rfl | exact hs.2.2.1 _ _ rfl | assumption) rfl rfl jw_189 dX3_consider_63 rfl ?_
      refine jk_getIR (q := 69) (k := 9) 0 0 rfl (by first | exact hf1 | exact hs.1 | exact hf2 _ _ rfl | exact hs.2.1 _ _ rfl | assumption) (by first | exact jk_row_same _ _ _ | ((repeat rewrite [jk_row_ne _ _ (by omega)]); first | exact jk_row_same _ _ _ | exact hq1 | rfl)) rfl rfl jw_57 dX3_consider_66 rfl ?_
      rw [hr1.1.1]
      refine jk_icmp_ge (q := 99) (q2 := 72) dX3_consider_69 rfl rfl (by first | assumption | decide | omega | exact jB_01 _ | exact ⟨by omega, by omega⟩) (by first | assumption | decide | omega | exact jB_01 _ | exact ⟨by omega, by omega⟩) (fun z2 => ?_) (fun z2 => ?_)
      · exact jk_ret rfl dX3_consider_99 (by refine ⟨rfl, rfl, rfl, ?_, rfl⟩; rw [h1]; unfold md_take; dsimp only; rw [if_pos (show md_good g l = true ∧ r (g (24 + l)) ≠ r (g (40 + l)) from ⟨hg, by omega⟩)]; refine congrArg (jk_row _ (f + 8)) ?_; unfold md_uni; rw [show (k60 : Int) = g 0 by omega, show lo = (if r (g (24 + l)) < r (g (40 + l)) then r (g (24 + l)) else r (g (40 + l))) by (rw [hlo]; split <;> split <;> omega), hhh])
      · refine jk_aload_n (q := 73) dX3_consider_72 rfl rfl ?_
        refine jk_getA (q := 76) (k := 3) 5 5 rfl (by first | exact hf1 | exact hs.1 | exact hf2 _ _ rfl | exact hs.2.1 _ _ rfl | assumption) (by first | exact hf4 | exact hf3 _ _ rfl | exact hs.2.2.1 _ _ rfl | assumption) rfl rfl jw_197 dX3_consider_73 rfl ?_
        refine jk_iload (q := 78) dX3_consider_76 rfl rfl ?_
        refine jk_ialdR (q := 79) (by first | exact hf1 | exact hs.1 | exact hf2 _ _ rfl | exact hs.2.1 _ _ rfl | assumption) (by first | exact jk_row_same _ _ _ | ((repeat rewrite [jk_row_ne _ _ (by omega)]); first | exact jk_row_same _ _ _ | exact hq1 | rfl)) (by first | assumption | decide | omega | exact jB_01 _ | exact ⟨by omega, by omega⟩) dX3_consider_78 rfl ?_
        have hv9 : (fun p => if 0 ≤ p ∧ p < (k60 : Int) ∧ r p = hh then lo else r p) (k60 : Int) = r (k60 : Int) := if_neg (by omega)
        have rk := hrb (k60 : Int) ⟨by omega, by omega⟩
        refine jk_iload (q := 81) dX3_consider_79 rfl rfl ?_
        refine jk_icmp_ne (q := 93) (q2 := 84) dX3_consider_81 rfl rfl (by first | assumption | decide | omega | exact jB_01 _ | exact ⟨by omega, by omega⟩) (by first | assumption | decide | omega | exact jB_01 _ | exact ⟨by omega, by omega⟩) (fun z3 => ?_) (fun z3 => ?_)
        · refine jk_iinc6 (q := 96) dX3_consider_93 rfl rfl rfl ?_
          refine jk_goto (q := 60) dX3_consider_96 rfl ?_
          first
          | exact jk_convw (ih60 (by omega) _ (by rw [h1, jk_row_row]; refine congrArg (jk_row _ (f + 8)) (md_uni_step ?_); rw [if_pos (by rw [← hv9]; assumption)])) (jk_wkS rfl (jk_wkS rfl (jk_wkS rfl (jk_wkS rfl (jk_wkS rfl (jk_wkS rfl (jk_wkS rfl jk_wk0)))))))
          | exact jk_convw (ih60 (by omega) _ (by have hne9 : ¬ r (k60 : Int) = hh := (by rw [← hv9]; assumption); rw [h1]; refine congrArg (jk_row _ (f + 8)) (funext fun p => ?_); clear hf hr hi hrb ih60 hf2 hf3 hs; grind)) (jk_wkS rfl (jk_wkS rfl (jk_wkS rfl (jk_wkS rfl (jk_wkS rfl (jk_wkS rfl (jk_wkS rfl jk_wk0)))))))
        · refine jk_aload_n (q := 85) dX3_consider_84 rfl rfl ?_
          refine jk_getA (q := 88) (k := 3) 5 5 rfl (by first | exact hf1 | exact hs.1 | exact hf2 _ _ rfl | exact hs.2.1 _ _ rfl | assumption) (by first | exact hf4 | exact hf3 _ _ rfl | exact hs.2.2.1 _ _ rfl | assumption) rfl rfl jw_197 dX3_consider_85 rfl ?_
          refine jk_iload (q := 90) dX3_consider_88 rfl rfl ?_
          refine jk_iload (q := 92) dX3_consider_90 rfl rfl ?_
          refine jk_iastR (q := 93) (by first | exact hf1 | exact hs.1 | exact hf2 _ _ rfl | exact hs.2.1 _ _ rfl | assumption) (by first | exact jk_row_same _ _ _ | ((repeat rewrite [jk_row_ne _ _ (by omega)]); first | exact jk_row_same _ _ _ | exact hq1 | rfl)) (by first | assumption | decide | omega | exact jB_01 _ | exact ⟨by omega, by omega⟩) dX3_consider_92 rfl ?_
          refine jk_iinc6 (q := 96) dX3_consider_93 rfl rfl rfl ?_
          refine jk_goto (q := 60) dX3_consider_96 rfl ?_
          first
          | exact jk_convw (ih60 (by omega) _ (by rw [h1, jk_row_row]; refine congrArg (jk_row _ (f + 8)) (md_uni_step ?_); rw [if_pos (by rw [← hv9]; assumption)])) (jk_wkS rfl (jk_wkS rfl (jk_wkS rfl (jk_wkS rfl (jk_wkS rfl (jk_wkS rfl (jk_wkS rfl jk_wk0)))))))
          | exact jk_convw (ih60 (by omega) _ (by have hne9 : ¬ r (k60 : Int) = hh := (by rw [← hv9]; assumption); rw [h1]; refine congrArg (jk_row _ (f + 8)) (funext fun p => ?_); clear hf hr hi hrb ih60 hf2 hf3 hs; grind)) (jk_wkS rfl (jk_wkS rfl (jk_wkS rfl (jk_wkS rfl (jk_wkS rfl (jk_wkS rfl (jk_wkS rfl jk_wk0)))))))
    have e60 : jk_row (jk_row σ (f + 6) (jk_set T l 1)) (f + 8) (fun p => if 0 ≤ p ∧ p < ((0 : Nat) : Int) ∧ r p = hh then lo else r p) = jk_row σ (f + 6) (jk_set T l 1) := by rw [md_uni_0]; conv => rhs; rw [← jk_row_self (jk_row σ (f + 6) (jk_set T l 1)) (f + 8), jk_row_ne _ _ (show f + 8 ≠ f + 6 by omega), hR]
    exact jk_convw (L60 0 (Nat.zero_le _) _ e60.symm) (jk_wkS rfl (jk_wkS rfl (jk_wkS rfl (jk_wkS rfl (jk_wkS rfl (jk_wkS rfl (jk_wkS rfl jk_wk0)))))))
  · exact jk_ret rfl dX3_consider_35 (by refine ⟨rfl, rfl, rfl, ?_, rfl⟩; unfold md_take; dsimp only; rw [if_neg (fun q => q.2 (by assumption))]; exact (jk_rs2 σ hT hR).symm)
def fo_fQ (f : Nat) (g : Int → Int) (σ : jk_I) (n : Nat) (t : jk_T) (ρ : jk_P) : jk_Q := fun v' n' t' σ' ρ' => v' = none ∧ n' = n ∧ t' = t ∧ ρ' = ρ ∧ (∀ a, a ≠ f → a ≠ f + 2 → a ≠ f + 6 → a ≠ f + 8 → σ' a = σ a) ∧ fo_ok σ' f g
theorem c_X3_find {G : jk_G} {n : Nat} {t : jk_T} {σ : jk_I} {ρ : jk_P} {f s : Nat} {g : Int → Int} {B : Int} (hf : fo_at t ρ f s) (hr : cl_rel σ s g) (hi : md_inv B g) (hw : md_inw g) : jk_K G yX3_find mX3_find 0 0 [.ref f] n t σ ρ (fo_fQ f g σ n t ρ) jk_no := by
  obtain ⟨hf1, hf2, hf3, hf4, hs, hsf⟩ := id hf
  have i0 := hi.1
  have i1 := hi.2.1
  have i2 := hi.2.2.1.2
  refine jk_entryB (ls := [some (.ref f), none]) jm_X3_find.1 rfl rfl rfl ?_
  refine jk_aload_n (q := 1) dX3_find_0 rfl rfl ?_
  refine jk_cV0g (q := 4) (c_X3_putInOrder hf hr hi) jm_X3_putInOrder jw_501 rfl (by first | exact hf1 | exact hs.1 | exact hf2 _ _ rfl | exact hs.2.1 _ _ rfl | assumption) rfl rfl (Nat.zero_le _) (Nat.zero_le _) rfl dX3_find_1 rfl (fun v' n' t' σ' ρ' hq => ?_) (fun _ _ _ _ _ h => h.elim)
  obtain ⟨rfl, hn9, ht9, hr9, Od, N, hN16, hsr, rfl⟩ := hq
  replace hn9 := hn9.symm; replace ht9 := ht9.symm; replace hr9 := hr9.symm; subst hn9 ht9 hr9
  simp only [Option.toList_some, Option.toList_none, List.cons_append, List.nil_append, Nat.sub_zero]
  have htr0 : md_tr ((jk_fill (σ (f + 6)) (fun _ => 0) 16), (jk_fill (σ (f + 8)) (fun p => p) 10)) := ⟨fun l hl => Or.inl (if_pos (by omega)), fun p hp => by show 0 ≤ (jk_fill (σ (f + 8)) (fun p => p) 10) p ∧ (jk_fill (σ (f + 8)) (fun p => p) 10) p < 10; unfold jk_fill; rw [if_pos (by omega)]; exact hp⟩
  have hag0 : cm_agr ((jk_fill (σ (f + 6)) (fun _ => 0) 16), (jk_fill (σ (f + 8)) (fun p => p) 10)) (md_kr g 0) := ⟨fun l hl => if_pos (by omega), fun p hp => by show (jk_fill (σ (f + 8)) (fun p => p) 10) p = (if 0 ≤ p ∧ p < 10 then p else 0); unfold jk_fill; rw [if_pos (by omega), if_pos hp]⟩
  refine jk_iconst (q := 5) dX3_find_4 rfl ?_
  refine jk_istore1 (q := 6) dX3_find_5 rfl rfl rfl ?_
  have L6 : ∀ k6 : Nat, k6 ≤ 10 → ∀ (σ1 : jk_I), (h1 : σ1 = jk_row (jk_row (jk_row σ (f + 2) Od) f (jk_set (σ f) 2 (N : Int))) (f + 8) (jk_fill (σ (f + 8)) (fun p => p) k6)) → jk_J G mX3_find 6 [some (.ref f), some (jI (k6 : Int))] [] n t σ1 ρ 0 0 (fo_fQ f g σ n t ρ) jk_no := by
    refine jk_loop _ (fun k6 hk6 ih6 => ?_)
    intro σ1 h1
    have hq1 : σ1 (f + 8) = jk_fill (σ (f + 8)) (fun p => p) k6 := by rw [h1, jk_row_same]
    refine jk_iload_n (q := 7) dX3_find_6 rfl rfl ?_
    refine jk_bipush (q := 9) (y := 10) dX3_find_7 rfl (by decide) ?_
    refine jk_icmp_ge (q := 25) (q2 := 12) dX3_find_9 rfl rfl (by first | assumption | decide | omega | exact jB_01 _ | exact ⟨by omega, by omega⟩) (by first | assumption | decide | omega | exact jB_01 _ | exact ⟨by omega, by omega⟩) (fun z1 => ?_) (fun z1 => ?_)
    · refine jk_iconst (q := 26) dX3_find_25 rfl ?_
      refine jk_istore1 (q := 27) dX3_find_26 rfl rfl rfl ?_
      have L27 : ∀ k27 : Nat, k27 ≤ 16 → ∀ (σ1 : jk_I), (h1 : σ1 = jk_row (jk_row (jk_row (jk_row σ (f + 2) Od) f (jk_set (σ f) 2 (N : Int))) (f + 8) (jk_fill (σ (f + 8)) (fun p => p) 10)) (f + 6) (jk_fill (σ (f + 6)) (fun _ => 0) k27)) → jk_J G mX3_find 27 [some (.ref f), some (jI (k27 : Int))] [] n t σ1 ρ 0 0 (fo_fQ f g σ n t ρ) jk_no := by
        refine jk_loop _ (fun k27 hk27 ih27 => ?_)
        intro σ1 h1
        have hq1 : σ1 (f + 6) = jk_fill (σ (f + 6)) (fun _ => 0) k27 := by rw [h1, jk_row_same]
        refine jk_iload_n (q := 28) dX3_find_27 rfl rfl ?_
        refine jk_bipush (q := 30) (y := 16) dX3_find_28 rfl (by decide) ?_
        refine jk_icmp_ge (q := 46) (q2 := 33) dX3_find_30 rfl rfl (by first | assumption | decide | omega | exact jB_01 _ | exact ⟨by omega, by omega⟩) (by first | assumption | decide | omega | exact jB_01 _ | exact ⟨by omega, by omega⟩) (fun z2 => ?_) (fun z2 => ?_)
        · refine jk_iconst (q := 47) dX3_find_46 rfl ?_
          refine jk_istore1 (q := 48) dX3_find_47 rfl rfl rfl ?_
          have L48 : ∀ k48 : Nat, k48 ≤ N → ∀ (σ1 : jk_I), (h1 : σ1 = jk_row (jk_row (jk_row (jk_row σ (f + 2) Od) f (jk_set (σ f) 2 (N : Int))) (f + 6) (cm_fold g Od k48 ((jk_fill (σ (f + 6)) (fun _ => 0) 16), (jk_fill (σ (f + 8)) (fun p => p) 10))).1) (f + 8) (cm_fold g Od k48 ((jk_fill (σ (f + 6)) (fun _ => 0) 16), (jk_fill (σ (f + 8)) (fun p => p) 10))).2) → jk_J G mX3_find 48 [some (.ref f), some (jI (k48 : Int))] [] n t σ1 ρ 0 0 (fo_fQ f g σ n t ρ) jk_no := by
            refine jk_loop _ (fun k48 hk48 ih48 => ?_)
            intro σ1 h1
            have hr1 : cl_rel σ1 s g := cl_rel_same i2 (fun a h2 h3 => by rw [h1, jk_row_ne _ _ (by omega), jk_row_ne _ _ (by omega), jk_row_ne _ _ (by omega), jk_row_ne _ _ (by omega)]) hr
            have ho1 : σ1 f = jk_set (σ f) 2 (N : Int) := by rw [h1, jk_row_ne _ _ (by omega), jk_row_ne _ _ (by omega), jk_row_same]
            have hor1 : σ1 (f + 2) = Od := by rw [h1, jk_row_ne _ _ (by omega), jk_row_ne _ _ (by omega), jk_row_ne _ _ (by omega), jk_row_same]
            have hT1 : σ1 (f + 6) = (cm_fold g Od k48 ((jk_fill (σ (f + 6)) (fun _ => 0) 16), (jk_fill (σ (f + 8)) (fun p => p) 10))).1 := by rw [h1, jk_row_ne _ _ (by omega), jk_row_same]
            have hR1 : σ1 (f + 8) = (cm_fold g Od k48 ((jk_fill (σ (f + 6)) (fun _ => 0) 16), (jk_fill (σ (f + 8)) (fun p => p) 10))).2 := by rw [h1, jk_row_same]
            have htr := cm_fold_tr hi hsr htr0 k48 (by omega)
            refine jk_iload_n (q := 49) dX3_find_48 rfl rfl ?_
            refine jk_aload_n (q := 50) dX3_find_49 rfl rfl ?_
            refine jk_getIR (q := 53) (k := 3) 2 2 rfl (by first | exact hf1 | exact hs.1 | exact hf2 _ _ rfl | exact hs.2.1 _ _ rfl | assumption) (by first | exact jk_row_same _ _ _ | ((repeat rewrite [jk_row_ne _ _ (by omega)]); first | exact jk_row_same _ _ _ | exact ho1 | exact hor1 | rfl)) rfl rfl jw_191 dX3_find_50 rfl ?_
            rw [jk_set_at]
            refine jk_icmp_ge (q := 72) (q2 := 56) dX3_find_53 rfl rfl (by first | assumption | decide | omega | exact jB_01 _ | exact ⟨by omega, by omega⟩) (by first | assumption | decide | omega | exact jB_01 _ | exact ⟨by omega, by omega⟩) (fun z3 => ?_) (fun z3 => ?_)
            · exact jk_ret rfl dX3_find_72 (by 
                  have hk9 : k48 = N := by omega
                  subst hk9
                  have hag := cm_agr_fold hi hsr hag0 k48 (Nat.le_refl _)
                  rw [cm_fold_all (cm_pt_of hi hw) hsr] at hag
                  exact ⟨rfl, rfl, rfl, rfl, fun a a1 a2 a3 a4 => by rw [h1, jk_row_ne _ _ a4, jk_row_ne _ _ a3, jk_row_ne _ _ a1, jk_row_ne _ _ a2], fun l hl => by rw [hT1]; exact hag.1 l hl, fun p hp => by rw [hR1]; exact hag.2 p hp, k48, hN16, by rw [ho1, jk_set_at], by rw [hor1]; exact hsr⟩)
            · have hb48 := hsr.1 k48 (by omega)
              refine jk_aload_n (q := 57) dX3_find_56 rfl rfl ?_
              refine jk_aload_n (q := 58) dX3_find_57 rfl rfl ?_
              refine jk_getA (q := 61) (k := 3) 1 1 rfl (by first | exact hf1 | exact hs.1 | exact hf2 _ _ rfl | exact hs.2.1 _ _ rfl | assumption) (by first | exact hf4 | exact hf3 _ _ rfl | exact hs.2.2.1 _ _ rfl | assumption) rfl rfl jw_190 dX3_find_58 rfl ?_
              refine jk_iload_n (q := 62) dX3_find_61 rfl rfl ?_
              refine jk_ialdR (q := 63) (by first | exact hf1 | exact hs.1 | exact hf2 _ _ rfl | exact hs.2.1 _ _ rfl | assumption) (by first | exact jk_row_same _ _ _ | ((repeat rewrite [jk_row_ne _ _ (by omega)]); first | exact jk_row_same _ _ _ | exact ho1 | exact hor1 | rfl)) (by first | assumption | decide | omega | exact jB_01 _ | exact ⟨by omega, by omega⟩) dX3_find_62 rfl ?_
              refine jk_cV1v (q := 66) (c_X3_consider hf hr1 hi hT1 hR1 htr.2 hb48.1 hb48.2) jm_X3_consider jw_519 rfl (by first | exact hf1 | exact hs.1 | exact hf2 _ _ rfl | exact hs.2.1 _ _ rfl | assumption) rfl rfl rfl dX3_find_63 rfl ?_
              refine jk_iinc1 (q := 69) dX3_find_66 rfl rfl rfl ?_
              refine jk_goto (q := 48) dX3_find_69 rfl ?_
              exact jk_convw (ih48 (by omega) _ (by rw [h1, jk_rr _ _ _ _ _ (show f + 6 ≠ f + 8 by omega)]; rfl)) (jk_wkS rfl (jk_wkS rfl jk_wk0))
          have h27 : σ1 = jk_row (jk_row (jk_row (jk_row σ (f + 2) Od) f (jk_set (σ f) 2 (N : Int))) (f + 8) (jk_fill (σ (f + 8)) (fun p => p) 10)) (f + 6) (jk_fill (σ (f + 6)) (fun _ => 0) 16) := by rw [h1, show k27 = 16 by omega]
          exact jk_convw (L48 0 (Nat.zero_le _) _ (by rw [h27, jk_row_comm _ _ _ (show f + 8 ≠ f + 6 by omega)]; rfl)) (jk_wkS rfl (jk_wkS rfl jk_wk0))
        · refine jk_aload_n (q := 34) dX3_find_33 rfl rfl ?_
          refine jk_getA (q := 37) (k := 3) 4 4 rfl (by first | exact hf1 | exact hs.1 | exact hf2 _ _ rfl | exact hs.2.1 _ _ rfl | assumption) (by first | exact hf4 | exact hf3 _ _ rfl | exact hs.2.2.1 _ _ rfl | assumption) rfl rfl jw_193 dX3_find_34 rfl ?_
          refine jk_iload_n (q := 38) dX3_find_37 rfl rfl ?_
          refine jk_iconst (q := 39) dX3_find_38 rfl ?_
          refine jk_zastR (q := 40) (by first | exact hf1 | exact hs.1 | exact hf2 _ _ rfl | exact hs.2.1 _ _ rfl | assumption) (by first | exact jk_row_same _ _ _ | ((repeat rewrite [jk_row_ne _ _ (by omega)]); first | exact jk_row_same _ _ _ | exact hq1 | rfl)) (by first | assumption | decide | omega | exact jB_01 _ | exact ⟨by omega, by omega⟩) (by first | assumption | decide | omega | exact jB_01 _ | exact ⟨by omega, by omega⟩) dX3_find_39 rfl ?_
          refine jk_iinc1 (q := 43) dX3_find_40 rfl rfl rfl ?_
          refine jk_goto (q := 27) dX3_find_43 rfl ?_
          exact jk_convw (ih27 (by omega) _ (by rw [h1, jk_row_row]; exact congrArg (jk_row _ (f + 6)) (jk_fill_S _ _ _ _ rfl))) (jk_wkS rfl (jk_wkS rfl jk_wk0))
      have h6 : σ1 = jk_row (jk_row (jk_row σ (f + 2) Od) f (jk_set (σ f) 2 (N : Int))) (f + 8) (jk_fill (σ (f + 8)) (fun p => p) 10) := by rw [h1, show k6 = 10 by omega]
      clear h1
      have e27 : jk_row (jk_row (jk_row (jk_row σ (f + 2) Od) f (jk_set (σ f) 2 (N : Int))) (f + 8) (jk_fill (σ (f + 8)) (fun p => p) 10)) (f + 6) (jk_fill (σ (f + 6)) (fun _ => 0) 0) = jk_row (jk_row (jk_row σ (f + 2) Od) f (jk_set (σ f) 2 (N : Int))) (f + 8) (jk_fill (σ (f + 8)) (fun p => p) 10) := by rw [jk_fill_0]; conv => rhs; rw [← jk_row_self (jk_row (jk_row (jk_row σ (f + 2) Od) f (jk_set (σ f) 2 (N : Int))) (f + 8) (jk_fill (σ (f + 8)) (fun p => p) 10)) (f + 6), jk_row_ne _ _ (show f + 6 ≠ f + 8 by omega), jk_row_ne _ _ (show f + 6 ≠ f by omega), jk_row_ne _ _ (show f + 6 ≠ f + 2 by omega)]
      exact jk_convw (L27 0 (Nat.zero_le _) _ (h6.trans e27.symm)) (jk_wkS rfl (jk_wkS rfl jk_wk0))
    · refine jk_aload_n (q := 13) dX3_find_12 rfl rfl ?_
      refine jk_getA (q := 16) (k := 3) 5 5 rfl (by first | exact hf1 | exact hs.1 | exact hf2 _ _ rfl | exact hs.2.1 _ _ rfl | assumption) (by first | exact hf4 | exact hf3 _ _ rfl | exact hs.2.2.1 _ _ rfl | assumption) rfl rfl jw_197 dX3_find_13 rfl ?_
      refine jk_iload_n (q := 17) dX3_find_16 rfl rfl ?_
      refine jk_iload_n (q := 18) dX3_find_17 rfl rfl ?_
      refine jk_iastR (q := 19) (by first | exact hf1 | exact hs.1 | exact hf2 _ _ rfl | exact hs.2.1 _ _ rfl | assumption) (by first | exact jk_row_same _ _ _ | ((repeat rewrite [jk_row_ne _ _ (by omega)]); first | exact jk_row_same _ _ _ | exact hq1 | rfl)) (by first | assumption | decide | omega | exact jB_01 _ | exact ⟨by omega, by omega⟩) dX3_find_18 rfl ?_
      refine jk_iinc1 (q := 22) dX3_find_19 rfl rfl rfl ?_
      refine jk_goto (q := 6) dX3_find_22 rfl ?_
      exact jk_convw (ih6 (by omega) _ (by rw [h1, jk_row_row]; exact congrArg (jk_row _ (f + 8)) (jk_fill_S _ _ _ _ rfl))) (jk_wkS rfl (jk_wkS rfl jk_wk0))
  have e6 : jk_row (jk_row (jk_row σ (f + 2) Od) f (jk_set (σ f) 2 (N : Int))) (f + 8) (jk_fill (σ (f + 8)) (fun p => p) 0) = (jk_row (jk_row σ (f + 2) Od) f (jk_set (σ f) 2 (N : Int))) := by rw [jk_fill_0]; conv => rhs; rw [← jk_row_self (jk_row (jk_row σ (f + 2) Od) f (jk_set (σ f) 2 (N : Int))) (f + 8), jk_row_ne _ _ (show f + 8 ≠ f by omega), jk_row_ne _ _ (show f + 8 ≠ f + 2 by omega)]
  exact jk_convw (L6 0 (Nat.zero_le _) _ e6.symm) (jk_wkS rfl (jk_wkS rfl jk_wk0))
end CF2
