section E5
theorem c_X12_isConsistent {G : jk_G} {n : Nat} {t : jk_T} {σ : jk_I} {ρ : jk_P} {x : Nat} {g : Int → Int} {B : Int}  (hz : zz_ok G) (hx : zx_ok G) (hln : ln_at t ρ x) (hr : cl_rel σ (x + 2) g) (ha : md_all B g) (hnn : cl_nn σ (x + 2)) (hsi : md_sit g) (hB : B ≤ 100000) : jk_K G yX12_isConsistent mX12_isConsistent 0 0 [.ref x] n t σ ρ (ln_RQ x (0) (jI 1) σ n t ρ) jk_no := by
  obtain ⟨hx0, ⟨hx1, hx2, hx3, hx4, hx5, hx6, hx7, hx8, hx9, hx10, hx11, hx12⟩, hB4, hSN, hH, hhe, hba, hch, hsc⟩ := id hln
  obtain ⟨hcc, hwa, hsh, hwy, hyc⟩ := id hch
  obtain ⟨-, -, hfo, hfw⟩ := id hwa
  obtain ⟨-, -, -, -, hs, hsf⟩ := id hfo
  have hi := ha.1
  have hw := ha.2.1
  have hxx := ha.2.2.1
  have i0 := hi.1
  have i1 := hi.2.1
  have i2 := hi.2.2.1
  have i3 := hi.2.2.2.1
  obtain ⟨q0, q1, q2, q3⟩ := hr.1
  have hf0 : ln_fr x σ σ := fun _ _ => rfl
  refine jk_entryB (ls := [some (.ref x)]) jm_X12_isConsistent.1 rfl rfl rfl ?_
  refine jk_aload_n (q := 1) dX12_isConsistent_0 rfl rfl ?_
  refine jk_getA (q := 4) (k := 12) 5 5 rfl (by first | exact hx0 | exact hs.1 | exact hs.2.1 _ _ rfl | exact hfo.1 | exact hfo.2.1 _ _ rfl | exact hwa.1.1 | exact hwa.1.2.1 | exact hwa.1.2.2 | exact hsh.1.1 | exact hsh.1.2.1 | exact hhe.1.1 | exact hba.1.1 | exact hcc.1 | exact hH.1 | exact hsc.1.1 | exact hB4.1 | exact hSN.1 | assumption) (by first | assumption | exact hs.2.2.1 _ _ rfl | exact hfo.2.2.1 _ _ rfl | exact hwa.2.1.2.2.1 | exact hsh.2.1.2.1) rfl rfl jw_380 dX12_isConsistent_1 rfl ?_
  refine jk_cV0g (q := 7) (c_X3_find hfo hr hi hw) jm_X3_find jw_865 rfl (by first | exact hx0 | exact hs.1 | exact hs.2.1 _ _ rfl | exact hfo.1 | exact hfo.2.1 _ _ rfl | exact hwa.1.1 | exact hwa.1.2.1 | exact hwa.1.2.2 | exact hsh.1.1 | exact hsh.1.2.1 | exact hhe.1.1 | exact hba.1.1 | exact hcc.1 | exact hH.1 | exact hsc.1.1 | exact hB4.1 | exact hSN.1 | assumption) rfl rfl (Nat.zero_le _) (Nat.zero_le _) rfl dX12_isConsistent_4 rfl (fun v' n' t' σ1 ρ' hq => ?_) (fun _ _ _ _ _ h => h.elim)
  obtain ⟨rfl, hn9, ht9, hr9, hp1⟩ := hq
  replace hn9 := hn9.symm; replace ht9 := ht9.symm; replace hr9 := hr9.symm; subst hn9 ht9 hr9
  simp only [Option.toList_some, Option.toList_none, List.cons_append, List.nil_append, Nat.sub_zero]
  have hf1 : ln_fr x σ σ1 := fun a h => (hp1.1 a (by omega) (by omega) (by omega) (by omega)).trans (hf0 a h)
  have hr1 : cl_rel σ1 (x + 2) g := cl_rel_same i2.2 (fun a h1 h2 => hf1 a (Or.inl (by omega))) hr
  have ho1 := hp1.2
  refine jk_aload_n (q := 8) dX12_isConsistent_7 rfl rfl ?_
  refine jk_getA (q := 11) (k := 12) 5 5 rfl (by first | exact hx0 | exact hs.1 | exact hs.2.1 _ _ rfl | exact hfo.1 | exact hfo.2.1 _ _ rfl | exact hwa.1.1 | exact hwa.1.2.1 | exact hwa.1.2.2 | exact hsh.1.1 | exact hsh.1.2.1 | exact hhe.1.1 | exact hba.1.1 | exact hcc.1 | exact hH.1 | exact hsc.1.1 | exact hB4.1 | exact hSN.1 | assumption) (by first | assumption | exact hs.2.2.1 _ _ rfl | exact hfo.2.2.1 _ _ rfl | exact hwa.2.1.2.2.1 | exact hsh.2.1.2.1) rfl rfl jw_380 dX12_isConsistent_8 rfl ?_
  refine jk_cV0p (q := 14) (c_X3_takenLength hfo hr1 hi ho1) jm_X3_takenLength jw_989 rfl (by first | exact hx0 | exact hs.1 | exact hs.2.1 _ _ rfl | exact hfo.1 | exact hfo.2.1 _ _ rfl | exact hwa.1.1 | exact hwa.1.2.1 | exact hwa.1.2.2 | exact hsh.1.1 | exact hsh.1.2.1 | exact hhe.1.1 | exact hba.1.1 | exact hcc.1 | exact hH.1 | exact hsc.1.1 | exact hB4.1 | exact hSN.1 | assumption) rfl rfl rfl dX12_isConsistent_11 rfl ?_
  refine jk_aload_n (q := 15) dX12_isConsistent_14 rfl rfl ?_
  refine jk_getA (q := 18) (k := 12) 5 5 rfl (by first | exact hx0 | exact hs.1 | exact hs.2.1 _ _ rfl | exact hfo.1 | exact hfo.2.1 _ _ rfl | exact hwa.1.1 | exact hwa.1.2.1 | exact hwa.1.2.2 | exact hsh.1.1 | exact hsh.1.2.1 | exact hhe.1.1 | exact hba.1.1 | exact hcc.1 | exact hH.1 | exact hsc.1.1 | exact hB4.1 | exact hSN.1 | assumption) (by first | assumption | exact hs.2.2.1 _ _ rfl | exact hfo.2.2.1 _ _ rfl | exact hwa.2.1.2.2.1 | exact hsh.2.1.2.1) rfl rfl jw_380 dX12_isConsistent_15 rfl ?_
  refine jk_cV0g (q := 21) (c_X3_grownLength hfo hr1 hi hw ho1) jm_X3_grownLength jw_997 rfl (by first | exact hx0 | exact hs.1 | exact hs.2.1 _ _ rfl | exact hfo.1 | exact hfo.2.1 _ _ rfl | exact hwa.1.1 | exact hwa.1.2.1 | exact hwa.1.2.2 | exact hsh.1.1 | exact hsh.1.2.1 | exact hhe.1.1 | exact hba.1.1 | exact hcc.1 | exact hH.1 | exact hsc.1.1 | exact hB4.1 | exact hSN.1 | assumption) rfl rfl (Nat.zero_le _) (Nat.zero_le _) rfl dX12_isConsistent_18 rfl (fun v' n' t' σ2 ρ' hq => ?_) (fun _ _ _ _ _ h => h.elim)
  obtain ⟨rfl, hn9, ht9, hr9, K1, hk1⟩ := hq
  replace hn9 := hn9.symm; replace ht9 := ht9.symm; replace hr9 := hr9.symm; subst hn9 ht9 hr9
  simp only [Option.toList_some, Option.toList_none, List.cons_append, List.nil_append, Nat.sub_zero]
  have hf2 : ln_fr x σ σ2 := fun a h => by rw [hk1, jk_row_ne _ _ (by omega)]; exact hf1 a h
  have hr2 : cl_rel σ2 (x + 2) g := cl_rel_same i2.2 (fun a h1 h2 => hf2 a (Or.inl (by omega))) hr
  have ho2 : fo_ok σ2 (x + 512) g := by
    obtain ⟨u1, u2, u3⟩ := ho1
    subst hk1
    exact ⟨fun l hl => by rw [jk_row_ne _ _ (by omega)]; exact u1 l hl, fun p hp => by rw [jk_row_ne _ _ (by omega)]; exact u2 p hp, by rw [jk_row_ne _ _ (by omega), jk_row_ne _ _ (by omega)]; exact u3⟩
  have hnn2 : cl_nn σ2 (x + 2) := cl_nn_same (fun q hq => hf2 _ (Or.inl (by omega))) hnn
  have heu := ln_euler hi hw
  have hbd := jk_sum_bd2 (f := fun l => md_T g l * g (56 + l)) (a := 0) (b := 50) (g 1).toNat (fun l h0 h1 => by
    have hT : md_T g l = 0 ∨ md_T g l = 1 := (md_kr_tr hi 50).1 l ⟨h0, by omega⟩
    have := (md_inv_ln hi (l := l) ⟨h0, by omega⟩).2.2.1
    show 0 ≤ md_T g l * g (56 + l) ∧ md_T g l * g (56 + l) ≤ 50
    rcases hT with h | h <;> rw [h] <;> omega)
  refine jk_icmp_ne (q := 82) (q2 := 24) dX12_isConsistent_21 rfl rfl (by first | assumption | decide | omega | exact jB_01 _ | exact jB_in _ | exact ⟨by omega, by omega⟩) (by first | assumption | decide | omega | exact jB_01 _ | exact jB_in _ | exact ⟨by omega, by omega⟩) (fun z1 => ?_) (fun z1 => ?_)
  · refine jk_iconst (q := 83) dX12_isConsistent_82 rfl ?_
    exact jk_zret rfl (by first | assumption | decide | omega | exact jB_01 _ | exact jB_in _ | exact ⟨by omega, by omega⟩) dX12_isConsistent_83 (by first | exact ⟨rfl, rfl, rfl, rfl, rfl, hf5⟩ | exact absurd rfl (by assumption) | exact Bool.noConfusion (by assumption : true = false) | (exfalso; omega))
  · refine jk_aload_n (q := 25) dX12_isConsistent_24 rfl rfl ?_
    refine jk_getA (q := 28) (k := 12) 5 5 rfl (by first | exact hx0 | exact hs.1 | exact hs.2.1 _ _ rfl | exact hfo.1 | exact hfo.2.1 _ _ rfl | exact hwa.1.1 | exact hwa.1.2.1 | exact hwa.1.2.2 | exact hsh.1.1 | exact hsh.1.2.1 | exact hhe.1.1 | exact hba.1.1 | exact hcc.1 | exact hH.1 | exact hsc.1.1 | exact hB4.1 | exact hSN.1 | assumption) (by first | assumption | exact hs.2.2.1 _ _ rfl | exact hfo.2.2.1 _ _ rfl | exact hwa.2.1.2.2.1 | exact hsh.2.1.2.1) rfl rfl jw_380 dX12_isConsistent_25 rfl ?_
    refine jk_cV0p (q := 31) (c_X3_loops hfo hr2 hi ho2) jm_X3_loops jw_1021 rfl (by first | exact hx0 | exact hs.1 | exact hs.2.1 _ _ rfl | exact hfo.1 | exact hfo.2.1 _ _ rfl | exact hwa.1.1 | exact hwa.1.2.1 | exact hwa.1.2.2 | exact hsh.1.1 | exact hsh.1.2.1 | exact hhe.1.1 | exact hba.1.1 | exact hcc.1 | exact hH.1 | exact hsc.1.1 | exact hB4.1 | exact hSN.1 | assumption) rfl rfl rfl dX12_isConsistent_28 rfl ?_
    refine jk_aload_n (q := 32) dX12_isConsistent_31 rfl rfl ?_
    refine jk_getA (q := 35) (k := 12) 0 0 rfl (by first | exact hx0 | exact hs.1 | exact hs.2.1 _ _ rfl | exact hfo.1 | exact hfo.2.1 _ _ rfl | exact hwa.1.1 | exact hwa.1.2.1 | exact hwa.1.2.2 | exact hsh.1.1 | exact hsh.1.2.1 | exact hhe.1.1 | exact hba.1.1 | exact hcc.1 | exact hH.1 | exact hsc.1.1 | exact hB4.1 | exact hSN.1 | assumption) (by first | assumption | exact hs.2.2.1 _ _ rfl | exact hfo.2.2.1 _ _ rfl | exact hwa.2.1.2.2.1 | exact hsh.2.1.2.1) rfl rfl jw_375 dX12_isConsistent_32 rfl ?_
    refine jk_cV0p (q := 38) (c_X9_usableLines hs hr2 hi) jm_X9_usableLines jw_1153 rfl (by first | exact hx0 | exact hs.1 | exact hs.2.1 _ _ rfl | exact hfo.1 | exact hfo.2.1 _ _ rfl | exact hwa.1.1 | exact hwa.1.2.1 | exact hwa.1.2.2 | exact hsh.1.1 | exact hsh.1.2.1 | exact hhe.1.1 | exact hba.1.1 | exact hcc.1 | exact hH.1 | exact hsc.1.1 | exact hB4.1 | exact hSN.1 | assumption) rfl rfl rfl dX12_isConsistent_35 rfl ?_
    refine jk_aload_n (q := 39) dX12_isConsistent_38 rfl rfl ?_
    refine jk_getA (q := 42) (k := 12) 0 0 rfl (by first | exact hx0 | exact hs.1 | exact hs.2.1 _ _ rfl | exact hfo.1 | exact hfo.2.1 _ _ rfl | exact hwa.1.1 | exact hwa.1.2.1 | exact hwa.1.2.2 | exact hsh.1.1 | exact hsh.1.2.1 | exact hhe.1.1 | exact hba.1.1 | exact hcc.1 | exact hH.1 | exact hsc.1.1 | exact hB4.1 | exact hSN.1 | assumption) (by first | assumption | exact hs.2.2.1 _ _ rfl | exact hfo.2.2.1 _ _ rfl | exact hwa.2.1.2.2.1 | exact hsh.2.1.2.1) rfl rfl jw_375 dX12_isConsistent_39 rfl ?_
    refine jk_getIR (q := 45) (k := 9) 0 0 rfl (by first | exact hx0 | exact hs.1 | exact hs.2.1 _ _ rfl | exact hfo.1 | exact hfo.2.1 _ _ rfl | exact hwa.1.1 | exact hwa.1.2.1 | exact hwa.1.2.2 | exact hsh.1.1 | exact hsh.1.2.1 | exact hhe.1.1 | exact hba.1.1 | exact hcc.1 | exact hH.1 | exact hsc.1.1 | exact hB4.1 | exact hSN.1 | assumption) (by first | exact jk_row_same _ _ _ | ((repeat rewrite [jk_row_ne _ _ (by omega)]); first | exact jk_row_same _ _ _ | rfl)) rfl rfl jw_58 dX12_isConsistent_42 rfl ?_
    rw [hr2.1.1]
    refine jk_isub (q := 46) dX12_isConsistent_45 rfl ?_
    refine jk_aload_n (q := 47) dX12_isConsistent_46 rfl rfl ?_
    refine jk_getA (q := 50) (k := 12) 5 5 rfl (by first | exact hx0 | exact hs.1 | exact hs.2.1 _ _ rfl | exact hfo.1 | exact hfo.2.1 _ _ rfl | exact hwa.1.1 | exact hwa.1.2.1 | exact hwa.1.2.2 | exact hsh.1.1 | exact hsh.1.2.1 | exact hhe.1.1 | exact hba.1.1 | exact hcc.1 | exact hH.1 | exact hsc.1.1 | exact hB4.1 | exact hSN.1 | assumption) (by first | assumption | exact hs.2.2.1 _ _ rfl | exact hfo.2.2.1 _ _ rfl | exact hwa.2.1.2.2.1 | exact hsh.2.1.2.1) rfl rfl jw_380 dX12_isConsistent_47 rfl ?_
    refine jk_cV0p (q := 53) (c_X3_trees hfo hr2 hi ho2) jm_X3_trees jw_1013 rfl (by first | exact hx0 | exact hs.1 | exact hs.2.1 _ _ rfl | exact hfo.1 | exact hfo.2.1 _ _ rfl | exact hwa.1.1 | exact hwa.1.2.1 | exact hwa.1.2.2 | exact hsh.1.1 | exact hsh.1.2.1 | exact hhe.1.1 | exact hba.1.1 | exact hcc.1 | exact hH.1 | exact hsc.1.1 | exact hB4.1 | exact hSN.1 | assumption) rfl rfl rfl dX12_isConsistent_50 rfl ?_
    refine jk_iadd (q := 54) dX12_isConsistent_53 rfl ?_
    rw [show jk_sum (fun l => jB (md_good g l)) (g 1).toNat = md_goods g from rfl]
    have hlb1 := md_sumB (fun l => md_clo g (md_T g) l) (g 1).toNat
    refine jk_icmp_ne (q := 82) (q2 := 57) dX12_isConsistent_54 rfl rfl (by first | assumption | decide | omega | exact jB_01 _ | exact jB_in _ | exact ⟨by omega, by omega⟩) (by first | assumption | decide | omega | exact jB_01 _ | exact jB_in _ | exact ⟨by omega, by omega⟩) (fun z2 => ?_) (fun z2 => ?_)
    · refine jk_iconst (q := 83) dX12_isConsistent_82 rfl ?_
      exact jk_zret rfl (by first | assumption | decide | omega | exact jB_01 _ | exact jB_in _ | exact ⟨by omega, by omega⟩) dX12_isConsistent_83 (by first | exact ⟨rfl, rfl, rfl, rfl, rfl, hf5⟩ | exact absurd rfl (by assumption) | exact Bool.noConfusion (by assumption : true = false) | (exfalso; omega))
    · refine jk_aload_n (q := 58) dX12_isConsistent_57 rfl rfl ?_
      refine jk_cV0g (q := 61) (c_X12_heightsAgree hz hx hln hr2 ha hnn2 hsi ho2 hB) jm_X12_heightsAgree jw_1183 rfl (by first | exact hx0 | exact hs.1 | exact hs.2.1 _ _ rfl | exact hfo.1 | exact hfo.2.1 _ _ rfl | exact hwa.1.1 | exact hwa.1.2.1 | exact hwa.1.2.2 | exact hsh.1.1 | exact hsh.1.2.1 | exact hhe.1.1 | exact hba.1.1 | exact hcc.1 | exact hH.1 | exact hsc.1.1 | exact hB4.1 | exact hSN.1 | assumption) rfl rfl (by decide) (by decide) rfl dX12_isConsistent_58 rfl (fun v' n' t' σ3 ρ' hq => ?_) (fun _ _ _ _ _ h => h.elim)
      obtain ⟨rfl, hn9, ht9, hr9, hf3a, ho3⟩ := hq
      replace hn9 := hn9.symm; replace ht9 := ht9.symm; replace hr9 := hr9.symm; subst hn9 ht9 hr9
      simp only [Option.toList_some, Option.toList_none, List.cons_append, List.nil_append, Nat.sub_zero]
      have hf3 : ln_fr x σ σ3 := fun a h => (hf3a a h).trans (hf2 a h)
      have hr3 : cl_rel σ3 (x + 2) g := cl_rel_same i2.2 (fun a h1 h2 => hf3 a (Or.inl (by omega))) hr
      have hnn3 : cl_nn σ3 (x + 2) := cl_nn_same (fun q hq => hf3 _ (Or.inl (by omega))) hnn
      refine jk_ifB_eq (q := 82) (q2 := 64) dX12_isConsistent_61 rfl rfl (fun z3 => ?_) (fun z3 => ?_)
      · refine jk_iconst (q := 83) dX12_isConsistent_82 rfl ?_
        exact jk_zret rfl (by first | assumption | decide | omega | exact jB_01 _ | exact jB_in _ | exact ⟨by omega, by omega⟩) dX12_isConsistent_83 (by first | exact ⟨rfl, rfl, rfl, rfl, rfl, hf5⟩ | exact absurd rfl (by assumption) | exact Bool.noConfusion (by assumption : true = false) | (exfalso; omega))
      · refine jk_aload_n (q := 65) dX12_isConsistent_64 rfl rfl ?_
        refine jk_cV0g (q := 68) (c_X12_misclosuresAgree hz hx hln hr3 ha hnn3 hsi ho3 hB) jm_X12_misclosuresAgree jw_1187 rfl (by first | exact hx0 | exact hs.1 | exact hs.2.1 _ _ rfl | exact hfo.1 | exact hfo.2.1 _ _ rfl | exact hwa.1.1 | exact hwa.1.2.1 | exact hwa.1.2.2 | exact hsh.1.1 | exact hsh.1.2.1 | exact hhe.1.1 | exact hba.1.1 | exact hcc.1 | exact hH.1 | exact hsc.1.1 | exact hB4.1 | exact hSN.1 | assumption) rfl rfl (by decide) (by decide) rfl dX12_isConsistent_65 rfl (fun v' n' t' σ4 ρ' hq => ?_) (fun _ _ _ _ _ h => h.elim)
        obtain ⟨rfl, hn9, ht9, hr9, hf4a, ho4⟩ := hq
        replace hn9 := hn9.symm; replace ht9 := ht9.symm; replace hr9 := hr9.symm; subst hn9 ht9 hr9
        simp only [Option.toList_some, Option.toList_none, List.cons_append, List.nil_append, Nat.sub_zero]
        have hf4 : ln_fr x σ σ4 := fun a h => (hf4a a h).trans (hf3 a h)
        have hr4 : cl_rel σ4 (x + 2) g := cl_rel_same i2.2 (fun a h1 h2 => hf4 a (Or.inl (by omega))) hr
        have hnn4 : cl_nn σ4 (x + 2) := cl_nn_same (fun q hq => hf4 _ (Or.inl (by omega))) hnn
        refine jk_ifB_eq (q := 82) (q2 := 71) dX12_isConsistent_68 rfl rfl (fun z4 => ?_) (fun z4 => ?_)
        · refine jk_iconst (q := 83) dX12_isConsistent_82 rfl ?_
          exact jk_zret rfl (by first | assumption | decide | omega | exact jB_01 _ | exact jB_in _ | exact ⟨by omega, by omega⟩) dX12_isConsistent_83 (by first | exact ⟨rfl, rfl, rfl, rfl, rfl, hf5⟩ | exact absurd rfl (by assumption) | exact Bool.noConfusion (by assumption : true = false) | (exfalso; omega))
        · refine jk_aload_n (q := 72) dX12_isConsistent_71 rfl rfl ?_
          refine jk_cV0g (q := 75) (c_X12_wetColumnsAgree hz hx hln hr4 ha hnn4 hsi ho4 hB) jm_X12_wetColumnsAgree jw_1191 rfl (by first | exact hx0 | exact hs.1 | exact hs.2.1 _ _ rfl | exact hfo.1 | exact hfo.2.1 _ _ rfl | exact hwa.1.1 | exact hwa.1.2.1 | exact hwa.1.2.2 | exact hsh.1.1 | exact hsh.1.2.1 | exact hhe.1.1 | exact hba.1.1 | exact hcc.1 | exact hH.1 | exact hsc.1.1 | exact hB4.1 | exact hSN.1 | assumption) rfl rfl (by decide) (by decide) rfl dX12_isConsistent_72 rfl (fun v' n' t' σ5 ρ' hq => ?_) (fun _ _ _ _ _ h => h.elim)
          obtain ⟨rfl, hn9, ht9, hr9, hf5a, ho5⟩ := hq
          replace hn9 := hn9.symm; replace ht9 := ht9.symm; replace hr9 := hr9.symm; subst hn9 ht9 hr9
          simp only [Option.toList_some, Option.toList_none, List.cons_append, List.nil_append, Nat.sub_zero]
          have hf5 : ln_fr x σ σ5 := fun a h => (hf5a a h).trans (hf4 a h)
          refine jk_ifB_eq (q := 82) (q2 := 78) dX12_isConsistent_75 rfl rfl (fun z5 => ?_) (fun z5 => ?_)
          · refine jk_iconst (q := 83) dX12_isConsistent_82 rfl ?_
            exact jk_zret rfl (by first | assumption | decide | omega | exact jB_01 _ | exact jB_in _ | exact ⟨by omega, by omega⟩) dX12_isConsistent_83 (by first | exact ⟨rfl, rfl, rfl, rfl, rfl, hf5⟩ | exact absurd rfl (by assumption) | exact Bool.noConfusion (by assumption : true = false) | (exfalso; omega))
          · refine jk_iconst (q := 79) dX12_isConsistent_78 rfl ?_
            refine jk_goto (q := 83) dX12_isConsistent_79 rfl ?_
            exact jk_zret rfl (by first | assumption | decide | omega | exact jB_01 _ | exact jB_in _ | exact ⟨by omega, by omega⟩) dX12_isConsistent_83 (by first | exact ⟨rfl, rfl, rfl, rfl, rfl, hf5⟩ | exact absurd rfl (by assumption) | exact Bool.noConfusion (by assumption : true = false) | (exfalso; omega))
def ex_t : Nat → String := fun k => match k with
  | 1 => "java/lang/IndexOutOfBoundsException" | 2 => "java/lang/IllegalArgumentException" | 3 => "java/lang/IllegalStateException" | 4 => "java/util/NoSuchElementException" | _ => "java/lang/UnsupportedOperationException"
theorem cl_do_bd (k : Nat) (g : Int → Int) (a b c d : Int) : 0 ≤ (cl_do k g a b c d).1 ∧ (cl_do k g a b c d).1 ≤ 3 := by
  unfold cl_do
  split
  · unfold md_addsPoint; (repeat' split) <;> first | (show (0 : Int) ≤ 1 ∧ (1 : Int) ≤ 3; decide) | (show (0 : Int) ≤ 0 ∧ (0 : Int) ≤ 3; decide)
  · unfold md_fixes; (repeat' split) <;> first | (show (0 : Int) ≤ 1 ∧ (1 : Int) ≤ 3; decide) | (show (0 : Int) ≤ 2 ∧ (2 : Int) ≤ 3; decide) | (show (0 : Int) ≤ 0 ∧ (0 : Int) ≤ 3; decide)
  · unfold md_releases; (repeat' split) <;> first | (show (0 : Int) ≤ 1 ∧ (1 : Int) ≤ 3; decide) | (show (0 : Int) ≤ 2 ∧ (2 : Int) ≤ 3; decide) | (show (0 : Int) ≤ 0 ∧ (0 : Int) ≤ 3; decide)
  · unfold md_addsLine; (repeat' split) <;> first | (show (0 : Int) ≤ 1 ∧ (1 : Int) ≤ 3; decide) | (show (0 : Int) ≤ 2 ∧ (2 : Int) ≤ 3; decide) | (show (0 : Int) ≤ 3 ∧ (3 : Int) ≤ 3; decide) | (show (0 : Int) ≤ 0 ∧ (0 : Int) ≤ 3; decide)
  · unfold md_addsRun; (repeat' split) <;> first | (show (0 : Int) ≤ 1 ∧ (1 : Int) ≤ 3; decide) | (show (0 : Int) ≤ 2 ∧ (2 : Int) ≤ 3; decide) | (show (0 : Int) ≤ 3 ∧ (3 : Int) ≤ 3; decide) | (show (0 : Int) ≤ 0 ∧ (0 : Int) ≤ 3; decide)
  · unfold md_marks; (repeat' split) <;> first | (show (0 : Int) ≤ 1 ∧ (1 : Int) ≤ 3; decide) | (show (0 : Int) ≤ 2 ∧ (2 : Int) ≤ 3; decide) | (show (0 : Int) ≤ 0 ∧ (0 : Int) ≤ 3; decide)
  · unfold md_marks; (repeat' split) <;> first | (show (0 : Int) ≤ 1 ∧ (1 : Int) ≤ 3; decide) | (show (0 : Int) ≤ 2 ∧ (2 : Int) ≤ 3; decide) | (show (0 : Int) ≤ 0 ∧ (0 : Int) ≤ 3; decide)
  · have := md_why_bd g a
    unfold md_shares; (repeat' split) <;> first | (show (0 : Int) ≤ md_why g a ∧ md_why g a ≤ 3; omega) | (show (0 : Int) ≤ 3 ∧ (3 : Int) ≤ 3; decide) | (show (0 : Int) ≤ 0 ∧ (0 : Int) ≤ 3; decide)
  · show (0 : Int) ≤ 0 ∧ (0 : Int) ≤ 3; decide
  · unfold md_addsProfile; (repeat' split) <;> first | (show (0 : Int) ≤ 1 ∧ (1 : Int) ≤ 3; decide) | (show (0 : Int) ≤ 2 ∧ (2 : Int) ≤ 3; decide) | (show (0 : Int) ≤ 0 ∧ (0 : Int) ≤ 3; decide)
  · unfold md_addsStation; (repeat' split) <;> first | (show (0 : Int) ≤ 1 ∧ (1 : Int) ≤ 3; decide) | (show (0 : Int) ≤ 2 ∧ (2 : Int) ≤ 3; decide) | (show (0 : Int) ≤ 3 ∧ (3 : Int) ≤ 3; decide) | (show (0 : Int) ≤ 0 ∧ (0 : Int) ≤ 3; decide)
  · unfold md_setsWater; (repeat' split) <;> first | (show (0 : Int) ≤ 1 ∧ (1 : Int) ≤ 3; decide) | (show (0 : Int) ≤ 0 ∧ (0 : Int) ≤ 3; decide)
theorem cl_tc_bd (k : Nat) {c : Int} (hc : 0 ≤ c ∧ c ≤ 3) : cl_tc k c < 6 ∧ (cl_tc k c = 0 ↔ c = 0) := by
  have h : c = 0 ∨ c = 1 ∨ c = 2 ∨ c = 3 := by omega
  unfold cl_tc
  rcases h with rfl | rfl | rfl | rfl
  · rw [if_pos rfl]; exact ⟨by decide, ⟨fun _ => rfl, fun _ => rfl⟩⟩
  · rw [if_neg (by decide)]; split <;> exact ⟨by decide, ⟨fun h => absurd h (by decide), fun h => absurd h (by decide)⟩⟩
  · rw [if_neg (by decide)]; split <;> exact ⟨by decide, ⟨fun h => absurd h (by decide), fun h => absurd h (by decide)⟩⟩
  · rw [if_neg (by decide)]; split <;> exact ⟨by decide, ⟨fun h => absurd h (by decide), fun h => absurd h (by decide)⟩⟩
theorem c_X12_raise {G : jk_G} {n : Nat} {t : jk_T} {σ : jk_I} {ρ : jk_P} {k : Nat} (hz : zz_ok G) (hx : zx_ok G) (hk : k < 6) : jk_K G yX12_raise mX12_raise 1 6 [.ref (12 + k)] n t σ ρ (fun v' n' t' σ' ρ' => v' = none ∧ n' = n ∧ t' = t ∧ ρ' = ρ ∧ k = 0 ∧ σ' = σ) (fun E n' t' σ' ρ' => k ≠ 0 ∧ E = ex_t k ∧ n ≤ n' ∧ t' = t ∧ ρ' = ρ ∧ σ' = σ) := by
  refine jk_entryB (ls := [some (.ref (12 + k))]) jm_X12_raise.1 rfl rfl rfl ?_
  refine jk_gets (q := 3) (a := 20) (zz_mT hz) jw_585 dX12_raise_0 rfl ?_
  refine jk_aload_n (q := 4) dX12_raise_3 rfl rfl ?_
  refine jk_ordT (q := 7) hz hk jw_587 rfl rfl rfl dX12_raise_4 rfl ?_
  refine jk_tabi (q := 8) (zz_mTt hz) (by decide) (by first | assumption | decide | omega | (show jk_in (k : Int); exact ⟨by omega, by omega⟩)) dX12_raise_7 rfl ?_
  refine jk_caseC 1 (fun z1 => ?_) (fun z1 => ?_)
  · refine jk_tswIn (q := 44) (by decide) dX12_raise_8 (by decide) rfl rfl ?_
    obtain rfl : k = 1 := by
      have h9 : (k : Int) = 1 := (by assumption : ((((k : Int)).toNat : Nat) : Int) = 1)
      omega
    exact jk_throwSW (jt_449_374 hx) rfl (by decide) (by decide) (by decide) (by decide) (by decide) dX12_raise_44 dX12_raise_47 dX12_raise_48 dX12_raise_51 dX12_raise_54 (fun n' hn' => ⟨by decide, rfl, hn', rfl, rfl, rfl⟩)
  refine jk_caseC 2 (fun z2 => ?_) (fun z2 => ?_)
  · refine jk_tswIn (q := 55) (by decide) dX12_raise_8 (by decide) rfl rfl ?_
    obtain rfl : k = 2 := by
      have h9 : (k : Int) = 2 := (by assumption : ((((k : Int)).toNat : Nat) : Int) = 2)
      omega
    exact jk_throwSW (jt_451_236 hx) rfl (by decide) (by decide) (by decide) (by decide) (by decide) dX12_raise_55 dX12_raise_58 dX12_raise_59 dX12_raise_62 dX12_raise_65 (fun n' hn' => ⟨by decide, rfl, hn', rfl, rfl, rfl⟩)
  refine jk_caseC 3 (fun z3 => ?_) (fun z3 => ?_)
  · refine jk_tswIn (q := 66) (by decide) dX12_raise_8 (by decide) rfl rfl ?_
    obtain rfl : k = 3 := by
      have h9 : (k : Int) = 3 := (by assumption : ((((k : Int)).toNat : Nat) : Int) = 3)
      omega
    exact jk_throwSW (jt_453_385 hx) rfl (by decide) (by decide) (by decide) (by decide) (by decide) dX12_raise_66 dX12_raise_69 dX12_raise_70 dX12_raise_73 dX12_raise_76 (fun n' hn' => ⟨by decide, rfl, hn', rfl, rfl, rfl⟩)
  refine jk_caseC 4 (fun z4 => ?_) (fun z4 => ?_)
  · refine jk_tswIn (q := 77) (by decide) dX12_raise_8 (by decide) rfl rfl ?_
    obtain rfl : k = 4 := by
      have h9 : (k : Int) = 4 := (by assumption : ((((k : Int)).toNat : Nat) : Int) = 4)
      omega
    exact jk_throwXW (jt_455_173 hx) rfl (by decide) (by decide) (by decide) (by decide) (by decide) dX12_raise_77 dX12_raise_80 dX12_raise_81 dX12_raise_84 dX12_raise_87 (fun n' hn' => ⟨by decide, rfl, hn', rfl, rfl, rfl⟩)
  refine jk_caseC 5 (fun z5 => ?_) (fun z5 => ?_)
  · refine jk_tswIn (q := 88) (by decide) dX12_raise_8 (by decide) rfl rfl ?_
    obtain rfl : k = 5 := by
      have h9 : (k : Int) = 5 := (by assumption : ((((k : Int)).toNat : Nat) : Int) = 5)
      omega
    exact jk_throwSW (jt_459_461 hx) rfl (by decide) (by decide) (by decide) (by decide) (by decide) dX12_raise_88 dX12_raise_91 dX12_raise_92 dX12_raise_95 dX12_raise_98 (fun n' hn' => ⟨by decide, rfl, hn', rfl, rfl, rfl⟩)
  refine jk_tswD (q := 99) [1, 2, 3, 4, 5] (by first | assumption | decide | omega | (show jk_in (k : Int); exact ⟨by omega, by omega⟩)) dX12_raise_8 (by decide) (by decide) (by simp only [List.contains_cons, List.contains_nil, Bool.or_false, Bool.or_eq_false_iff, beq_eq_false_iff_ne, ne_eq]; first | (exact ⟨by assumption, by assumption, by assumption, by assumption, by assumption⟩) | assumption | (refine ⟨?_, ?_, ?_, ?_, ?_⟩ <;> assumption)) rfl ?_
  have h9 : ¬ (k : Int) = 1 ∧ ¬ (k : Int) = 2 ∧ ¬ (k : Int) = 3 ∧ ¬ (k : Int) = 4 ∧ ¬ (k : Int) = 5 := ⟨by assumption, by assumption, by assumption, by assumption, by assumption⟩
  obtain rfl : k = 0 := by omega
  exact jk_ret rfl dX12_raise_99 (by exact ⟨rfl, rfl, rfl, rfl, rfl, rfl⟩)
/-- what changes may write -/
def ln_fc (x : Nat) (σ σ' : jk_I) : Prop := ∀ a, (a < x + 2 ∨ x + 46 < a) → (a < x + 140 ∨ x + 546 ≤ a) → σ' a = σ a
def ln_CQ (x c : Nat) (Hr : Nat → Int → Int) (g : Int → Int) (r : md_R3) (σ : jk_I) (n : Nat) (t : jk_T) (ρ : jk_P) : jk_Q := fun v' n' t' σ' ρ' => r.1 = 0 ∧ v' = some (jI r.2.1) ∧ n' = n ∧ t' = t ∧ ρ' = ρ ∧ cl_rel σ' (x + 2) r.2.2 ∧ cl_nn σ' (x + 2) ∧ hs_rel σ' (x + 140) (hs_pc c) (hs_pH c Hr g) ∧ ln_fc x σ σ'
def ln_CX (x k : Nat) (r : md_R3) (σ : jk_I) (n : Nat) (t : jk_T) (ρ : jk_P) : jk_X := fun E n' t' σ' ρ' => r.1 ≠ 0 ∧ E = ex_t (cl_tc k r.1) ∧ n ≤ n' ∧ t' = t ∧ ρ' = ρ ∧ ln_fr x σ σ'
theorem c_X12_change {G : jk_G} {n : Nat} {t : jk_T} {σ : jk_I} {ρ : jk_P} {x : Nat} {g : Int → Int} {B : Int} {k c : Nat} {a b v d : Int} {Hr : Nat → Int → Int} (hz : zz_ok G) (hx : zx_ok G) (hln : ln_at t ρ x) (hr : cl_rel σ (x + 2) g) (ha : md_all B g) (hnn : cl_nn σ (x + 2)) (hsi : md_sit g) (hre : hs_rel σ (x + 140) c Hr) (hH : ∀ j, j < c → Hr j 2 ≤ 4) (hk : k < 12) (h_a : jk_in a) (h_b : jk_in b) (h_v : jk_in v) (h_d : jk_in d) : jk_K G yX12_change mX12_change 1 6 [.ref x, .ref k, jI a, jI b, jI v, jI d] n t σ ρ (ln_CQ x c Hr g (cl_do k g a b v d) σ n t ρ) (ln_CX x k (cl_do k g a b v d) σ n t ρ) := by
  obtain ⟨hx0, ⟨hx1, hx2, hx3, hx4, hx5, hx6, hx7, hx8, hx9, hx10, hx11, hx12⟩, hB4, hSN, hH', hhe, hba, hch, hsc⟩ := id hln
  obtain ⟨hcc, hwa, hsh, hwy, hyc⟩ := id hch
  obtain ⟨-, -, hfo, hfw⟩ := id hwa
  obtain ⟨-, -, -, -, hs, hsf⟩ := id hfo
  have hi := ha.1
  have hw := ha.2.1
  have hxx := ha.2.2.1
  have i0 := hi.1
  have i1 := hi.2.1
  have i2 := hi.2.2.1
  have i3 := hi.2.2.2.1
  obtain ⟨q0, q1, q2, q3⟩ := hr.1
  have hf0 : ln_fr x σ σ := fun _ _ => rfl
  have hcb := cl_do_bd k g a b v d
  have htb := cl_tc_bd k hcb
  refine jk_entryB (ls := [some (.ref x), some (.ref k), some (jI a), some (jI b), some (jI v), some (jI d)]) jm_X12_change.1 rfl rfl rfl ?_
  refine jk_aload_n (q := 1) dX12_change_0 rfl rfl ?_
  refine jk_getA (q := 4) (k := 12) 10 10 rfl (by first | exact hx0 | exact hs.1 | exact hs.2.1 _ _ rfl | exact hfo.1 | exact hfo.2.1 _ _ rfl | exact hwa.1.1 | exact hwa.1.2.1 | exact hwa.1.2.2 | exact hsh.1.1 | exact hsh.1.2.1 | exact hhe.1.1 | exact hba.1.1 | exact hcc.1 | exact hH'.1 | exact hsc.1.1 | exact hB4.1 | exact hSN.1 | assumption) (by first | assumption | exact hs.2.2.1 _ _ rfl | exact hfo.2.2.1 _ _ rfl | exact hwa.2.1.2.2.1 | exact hsh.2.1.2.1) rfl rfl jw_385 dX12_change_1 rfl ?_
  refine jk_aload_n (q := 5) dX12_change_4 rfl rfl ?_
  refine jk_iload_n (q := 6) dX12_change_5 rfl rfl ?_
  refine jk_iload_n (q := 7) dX12_change_6 rfl rfl ?_
  refine jk_iload (q := 9) dX12_change_7 rfl rfl ?_
  refine jk_iload (q := 11) dX12_change_9 rfl rfl ?_
  refine jk_cV5g (q := 14) (c_X2_troubleWith hz hch hr hi hw hk h_a h_b h_v h_d) jm_X2_troubleWith jw_431 rfl (by first | exact hx0 | exact hs.1 | exact hs.2.1 _ _ rfl | exact hfo.1 | exact hfo.2.1 _ _ rfl | exact hwa.1.1 | exact hwa.1.2.1 | exact hwa.1.2.2 | exact hsh.1.1 | exact hsh.1.2.1 | exact hhe.1.1 | exact hba.1.1 | exact hcc.1 | exact hH'.1 | exact hsc.1.1 | exact hB4.1 | exact hSN.1 | assumption) rfl rfl (Nat.zero_le _) (Nat.zero_le _) rfl dX12_change_11 rfl (fun v' n' t' σ1 ρ' hq => ?_) (fun _ _ _ _ _ h => h.elim)
  obtain ⟨rfl, hn9, ht9, hr9, hp1⟩ := hq
  replace hn9 := hn9.symm; replace ht9 := ht9.symm; replace hr9 := hr9.symm; subst hn9 ht9 hr9
  simp only [Option.toList_some, Option.toList_none, List.cons_append, List.nil_append, Nat.sub_zero]
  have hf1 : ln_fr x σ σ1 := fun a h => hp1 a (by omega)
  have hr1 : cl_rel σ1 (x + 2) g := cl_rel_same i2.2 (fun a h1 h2 => hf1 a (Or.inl (by omega))) hr
  have hnn1 : cl_nn σ1 (x + 2) := cl_nn_same (fun q hq => hf1 _ (Or.inl (by omega))) hnn
  have hre1 := hs_rel_same (fun a h1 h2 => hf1 a (Or.inl (by omega))) hH hre
  refine jk_cS1g (q := 17) (c_X12_raise (k := cl_tc k (cl_do k g a b v d).1) hz hx htb.1) jm_X12_raise jw_582 rfl rfl (by decide) (by decide) rfl dX12_change_14 rfl (fun v' n' t' σ2 ρ' hq => ?_) (fun E n' t' σ' ρ' hx9 => by
            obtain ⟨hk0, rfl, hn9, rfl, rfl, rfl⟩ := hx9
            exact ⟨fun h => hk0 (htb.2.mpr h), rfl, hn9, rfl, rfl, hf1⟩)
  obtain ⟨rfl, hn9, ht9, hr9, hk0, hss⟩ := hq
  replace hn9 := hn9.symm; replace ht9 := ht9.symm; replace hr9 := hr9.symm; subst hn9 ht9 hr9
  simp only [Option.toList_some, Option.toList_none, List.cons_append, List.nil_append, Nat.sub_zero]
  replace hss := hss.symm
  subst hss
  have h0 := htb.2.mp hk0
  have hH9 : hs_at t ρ (x + 140) := hH'
  refine jk_aload_n (q := 18) dX12_change_17 rfl rfl ?_
  refine jk_getA (q := 21) (k := 12) 4 4 rfl (by first | exact hx0 | exact hs.1 | exact hs.2.1 _ _ rfl | exact hfo.1 | exact hfo.2.1 _ _ rfl | exact hwa.1.1 | exact hwa.1.2.1 | exact hwa.1.2.2 | exact hsh.1.1 | exact hsh.1.2.1 | exact hhe.1.1 | exact hba.1.1 | exact hcc.1 | exact hH'.1 | exact hsc.1.1 | exact hB4.1 | exact hSN.1 | assumption) (by first | assumption | exact hs.2.2.1 _ _ rfl | exact hfo.2.2.1 _ _ rfl | exact hwa.2.1.2.2.1 | exact hsh.2.1.2.1) rfl rfl jw_379 dX12_change_18 rfl ?_
  refine jk_aload_n (q := 22) dX12_change_21 rfl rfl ?_
  refine jk_getA (q := 25) (k := 12) 0 0 rfl (by first | exact hx0 | exact hs.1 | exact hs.2.1 _ _ rfl | exact hfo.1 | exact hfo.2.1 _ _ rfl | exact hwa.1.1 | exact hwa.1.2.1 | exact hwa.1.2.2 | exact hsh.1.1 | exact hsh.1.2.1 | exact hhe.1.1 | exact hba.1.1 | exact hcc.1 | exact hH'.1 | exact hsc.1.1 | exact hB4.1 | exact hSN.1 | assumption) (by first | assumption | exact hs.2.2.1 _ _ rfl | exact hfo.2.2.1 _ _ rfl | exact hwa.2.1.2.2.1 | exact hsh.2.1.2.1) rfl rfl jw_375 dX12_change_22 rfl ?_
  refine jk_cV1g (q := 28) (c_X5_push hH9 hs (by omega) hr1 hi hnn1 hH hre1) jm_X5_push jw_726 rfl (by first | exact hx0 | exact hs.1 | exact hs.2.1 _ _ rfl | exact hfo.1 | exact hfo.2.1 _ _ rfl | exact hwa.1.1 | exact hwa.1.2.1 | exact hwa.1.2.2 | exact hsh.1.1 | exact hsh.1.2.1 | exact hhe.1.1 | exact hba.1.1 | exact hcc.1 | exact hH'.1 | exact hsc.1.1 | exact hB4.1 | exact hSN.1 | assumption) rfl rfl (Nat.zero_le _) (Nat.zero_le _) rfl dX12_change_25 rfl (fun v' n' t' σ3 ρ' hq => ?_) (fun _ _ _ _ _ h => h.elim)
  obtain ⟨rfl, hn9, ht9, hr9, hre3, hp3⟩ := hq
  replace hn9 := hn9.symm; replace ht9 := ht9.symm; replace hr9 := hr9.symm; subst hn9 ht9 hr9
  simp only [Option.toList_some, Option.toList_none, List.cons_append, List.nil_append, Nat.sub_zero]
  have hr3 : cl_rel σ3 (x + 2) g := cl_rel_same i2.2 (fun a h1 h2 => hp3 a (by omega)) hr1
  have hnn3 : cl_nn σ3 (x + 2) := cl_nn_same (fun q hq => hp3 _ (by omega)) hnn1
  refine jk_aload_n (q := 29) dX12_change_28 rfl rfl ?_
  refine jk_getA (q := 32) (k := 12) 10 10 rfl (by first | exact hx0 | exact hs.1 | exact hs.2.1 _ _ rfl | exact hfo.1 | exact hfo.2.1 _ _ rfl | exact hwa.1.1 | exact hwa.1.2.1 | exact hwa.1.2.2 | exact hsh.1.1 | exact hsh.1.2.1 | exact hhe.1.1 | exact hba.1.1 | exact hcc.1 | exact hH'.1 | exact hsc.1.1 | exact hB4.1 | exact hSN.1 | assumption) (by first | assumption | exact hs.2.2.1 _ _ rfl | exact hfo.2.2.1 _ _ rfl | exact hwa.2.1.2.2.1 | exact hsh.2.1.2.1) rfl rfl jw_385 dX12_change_29 rfl ?_
  refine jk_aload_n (q := 33) dX12_change_32 rfl rfl ?_
  refine jk_iload_n (q := 34) dX12_change_33 rfl rfl ?_
  refine jk_iload_n (q := 35) dX12_change_34 rfl rfl ?_
  refine jk_iload (q := 37) dX12_change_35 rfl rfl ?_
  refine jk_iload (q := 39) dX12_change_37 rfl rfl ?_
  refine jk_cV5g (q := 42) (c_X2_carryOut hz hch ha hr3 hk h0) jm_X2_carryOut jw_746 rfl (by first | exact hx0 | exact hs.1 | exact hs.2.1 _ _ rfl | exact hfo.1 | exact hfo.2.1 _ _ rfl | exact hwa.1.1 | exact hwa.1.2.1 | exact hwa.1.2.2 | exact hsh.1.1 | exact hsh.1.2.1 | exact hhe.1.1 | exact hba.1.1 | exact hcc.1 | exact hH'.1 | exact hsc.1.1 | exact hB4.1 | exact hSN.1 | assumption) rfl rfl (Nat.zero_le _) (Nat.zero_le _) rfl dX12_change_39 rfl (fun v' n' t' σ4 ρ' hq => ?_) (fun _ _ _ _ _ h => h.elim)
  obtain ⟨rfl, hn9, ht9, hr9, hr4, hn4, hp4⟩ := hq
  replace hn9 := hn9.symm; replace ht9 := ht9.symm; replace hr9 := hr9.symm; subst hn9 ht9 hr9
  simp only [Option.toList_some, Option.toList_none, List.cons_append, List.nil_append, Nat.sub_zero]
  exact jk_iret rfl dX12_change_42 (by 
          have hH2 : ∀ j, j < hs_pc c → (hs_pH c Hr g) j 2 ≤ 4 := fun j hj => by
            unfold hs_pc at hj
            unfold hs_pH
            by_cases h8 : c < 8
            · rw [if_pos h8] at hj ⊢
              by_cases h7 : j < c
              · rw [if_pos h7]; exact hH j h7
              · rw [if_neg h7]; exact i2.2
            · rw [if_neg h8] at hj ⊢
              by_cases h7 : j < 7
              · rw [if_pos h7]; exact hH (j + 1) (by have := hre.1; omega)
              · rw [if_neg h7]; exact i2.2
          exact ⟨h0, rfl, rfl, rfl, rfl, hr4, hn4 hnn3, hs_rel_same (fun a h1 h2 => hp4 a (by omega) (by omega)) hH2 hre3, fun a h1 h2 => (hp4 a (by omega) (by omega)).trans ((hp3 a (by omega)).trans (hf1 a (by omega)))⟩)
end E5
