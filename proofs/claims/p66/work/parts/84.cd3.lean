section CD3
theorem zk_e : ∀ k, k < 12 → k = 8 ∨ zk_sw k = 1 ∨ zk_sw k = 2 ∨ zk_sw k = 3 ∨ zk_sw k = 4 ∨ zk_sw k = 5 ∨ zk_sw k = 6 ∨ zk_sw k = 7 ∨ zk_sw k = 8 ∨ zk_sw k = 9 ∨ zk_sw k = 10 ∨ zk_sw k = 11 := by decide
theorem zk_d1 (k : Nat) (hk : k < 12) (h1 : zk_sw k ≠ 1) (h2 : zk_sw k ≠ 2) (h3 : zk_sw k ≠ 3) (h4 : zk_sw k ≠ 4) (h5 : zk_sw k ≠ 5) (h6 : zk_sw k ≠ 6) (h7 : zk_sw k ≠ 7) (h8 : zk_sw k ≠ 8) (h9 : zk_sw k ≠ 9) (h10 : zk_sw k ≠ 10) (h11 : zk_sw k ≠ 11) : k = 8 := by have h := zk_e k hk; omega
theorem zk_d2 : ∀ k, k < 12 → zk_sw k ≠ 12 → k ≠ 8 := by decide
theorem zk_bd : ∀ k, k < 12 → 1 ≤ zk_sw k ∧ zk_sw k ≤ 12 := by decide
theorem c_X2_troubleWith {G : jk_G} {n : Nat} {t : jk_T} {σ : jk_I} {ρ : jk_P} {c y w f s : Nat} {g : Int → Int} {B a b v d : Int} {k : Nat} (hz : zz_ok G) (hch : ch_at t ρ c y w f s) (hr : cl_rel σ s g) (hi : md_inv B g) (hw : md_inw g) (hk : k < 12) (h_a : jk_in a) (h_b : jk_in b) (h_v : jk_in v) (h_d : jk_in d) : jk_K G yX2_troubleWith mX2_troubleWith 0 0 [.ref c, .ref k, jI a, jI b, jI v, jI d] n t σ ρ (ch_tQ f y (12 + cl_tc k (cl_do k g a b v d).1) σ n t ρ) jk_no := by
  obtain ⟨hcc, hwa, hsh, hwy, hyc⟩ := id hch
  obtain ⟨-, -, hf, hfw⟩ := id hwa
  obtain ⟨-, -, -, -, hs, hsf⟩ := id hf
  have i0 := hi.1
  have i1 := hi.2.1
  have i2 := hi.2.2.1
  obtain ⟨q0, q1, q2, q3⟩ := hr.1
  refine jk_entryB (ls := [some (.ref c), some (.ref k), some (jI a), some (jI b), some (jI v), some (jI d)]) jm_X2_troubleWith.1 rfl rfl rfl ?_
  refine jk_gets (q := 3) (a := 19) (zz_mK hz) jw_435 dX2_troubleWith_0 rfl ?_
  refine jk_aload_n (q := 4) dX2_troubleWith_3 rfl rfl ?_
  refine jk_ordK (q := 7) hz hk jw_437 rfl rfl rfl dX2_troubleWith_4 rfl ?_
  refine jk_tabi (q := 8) (zz_mKt hz) (by decide) (by first | assumption | decide | omega | exact jB_01 _ | exact jB_in _ | exact ⟨by omega, by omega⟩ | (have h9 := zk_bd k hk; show jk_in (zk_sw k); exact ⟨by omega, by omega⟩)) dX2_troubleWith_7 rfl ?_
  refine jk_caseC 1 (fun z1 => ?_) (fun z1 => ?_)
  · refine jk_tswIn (q := 68) (by decide) dX2_troubleWith_8 (by decide) rfl rfl ?_
    have hk9 := zk_c1 k hk (by assumption)
    subst hk9
    refine jk_aload_n (q := 69) dX2_troubleWith_68 rfl rfl ?_
    refine jk_getA (q := 72) (k := 2) 0 0 rfl (by first | exact hcc.1 | exact hs.1 | exact hs.2.1 _ _ rfl | exact hf.1 | exact hwa.1.1 | exact hsh.1.1 | assumption) (by first | exact hcc.2.1 | exact hcc.2.2.1 | exact hcc.2.2.2.1 | exact hcc.2.2.2.2 | exact hs.2.2.1 _ _ rfl | assumption) rfl rfl jw_295 dX2_troubleWith_69 rfl ?_
    refine jk_getIR (q := 75) (k := 9) 0 0 rfl (by first | exact hcc.1 | exact hs.1 | exact hs.2.1 _ _ rfl | exact hf.1 | exact hwa.1.1 | exact hsh.1.1 | assumption) (by first | exact jk_row_same _ _ _ | ((repeat rewrite [jk_row_ne _ _ (by omega)]); first | exact jk_row_same _ _ _ | rfl)) rfl rfl jw_55 dX2_troubleWith_72 rfl ?_
    rw [q0]
    refine jk_bipush (q := 77) (y := 10) dX2_troubleWith_75 rfl (by decide) ?_
    refine jk_icmp_ge (q := 84) (q2 := 80) dX2_troubleWith_77 rfl rfl (by first | assumption | decide | omega | exact jB_01 _ | exact jB_in _ | exact ⟨by omega, by omega⟩ | (have h9 := zk_bd k hk; show jk_in (zk_sw k); exact ⟨by omega, by omega⟩)) (by first | assumption | decide | omega | exact jB_01 _ | exact jB_in _ | exact ⟨by omega, by omega⟩ | (have h9 := zk_bd k hk; show jk_in (zk_sw k); exact ⟨by omega, by omega⟩)) (fun z2 => ?_) (fun z2 => ?_)
    · refine jk_iconst (q := 85) dX2_troubleWith_84 rfl ?_
      refine jk_cS1p (q := 88) (c_X2_stateTroubleUnless hz (by first | exact Or.inl rfl | exact Or.inr rfl)) jm_X2_stateTroubleUnless jw_443 rfl rfl rfl dX2_troubleWith_85 rfl ?_
      exact jk_aret rfl (by first | exact Or.inl ⟨_, rfl⟩ | exact Or.inr ⟨_, rfl⟩) dX2_troubleWith_88 (by refine ch_tr ?_ (fun a h => rfl); show _ = 12 + cl_tc 0 (md_addsPoint g).1; unfold md_addsPoint; (first | rw [if_pos rfl, if_neg (by omega)] | rw [if_neg (by decide), if_pos (by omega)]) <;> rfl)
    · refine jk_iconst (q := 81) dX2_troubleWith_80 rfl ?_
      refine jk_goto (q := 85) dX2_troubleWith_81 rfl ?_
      refine jk_cS1p (q := 88) (c_X2_stateTroubleUnless hz (by first | exact Or.inl rfl | exact Or.inr rfl)) jm_X2_stateTroubleUnless jw_443 rfl rfl rfl dX2_troubleWith_85 rfl ?_
      exact jk_aret rfl (by first | exact Or.inl ⟨_, rfl⟩ | exact Or.inr ⟨_, rfl⟩) dX2_troubleWith_88 (by refine ch_tr ?_ (fun a h => rfl); show _ = 12 + cl_tc 0 (md_addsPoint g).1; unfold md_addsPoint; (first | rw [if_pos rfl, if_neg (by omega)] | rw [if_neg (by decide), if_pos (by omega)]) <;> rfl)
  refine jk_caseC 2 (fun z3 => ?_) (fun z3 => ?_)
  · refine jk_tswIn (q := 89) (by decide) dX2_troubleWith_8 (by decide) rfl rfl ?_
    have hk9 := zk_c2 k hk (by assumption)
    subst hk9
    refine jk_aload_n (q := 90) dX2_troubleWith_89 rfl rfl ?_
    refine jk_iload_n (q := 91) dX2_troubleWith_90 rfl rfl ?_
    refine jk_iload_n (q := 92) dX2_troubleWith_91 rfl rfl ?_
    refine jk_cV2p (q := 95) (c_X2_troubleWithFixing hz hch hr hi h_a h_b) jm_X2_troubleWithFixing jw_450 rfl (by first | exact hcc.1 | exact hs.1 | exact hs.2.1 _ _ rfl | exact hf.1 | exact hwa.1.1 | exact hsh.1.1 | assumption) rfl rfl rfl dX2_troubleWith_92 rfl ?_
    exact jk_aret rfl (by first | exact Or.inl ⟨_, rfl⟩ | exact Or.inr ⟨_, rfl⟩) dX2_troubleWith_95 (by exact ch_tr rfl (fun a h => rfl))
  refine jk_caseC 3 (fun z4 => ?_) (fun z4 => ?_)
  · refine jk_tswIn (q := 96) (by decide) dX2_troubleWith_8 (by decide) rfl rfl ?_
    have hk9 := zk_c3 k hk (by assumption)
    subst hk9
    refine jk_aload_n (q := 97) dX2_troubleWith_96 rfl rfl ?_
    refine jk_iload_n (q := 98) dX2_troubleWith_97 rfl rfl ?_
    refine jk_cV1p (q := 101) (c_X2_troubleWithFreeing hz hch hr hi h_a) jm_X2_troubleWithFreeing jw_470 rfl (by first | exact hcc.1 | exact hs.1 | exact hs.2.1 _ _ rfl | exact hf.1 | exact hwa.1.1 | exact hsh.1.1 | assumption) rfl rfl rfl dX2_troubleWith_98 rfl ?_
    exact jk_aret rfl (by first | exact Or.inl ⟨_, rfl⟩ | exact Or.inr ⟨_, rfl⟩) dX2_troubleWith_101 (by exact ch_tr rfl (fun a h => rfl))
  refine jk_caseC 4 (fun z5 => ?_) (fun z5 => ?_)
  · refine jk_tswIn (q := 102) (by decide) dX2_troubleWith_8 (by decide) rfl rfl ?_
    have hk9 := zk_c4 k hk (by assumption)
    subst hk9
    refine jk_aload_n (q := 103) dX2_troubleWith_102 rfl rfl ?_
    refine jk_iload_n (q := 104) dX2_troubleWith_103 rfl rfl ?_
    refine jk_iload_n (q := 105) dX2_troubleWith_104 rfl rfl ?_
    refine jk_iload (q := 107) dX2_troubleWith_105 rfl rfl ?_
    refine jk_iload (q := 109) dX2_troubleWith_107 rfl rfl ?_
    refine jk_cV4p (q := 112) (c_X2_troubleWithLine hz hch hr hi h_a h_b h_v h_d) jm_X2_troubleWithLine jw_474 rfl (by first | exact hcc.1 | exact hs.1 | exact hs.2.1 _ _ rfl | exact hf.1 | exact hwa.1.1 | exact hsh.1.1 | assumption) rfl rfl rfl dX2_troubleWith_109 rfl ?_
    exact jk_aret rfl (by first | exact Or.inl ⟨_, rfl⟩ | exact Or.inr ⟨_, rfl⟩) dX2_troubleWith_112 (by exact ch_tr rfl (fun a h => rfl))
  refine jk_caseC 5 (fun z6 => ?_) (fun z6 => ?_)
  · refine jk_tswIn (q := 113) (by decide) dX2_troubleWith_8 (by decide) rfl rfl ?_
    have hk9 := zk_c5 k hk (by assumption)
    subst hk9
    refine jk_aload_n (q := 114) dX2_troubleWith_113 rfl rfl ?_
    refine jk_iload_n (q := 115) dX2_troubleWith_114 rfl rfl ?_
    refine jk_iload_n (q := 116) dX2_troubleWith_115 rfl rfl ?_
    refine jk_cV2p (q := 119) (c_X2_troubleWithBackwardRun hz hch hr hi h_a h_b) jm_X2_troubleWithBackwardRun jw_481 rfl (by first | exact hcc.1 | exact hs.1 | exact hs.2.1 _ _ rfl | exact hf.1 | exact hwa.1.1 | exact hsh.1.1 | assumption) rfl rfl rfl dX2_troubleWith_116 rfl ?_
    exact jk_aret rfl (by first | exact Or.inl ⟨_, rfl⟩ | exact Or.inr ⟨_, rfl⟩) dX2_troubleWith_119 (by exact ch_tr rfl (fun a h => rfl))
  refine jk_caseC 6 (fun z7 => ?_) (fun z7 => ?_)
  · refine jk_tswIn (q := 120) (by decide) dX2_troubleWith_8 (by decide) rfl rfl ?_
    have hk9 := zk_c6 k hk (by assumption)
    subst hk9
    refine jk_aload_n (q := 121) dX2_troubleWith_120 rfl rfl ?_
    refine jk_iload_n (q := 122) dX2_troubleWith_121 rfl rfl ?_
    refine jk_iconst (q := 123) dX2_troubleWith_122 rfl ?_
    refine jk_cV2p (q := 126) (c_X2_troubleWithExclusionE hz hch hr hi h_a) jm_X2_troubleWithExclusion jw_489 rfl (by first | exact hcc.1 | exact hs.1 | exact hs.2.1 _ _ rfl | exact hf.1 | exact hwa.1.1 | exact hsh.1.1 | assumption) rfl rfl rfl dX2_troubleWith_123 rfl ?_
    exact jk_aret rfl (by first | exact Or.inl ⟨_, rfl⟩ | exact Or.inr ⟨_, rfl⟩) dX2_troubleWith_126 (by exact ch_tr rfl (fun a h => rfl))
  refine jk_caseC 7 (fun z8 => ?_) (fun z8 => ?_)
  · refine jk_tswIn (q := 127) (by decide) dX2_troubleWith_8 (by decide) rfl rfl ?_
    have hk9 := zk_c7 k hk (by assumption)
    subst hk9
    refine jk_aload_n (q := 128) dX2_troubleWith_127 rfl rfl ?_
    refine jk_iload_n (q := 129) dX2_troubleWith_128 rfl rfl ?_
    refine jk_iconst (q := 130) dX2_troubleWith_129 rfl ?_
    refine jk_cV2p (q := 133) (c_X2_troubleWithExclusionI hz hch hr hi h_a) jm_X2_troubleWithExclusion jw_489 rfl (by first | exact hcc.1 | exact hs.1 | exact hs.2.1 _ _ rfl | exact hf.1 | exact hwa.1.1 | exact hsh.1.1 | assumption) rfl rfl rfl dX2_troubleWith_130 rfl ?_
    exact jk_aret rfl (by first | exact Or.inl ⟨_, rfl⟩ | exact Or.inr ⟨_, rfl⟩) dX2_troubleWith_133 (by exact ch_tr rfl (fun a h => rfl))
  refine jk_caseC 8 (fun z9 => ?_) (fun z9 => ?_)
  · refine jk_tswIn (q := 134) (by decide) dX2_troubleWith_8 (by decide) rfl rfl ?_
    have hk9 := zk_c8 k hk (by assumption)
    subst hk9
    refine jk_aload_n (q := 135) dX2_troubleWith_134 rfl rfl ?_
    refine jk_iload_n (q := 136) dX2_troubleWith_135 rfl rfl ?_
    refine jk_cV1g (q := 139) (c_X2_troubleWithSharing hz hch hr hi hw h_a) jm_X2_troubleWithSharing jw_493 rfl (by first | exact hcc.1 | exact hs.1 | exact hs.2.1 _ _ rfl | exact hf.1 | exact hwa.1.1 | exact hsh.1.1 | assumption) rfl rfl (Nat.zero_le _) (Nat.zero_le _) rfl dX2_troubleWith_136 rfl (fun v' n' t' σ1 ρ' hq => ?_) (fun _ _ _ _ _ h => h.elim)
    obtain ⟨rfl, hn9, ht9, hr9, hp9⟩ := hq
    replace hn9 := hn9.symm; replace ht9 := ht9.symm; replace hr9 := hr9.symm; subst hn9 ht9 hr9
    simp only [Option.toList_some, Option.toList_none, List.cons_append, List.nil_append, Nat.sub_zero]
    exact jk_aret rfl (by first | exact Or.inl ⟨_, rfl⟩ | exact Or.inr ⟨_, rfl⟩) dX2_troubleWith_139 (by exact ch_tr rfl hp9)
  refine jk_caseC 9 (fun z10 => ?_) (fun z10 => ?_)
  · refine jk_tswIn (q := 140) (by decide) dX2_troubleWith_8 (by decide) rfl rfl ?_
    have hk9 := zk_c9 k hk (by assumption)
    subst hk9
    refine jk_aload_n (q := 141) dX2_troubleWith_140 rfl rfl ?_
    refine jk_iload_n (q := 142) dX2_troubleWith_141 rfl rfl ?_
    refine jk_cV1p (q := 145) (c_X2_troubleWithProfile hz hch hr hi h_a) jm_X2_troubleWithProfile jw_570 rfl (by first | exact hcc.1 | exact hs.1 | exact hs.2.1 _ _ rfl | exact hf.1 | exact hwa.1.1 | exact hsh.1.1 | assumption) rfl rfl rfl dX2_troubleWith_142 rfl ?_
    exact jk_aret rfl (by first | exact Or.inl ⟨_, rfl⟩ | exact Or.inr ⟨_, rfl⟩) dX2_troubleWith_145 (by exact ch_tr rfl (fun a h => rfl))
  refine jk_caseC 10 (fun z11 => ?_) (fun z11 => ?_)
  · refine jk_tswIn (q := 146) (by decide) dX2_troubleWith_8 (by decide) rfl rfl ?_
    have hk9 := zk_c10 k hk (by assumption)
    subst hk9
    refine jk_aload_n (q := 147) dX2_troubleWith_146 rfl rfl ?_
    refine jk_iload_n (q := 148) dX2_troubleWith_147 rfl rfl ?_
    refine jk_iload_n (q := 149) dX2_troubleWith_148 rfl rfl ?_
    refine jk_iload (q := 151) dX2_troubleWith_149 rfl rfl ?_
    refine jk_cV3p (q := 154) (c_X2_troubleWithStation hz hch hr hi h_a h_b h_v) jm_X2_troubleWithStation jw_574 rfl (by first | exact hcc.1 | exact hs.1 | exact hs.2.1 _ _ rfl | exact hf.1 | exact hwa.1.1 | exact hsh.1.1 | assumption) rfl rfl rfl dX2_troubleWith_151 rfl ?_
    exact jk_aret rfl (by first | exact Or.inl ⟨_, rfl⟩ | exact Or.inr ⟨_, rfl⟩) dX2_troubleWith_154 (by exact ch_tr rfl (fun a h => rfl))
  refine jk_caseC 11 (fun z12 => ?_) (fun z12 => ?_)
  · refine jk_tswIn (q := 155) (by decide) dX2_troubleWith_8 (by decide) rfl rfl ?_
    have hk9 := zk_c11 k hk (by assumption)
    subst hk9
    refine jk_iload_n (q := 156) dX2_troubleWith_155 rfl rfl ?_
    refine jk_cS1p (q := 159) (c_X2_isHeight h_a) jm_X2_isHeight jw_460 rfl rfl rfl dX2_troubleWith_156 rfl ?_
    refine jk_ifB_eq (q := 168) (q2 := 162) dX2_troubleWith_159 rfl rfl (fun z13 => ?_) (fun z13 => ?_)
    · refine jk_gets (q := 171) (a := 14) (zz_Ts hz (i := 2) (by decide)) jw_468 dX2_troubleWith_168 rfl ?_
      exact jk_aret rfl (by first | exact Or.inl ⟨_, rfl⟩ | exact Or.inr ⟨_, rfl⟩) dX2_troubleWith_171 (by refine ch_tr ?_ (fun a h => rfl); show _ = 12 + cl_tc 11 (md_setsWater g a).1; unfold md_setsWater; first | (have e9 : md_in a (-99999) 99999 = true := (by assumption : decide (-99999 ≤ a ∧ a ≤ 99999) = true); rw [if_neg (by rw [e9]; decide)]; rfl) | (have e9 : md_in a (-99999) 99999 = false := (by assumption : decide (-99999 ≤ a ∧ a ≤ 99999) = false); rw [if_pos e9]; rfl))
    · refine jk_gets (q := 165) (a := 12) (zz_Ts hz (i := 0) (by decide)) jw_446 dX2_troubleWith_162 rfl ?_
      refine jk_goto (q := 171) dX2_troubleWith_165 rfl ?_
      exact jk_aret rfl (by first | exact Or.inl ⟨_, rfl⟩ | exact Or.inr ⟨_, rfl⟩) dX2_troubleWith_171 (by refine ch_tr ?_ (fun a h => rfl); show _ = 12 + cl_tc 11 (md_setsWater g a).1; unfold md_setsWater; first | (have e9 : md_in a (-99999) 99999 = true := (by assumption : decide (-99999 ≤ a ∧ a ≤ 99999) = true); rw [if_neg (by rw [e9]; decide)]; rfl) | (have e9 : md_in a (-99999) 99999 = false := (by assumption : decide (-99999 ≤ a ∧ a ≤ 99999) = false); rw [if_pos e9]; rfl))
  refine jk_tswD (q := 172) [1, 2, 3, 4, 5, 6, 7, 8, 9, 10, 11] (by first | assumption | decide | omega | exact jB_01 _ | exact jB_in _ | exact ⟨by omega, by omega⟩ | (have h9 := zk_bd k hk; show jk_in (zk_sw k); exact ⟨by omega, by omega⟩)) dX2_troubleWith_8 (by decide) (by decide) (by simp only [List.contains_cons, List.contains_nil, Bool.or_false, Bool.or_eq_false_iff, beq_eq_false_iff_ne, ne_eq]; first | (exact ⟨by assumption, by assumption, by assumption, by assumption, by assumption, by assumption, by assumption, by assumption, by assumption, by assumption, by assumption⟩) | assumption | (refine ⟨?_, ?_, ?_, ?_, ?_, ?_, ?_, ?_, ?_, ?_, ?_⟩ <;> assumption)) rfl ?_
  have hk9 := zk_d1 k hk (by assumption) (by assumption) (by assumption) (by assumption) (by assumption) (by assumption) (by assumption) (by assumption) (by assumption) (by assumption) (by assumption)
  subst hk9
  refine jk_gets (q := 175) (a := 12) (zz_Ts hz (i := 0) (by decide)) jw_446 dX2_troubleWith_172 rfl ?_
  exact jk_aret rfl (by first | exact Or.inl ⟨_, rfl⟩ | exact Or.inr ⟨_, rfl⟩) dX2_troubleWith_175 (by exact ch_tr rfl (fun a h => rfl))
theorem c_X2_carryOut {G : jk_G} {n : Nat} {t : jk_T} {σ : jk_I} {ρ : jk_P} {c y w f s : Nat} {g : Int → Int} {B a b v d : Int} {k : Nat} (hz : zz_ok G) (hch : ch_at t ρ c y w f s) (ha : md_all B g) (hr : cl_rel σ s g) (hk : k < 12) (h0 : (cl_do k g a b v d).1 = 0) : jk_K G yX2_carryOut mX2_carryOut 0 0 [.ref c, .ref k, jI a, jI b, jI v, jI d] n t σ ρ (ch_cQ s f y (cl_do k g a b v d).2.2 (cl_do k g a b v d).2.1 σ n t ρ) jk_no := by
  have hi := ha.1
  obtain ⟨hcc, hwa, hsh, hwy, hyc⟩ := id hch
  obtain ⟨-, -, hf, hfw⟩ := id hwa
  obtain ⟨-, -, -, -, hs, hsf⟩ := id hf
  have i0 := hi.1
  have i1 := hi.2.1
  have i2 := hi.2.2.1
  obtain ⟨q0, q1, q2, q3⟩ := hr.1
  refine jk_entryB (ls := [some (.ref c), some (.ref k), some (jI a), some (jI b), some (jI v), some (jI d)]) jm_X2_carryOut.1 rfl rfl rfl ?_
  refine jk_gets (q := 3) (a := 19) (zz_mK hz) jw_435 dX2_carryOut_0 rfl ?_
  refine jk_aload_n (q := 4) dX2_carryOut_3 rfl rfl ?_
  refine jk_ordK (q := 7) hz hk jw_437 rfl rfl rfl dX2_carryOut_4 rfl ?_
  refine jk_tabi (q := 8) (zz_mKt hz) (by decide) (by first | assumption | decide | omega | exact jB_01 _ | exact jB_in _ | exact ⟨by omega, by omega⟩ | (have h9 := zk_bd k hk; show jk_in (zk_sw k); exact ⟨by omega, by omega⟩)) dX2_carryOut_7 rfl ?_
  refine jk_caseC 1 (fun z1 => ?_) (fun z1 => ?_)
  · refine jk_tswIn (q := 72) (by decide) dX2_carryOut_8 (by decide) rfl rfl ?_
    have hk9 := zk_c1 k hk (by assumption)
    subst hk9
    replace h0 : (md_addsPoint g).1 = 0 := h0
    show jk_J _ _ _ _ _ _ _ _ _ _ _ (ch_cQ s f y (md_addsPoint g).2.2 (md_addsPoint g).2.1 σ n t ρ) _
    obtain ⟨o1, oe⟩ := cl_ok0 h0
    rw [oe]
    refine jk_aload_n (q := 73) dX2_carryOut_72 rfl rfl ?_
    refine jk_cV0g (q := 76) (c_X2_putBenchmark hch ha hr (by omega)) jm_X2_putBenchmark jw_750 rfl (by first | exact hcc.1 | exact hs.1 | exact hs.2.1 _ _ rfl | exact hf.1 | exact hwa.1.1 | exact hsh.1.1 | assumption) rfl rfl (Nat.zero_le _) (Nat.zero_le _) rfl dX2_carryOut_73 rfl (fun v' n' t' σ1 ρ' hq => ?_) (fun _ _ _ _ _ h => h.elim)
    obtain ⟨rfl, hn9, ht9, hr9, hp9⟩ := hq
    replace hn9 := hn9.symm; replace ht9 := ht9.symm; replace hr9 := hr9.symm; subst hn9 ht9 hr9
    simp only [Option.toList_some, Option.toList_none, List.cons_append, List.nil_append, Nat.sub_zero]
    exact jk_iret rfl dX2_carryOut_76 (by exact cl_up_c ⟨rfl, rfl, rfl, rfl, hp9⟩)
  refine jk_caseC 2 (fun z2 => ?_) (fun z2 => ?_)
  · refine jk_tswIn (q := 77) (by decide) dX2_carryOut_8 (by decide) rfl rfl ?_
    have hk9 := zk_c2 k hk (by assumption)
    subst hk9
    replace h0 : (md_fixes g a b).1 = 0 := h0
    show jk_J _ _ _ _ _ _ _ _ _ _ _ (ch_cQ s f y (md_fixes g a b).2.2 (md_fixes g a b).2.1 σ n t ρ) _
    obtain ⟨o1, o2, oe⟩ := cl_ok1 h0
    rw [oe]
    have hu := cl_up_fix (n := n) (t := t) (ρ := ρ) (v := b) ha hr o1
    have ha2 := md_all_fix ha o1 o2
    refine jk_aload_n (q := 78) dX2_carryOut_77 rfl rfl ?_
    refine jk_getA (q := 81) (k := 2) 0 0 rfl (by first | exact hcc.1 | exact hs.1 | exact hs.2.1 _ _ rfl | exact hf.1 | exact hwa.1.1 | exact hsh.1.1 | assumption) (by first | exact hcc.2.1 | exact hcc.2.2.1 | exact hcc.2.2.2.1 | exact hcc.2.2.2.2 | exact hs.2.2.1 _ _ rfl | assumption) rfl rfl jw_295 dX2_carryOut_78 rfl ?_
    refine jk_getA (q := 84) (k := 9) 1 1 rfl (by first | exact hcc.1 | exact hs.1 | exact hs.2.1 _ _ rfl | exact hf.1 | exact hwa.1.1 | exact hsh.1.1 | assumption) (by first | exact hcc.2.1 | exact hcc.2.2.1 | exact hcc.2.2.2.1 | exact hcc.2.2.2.2 | exact hs.2.2.1 _ _ rfl | assumption) rfl rfl jw_61 dX2_carryOut_81 rfl ?_
    refine jk_iload_n (q := 85) dX2_carryOut_84 rfl rfl ?_
    refine jk_iconst (q := 86) dX2_carryOut_85 rfl ?_
    refine jk_zastR (q := 87) (by first | exact hcc.1 | exact hs.1 | exact hs.2.1 _ _ rfl | exact hf.1 | exact hwa.1.1 | exact hsh.1.1 | assumption) (by first | exact jk_row_same _ _ _ | ((repeat rewrite [jk_row_ne _ _ (by omega)]); first | exact jk_row_same _ _ _ | rfl)) (by first | assumption | decide | omega | exact jB_01 _ | exact jB_in _ | exact ⟨by omega, by omega⟩ | (have h9 := zk_bd k hk; show jk_in (zk_sw k); exact ⟨by omega, by omega⟩)) (by first | assumption | decide | omega | exact jB_01 _ | exact jB_in _ | exact ⟨by omega, by omega⟩ | (have h9 := zk_bd k hk; show jk_in (zk_sw k); exact ⟨by omega, by omega⟩)) dX2_carryOut_86 rfl ?_
    refine jk_aload_n (q := 88) dX2_carryOut_87 rfl rfl ?_
    refine jk_getA (q := 91) (k := 2) 0 0 rfl (by first | exact hcc.1 | exact hs.1 | exact hs.2.1 _ _ rfl | exact hf.1 | exact hwa.1.1 | exact hsh.1.1 | assumption) (by first | exact hcc.2.1 | exact hcc.2.2.1 | exact hcc.2.2.2.1 | exact hcc.2.2.2.2 | exact hs.2.2.1 _ _ rfl | assumption) rfl rfl jw_295 dX2_carryOut_88 rfl ?_
    refine jk_getA (q := 94) (k := 9) 2 2 rfl (by first | exact hcc.1 | exact hs.1 | exact hs.2.1 _ _ rfl | exact hf.1 | exact hwa.1.1 | exact hsh.1.1 | assumption) (by first | exact hcc.2.1 | exact hcc.2.2.1 | exact hcc.2.2.2.1 | exact hcc.2.2.2.2 | exact hs.2.2.1 _ _ rfl | assumption) rfl rfl jw_65 dX2_carryOut_91 rfl ?_
    refine jk_iload_n (q := 95) dX2_carryOut_94 rfl rfl ?_
    refine jk_iload_n (q := 96) dX2_carryOut_95 rfl rfl ?_
    refine jk_iastR (q := 97) (by first | exact hcc.1 | exact hs.1 | exact hs.2.1 _ _ rfl | exact hf.1 | exact hwa.1.1 | exact hsh.1.1 | assumption) (by first | exact jk_row_same _ _ _ | ((repeat rewrite [jk_row_ne _ _ (by omega)]); first | exact jk_row_same _ _ _ | rfl)) (by first | assumption | decide | omega | exact jB_01 _ | exact jB_in _ | exact ⟨by omega, by omega⟩ | (have h9 := zk_bd k hk; show jk_in (zk_sw k); exact ⟨by omega, by omega⟩)) dX2_carryOut_96 rfl ?_
    refine jk_aload_n (q := 98) dX2_carryOut_97 rfl rfl ?_
    refine jk_getA (q := 101) (k := 2) 0 0 rfl (by first | exact hcc.1 | exact hs.1 | exact hs.2.1 _ _ rfl | exact hf.1 | exact hwa.1.1 | exact hsh.1.1 | assumption) (by first | exact hcc.2.1 | exact hcc.2.2.1 | exact hcc.2.2.2.1 | exact hcc.2.2.2.2 | exact hs.2.2.1 _ _ rfl | assumption) rfl rfl jw_295 dX2_carryOut_98 rfl ?_
    refine jk_cV0p (q := 104) (c_X9_fixedBenchmarks hs hu.2.2.2.2.1 ha2.1) jm_X9_fixedBenchmarks jw_754 rfl (by first | exact hcc.1 | exact hs.1 | exact hs.2.1 _ _ rfl | exact hf.1 | exact hwa.1.1 | exact hsh.1.1 | assumption) rfl rfl rfl dX2_carryOut_101 rfl ?_
    exact jk_iret rfl dX2_carryOut_104 (by 
            rw [show md_fixG g a b 0 = g 0 by unfold md_fixG; simp only [jk_set]; rw [if_neg (by omega), if_neg (by omega)]]
            exact cl_up_c hu)
  refine jk_caseC 3 (fun z3 => ?_) (fun z3 => ?_)
  · refine jk_tswIn (q := 105) (by decide) dX2_carryOut_8 (by decide) rfl rfl ?_
    have hk9 := zk_c3 k hk (by assumption)
    subst hk9
    replace h0 : (md_releases g a).1 = 0 := h0
    show jk_J _ _ _ _ _ _ _ _ _ _ _ (ch_cQ s f y (md_releases g a).2.2 (md_releases g a).2.1 σ n t ρ) _
    obtain ⟨o1, o2, oe⟩ := cl_ok2 h0
    rw [oe]
    have hx9 := (md_inv_pt hi (p := a) ⟨by omega, by omega⟩).1
    have h19 : g (4 + a) = 1 := by omega
    have hv9 := (hr.2.1 a o1).2 h19
    refine jk_aload_n (q := 106) dX2_carryOut_105 rfl rfl ?_
    refine jk_getA (q := 109) (k := 2) 0 0 rfl (by first | exact hcc.1 | exact hs.1 | exact hs.2.1 _ _ rfl | exact hf.1 | exact hwa.1.1 | exact hsh.1.1 | assumption) (by first | exact hcc.2.1 | exact hcc.2.2.1 | exact hcc.2.2.2.1 | exact hcc.2.2.2.2 | exact hs.2.2.1 _ _ rfl | assumption) rfl rfl jw_295 dX2_carryOut_106 rfl ?_
    refine jk_getA (q := 112) (k := 9) 1 1 rfl (by first | exact hcc.1 | exact hs.1 | exact hs.2.1 _ _ rfl | exact hf.1 | exact hwa.1.1 | exact hsh.1.1 | assumption) (by first | exact hcc.2.1 | exact hcc.2.2.1 | exact hcc.2.2.2.1 | exact hcc.2.2.2.2 | exact hs.2.2.1 _ _ rfl | assumption) rfl rfl jw_61 dX2_carryOut_109 rfl ?_
    refine jk_iload_n (q := 113) dX2_carryOut_112 rfl rfl ?_
    refine jk_iconst (q := 114) dX2_carryOut_113 rfl ?_
    refine jk_zastR (q := 115) (by first | exact hcc.1 | exact hs.1 | exact hs.2.1 _ _ rfl | exact hf.1 | exact hwa.1.1 | exact hsh.1.1 | assumption) (by first | exact jk_row_same _ _ _ | ((repeat rewrite [jk_row_ne _ _ (by omega)]); first | exact jk_row_same _ _ _ | rfl)) (by first | assumption | decide | omega | exact jB_01 _ | exact jB_in _ | exact ⟨by omega, by omega⟩ | (have h9 := zk_bd k hk; show jk_in (zk_sw k); exact ⟨by omega, by omega⟩)) (by first | assumption | decide | omega | exact jB_01 _ | exact jB_in _ | exact ⟨by omega, by omega⟩ | (have h9 := zk_bd k hk; show jk_in (zk_sw k); exact ⟨by omega, by omega⟩)) dX2_carryOut_114 rfl ?_
    refine jk_aload_n (q := 116) dX2_carryOut_115 rfl rfl ?_
    refine jk_getA (q := 119) (k := 2) 0 0 rfl (by first | exact hcc.1 | exact hs.1 | exact hs.2.1 _ _ rfl | exact hf.1 | exact hwa.1.1 | exact hsh.1.1 | assumption) (by first | exact hcc.2.1 | exact hcc.2.2.1 | exact hcc.2.2.2.1 | exact hcc.2.2.2.2 | exact hs.2.2.1 _ _ rfl | assumption) rfl rfl jw_295 dX2_carryOut_116 rfl ?_
    refine jk_getA (q := 122) (k := 9) 2 2 rfl (by first | exact hcc.1 | exact hs.1 | exact hs.2.1 _ _ rfl | exact hf.1 | exact hwa.1.1 | exact hsh.1.1 | assumption) (by first | exact hcc.2.1 | exact hcc.2.2.1 | exact hcc.2.2.2.1 | exact hcc.2.2.2.2 | exact hs.2.2.1 _ _ rfl | assumption) rfl rfl jw_65 dX2_carryOut_119 rfl ?_
    refine jk_iload_n (q := 123) dX2_carryOut_122 rfl rfl ?_
    refine jk_ialdR (q := 124) (by first | exact hcc.1 | exact hs.1 | exact hs.2.1 _ _ rfl | exact hf.1 | exact hwa.1.1 | exact hsh.1.1 | assumption) (by first | exact jk_row_same _ _ _ | ((repeat rewrite [jk_row_ne _ _ (by omega)]); first | exact jk_row_same _ _ _ | rfl)) (by first | assumption | decide | omega | exact jB_01 _ | exact jB_in _ | exact ⟨by omega, by omega⟩ | (have h9 := zk_bd k hk; show jk_in (zk_sw k); exact ⟨by omega, by omega⟩)) dX2_carryOut_123 rfl ?_
    rw [hv9]
    exact jk_iret rfl dX2_carryOut_124 (by exact cl_up_c (cl_up_free ha hr o1 h19))
  refine jk_caseC 4 (fun z4 => ?_) (fun z4 => ?_)
  · refine jk_tswIn (q := 125) (by decide) dX2_carryOut_8 (by decide) rfl rfl ?_
    have hk9 := zk_c4 k hk (by assumption)
    subst hk9
    replace h0 : (md_addsLine g a b v d).1 = 0 := h0
    show jk_J _ _ _ _ _ _ _ _ _ _ _ (ch_cQ s f y (md_addsLine g a b v d).2.2 (md_addsLine g a b v d).2.1 σ n t ρ) _
    obtain ⟨o1, o2, o3, o4, o5, o6, oe⟩ := cl_ok3 h0
    rw [oe]
    refine jk_aload_n (q := 126) dX2_carryOut_125 rfl rfl ?_
    refine jk_iload_n (q := 127) dX2_carryOut_126 rfl rfl ?_
    refine jk_iload_n (q := 128) dX2_carryOut_127 rfl rfl ?_
    refine jk_iload (q := 130) dX2_carryOut_128 rfl rfl ?_
    refine jk_iload (q := 132) dX2_carryOut_130 rfl rfl ?_
    refine jk_cV4g (q := 135) (c_X2_putLine hch ha hr (by omega)) jm_X2_putLine jw_758 rfl (by first | exact hcc.1 | exact hs.1 | exact hs.2.1 _ _ rfl | exact hf.1 | exact hwa.1.1 | exact hsh.1.1 | assumption) rfl rfl (Nat.zero_le _) (Nat.zero_le _) rfl dX2_carryOut_132 rfl (fun v' n' t' σ1 ρ' hq => ?_) (fun _ _ _ _ _ h => h.elim)
    obtain ⟨rfl, hn9, ht9, hr9, hp9⟩ := hq
    replace hn9 := hn9.symm; replace ht9 := ht9.symm; replace hr9 := hr9.symm; subst hn9 ht9 hr9
    simp only [Option.toList_some, Option.toList_none, List.cons_append, List.nil_append, Nat.sub_zero]
    exact jk_iret rfl dX2_carryOut_135 (by exact cl_up_c ⟨rfl, rfl, rfl, rfl, hp9⟩)
  refine jk_caseC 5 (fun z5 => ?_) (fun z5 => ?_)
  · refine jk_tswIn (q := 136) (by decide) dX2_carryOut_8 (by decide) rfl rfl ?_
    have hk9 := zk_c5 k hk (by assumption)
    subst hk9
    replace h0 : (md_addsRun g a b).1 = 0 := h0
    show jk_J _ _ _ _ _ _ _ _ _ _ _ (ch_cQ s f y (md_addsRun g a b).2.2 (md_addsRun g a b).2.1 σ n t ρ) _
    obtain ⟨o1, o2, oe⟩ := cl_ok4 h0
    rw [oe]
    have hu := cl_up_back (n := n) (t := t) (ρ := ρ) ha hr o1 o2
    have ha2 := md_all_run ha o1 o2
    refine jk_aload_n (q := 137) dX2_carryOut_136 rfl rfl ?_
    refine jk_getA (q := 140) (k := 2) 0 0 rfl (by first | exact hcc.1 | exact hs.1 | exact hs.2.1 _ _ rfl | exact hf.1 | exact hwa.1.1 | exact hsh.1.1 | assumption) (by first | exact hcc.2.1 | exact hcc.2.2.1 | exact hcc.2.2.2.1 | exact hcc.2.2.2.2 | exact hs.2.2.1 _ _ rfl | assumption) rfl rfl jw_295 dX2_carryOut_137 rfl ?_
    refine jk_getA (q := 143) (k := 9) 8 8 rfl (by first | exact hcc.1 | exact hs.1 | exact hs.2.1 _ _ rfl | exact hf.1 | exact hwa.1.1 | exact hsh.1.1 | assumption) (by first | exact hcc.2.1 | exact hcc.2.2.1 | exact hcc.2.2.2.1 | exact hcc.2.2.2.2 | exact hs.2.2.1 _ _ rfl | assumption) rfl rfl jw_94 dX2_carryOut_140 rfl ?_
    refine jk_iload_n (q := 144) dX2_carryOut_143 rfl rfl ?_
    refine jk_iload_n (q := 145) dX2_carryOut_144 rfl rfl ?_
    refine jk_iastR (q := 146) (by first | exact hcc.1 | exact hs.1 | exact hs.2.1 _ _ rfl | exact hf.1 | exact hwa.1.1 | exact hsh.1.1 | assumption) (by first | exact jk_row_same _ _ _ | ((repeat rewrite [jk_row_ne _ _ (by omega)]); first | exact jk_row_same _ _ _ | rfl)) (by first | assumption | decide | omega | exact jB_01 _ | exact jB_in _ | exact ⟨by omega, by omega⟩ | (have h9 := zk_bd k hk; show jk_in (zk_sw k); exact ⟨by omega, by omega⟩)) dX2_carryOut_145 rfl ?_
    refine jk_aload_n (q := 147) dX2_carryOut_146 rfl rfl ?_
    refine jk_getA (q := 150) (k := 2) 0 0 rfl (by first | exact hcc.1 | exact hs.1 | exact hs.2.1 _ _ rfl | exact hf.1 | exact hwa.1.1 | exact hsh.1.1 | assumption) (by first | exact hcc.2.1 | exact hcc.2.2.1 | exact hcc.2.2.2.1 | exact hcc.2.2.2.2 | exact hs.2.2.1 _ _ rfl | assumption) rfl rfl jw_295 dX2_carryOut_147 rfl ?_
    refine jk_getA (q := 153) (k := 9) 9 9 rfl (by first | exact hcc.1 | exact hs.1 | exact hs.2.1 _ _ rfl | exact hf.1 | exact hwa.1.1 | exact hsh.1.1 | assumption) (by first | exact hcc.2.1 | exact hcc.2.2.1 | exact hcc.2.2.2.1 | exact hcc.2.2.2.2 | exact hs.2.2.1 _ _ rfl | assumption) rfl rfl jw_96 dX2_carryOut_150 rfl ?_
    refine jk_iload_n (q := 154) dX2_carryOut_153 rfl rfl ?_
    refine jk_iconst (q := 155) dX2_carryOut_154 rfl ?_
    refine jk_zastR (q := 156) (by first | exact hcc.1 | exact hs.1 | exact hs.2.1 _ _ rfl | exact hf.1 | exact hwa.1.1 | exact hsh.1.1 | assumption) (by first | exact jk_row_same _ _ _ | ((repeat rewrite [jk_row_ne _ _ (by omega)]); first | exact jk_row_same _ _ _ | rfl)) (by first | assumption | decide | omega | exact jB_01 _ | exact jB_in _ | exact ⟨by omega, by omega⟩ | (have h9 := zk_bd k hk; show jk_in (zk_sw k); exact ⟨by omega, by omega⟩)) (by first | assumption | decide | omega | exact jB_01 _ | exact jB_in _ | exact ⟨by omega, by omega⟩ | (have h9 := zk_bd k hk; show jk_in (zk_sw k); exact ⟨by omega, by omega⟩)) dX2_carryOut_155 rfl ?_
    refine jk_aload_n (q := 157) dX2_carryOut_156 rfl rfl ?_
    refine jk_getA (q := 160) (k := 2) 0 0 rfl (by first | exact hcc.1 | exact hs.1 | exact hs.2.1 _ _ rfl | exact hf.1 | exact hwa.1.1 | exact hsh.1.1 | assumption) (by first | exact hcc.2.1 | exact hcc.2.2.1 | exact hcc.2.2.2.1 | exact hcc.2.2.2.2 | exact hs.2.2.1 _ _ rfl | assumption) rfl rfl jw_295 dX2_carryOut_157 rfl ?_
    refine jk_iload_n (q := 161) dX2_carryOut_160 rfl rfl ?_
    refine jk_cV1p (q := 164) (c_X9_sumOfRuns hs hu.2.2.2.2.1 ha2.1 (l := a) (by rw [show md_runG g a b 1 = g 1 by unfold md_runG; simp only [jk_set]; rw [if_neg (by omega), if_neg (by omega)]]; exact o1)) jm_X9_sumOfRuns jw_762 rfl (by first | exact hcc.1 | exact hs.1 | exact hs.2.1 _ _ rfl | exact hf.1 | exact hwa.1.1 | exact hsh.1.1 | assumption) rfl rfl rfl dX2_carryOut_161 rfl ?_
    rw [show (jk_row (jk_row σ (s + 14) (jk_set (σ (s + 14)) a b)) (s + 16) (jk_set (σ (s + 16)) a 1)) (s + 12) a + (jk_row (jk_row σ (s + 14) (jk_set (σ (s + 14)) a b)) (s + 16) (jk_set (σ (s + 16)) a 1)) (s + 14) a = md_gap (md_runG g a b) a by
      obtain ⟨e1, e2, e3, e4, ⟨e5, -⟩, -⟩ := hu.2.2.2.2.1.2.2.1 a (by rw [show md_runG g a b 1 = g 1 by unfold md_runG; simp only [jk_set]; rw [if_neg (by omega), if_neg (by omega)]]; exact o1)
      rw [e4, e5 (by unfold md_runG; rw [jk_set_ne _ _ (by omega), jk_set_at])]
      rfl]
    exact jk_iret rfl dX2_carryOut_164 (by exact cl_up_c hu)
  refine jk_caseC 6 (fun z6 => ?_) (fun z6 => ?_)
  · refine jk_tswIn (q := 165) (by decide) dX2_carryOut_8 (by decide) rfl rfl ?_
    have hk9 := zk_c6 k hk (by assumption)
    subst hk9
    replace h0 : (md_marks g a 0).1 = 0 := h0
    show jk_J _ _ _ _ _ _ _ _ _ _ _ (ch_cQ s f y (md_marks g a 0).2.2 (md_marks g a 0).2.1 σ n t ρ) _
    obtain ⟨o1, oe⟩ := cl_ok5 h0
    rw [oe]
    have hu := cl_up_mark (n := n) (t := t) (ρ := ρ) (w := 1 - 0) ha hr o1
    have ha2 := md_all_mark ha o1 (w := 1 - 0) (by decide)
    refine jk_aload_n (q := 166) dX2_carryOut_165 rfl rfl ?_
    refine jk_getA (q := 169) (k := 2) 0 0 rfl (by first | exact hcc.1 | exact hs.1 | exact hs.2.1 _ _ rfl | exact hf.1 | exact hwa.1.1 | exact hsh.1.1 | assumption) (by first | exact hcc.2.1 | exact hcc.2.2.1 | exact hcc.2.2.2.1 | exact hcc.2.2.2.2 | exact hs.2.2.1 _ _ rfl | assumption) rfl rfl jw_295 dX2_carryOut_166 rfl ?_
    refine jk_getA (q := 172) (k := 9) 10 10 rfl (by first | exact hcc.1 | exact hs.1 | exact hs.2.1 _ _ rfl | exact hf.1 | exact hwa.1.1 | exact hsh.1.1 | assumption) (by first | exact hcc.2.1 | exact hcc.2.2.1 | exact hcc.2.2.2.1 | exact hcc.2.2.2.2 | exact hs.2.2.1 _ _ rfl | assumption) rfl rfl jw_99 dX2_carryOut_169 rfl ?_
    refine jk_iload_n (q := 173) dX2_carryOut_172 rfl rfl ?_
    refine jk_iconst (q := 174) dX2_carryOut_173 rfl ?_
    refine jk_zastR (q := 175) (by first | exact hcc.1 | exact hs.1 | exact hs.2.1 _ _ rfl | exact hf.1 | exact hwa.1.1 | exact hsh.1.1 | assumption) (by first | exact jk_row_same _ _ _ | ((repeat rewrite [jk_row_ne _ _ (by omega)]); first | exact jk_row_same _ _ _ | rfl)) (by first | assumption | decide | omega | exact jB_01 _ | exact jB_in _ | exact ⟨by omega, by omega⟩ | (have h9 := zk_bd k hk; show jk_in (zk_sw k); exact ⟨by omega, by omega⟩)) (by first | assumption | decide | omega | exact jB_01 _ | exact jB_in _ | exact ⟨by omega, by omega⟩ | (have h9 := zk_bd k hk; show jk_in (zk_sw k); exact ⟨by omega, by omega⟩)) dX2_carryOut_174 rfl ?_
    refine jk_aload_n (q := 176) dX2_carryOut_175 rfl rfl ?_
    refine jk_getA (q := 179) (k := 2) 0 0 rfl (by first | exact hcc.1 | exact hs.1 | exact hs.2.1 _ _ rfl | exact hf.1 | exact hwa.1.1 | exact hsh.1.1 | assumption) (by first | exact hcc.2.1 | exact hcc.2.2.1 | exact hcc.2.2.2.1 | exact hcc.2.2.2.2 | exact hs.2.2.1 _ _ rfl | assumption) rfl rfl jw_295 dX2_carryOut_176 rfl ?_
    refine jk_cV0p (q := 182) (c_X9_usableLines hs hu.2.2.2.2.1 ha2.1) jm_X9_usableLines jw_763 rfl (by first | exact hcc.1 | exact hs.1 | exact hs.2.1 _ _ rfl | exact hf.1 | exact hwa.1.1 | exact hsh.1.1 | assumption) rfl rfl rfl dX2_carryOut_179 rfl ?_
    exact jk_iret rfl dX2_carryOut_182 (by exact cl_up_c hu)
  refine jk_caseC 7 (fun z7 => ?_) (fun z7 => ?_)
  · refine jk_tswIn (q := 183) (by decide) dX2_carryOut_8 (by decide) rfl rfl ?_
    have hk9 := zk_c7 k hk (by assumption)
    subst hk9
    replace h0 : (md_marks g a 1).1 = 0 := h0
    show jk_J _ _ _ _ _ _ _ _ _ _ _ (ch_cQ s f y (md_marks g a 1).2.2 (md_marks g a 1).2.1 σ n t ρ) _
    obtain ⟨o1, oe⟩ := cl_ok5 h0
    rw [oe]
    have hu := cl_up_mark (n := n) (t := t) (ρ := ρ) (w := 1 - 1) ha hr o1
    have ha2 := md_all_mark ha o1 (w := 1 - 1) (by decide)
    refine jk_aload_n (q := 184) dX2_carryOut_183 rfl rfl ?_
    refine jk_getA (q := 187) (k := 2) 0 0 rfl (by first | exact hcc.1 | exact hs.1 | exact hs.2.1 _ _ rfl | exact hf.1 | exact hwa.1.1 | exact hsh.1.1 | assumption) (by first | exact hcc.2.1 | exact hcc.2.2.1 | exact hcc.2.2.2.1 | exact hcc.2.2.2.2 | exact hs.2.2.1 _ _ rfl | assumption) rfl rfl jw_295 dX2_carryOut_184 rfl ?_
    refine jk_getA (q := 190) (k := 9) 10 10 rfl (by first | exact hcc.1 | exact hs.1 | exact hs.2.1 _ _ rfl | exact hf.1 | exact hwa.1.1 | exact hsh.1.1 | assumption) (by first | exact hcc.2.1 | exact hcc.2.2.1 | exact hcc.2.2.2.1 | exact hcc.2.2.2.2 | exact hs.2.2.1 _ _ rfl | assumption) rfl rfl jw_99 dX2_carryOut_187 rfl ?_
    refine jk_iload_n (q := 191) dX2_carryOut_190 rfl rfl ?_
    refine jk_iconst (q := 192) dX2_carryOut_191 rfl ?_
    refine jk_zastR (q := 193) (by first | exact hcc.1 | exact hs.1 | exact hs.2.1 _ _ rfl | exact hf.1 | exact hwa.1.1 | exact hsh.1.1 | assumption) (by first | exact jk_row_same _ _ _ | ((repeat rewrite [jk_row_ne _ _ (by omega)]); first | exact jk_row_same _ _ _ | rfl)) (by first | assumption | decide | omega | exact jB_01 _ | exact jB_in _ | exact ⟨by omega, by omega⟩ | (have h9 := zk_bd k hk; show jk_in (zk_sw k); exact ⟨by omega, by omega⟩)) (by first | assumption | decide | omega | exact jB_01 _ | exact jB_in _ | exact ⟨by omega, by omega⟩ | (have h9 := zk_bd k hk; show jk_in (zk_sw k); exact ⟨by omega, by omega⟩)) dX2_carryOut_192 rfl ?_
    refine jk_aload_n (q := 194) dX2_carryOut_193 rfl rfl ?_
    refine jk_getA (q := 197) (k := 2) 0 0 rfl (by first | exact hcc.1 | exact hs.1 | exact hs.2.1 _ _ rfl | exact hf.1 | exact hwa.1.1 | exact hsh.1.1 | assumption) (by first | exact hcc.2.1 | exact hcc.2.2.1 | exact hcc.2.2.2.1 | exact hcc.2.2.2.2 | exact hs.2.2.1 _ _ rfl | assumption) rfl rfl jw_295 dX2_carryOut_194 rfl ?_
    refine jk_cV0p (q := 200) (c_X9_usableLines hs hu.2.2.2.2.1 ha2.1) jm_X9_usableLines jw_763 rfl (by first | exact hcc.1 | exact hs.1 | exact hs.2.1 _ _ rfl | exact hf.1 | exact hwa.1.1 | exact hsh.1.1 | assumption) rfl rfl rfl dX2_carryOut_197 rfl ?_
    exact jk_iret rfl dX2_carryOut_200 (by exact cl_up_c hu)
  refine jk_caseC 8 (fun z8 => ?_) (fun z8 => ?_)
  · refine jk_tswIn (q := 201) (by decide) dX2_carryOut_8 (by decide) rfl rfl ?_
    have hk9 := zk_c8 k hk (by assumption)
    subst hk9
    replace h0 : (md_shares g a).1 = 0 := h0
    show jk_J _ _ _ _ _ _ _ _ _ _ _ (ch_cQ s f y (md_shares g a).2.2 (md_shares g a).2.1 σ n t ρ) _
    obtain ⟨o1, o2, oe⟩ := cl_ok7 h0
    rw [oe]
    refine jk_aload_n (q := 202) dX2_carryOut_201 rfl rfl ?_
    refine jk_iload_n (q := 203) dX2_carryOut_202 rfl rfl ?_
    refine jk_cV1g (q := 206) (c_X2_shareOut hch ha hr o1 o2) jm_X2_shareOut jw_768 rfl (by first | exact hcc.1 | exact hs.1 | exact hs.2.1 _ _ rfl | exact hf.1 | exact hwa.1.1 | exact hsh.1.1 | assumption) rfl rfl (Nat.zero_le _) (Nat.zero_le _) rfl dX2_carryOut_203 rfl (fun v' n' t' σ1 ρ' hq => ?_) (fun _ _ _ _ _ h => h.elim)
    obtain ⟨rfl, hn9, ht9, hr9, hp9⟩ := hq
    replace hn9 := hn9.symm; replace ht9 := ht9.symm; replace hr9 := hr9.symm; subst hn9 ht9 hr9
    simp only [Option.toList_some, Option.toList_none, List.cons_append, List.nil_append, Nat.sub_zero]
    exact jk_iret rfl dX2_carryOut_206 (by exact ⟨rfl, rfl, rfl, rfl, hp9⟩)
  refine jk_caseC 9 (fun z9 => ?_) (fun z9 => ?_)
  · refine jk_tswIn (q := 212) (by decide) dX2_carryOut_8 (by decide) rfl rfl ?_
    have hk9 := zk_c9 k hk (by assumption)
    subst hk9
    replace h0 : (md_addsProfile g a).1 = 0 := h0
    show jk_J _ _ _ _ _ _ _ _ _ _ _ (ch_cQ s f y (md_addsProfile g a).2.2 (md_addsProfile g a).2.1 σ n t ρ) _
    obtain ⟨o1, o2, oe⟩ := cl_ok9 h0
    rw [oe]
    refine jk_aload_n (q := 213) dX2_carryOut_212 rfl rfl ?_
    refine jk_iload_n (q := 214) dX2_carryOut_213 rfl rfl ?_
    refine jk_cV1g (q := 217) (c_X2_putProfile hch ha hr (by omega)) jm_X2_putProfile jw_791 rfl (by first | exact hcc.1 | exact hs.1 | exact hs.2.1 _ _ rfl | exact hf.1 | exact hwa.1.1 | exact hsh.1.1 | assumption) rfl rfl (Nat.zero_le _) (Nat.zero_le _) rfl dX2_carryOut_214 rfl (fun v' n' t' σ1 ρ' hq => ?_) (fun _ _ _ _ _ h => h.elim)
    obtain ⟨rfl, hn9, ht9, hr9, hp9⟩ := hq
    replace hn9 := hn9.symm; replace ht9 := ht9.symm; replace hr9 := hr9.symm; subst hn9 ht9 hr9
    simp only [Option.toList_some, Option.toList_none, List.cons_append, List.nil_append, Nat.sub_zero]
    exact jk_iret rfl dX2_carryOut_217 (by exact cl_up_c ⟨rfl, rfl, rfl, rfl, hp9⟩)
  refine jk_caseC 10 (fun z10 => ?_) (fun z10 => ?_)
  · refine jk_tswIn (q := 218) (by decide) dX2_carryOut_8 (by decide) rfl rfl ?_
    have hk9 := zk_c10 k hk (by assumption)
    subst hk9
    replace h0 : (md_addsStation g a b v).1 = 0 := h0
    show jk_J _ _ _ _ _ _ _ _ _ _ _ (ch_cQ s f y (md_addsStation g a b v).2.2 (md_addsStation g a b v).2.1 σ n t ρ) _
    obtain ⟨o1, o2, o3, o4, oe⟩ := cl_ok10 h0
    rw [oe]
    obtain ⟨q, hq9⟩ : ∃ q : Nat, a = (q : Int) := ⟨a.toNat, by omega⟩
    subst hq9
    have hst := (hi.2.2.2.2.2.2.2.1 (q : Int) ⟨by omega, by omega⟩).1
    refine jk_aload_n (q := 219) dX2_carryOut_218 rfl rfl ?_
    refine jk_iload_n (q := 220) dX2_carryOut_219 rfl rfl ?_
    refine jk_iload_n (q := 221) dX2_carryOut_220 rfl rfl ?_
    refine jk_iload (q := 223) dX2_carryOut_221 rfl rfl ?_
    refine jk_cV3g (q := 226) (c_X2_putStation hch ha hr o1.2 (by omega) o2) jm_X2_putStation jw_795 rfl (by first | exact hcc.1 | exact hs.1 | exact hs.2.1 _ _ rfl | exact hf.1 | exact hwa.1.1 | exact hsh.1.1 | assumption) rfl rfl (Nat.zero_le _) (Nat.zero_le _) rfl dX2_carryOut_223 rfl (fun v' n' t' σ1 ρ' hq => ?_) (fun _ _ _ _ _ h => h.elim)
    obtain ⟨rfl, hn9, ht9, hr9, hp9⟩ := hq
    replace hn9 := hn9.symm; replace ht9 := ht9.symm; replace hr9 := hr9.symm; subst hn9 ht9 hr9
    simp only [Option.toList_some, Option.toList_none, List.cons_append, List.nil_append, Nat.sub_zero]
    exact jk_iret rfl dX2_carryOut_226 (by exact cl_up_c ⟨rfl, rfl, rfl, rfl, hp9⟩)
  refine jk_caseC 11 (fun z11 => ?_) (fun z11 => ?_)
  · refine jk_tswIn (q := 227) (by decide) dX2_carryOut_8 (by decide) rfl rfl ?_
    have hk9 := zk_c11 k hk (by assumption)
    subst hk9
    replace h0 : (md_setsWater g a).1 = 0 := h0
    show jk_J _ _ _ _ _ _ _ _ _ _ _ (ch_cQ s f y (md_setsWater g a).2.2 (md_setsWater g a).2.1 σ n t ρ) _
    obtain ⟨o1, oe⟩ := cl_ok11 h0
    rw [oe]
    refine jk_aload_n (q := 228) dX2_carryOut_227 rfl rfl ?_
    refine jk_iload_n (q := 229) dX2_carryOut_228 rfl rfl ?_
    refine jk_cV1g (q := 232) (c_X2_putWater hch ha hr) jm_X2_putWater jw_799 rfl (by first | exact hcc.1 | exact hs.1 | exact hs.2.1 _ _ rfl | exact hf.1 | exact hwa.1.1 | exact hsh.1.1 | assumption) rfl rfl (Nat.zero_le _) (Nat.zero_le _) rfl dX2_carryOut_229 rfl (fun v' n' t' σ1 ρ' hq => ?_) (fun _ _ _ _ _ h => h.elim)
    obtain ⟨rfl, hn9, ht9, hr9, hp9⟩ := hq
    replace hn9 := hn9.symm; replace ht9 := ht9.symm; replace hr9 := hr9.symm; subst hn9 ht9 hr9
    simp only [Option.toList_some, Option.toList_none, List.cons_append, List.nil_append, Nat.sub_zero]
    exact jk_iret rfl dX2_carryOut_232 (by exact cl_up_c ⟨rfl, rfl, rfl, rfl, hp9⟩)
  refine jk_caseC 12 (fun z12 => ?_) (fun z12 => ?_)
  · refine jk_tswIn (q := 207) (by decide) dX2_carryOut_8 (by decide) rfl rfl ?_
    have hk9 := zk_c12 k hk (by assumption)
    subst hk9
    replace h0 : (md_resets g).1 = 0 := h0
    show jk_J _ _ _ _ _ _ _ _ _ _ _ (ch_cQ s f y (md_resets g).2.2 (md_resets g).2.1 σ n t ρ) _
    refine jk_aload_n (q := 208) dX2_carryOut_207 rfl rfl ?_
    refine jk_cV0g (q := 211) (c_X2_clearCorrections hch ha hr) jm_X2_clearCorrections jw_787 rfl (by first | exact hcc.1 | exact hs.1 | exact hs.2.1 _ _ rfl | exact hf.1 | exact hwa.1.1 | exact hsh.1.1 | assumption) rfl rfl (Nat.zero_le _) (Nat.zero_le _) rfl dX2_carryOut_208 rfl (fun v' n' t' σ1 ρ' hq => ?_) (fun _ _ _ _ _ h => h.elim)
    obtain ⟨rfl, hn9, ht9, hr9, hp9⟩ := hq
    replace hn9 := hn9.symm; replace ht9 := ht9.symm; replace hr9 := hr9.symm; subst hn9 ht9 hr9
    simp only [Option.toList_some, Option.toList_none, List.cons_append, List.nil_append, Nat.sub_zero]
    exact jk_iret rfl dX2_carryOut_211 (by exact cl_up_c ⟨rfl, rfl, rfl, rfl, hp9⟩)
  refine jk_tswD (q := 233) [1, 2, 3, 4, 5, 6, 7, 8, 9, 10, 11, 12] (by first | assumption | decide | omega | exact jB_01 _ | exact jB_in _ | exact ⟨by omega, by omega⟩ | (have h9 := zk_bd k hk; show jk_in (zk_sw k); exact ⟨by omega, by omega⟩)) dX2_carryOut_8 (by decide) (by decide) (by simp only [List.contains_cons, List.contains_nil, Bool.or_false, Bool.or_eq_false_iff, beq_eq_false_iff_ne, ne_eq]; first | (exact ⟨by assumption, by assumption, by assumption, by assumption, by assumption, by assumption, by assumption, by assumption, by assumption, by assumption, by assumption, by assumption⟩) | assumption | (refine ⟨?_, ?_, ?_, ?_, ?_, ?_, ?_, ?_, ?_, ?_, ?_, ?_⟩ <;> assumption)) rfl ?_
  exact absurd (zk_d1 k hk (by assumption) (by assumption) (by assumption) (by assumption) (by assumption) (by assumption) (by assumption) (by assumption) (by assumption) (by assumption) (by assumption)) (zk_d2 k hk (by assumption))
end CD3
