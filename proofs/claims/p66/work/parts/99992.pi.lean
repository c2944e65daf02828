section PI
theorem ln_fc_t {x : Nat} {σ σ1 σ2 : jk_I} (h1 : ln_fc x σ σ1) (h2 : ln_fc x σ1 σ2) : ln_fc x σ σ2 := fun a g1 g2 => (h2 a g1 g2).trans (h1 a g1 g2)
theorem bz_ls_bd {B : Int} {S : ps_S} (h : pc_ok B S) : 1 ≤ bz_ls S ∧ bz_ls S ≤ 16 := by
  have := h.1.1.1.2.1
  unfold bz_ls; split <;> omega
theorem pc_ok_doA {x k : Nat} {S : ps_S} {B a b v d : Int} {t : jk_T} {σ : jk_I} {ρ : jk_P} (_ : pc_at x (ps_do k S a b v d) t σ ρ) (h : pc_ok B S) (hB : B + 85 ≤ 1100000) : pc_ok (B + 85) (ps_do k S a b v d) := pc_ok_do h hB k a b v d
theorem bl_a {G : jk_G} {n : Nat} {t : jk_T} {σ : jk_I} {ρ : jk_P} {x : Nat} {B : Int} {C E : Nat} {Q : jk_Q} {X : jk_X} (hz : zz_ok G) (hx : zx_ok G) (hzn : zn_ok G) (hzn2 : zn2_ok G) {S0 : ps_S} {z pts : Int} (hpts : 4 ≤ pts ∧ pts ≤ 7) (hB : B + 12000 ≤ 1100000) (hat : pc_at x S0 t σ ρ) (hok : pc_ok B S0) (kk : ∀ n' σ' rc rs, n ≤ n' → pc_at x (bz_a S0 pts.toNat) t σ' ρ → pc_ok (B + 85 * pts) (bz_a S0 pts.toNat) → ln_fc x σ σ' → C ≤ rc → E ≤ rs → jk_J G mL_build 44 [some (.ref 63), some (.ref x), some (jI z), some (jI pts), none, none, none, none, none, none] [] n' t σ' ρ rc rs Q X) : ∀ ka : Nat, ka ≤ pts.toNat → ∀ n' σ' rc rs, n ≤ n' → pc_at x (bz_a S0 ka) t σ' ρ → pc_ok (B + 85 * (ka : Int)) (bz_a S0 ka) → ln_fc x σ σ' → C + 1 * (pts.toNat - ka) ≤ rc → E + 6 * (pts.toNat - ka) ≤ rs → jk_J G mL_build 23 [some (.ref 63), some (.ref x), some (jI z), some (jI pts), some (jI (ka : Int)), none, none, none, none, none] [] n' t σ' ρ rc rs Q X := by
  refine jk_loop pts.toNat (fun ka hk ih => ?_)
  intro n0 σ0 rc rs hm0 hat0 hok0 hfc0 hrc hrs
  refine jk_iload (q := 25) dL_build_23 rfl rfl ?_
  refine jk_iload_n (q := 26) dL_build_25 rfl rfl ?_
  refine jk_icmp_ge (q := 44) (q2 := 29) dL_build_26 rfl rfl (by first | assumption | decide | omega | exact jk_and_in _ _ | exact fA_in hq.1.2 _ | exact ⟨by omega, by omega⟩) (by first | assumption | decide | omega | exact jk_and_in _ _ | exact fA_in hq.1.2 _ | exact ⟨by omega, by omega⟩) (fun z1 => ?_) (fun z1 => ?_)
  · have e : ka = pts.toNat := by omega
    subst e
    exact jk_convw (kk _ _ _ _ (by omega) hat0 (by rw [show (85 : Int) * pts = 85 * ((pts.toNat : Nat) : Int) by omega]; exact hok0) hfc0 (by omega) (by omega)) ((jk_wkS rfl (jk_wkS rfl (jk_wkS rfl (jk_wkS rfl (jk_wkN (jk_wkN (jk_wkN (jk_wkN (jk_wkN (jk_wkN jk_wk0)))))))))))
  · refine jk_aload_n (q := 30) dL_build_29 rfl rfl ?_
    refine jk_iconst (q := 31) dL_build_30 rfl ?_
    refine jk_iconst (q := 32) dL_build_31 rfl ?_
    refine jk_iconst (q := 33) dL_build_32 rfl ?_
    refine jk_iconst (q := 34) dL_build_33 rfl ?_
    refine jc_act_0 (q := 37) hz hx hzn hzn2 hat0 hok0 jw_1614 rfl rfl (by omega) (by omega) rfl dL_build_34 rfl (fun n1 σ1 hm1 hat1 hg1 => ?_)
    have hfc1 := ln_fc_t hfc0 hg1
    have hok1 := pc_ok_doA hat1 hok0 (by omega)
    refine jk_pop (q := 38) dL_build_37 rfl rfl ?_
    refine jk_iinc4 (q := 41) dL_build_38 rfl rfl rfl ?_
    refine jk_goto (q := 23) dL_build_41 rfl ?_
    refine jk_convw (ih (by omega) _ _ _ _ (by omega) (by exact hat1) (by rw [show B + 85 * ((ka + 1 : Nat) : Int) = B + 85 * (ka : Int) + 85 by push_cast; omega]; exact hok1) hfc1 (by omega) (by omega)) ((jk_wkS rfl (jk_wkS rfl (jk_wkS rfl (jk_wkS rfl (jk_wkS (jk_li (by show ((ka + 1 : Nat) : Int) = (ka : Int) + 1; push_cast; omega)) (jk_wkN (jk_wkN (jk_wkN (jk_wkN (jk_wkN jk_wk0)))))))))))
theorem bl_f {G : jk_G} {n : Nat} {t : jk_T} {σ : jk_I} {ρ : jk_P} {x : Nat} {B : Int} {C E : Nat} {Q : jk_Q} {X : jk_X} (hz : zz_ok G) (hx : zx_ok G) (hzn : zn_ok G) (hzn2 : zn2_ok G) {S0 : ps_S} {z pts : Int} (hpts : 4 ≤ pts ∧ pts ≤ 7) (hB : B + 12000 ≤ 1100000) (hat : pc_at x S0 t σ ρ) (hok : pc_ok B S0) (kk : ∀ n' σ' rc rs, n ≤ n' → pc_at x (bz_f z pts S0 2) t σ' ρ → pc_ok (B + 85 * 2) (bz_f z pts S0 2) → ln_fc x σ σ' → C ≤ rc → E ≤ rs → jk_J G mL_build 103 [some (.ref 63), some (.ref x), some (jI z), some (jI pts), none, none, none, none, none, none] [] n' t σ' ρ rc rs Q X) : ∀ kf : Nat, kf ≤ 2 → ∀ n' σ' rc rs, n ≤ n' → pc_at x (bz_f z pts S0 kf) t σ' ρ → pc_ok (B + 85 * (kf : Int)) (bz_f z pts S0 kf) → ln_fc x σ σ' → C + 1 * (2 - kf) ≤ rc → E + 6 * (2 - kf) ≤ rs → jk_J G mL_build 47 [some (.ref 63), some (.ref x), some (jI z), some (jI pts), some (jI (kf : Int)), none, none, none, none, none] [] n' t σ' ρ rc rs Q X := by
  refine jk_loop 2 (fun kf hk ih => ?_)
  intro n0 σ0 rc rs hm0 hat0 hok0 hfc0 hrc hrs
  refine jk_iload (q := 49) dL_build_47 rfl rfl ?_
  refine jk_iconst (q := 50) dL_build_49 rfl ?_
  refine jk_icmp_ge (q := 103) (q2 := 53) dL_build_50 rfl rfl (by first | assumption | decide | omega | exact jk_and_in _ _ | exact fA_in hq.1.2 _ | exact ⟨by omega, by omega⟩) (by first | assumption | decide | omega | exact jk_and_in _ _ | exact fA_in hq.1.2 _ | exact ⟨by omega, by omega⟩) (fun z1 => ?_) (fun z1 => ?_)
  · have e : kf = 2 := by omega
    subst e
    exact jk_convw (kk _ _ _ _ (by omega) hat0 (by exact hok0) hfc0 (by omega) (by omega)) ((jk_wkS rfl (jk_wkS rfl (jk_wkS rfl (jk_wkS rfl (jk_wkN (jk_wkN (jk_wkN (jk_wkN (jk_wkN (jk_wkN jk_wk0)))))))))))
  · refine jk_iload_n (q := 54) dL_build_53 rfl rfl ?_
    refine jk_iconst (q := 55) dL_build_54 rfl ?_
    refine jk_iload (q := 57) dL_build_55 rfl rfl ?_
    refine jk_iadd (q := 58) dL_build_57 rfl ?_
    refine jk_ishrZ (q := 59) dL_build_58 rfl ?_
    refine jk_iconst (q := 60) dL_build_59 rfl ?_
    refine jk_iandZ (q := 61) dL_build_60 rfl ?_
    refine jk_iconst (q := 62) dL_build_61 rfl ?_
    refine jk_icmp_ne (q := 97) (q2 := 65) dL_build_62 rfl rfl (by first | assumption | decide | omega | exact jk_and_in _ _ | exact fA_in hq.1.2 _ | exact ⟨by omega, by omega⟩) (by first | assumption | decide | omega | exact jk_and_in _ _ | exact fA_in hq.1.2 _ | exact ⟨by omega, by omega⟩) (fun z2 => ?_) (fun z2 => ?_)
    · refine jk_iinc4 (q := 100) dL_build_97 rfl rfl rfl ?_
      refine jk_goto (q := 47) dL_build_100 rfl ?_
      refine jk_convw (ih (by omega) _ _ _ _ (by omega) (by rw [show bz_f z pts S0 (kf + 1) = _ from if_neg ‹_›]; exact hat0) (by rw [show bz_f z pts S0 (kf + 1) = _ from if_neg ‹_›]; rw [show B + 85 * ((kf + 1 : Nat) : Int) = B + 85 * (kf : Int) + 85 by push_cast; omega]; exact pc_ok_up hok0 (by omega) (by omega)) hfc0 (by omega) (by omega)) ((jk_wkS rfl (jk_wkS rfl (jk_wkS rfl (jk_wkS rfl (jk_wkS (jk_li (by show ((kf + 1 : Nat) : Int) = (kf : Int) + 1; push_cast; omega)) (jk_wkN (jk_wkN (jk_wkN (jk_wkN (jk_wkN jk_wk0)))))))))))
    · refine jk_aload_n (q := 66) dL_build_65 rfl rfl ?_
      refine jk_iconst (q := 67) dL_build_66 rfl ?_
      refine jk_iload_n (q := 68) dL_build_67 rfl rfl ?_
      refine jk_iconst (q := 69) dL_build_68 rfl ?_
      refine jk_iconst (q := 70) dL_build_69 rfl ?_
      refine jk_iload (q := 72) dL_build_70 rfl rfl ?_
      refine jk_imul (q := 73) dL_build_72 rfl ?_
      refine jk_iadd (q := 74) dL_build_73 rfl ?_
      refine jk_ishrZ (q := 75) dL_build_74 rfl ?_
      refine jk_bipush (q := 77) (y := 7) dL_build_75 rfl (by decide) ?_
      refine jk_iandZ (q := 78) dL_build_77 rfl ?_
      refine jk_iload_n (q := 79) dL_build_78 rfl rfl ?_
      refine jk_iremZ (q := 80) dL_build_79 rfl (jk_and_in _ _) (by first | assumption | decide | omega | exact jk_and_in _ _ | exact fA_in hq.1.2 _ | exact ⟨by omega, by omega⟩) (by first | assumption | decide | omega | exact jk_and_in _ _ | exact fA_in hq.1.2 _ | exact ⟨by omega, by omega⟩) ?_
      refine jk_iload_n (q := 81) dL_build_80 rfl rfl ?_
      refine jk_bipush (q := 83) (y := 10) dL_build_81 rfl (by decide) ?_
      refine jk_ishrZ (q := 84) dL_build_83 rfl ?_
      refine jk_sipush (q := 87) (y := 1023) dL_build_84 rfl (by decide) ?_
      refine jk_iandZ (q := 88) dL_build_87 rfl ?_
      refine jk_sipush (q := 91) (y := 300) dL_build_88 rfl (by decide) ?_
      refine jk_isub (q := 92) dL_build_91 rfl ?_
      refine jk_iconst (q := 93) dL_build_92 rfl ?_
      refine jc_act_1 (q := 96) hz hx hzn hzn2 hat0 hok0 jw_1614 rfl rfl (by omega) (by omega) rfl dL_build_93 rfl (fun n1 σ1 hm1 hat1 hg1 => ?_)
      have hfc1 := ln_fc_t hfc0 hg1
      have hok1 := pc_ok_doA hat1 hok0 (by omega)
      refine jk_pop (q := 97) dL_build_96 rfl rfl ?_
      refine jk_iinc4 (q := 100) dL_build_97 rfl rfl rfl ?_
      refine jk_goto (q := 47) dL_build_100 rfl ?_
      refine jk_convw (ih (by omega) _ _ _ _ (by omega) (by rw [show bz_f z pts S0 (kf + 1) = _ from if_pos ‹_›]; exact hat1) (by rw [show bz_f z pts S0 (kf + 1) = _ from if_pos ‹_›]; rw [show B + 85 * ((kf + 1 : Nat) : Int) = B + 85 * (kf : Int) + 85 by push_cast; omega]; exact hok1) hfc1 (by omega) (by omega)) ((jk_wkS rfl (jk_wkS rfl (jk_wkS rfl (jk_wkS rfl (jk_wkS (jk_li (by show ((kf + 1 : Nat) : Int) = (kf : Int) + 1; push_cast; omega)) (jk_wkN (jk_wkN (jk_wkN (jk_wkN (jk_wkN jk_wk0)))))))))))
theorem bl_s {G : jk_G} {n : Nat} {t : jk_T} {σ : jk_I} {ρ : jk_P} {x : Nat} {B : Int} {C E : Nat} {Q : jk_Q} {X : jk_X} (hz : zz_ok G) (hx : zx_ok G) (hzn : zn_ok G) (hzn2 : zn2_ok G) {S0 : ps_S} {z pts : Int} (hpts : 4 ≤ pts ∧ pts ≤ 7) (hB : B + 12000 ≤ 1100000) (hat : pc_at x S0 t σ ρ) (hok : pc_ok B S0) (kk : ∀ n' σ' rc rs, n ≤ n' → pc_at x (bz_s z S0 4) t σ' ρ → pc_ok (B + 85 * 4) (bz_s z S0 4) → ln_fc x σ σ' → C ≤ rc → E ≤ rs → jk_J G mL_build 172 [some (.ref 63), some (.ref x), some (jI z), some (jI pts), none, none, none, none, none, none] [] n' t σ' ρ rc rs Q X) : ∀ ks : Nat, ks ≤ 4 → ∀ n' σ' rc rs, n ≤ n' → pc_at x (bz_s z S0 ks) t σ' ρ → pc_ok (B + 85 * (ks : Int)) (bz_s z S0 ks) → ln_fc x σ σ' → C + 1 * (4 - ks) ≤ rc → E + 6 * (4 - ks) ≤ rs → jk_J G mL_build 124 [some (.ref 63), some (.ref x), some (jI z), some (jI pts), some (jI (ks : Int)), none, none, none, none, none] [] n' t σ' ρ rc rs Q X := by
  refine jk_loop 4 (fun ks hk ih => ?_)
  intro n0 σ0 rc rs hm0 hat0 hok0 hfc0 hrc hrs
  refine jk_iload (q := 126) dL_build_124 rfl rfl ?_
  refine jk_iconst (q := 127) dL_build_126 rfl ?_
  refine jk_icmp_ge (q := 172) (q2 := 130) dL_build_127 rfl rfl (by first | assumption | decide | omega | exact jk_and_in _ _ | exact fA_in hq.1.2 _ | exact ⟨by omega, by omega⟩) (by first | assumption | decide | omega | exact jk_and_in _ _ | exact fA_in hq.1.2 _ | exact ⟨by omega, by omega⟩) (fun z1 => ?_) (fun z1 => ?_)
  · have e : ks = 4 := by omega
    subst e
    exact jk_convw (kk _ _ _ _ (by omega) hat0 (by exact hok0) hfc0 (by omega) (by omega)) ((jk_wkS rfl (jk_wkS rfl (jk_wkS rfl (jk_wkS rfl (jk_wkN (jk_wkN (jk_wkN (jk_wkN (jk_wkN (jk_wkN jk_wk0)))))))))))
  · refine jk_aload_n (q := 131) dL_build_130 rfl rfl ?_
    refine jk_bipush (q := 133) (y := 8) dL_build_131 rfl (by decide) ?_
    refine jk_iconst (q := 134) dL_build_133 rfl ?_
    refine jk_iconst (q := 135) dL_build_134 rfl ?_
    refine jk_bipush (q := 137) (y := 7) dL_build_135 rfl (by decide) ?_
    refine jk_iload (q := 139) dL_build_137 rfl rfl ?_
    refine jk_imul (q := 140) dL_build_139 rfl ?_
    refine jk_iadd (q := 141) dL_build_140 rfl ?_
    refine jk_iload_n (q := 142) dL_build_141 rfl rfl ?_
    refine jk_iload (q := 144) dL_build_142 rfl rfl ?_
    refine jk_ishrZ (q := 145) dL_build_144 rfl ?_
    refine jk_iconst (q := 146) dL_build_145 rfl ?_
    refine jk_iandZ (q := 147) dL_build_146 rfl ?_
    refine jk_iadd (q := 148) dL_build_147 rfl ?_
    refine jk_iload_n (q := 149) dL_build_148 rfl rfl ?_
    refine jk_iconst (q := 150) dL_build_149 rfl ?_
    refine jk_iload (q := 152) dL_build_150 rfl rfl ?_
    refine jk_imul (q := 153) dL_build_152 rfl ?_
    refine jk_ishrZ (q := 154) dL_build_153 rfl ?_
    refine jk_sipush (q := 157) (y := 511) dL_build_154 rfl (by decide) ?_
    refine jk_iandZ (q := 158) dL_build_157 rfl ?_
    refine jk_sipush (q := 161) (y := 256) dL_build_158 rfl (by decide) ?_
    refine jk_isub (q := 162) dL_build_161 rfl ?_
    refine jc_act_8 (q := 165) hz hx hzn hzn2 hat0 hok0 jw_1614 rfl rfl (by omega) (by omega) rfl dL_build_162 rfl (fun n1 σ1 hm1 hat1 hg1 => ?_)
    have hfc1 := ln_fc_t hfc0 hg1
    have hok1 := pc_ok_doA hat1 hok0 (by omega)
    refine jk_pop (q := 166) dL_build_165 rfl rfl ?_
    refine jk_iinc4 (q := 169) dL_build_166 rfl rfl rfl ?_
    refine jk_goto (q := 124) dL_build_169 rfl ?_
    refine jk_convw (ih (by omega) _ _ _ _ (by omega) (by exact hat1) (by rw [show B + 85 * ((ks + 1 : Nat) : Int) = B + 85 * (ks : Int) + 85 by push_cast; omega]; exact hok1) hfc1 (by omega) (by omega)) ((jk_wkS rfl (jk_wkS rfl (jk_wkS rfl (jk_wkS rfl (jk_wkS (jk_li (by show ((ks + 1 : Nat) : Int) = (ks : Int) + 1; push_cast; omega)) (jk_wkN (jk_wkN (jk_wkN (jk_wkN (jk_wkN jk_wk0)))))))))))
theorem bl_l {G : jk_G} {n : Nat} {t : jk_T} {σ : jk_I} {ρ : jk_P} {x : Nat} {B : Int} {C E : Nat} {Q : jk_Q} {X : jk_X} (hz : zz_ok G) (hx : zx_ok G) (hzn : zn_ok G) (hzn2 : zn2_ok G) {S0 : ps_S} {L : Nat} {f : Nat → Int} (hq : zq_ok G L f) {z pts : Int} (hpts : 4 ≤ pts ∧ pts ≤ 7) (hB : B + 12000 ≤ 1100000) (hat : pc_at x S0 t σ ρ) (hok : pc_ok B S0) (kk : ∀ n' σ' rc rs, n ≤ n' → pc_at x (bz_l (fA L f) pts S0 12) t σ' ρ → pc_ok (B + 850 * 12) (bz_l (fA L f) pts S0 12) → ln_fc x σ σ' → C ≤ rc → E ≤ rs → jk_J G mL_build 593 [some (.ref 63), some (.ref x), some (jI z), some (jI pts), none, none, none, none, none, none] [] n' t σ' ρ rc rs Q X) : ∀ kl : Nat, kl ≤ 12 → ∀ n' σ' rc rs, n ≤ n' → pc_at x (bz_l (fA L f) pts S0 kl) t σ' ρ → pc_ok (B + 850 * (kl : Int)) (bz_l (fA L f) pts S0 kl) → ln_fc x σ σ' → C + 200 * (12 - kl) ≤ rc → E + 1200 * (12 - kl) ≤ rs → jk_J G mL_build 175 [some (.ref 63), some (.ref x), some (jI z), some (jI pts), some (jI ((kl : Int) + 1)), none, none, none, none, none] [] n' t σ' ρ rc rs Q X := by
  refine jk_loop 12 (fun kl hk ih => ?_)
  intro n0 σ0 rc rs hm0 hat0 hok0 hfc0 hrc hrs
  generalize hT0 : bz_l (fA L f) pts S0 kl = T0 at hat0 hok0
  refine jk_iload (q := 177) dL_build_175 rfl rfl ?_
  refine jk_bipush (q := 179) (y := 13) dL_build_177 rfl (by decide) ?_
  refine jk_icmp_ge (q := 593) (q2 := 182) dL_build_179 rfl rfl (by first | assumption | decide | omega | exact jk_and_in _ _ | exact fA_in hq.1.2 _ | exact ⟨by omega, by omega⟩) (by first | assumption | decide | omega | exact jk_and_in _ _ | exact fA_in hq.1.2 _ | exact ⟨by omega, by omega⟩) (fun z1 => ?_) (fun z1 => ?_)
  · have e : kl = 12 := by omega
    subst e
    subst hT0
    exact jk_convw (kk _ _ _ _ (by omega) hat0 (by exact hok0) hfc0 (by omega) (by omega)) ((jk_wkS rfl (jk_wkS rfl (jk_wkS rfl (jk_wkS rfl (jk_wkN (jk_wkN (jk_wkN (jk_wkN (jk_wkN (jk_wkN jk_wk0)))))))))))
  · refine jk_aload_n (q := 183) dL_build_182 rfl rfl ?_
    refine jk_iload (q := 185) dL_build_183 rfl rfl ?_
    refine jk_cS2p (q := 188) (c_at hq ⟨by omega, by omega⟩) jm_L_at jw_1593 rfl rfl rfl dL_build_185 rfl ?_
    refine jk_istore5 (q := 190) dL_build_188 rfl rfl rfl ?_
    refine jk_iload (q := 192) dL_build_190 rfl rfl ?_
    refine jk_bipush (q := 194) (y := 7) dL_build_192 rfl (by decide) ?_
    refine jk_iandZ (q := 195) dL_build_194 rfl ?_
    refine jk_iload_n (q := 196) dL_build_195 rfl rfl ?_
    refine jk_iremZ (q := 197) dL_build_196 rfl (jk_and_in _ _) (by first | assumption | decide | omega | exact jk_and_in _ _ | exact fA_in hq.1.2 _ | exact ⟨by omega, by omega⟩) (by first | assumption | decide | omega | exact jk_and_in _ _ | exact fA_in hq.1.2 _ | exact ⟨by omega, by omega⟩) ?_
    refine jk_istore6 (q := 199) dL_build_197 rfl rfl rfl ?_
    refine jk_iload (q := 201) dL_build_199 rfl rfl ?_
    refine jk_iconst (q := 202) dL_build_201 rfl ?_
    refine jk_ishrZ (q := 203) dL_build_202 rfl ?_
    refine jk_bipush (q := 205) (y := 7) dL_build_203 rfl (by decide) ?_
    refine jk_iandZ (q := 206) dL_build_205 rfl ?_
    refine jk_iload_n (q := 207) dL_build_206 rfl rfl ?_
    refine jk_iremZ (q := 208) dL_build_207 rfl (jk_and_in _ _) (by first | assumption | decide | omega | exact jk_and_in _ _ | exact fA_in hq.1.2 _ | exact ⟨by omega, by omega⟩) (by first | assumption | decide | omega | exact jk_and_in _ _ | exact fA_in hq.1.2 _ | exact ⟨by omega, by omega⟩) ?_
    refine jk_istore7 (q := 210) dL_build_208 rfl rfl rfl ?_
    refine jk_bipush (q := 212) (y := 20) dL_build_210 rfl (by decide) ?_
    refine jk_iload (q := 214) dL_build_212 rfl rfl ?_
    refine jk_iload (q := 216) dL_build_214 rfl rfl ?_
    refine jk_isub (q := 217) dL_build_216 rfl ?_
    refine jk_imul (q := 218) dL_build_217 rfl ?_
    refine jk_iload (q := 220) dL_build_218 rfl rfl ?_
    refine jk_bipush (q := 222) (y := 6) dL_build_220 rfl (by decide) ?_
    refine jk_ishrZ (q := 223) dL_build_222 rfl ?_
    refine jk_bipush (q := 225) (y := 15) dL_build_223 rfl (by decide) ?_
    refine jk_iandZ (q := 226) dL_build_225 rfl ?_
    refine jk_iadd (q := 227) dL_build_226 rfl ?_
    refine jk_bipush (q := 229) (y := 8) dL_build_227 rfl (by decide) ?_
    refine jk_isub (q := 230) dL_build_229 rfl ?_
    refine jk_istore8 (q := 232) dL_build_230 rfl rfl rfl ?_
    refine jk_aload_n (q := 233) dL_build_232 rfl rfl ?_
    refine jk_iload (q := 235) dL_build_233 rfl rfl ?_
    refine jk_iload (q := 237) dL_build_235 rfl rfl ?_
    refine jk_iload (q := 239) dL_build_237 rfl rfl ?_
    refine jk_iconst (q := 240) dL_build_239 rfl ?_
    refine jk_iload (q := 242) dL_build_240 rfl rfl ?_
    refine jk_bipush (q := 244) (y := 10) dL_build_242 rfl (by decide) ?_
    refine jk_ishrZ (q := 245) dL_build_244 rfl ?_
    refine jk_bipush (q := 247) (y := 15) dL_build_245 rfl (by decide) ?_
    refine jk_iandZ (q := 248) dL_build_247 rfl ?_
    refine jk_iadd (q := 249) dL_build_248 rfl ?_
    refine jc_line (q := 252) hz hx hzn hzn2 hat0 hok0 jw_1641 rfl rfl (by omega) (by omega) rfl dL_build_249 rfl (fun n1 σ1 hm1 hat1 hg1 => ?_)
    have hfc1 := ln_fc_t hfc0 hg1
    have hok1 := pc_ok_doA hat1 hok0 (by omega)
    refine jk_pop (q := 253) dL_build_252 rfl rfl ?_
    refine jk_iconst (q := 254) dL_build_253 rfl ?_
    refine jk_aload_n (q := 255) dL_build_254 rfl rfl ?_
    refine jq_call (q := 258) (As := []) (c_X12_lineCount hz hx hat1.1 hat1.2.1 hok1.1.1 hat1.2.2.1 hok1.1.2) rfl jm_X12_lineCount jw_1650 rfl hat1.1.1 rfl rfl rfl (by omega) (by omega) rfl dL_build_255 rfl (fun σ9 hg9 => ?_)
    have hat9 : pc_at x _ t σ9 ρ := ⟨hat1.1, ln_fr_rel (st_2 hok1.1) hat1.2.1 hg9, ln_fr_nn hat1.2.2.1 hg9, hs_rel_fr hat1.2.2.2 (fun j hj => st_2 (hok1.2.2 j hj)) (fun a g1 g2 => hg9 a (Or.inl g2))⟩
    have hfc9 := ln_fc_t hfc1 (pc_fc hg9)
    have i1 := hok1.1.1.1.2.1
    refine jk_mmax (q := 261) jw_1654 rfl rfl (by first | assumption | decide | omega | exact jk_and_in _ _ | exact fA_in hq.1.2 _ | exact ⟨by omega, by omega⟩) (by first | assumption | decide | omega | exact jk_and_in _ _ | exact fA_in hq.1.2 _ | exact ⟨by omega, by omega⟩) dL_build_258 rfl ?_
    refine jk_istore9 (q := 263) dL_build_261 rfl rfl rfl ?_
    refine bj_1 (z := z) (pts := pts) (i := (kl : Int) + 1) (c := fA L f ((kl : Int) + 1)) (ls := bz_ls (bz_0 pts (fA L f ((kl : Int) + 1)) T0)) (S := (bz_0 pts (fA L f ((kl : Int) + 1)) T0)) (C := C + 200 * (12 - (kl + 1)) + 160) (E := E + 1200 * (12 - (kl + 1)) + 960) hz hx hzn hzn2 trivial hpts (bz_ls_bd hok1) ⟨by omega, by omega⟩ hat9 hok1 (by omega) (fun p1 s1 u1 w1 hp1 ha1 hb1 hc1 hu1 hw1 => ?_) _ _ (by omega) (by omega)
    have hd1 := ln_fc_t hfc9 hc1
    refine bj_2 (z := z) (pts := pts) (i := (kl : Int) + 1) (c := fA L f ((kl : Int) + 1)) (ls := bz_ls (bz_0 pts (fA L f ((kl : Int) + 1)) T0)) (S := (bz_1 pts (fA L f ((kl : Int) + 1)) (bz_0 pts (fA L f ((kl : Int) + 1)) T0))) (C := C + 200 * (12 - (kl + 1)) + 140) (E := E + 1200 * (12 - (kl + 1)) + 840) hz hx hzn hzn2 trivial hpts (bz_ls_bd hok1) ⟨by omega, by omega⟩ ha1 hb1 (by omega) (fun p2 s2 u2 w2 hp2 ha2 hb2 hc2 hu2 hw2 => ?_) _ _ (by omega) (by omega)
    have hd2 := ln_fc_t hd1 hc2
    refine bj_3 (z := z) (pts := pts) (i := (kl : Int) + 1) (c := fA L f ((kl : Int) + 1)) (ls := bz_ls (bz_0 pts (fA L f ((kl : Int) + 1)) T0)) (S := (bz_2 (bz_ls (bz_0 pts (fA L f ((kl : Int) + 1)) T0)) (fA L f ((kl : Int) + 1)) (bz_1 pts (fA L f ((kl : Int) + 1)) (bz_0 pts (fA L f ((kl : Int) + 1)) T0)))) (C := C + 200 * (12 - (kl + 1)) + 120) (E := E + 1200 * (12 - (kl + 1)) + 720) hz hx hzn hzn2 trivial hpts (bz_ls_bd hok1) ⟨by omega, by omega⟩ ha2 hb2 (by omega) (fun p3 s3 u3 w3 hp3 ha3 hb3 hc3 hu3 hw3 => ?_) _ _ (by omega) (by omega)
    have hd3 := ln_fc_t hd2 hc3
    refine bj_4 (z := z) (pts := pts) (i := (kl : Int) + 1) (c := fA L f ((kl : Int) + 1)) (ls := bz_ls (bz_0 pts (fA L f ((kl : Int) + 1)) T0)) (S := (bz_3 (bz_ls (bz_0 pts (fA L f ((kl : Int) + 1)) T0)) (fA L f ((kl : Int) + 1)) (bz_2 (bz_ls (bz_0 pts (fA L f ((kl : Int) + 1)) T0)) (fA L f ((kl : Int) + 1)) (bz_1 pts (fA L f ((kl : Int) + 1)) (bz_0 pts (fA L f ((kl : Int) + 1)) T0))))) (C := C + 200 * (12 - (kl + 1)) + 100) (E := E + 1200 * (12 - (kl + 1)) + 600) hz hx hzn hzn2 trivial hpts (bz_ls_bd hok1) ⟨by omega, by omega⟩ ha3 hb3 (by omega) (fun p4 s4 u4 w4 hp4 ha4 hb4 hc4 hu4 hw4 => ?_) _ _ (by omega) (by omega)
    have hd4 := ln_fc_t hd3 hc4
    refine bj_5 (z := z) (pts := pts) (i := (kl : Int) + 1) (c := fA L f ((kl : Int) + 1)) (ls := bz_ls (bz_0 pts (fA L f ((kl : Int) + 1)) T0)) (S := (bz_4 (fA L f ((kl : Int) + 1)) (bz_3 (bz_ls (bz_0 pts (fA L f ((kl : Int) + 1)) T0)) (fA L f ((kl : Int) + 1)) (bz_2 (bz_ls (bz_0 pts (fA L f ((kl : Int) + 1)) T0)) (fA L f ((kl : Int) + 1)) (bz_1 pts (fA L f ((kl : Int) + 1)) (bz_0 pts (fA L f ((kl : Int) + 1)) T0)))))) (C := C + 200 * (12 - (kl + 1)) + 80) (E := E + 1200 * (12 - (kl + 1)) + 480) hz hx hzn hzn2 trivial hpts (bz_ls_bd hok1) ⟨by omega, by omega⟩ ha4 hb4 (by omega) (fun p5 s5 u5 w5 hp5 ha5 hb5 hc5 hu5 hw5 => ?_) _ _ (by omega) (by omega)
    have hd5 := ln_fc_t hd4 hc5
    refine bj_6 (z := z) (pts := pts) (i := (kl : Int) + 1) (c := fA L f ((kl : Int) + 1)) (ls := bz_ls (bz_0 pts (fA L f ((kl : Int) + 1)) T0)) (S := (bz_5 (fA L f ((kl : Int) + 1)) (bz_4 (fA L f ((kl : Int) + 1)) (bz_3 (bz_ls (bz_0 pts (fA L f ((kl : Int) + 1)) T0)) (fA L f ((kl : Int) + 1)) (bz_2 (bz_ls (bz_0 pts (fA L f ((kl : Int) + 1)) T0)) (fA L f ((kl : Int) + 1)) (bz_1 pts (fA L f ((kl : Int) + 1)) (bz_0 pts (fA L f ((kl : Int) + 1)) T0))))))) (C := C + 200 * (12 - (kl + 1)) + 60) (E := E + 1200 * (12 - (kl + 1)) + 360) hz hx hzn hzn2 trivial hpts (bz_ls_bd hok1) ⟨by omega, by omega⟩ ha5 hb5 (by omega) (fun p6 s6 u6 w6 hp6 ha6 hb6 hc6 hu6 hw6 => ?_) _ _ (by omega) (by omega)
    have hd6 := ln_fc_t hd5 hc6
    refine bj_7 (z := z) (pts := pts) (i := (kl : Int) + 1) (c := fA L f ((kl : Int) + 1)) (ls := bz_ls (bz_0 pts (fA L f ((kl : Int) + 1)) T0)) (S := (bz_6 pts (fA L f ((kl : Int) + 1)) (bz_5 (fA L f ((kl : Int) + 1)) (bz_4 (fA L f ((kl : Int) + 1)) (bz_3 (bz_ls (bz_0 pts (fA L f ((kl : Int) + 1)) T0)) (fA L f ((kl : Int) + 1)) (bz_2 (bz_ls (bz_0 pts (fA L f ((kl : Int) + 1)) T0)) (fA L f ((kl : Int) + 1)) (bz_1 pts (fA L f ((kl : Int) + 1)) (bz_0 pts (fA L f ((kl : Int) + 1)) T0)))))))) (C := C + 200 * (12 - (kl + 1)) + 40) (E := E + 1200 * (12 - (kl + 1)) + 240) hz hx hzn hzn2 trivial hpts (bz_ls_bd hok1) ⟨by omega, by omega⟩ ha6 hb6 (by omega) (fun p7 s7 u7 w7 hp7 ha7 hb7 hc7 hu7 hw7 => ?_) _ _ (by omega) (by omega)
    have hd7 := ln_fc_t hd6 hc7
    refine bj_8 (z := z) (pts := pts) (i := (kl : Int) + 1) (c := fA L f ((kl : Int) + 1)) (ls := bz_ls (bz_0 pts (fA L f ((kl : Int) + 1)) T0)) (S := (bz_7 (fA L f ((kl : Int) + 1)) (bz_6 pts (fA L f ((kl : Int) + 1)) (bz_5 (fA L f ((kl : Int) + 1)) (bz_4 (fA L f ((kl : Int) + 1)) (bz_3 (bz_ls (bz_0 pts (fA L f ((kl : Int) + 1)) T0)) (fA L f ((kl : Int) + 1)) (bz_2 (bz_ls (bz_0 pts (fA L f ((kl : Int) + 1)) T0)) (fA L f ((kl : Int) + 1)) (bz_1 pts (fA L f ((kl : Int) + 1)) (bz_0 pts (fA L f ((kl : Int) + 1)) T0))))))))) (C := C + 200 * (12 - (kl + 1)) + 20) (E := E + 1200 * (12 - (kl + 1)) + 120) hz hx hzn hzn2 trivial hpts (bz_ls_bd hok1) ⟨by omega, by omega⟩ ha7 hb7 (by omega) (fun p8 s8 u8 w8 hp8 ha8 hb8 hc8 hu8 hw8 => ?_) _ _ (by omega) (by omega)
    have hd8 := ln_fc_t hd7 hc8
    refine bj_9 (z := z) (pts := pts) (i := (kl : Int) + 1) (c := fA L f ((kl : Int) + 1)) (ls := bz_ls (bz_0 pts (fA L f ((kl : Int) + 1)) T0)) (S := (bz_8 pts (fA L f ((kl : Int) + 1)) (bz_7 (fA L f ((kl : Int) + 1)) (bz_6 pts (fA L f ((kl : Int) + 1)) (bz_5 (fA L f ((kl : Int) + 1)) (bz_4 (fA L f ((kl : Int) + 1)) (bz_3 (bz_ls (bz_0 pts (fA L f ((kl : Int) + 1)) T0)) (fA L f ((kl : Int) + 1)) (bz_2 (bz_ls (bz_0 pts (fA L f ((kl : Int) + 1)) T0)) (fA L f ((kl : Int) + 1)) (bz_1 pts (fA L f ((kl : Int) + 1)) (bz_0 pts (fA L f ((kl : Int) + 1)) T0)))))))))) (C := C + 200 * (12 - (kl + 1)) + 0) (E := E + 1200 * (12 - (kl + 1)) + 0) hz hx hzn hzn2 trivial hpts (bz_ls_bd hok1) ⟨by omega, by omega⟩ ha8 hb8 (by omega) (fun p9 s9 u9 w9 hp9 ha9 hb9 hc9 hu9 hw9 => ?_) _ _ (by omega) (by omega)
    have hd9 := ln_fc_t hd8 hc9
    refine jk_iinc4 (q := 590) dL_build_587 rfl rfl rfl ?_
    refine jk_goto (q := 175) dL_build_590 rfl ?_
    refine jk_convw (ih (by omega) _ _ _ _ (by omega) (by show pc_at x (bz_it pts (fA L f ((kl : Int) + 1)) (bz_l (fA L f) pts S0 kl)) t _ ρ; rw [hT0]; exact ha9) (by show pc_ok _ (bz_it pts (fA L f ((kl : Int) + 1)) (bz_l (fA L f) pts S0 kl)); rw [hT0, show B + 850 * ((kl + 1 : Nat) : Int) = B + 850 * (kl : Int) + 85 + 85 + 85 + 85 + 85 + 85 + 85 + 85 + 85 + 85 by push_cast; omega]; exact hb9) hd9 (by omega) (by omega)) ((jk_wkS rfl (jk_wkS rfl (jk_wkS rfl (jk_wkS rfl (jk_wkS (jk_li (by show ((kl + 1 : Nat) : Int) + 1 = (kl : Int) + 1 + 1; push_cast; omega)) (jk_wkN (jk_wkN (jk_wkN (jk_wkN (jk_wkN jk_wk0)))))))))))
end PI
