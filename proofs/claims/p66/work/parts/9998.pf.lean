section PF
theorem qk_n {p c : Int} (h : 0 ≤ p ∧ p < c) : ¬ md_in p 0 (c - 1) = false := fun h2 => md_inF h2 ⟨h.1, by omega⟩
theorem qk_fx {g : Int → Int} {p : Int} (h : 0 ≤ p ∧ p < g 0) : (md_q_fx g p).1 = 0 := by unfold md_q_fx; rw [if_neg (qk_n h)]
theorem qk_ln {g : Int → Int} {p a : Int} (h : 0 ≤ p ∧ p < g 1) : (md_q_ln g a p).1 = 0 := by unfold md_q_ln; rw [if_neg (qk_n h)]
theorem qk_ex {g : Int → Int} {p : Int} (h : 0 ≤ p ∧ p < g 1) : (md_q_ex g p).1 = 0 := by unfold md_q_ex; rw [if_neg (qk_n h)]
theorem qk_lv {g : Int → Int} {p : Int} (h : 0 ≤ p ∧ p < g 1) : (md_q_lv g p).1 = 0 := by unfold md_q_lv; rw [if_neg (qk_n h)]
theorem qk_st {g : Int → Int} {p : Int} (h : 0 ≤ p ∧ p < g 2) : (md_q_st g p).1 = 0 := by unfold md_q_st; rw [if_neg (qk_n h)]
/-! the number that tells a state -/
def sv_0 (g : Int → Int) : Int := 31 * (31 * (31 * g 0 + g 1) + g 2) + g 3
def sv_b (g : Int → Int) : Nat → Int
  | 0 => sv_0 g
  | k + 1 => 31 * (31 * sv_b g k + qa_ht g (k : Int)) + jB (md_q_fx g (k : Int)).2
def sv_l1 (g : Int → Int) (k : Nat) (v : Int) : Int := 31 * (31 * (31 * v + (md_q_firstOf g (k : Int)).2) + (md_q_secondOf g (k : Int)).2) + (md_q_lengthOf g (k : Int)).2
def sv_l2 (g : Int → Int) (k : Nat) (v : Int) : Int := 31 * (31 * (31 * v + (md_q_lv g (k : Int)).2) + (md_q_correction g (k : Int)).2) + qa_di g (k : Int) + jB (md_q_ex g (k : Int)).2
def sv_l (g : Int → Int) : Nat → Int
  | 0 => sv_b g (g 0).toNat
  | k + 1 => sv_l2 g k (sv_l1 g k (sv_l g k))
def sv_c (g : Int → Int) (q : Nat) (v : Int) : Nat → Int
  | 0 => v
  | j + 1 => 31 * sv_c g q v j + qa_gr g (q : Int) (3 * (j : Int))
def sv_p (g : Int → Int) : Nat → Int
  | 0 => sv_l g (g 1).toNat
  | k + 1 => sv_c g k (31 * sv_p g k + (md_q_st g (k : Int)).2) 34
def sv (g : Int → Int) : Int := sv_p g (g 2).toNat
theorem sl_c {G : jk_G} {n : Nat} {t : jk_T} {σ : jk_I} {ρ : jk_P} {x : Nat} {g : Int → Int} {B : Int} {C D : Nat} {Q : jk_Q} {X : jk_X} {q : Nat} {v0 : Int} (hz : zz_ok G) (hx : zx_ok G) (hzn : zn_ok G) (hzn2 : zn2_ok G) (hln : ln_at t ρ x) (hr : cl_rel σ (x + 2) g) (hok : st_ok B g) (hnn : cl_nn σ (x + 2)) (hq : (q : Int) < g 2) (kk : ∀ n' σ' rc rs, n ≤ n' → ln_fr x σ σ' → C ≤ rc → D ≤ rs → jk_J G mL_state 219 [some (.ref x), some (jI (sv_c g q v0 34)), some (jI (q : Int)), some (jI (3 * ((34 : Nat) : Int)))] [] n' t σ' ρ rc rs Q X) : ∀ j : Nat, j ≤ 34 → ∀ n' σ' rc rs, n ≤ n' → ln_fr x σ σ' → C + 6 * (34 - j) ≤ rc → D + 36 * (34 - j) ≤ rs → jk_J G mL_state 192 [some (.ref x), some (jI (sv_c g q v0 j)), some (jI (q : Int)), some (jI (3 * (j : Int)))] [] n' t σ' ρ rc rs Q X := by
  refine jk_loop 34 (fun j hj ih => ?_)
  intro n0 σ0 rc rs hm0 hf0 hrc hrs
  have hr0 := ln_fr_rel (st_2 hok) hr hf0
  have hnn0 := ln_fr_nn hnn hf0
  have i0 := hok.1.1.1
  have i1 := hok.1.1.2.1
  have i2 := hok.1.1.2.2.1
  refine jk_iload_n (q := 193) dL_state_192 rfl rfl ?_
  refine jk_bipush (q := 195) (y := 100) dL_state_193 rfl (by decide) ?_
  refine jk_icmp_ge (q := 219) (q2 := 198) dL_state_195 rfl rfl (by first | assumption | decide | omega | exact jB_01 _ | exact jB_in _ | exact ⟨by omega, by omega⟩) (by first | assumption | decide | omega | exact jB_01 _ | exact jB_in _ | exact ⟨by omega, by omega⟩) (fun z1 => ?_) (fun z1 => ?_)
  · have e : j = 34 := by omega
    subst e
    exact kk _ _ _ _ (by omega) hf0 (by omega) (by omega)
  · refine jk_bipush (q := 200) (y := 31) dL_state_198 rfl (by decide) ?_
    refine jk_iload_n (q := 201) dL_state_200 rfl rfl ?_
    refine jk_imul (q := 202) dL_state_201 rfl ?_
    refine jk_aload_n (q := 203) dL_state_202 rfl rfl ?_
    refine jk_bipush (q := 205) (y := 14) dL_state_203 rfl (by decide) ?_
    refine jk_iload_n (q := 206) dL_state_205 rfl rfl ?_
    refine jk_iload_n (q := 207) dL_state_206 rfl rfl ?_
    refine jk_iconst (q := 208) dL_state_207 rfl ?_
    refine jq_act_14 (q := 211) hz hx hzn hzn2 hln hr0 hok hnn0 jw_1614 rfl rfl (by omega) (by omega) rfl dL_state_208 rfl (fun n1 σ1 hm1 hg1 => ?_)
    have hf1 := ln_fr_t hf0 hg1
    have hr1 := ln_fr_rel (st_2 hok) hr hf1
    have hnn1 := ln_fr_nn hnn hf1
    refine jk_iadd (q := 212) dL_state_211 rfl ?_
    refine jk_istore1 (q := 213) dL_state_212 rfl rfl rfl ?_
    refine jk_iinc3 (q := 216) dL_state_213 rfl rfl rfl ?_
    refine jk_goto (q := 192) dL_state_216 rfl ?_
    refine jk_convw (ih (by omega) _ _ _ _ (by omega) hf1 (by omega) (by omega)) ((jk_wkS rfl (jk_wkS rfl (jk_wkS rfl (jk_wkS (jk_li (by show 3 * ((j + 1 : Nat) : Int) = 3 * (j : Int) + 3; push_cast; omega)) jk_wk0)))))
theorem sl_p {G : jk_G} {n : Nat} {t : jk_T} {σ : jk_I} {ρ : jk_P} {x : Nat} {g : Int → Int} {B : Int} {C D : Nat} {Q : jk_Q} {X : jk_X} (hz : zz_ok G) (hx : zx_ok G) (hzn : zn_ok G) (hzn2 : zn2_ok G) (hln : ln_at t ρ x) (hr : cl_rel σ (x + 2) g) (hok : st_ok B g) (hnn : cl_nn σ (x + 2)) (kk : ∀ n' σ' rc rs, n ≤ n' → ln_fr x σ σ' → C ≤ rc → D ≤ rs → jk_J G mL_state 225 [some (.ref x), some (jI (sv g)), none, none] [] n' t σ' ρ rc rs Q X) : ∀ pf : Nat, pf ≤ (g 2).toNat → ∀ n' σ' rc rs, n ≤ n' → ln_fr x σ σ' → C + 6 + 250 * ((g 2).toNat - pf) ≤ rc → D + 36 + 1500 * ((g 2).toNat - pf) ≤ rs → jk_J G mL_state 171 [some (.ref x), some (jI (sv_p g pf)), some (jI (pf : Int)), none] [] n' t σ' ρ rc rs Q X := by
  refine jk_loop (g 2).toNat (fun pf hj ih => ?_)
  intro n0 σ0 rc rs hm0 hf0 hrc hrs
  have hr0 := ln_fr_rel (st_2 hok) hr hf0
  have hnn0 := ln_fr_nn hnn hf0
  have i0 := hok.1.1.1
  have i1 := hok.1.1.2.1
  have i2 := hok.1.1.2.2.1
  refine jk_iload_n (q := 172) dL_state_171 rfl rfl ?_
  refine jk_aload_n (q := 173) dL_state_172 rfl rfl ?_
  refine jq_call (q := 176) (As := []) (c_X12_profileCount  hz hx hln hr0 hok.1 hnn0 hok.2 ) rfl jm_X12_profileCount jw_1658 rfl hln.1 rfl rfl rfl (by omega) (by omega) rfl dL_state_173 rfl (fun σ1 hg1 => ?_)
  have hf1 := ln_fr_t hf0 hg1
  have hr1 := ln_fr_rel (st_2 hok) hr hf1
  have hnn1 := ln_fr_nn hnn hf1
  refine jk_icmp_ge (q := 225) (q2 := 179) dL_state_176 rfl rfl (by first | assumption | decide | omega | exact jB_01 _ | exact jB_in _ | exact ⟨by omega, by omega⟩) (by first | assumption | decide | omega | exact jB_01 _ | exact jB_in _ | exact ⟨by omega, by omega⟩) (fun z1 => ?_) (fun z1 => ?_)
  · have e : pf = (g 2).toNat := by omega
    subst e
    exact jk_convw (kk _ _ _ _ (by omega) hf1 (by omega) (by omega)) ((jk_wkS rfl (jk_wkS rfl (jk_wkN (jk_wkN jk_wk0)))))
  · refine jk_bipush (q := 181) (y := 31) dL_state_179 rfl (by decide) ?_
    refine jk_iload_n (q := 182) dL_state_181 rfl rfl ?_
    refine jk_imul (q := 183) dL_state_182 rfl ?_
    refine jk_aload_n (q := 184) dL_state_183 rfl rfl ?_
    refine jk_iload_n (q := 185) dL_state_184 rfl rfl ?_
    refine jq_call (q := 188) (As := [jI ((pf : Int))]) (c_X12_stationCount (p := (pf : Int)) hz hx hln hr1 hok.1 hnn1 hok.2 ⟨by omega, by omega⟩) (qk_st ⟨by omega, by omega⟩) jm_X12_stationCount jw_1682 rfl hln.1 rfl rfl rfl (by omega) (by omega) rfl dL_state_185 rfl (fun σ2 hg2 => ?_)
    have hf2 := ln_fr_t hf1 hg2
    have hr2 := ln_fr_rel (st_2 hok) hr hf2
    have hnn2 := ln_fr_nn hnn hf2
    refine jk_iadd (q := 189) dL_state_188 rfl ?_
    refine jk_istore1 (q := 190) dL_state_189 rfl rfl rfl ?_
    refine jk_iconst (q := 191) dL_state_190 rfl ?_
    refine jk_istore3 (q := 192) dL_state_191 rfl rfl rfl ?_
    refine jk_convw (sl_c (C := C + 6 + 250 * ((g 2).toNat - (pf + 1))) (D := D + 36 + 1500 * ((g 2).toNat - (pf + 1))) (q := pf) (v0 := 31 * sv_p g pf + (md_q_st g (pf : Int)).2) hz hx hzn hzn2 hln hr hok hnn (by omega) (fun n8 σ8 rc8 rs8 hm8 hf8 hrc8 hrs8 => ?_) 0 (Nat.zero_le _) _ _ _ _ (by omega) hf2 (by omega) (by omega)) ((jk_wkS rfl (jk_wkS rfl (jk_wkS rfl (jk_wkS rfl jk_wk0)))))
    refine jk_iinc2 (q := 222) dL_state_219 rfl rfl rfl ?_
    refine jk_goto (q := 171) dL_state_222 rfl ?_
    refine jk_convw (ih (by omega) _ _ _ _ (by omega) hf8 (by omega) (by omega)) ((jk_wkS rfl (jk_wkS rfl (jk_wkS (jk_li (by show ((pf + 1 : Nat) : Int) = (pf : Int) + 1; push_cast; omega)) (jk_wkN jk_wk0)))))
theorem sl_l {G : jk_G} {n : Nat} {t : jk_T} {σ : jk_I} {ρ : jk_P} {x : Nat} {g : Int → Int} {B : Int} {C D : Nat} {Q : jk_Q} {X : jk_X} (hz : zz_ok G) (hx : zx_ok G) (hzn : zn_ok G) (hzn2 : zn2_ok G) (hln : ln_at t ρ x) (hr : cl_rel σ (x + 2) g) (hok : st_ok B g) (hnn : cl_nn σ (x + 2)) (kk : ∀ n' σ' rc rs, n ≤ n' → ln_fr x σ σ' → C ≤ rc → D ≤ rs → jk_J G mL_state 169 [some (.ref x), some (jI (sv_l g (g 1).toNat)), none, none] [] n' t σ' ρ rc rs Q X) : ∀ li : Nat, li ≤ (g 1).toNat → ∀ n' σ' rc rs, n ≤ n' → ln_fr x σ σ' → C + 6 + 60 * ((g 1).toNat - li) ≤ rc → D + 36 + 360 * ((g 1).toNat - li) ≤ rs → jk_J G mL_state 79 [some (.ref x), some (jI (sv_l g li)), some (jI (li : Int)), none] [] n' t σ' ρ rc rs Q X := by
  refine jk_loop (g 1).toNat (fun li hj ih => ?_)
  intro n0 σ0 rc rs hm0 hf0 hrc hrs
  have hr0 := ln_fr_rel (st_2 hok) hr hf0
  have hnn0 := ln_fr_nn hnn hf0
  have i0 := hok.1.1.1
  have i1 := hok.1.1.2.1
  have i2 := hok.1.1.2.2.1
  refine jk_iload_n (q := 80) dL_state_79 rfl rfl ?_
  refine jk_aload_n (q := 81) dL_state_80 rfl rfl ?_
  refine jq_call (q := 84) (As := []) (c_X12_lineCount  hz hx hln hr0 hok.1 hnn0 hok.2 ) rfl jm_X12_lineCount jw_1650 rfl hln.1 rfl rfl rfl (by omega) (by omega) rfl dL_state_81 rfl (fun σ1 hg1 => ?_)
  have hf1 := ln_fr_t hf0 hg1
  have hr1 := ln_fr_rel (st_2 hok) hr hf1
  have hnn1 := ln_fr_nn hnn hf1
  refine jk_icmp_ge (q := 169) (q2 := 87) dL_state_84 rfl rfl (by first | assumption | decide | omega | exact jB_01 _ | exact jB_in _ | exact ⟨by omega, by omega⟩) (by first | assumption | decide | omega | exact jB_01 _ | exact jB_in _ | exact ⟨by omega, by omega⟩) (fun z1 => ?_) (fun z1 => ?_)
  · have e : li = (g 1).toNat := by omega
    subst e
    exact jk_convw (kk _ _ _ _ (by omega) hf1 (by omega) (by omega)) ((jk_wkS rfl (jk_wkS rfl (jk_wkN (jk_wkN jk_wk0)))))
  · refine jk_bipush (q := 89) (y := 31) dL_state_87 rfl (by decide) ?_
    refine jk_bipush (q := 91) (y := 31) dL_state_89 rfl (by decide) ?_
    refine jk_bipush (q := 93) (y := 31) dL_state_91 rfl (by decide) ?_
    refine jk_iload_n (q := 94) dL_state_93 rfl rfl ?_
    refine jk_imul (q := 95) dL_state_94 rfl ?_
    refine jk_aload_n (q := 96) dL_state_95 rfl rfl ?_
    refine jk_iload_n (q := 97) dL_state_96 rfl rfl ?_
    refine jq_call (q := 100) (As := [jI ((li : Int))]) (c_X12_firstOf (p := (li : Int)) hz hx hln hr1 hok.1 hnn1 hok.2 ⟨by omega, by omega⟩) (qk_ln ⟨by omega, by omega⟩) jm_X12_firstOf jw_1666 rfl hln.1 rfl rfl rfl (by omega) (by omega) rfl dL_state_97 rfl (fun σ2 hg2 => ?_)
    have hf2 := ln_fr_t hf1 hg2
    have hr2 := ln_fr_rel (st_2 hok) hr hf2
    have hnn2 := ln_fr_nn hnn hf2
    refine jk_iadd (q := 101) dL_state_100 rfl ?_
    refine jk_imul (q := 102) dL_state_101 rfl ?_
    refine jk_aload_n (q := 103) dL_state_102 rfl rfl ?_
    refine jk_iload_n (q := 104) dL_state_103 rfl rfl ?_
    refine jq_call (q := 107) (As := [jI ((li : Int))]) (c_X12_secondOf (p := (li : Int)) hz hx hln hr2 hok.1 hnn2 hok.2 ⟨by omega, by omega⟩) (qk_ln ⟨by omega, by omega⟩) jm_X12_secondOf jw_1670 rfl hln.1 rfl rfl rfl (by omega) (by omega) rfl dL_state_104 rfl (fun σ3 hg3 => ?_)
    have hf3 := ln_fr_t hf2 hg3
    have hr3 := ln_fr_rel (st_2 hok) hr hf3
    have hnn3 := ln_fr_nn hnn hf3
    refine jk_iadd (q := 108) dL_state_107 rfl ?_
    refine jk_imul (q := 109) dL_state_108 rfl ?_
    refine jk_aload_n (q := 110) dL_state_109 rfl rfl ?_
    refine jk_iload_n (q := 111) dL_state_110 rfl rfl ?_
    refine jq_call (q := 114) (As := [jI ((li : Int))]) (c_X12_lengthOf (p := (li : Int)) hz hx hln hr3 hok.1 hnn3 hok.2 ⟨by omega, by omega⟩) (qk_ln ⟨by omega, by omega⟩) jm_X12_lengthOf jw_1674 rfl hln.1 rfl rfl rfl (by omega) (by omega) rfl dL_state_111 rfl (fun σ4 hg4 => ?_)
    have hf4 := ln_fr_t hf3 hg4
    have hr4 := ln_fr_rel (st_2 hok) hr hf4
    have hnn4 := ln_fr_nn hnn hf4
    refine jk_iadd (q := 115) dL_state_114 rfl ?_
    refine jk_istore1 (q := 116) dL_state_115 rfl rfl rfl ?_
    refine jk_bipush (q := 118) (y := 31) dL_state_116 rfl (by decide) ?_
    refine jk_bipush (q := 120) (y := 31) dL_state_118 rfl (by decide) ?_
    refine jk_bipush (q := 122) (y := 31) dL_state_120 rfl (by decide) ?_
    refine jk_iload_n (q := 123) dL_state_122 rfl rfl ?_
    refine jk_imul (q := 124) dL_state_123 rfl ?_
    refine jk_aload_n (q := 125) dL_state_124 rfl rfl ?_
    refine jk_iload_n (q := 126) dL_state_125 rfl rfl ?_
    refine jq_call (q := 129) (As := [jI ((li : Int))]) (c_X12_levelledDifference (p := (li : Int)) hz hx hln hr4 hok.1 hnn4 hok.2 ⟨by omega, by omega⟩) (qk_lv ⟨by omega, by omega⟩) jm_X12_levelledDifference jw_940 rfl hln.1 rfl rfl rfl (by omega) (by omega) rfl dL_state_126 rfl (fun σ5 hg5 => ?_)
    have hf5 := ln_fr_t hf4 hg5
    have hr5 := ln_fr_rel (st_2 hok) hr hf5
    have hnn5 := ln_fr_nn hnn hf5
    refine jk_iadd (q := 130) dL_state_129 rfl ?_
    refine jk_imul (q := 131) dL_state_130 rfl ?_
    refine jk_aload_n (q := 132) dL_state_131 rfl rfl ?_
    refine jk_iload_n (q := 133) dL_state_132 rfl rfl ?_
    refine jq_call (q := 136) (As := [jI ((li : Int))]) (c_X12_correction (p := (li : Int)) hz hx hln hr5 hok.1 hnn5 hok.2 ⟨by omega, by omega⟩) (qk_ln ⟨by omega, by omega⟩) jm_X12_correction jw_951 rfl hln.1 rfl rfl rfl (by omega) (by omega) rfl dL_state_133 rfl (fun σ6 hg6 => ?_)
    have hf6 := ln_fr_t hf5 hg6
    have hr6 := ln_fr_rel (st_2 hok) hr hf6
    have hnn6 := ln_fr_nn hnn hf6
    refine jk_iadd (q := 137) dL_state_136 rfl ?_
    refine jk_imul (q := 138) dL_state_137 rfl ?_
    refine jk_aload_n (q := 139) dL_state_138 rfl rfl ?_
    refine jk_bipush (q := 141) (y := 22) dL_state_139 rfl (by decide) ?_
    refine jk_iload_n (q := 142) dL_state_141 rfl rfl ?_
    refine jk_iconst (q := 143) dL_state_142 rfl ?_
    refine jk_iconst (q := 144) dL_state_143 rfl ?_
    refine jq_act_22 (q := 147) hz hx hzn hzn2 hln hr6 hok hnn6 jw_1614 rfl rfl (by omega) (by omega) rfl dL_state_144 rfl (fun n7 σ7 hm7 hg7 => ?_)
    have hf7 := ln_fr_t hf6 hg7
    have hr7 := ln_fr_rel (st_2 hok) hr hf7
    have hnn7 := ln_fr_nn hnn hf7
    refine jk_iadd (q := 148) dL_state_147 rfl ?_
    refine jk_aload_n (q := 149) dL_state_148 rfl rfl ?_
    refine jk_iload_n (q := 150) dL_state_149 rfl rfl ?_
    refine jq_call (q := 153) (As := [jI ((li : Int))]) (c_X12_isExcluded (p := (li : Int)) hz hx hln hr7 hok.1 hnn7 hok.2 ⟨by omega, by omega⟩) (qk_ex ⟨by omega, by omega⟩) jm_X12_isExcluded jw_1678 rfl hln.1 rfl rfl rfl (by omega) (by omega) rfl dL_state_150 rfl (fun σ8 hg8 => ?_)
    have hf8 := ln_fr_t hf7 hg8
    have hr8 := ln_fr_rel (st_2 hok) hr hf8
    have hnn8 := ln_fr_nn hnn hf8
    refine jk_ifB_eq (q := 160) (q2 := 156) dL_state_153 rfl rfl (fun z2 => ?_) (fun z2 => ?_)
    · refine jk_iconst (q := 161) dL_state_160 rfl ?_
      refine jk_iadd (q := 162) dL_state_161 rfl ?_
      refine jk_istore1 (q := 163) dL_state_162 rfl rfl rfl ?_
      refine jk_iinc2 (q := 166) dL_state_163 rfl rfl rfl ?_
      refine jk_goto (q := 79) dL_state_166 rfl ?_
      refine jk_convw (ih (by omega) _ _ _ _ (by omega) hf8 (by omega) (by omega)) ((jk_wkS rfl (jk_wkS (jk_li (by show sv_l2 g li (sv_l1 g li (sv_l g li)) = _; unfold sv_l2 sv_l1; rw [‹(md_q_ex g (li : Int)).2 = _›]; rfl)) (jk_wkS (jk_li (by show ((li + 1 : Nat) : Int) = (li : Int) + 1; push_cast; omega)) (jk_wkN jk_wk0)))))
    · refine jk_iconst (q := 157) dL_state_156 rfl ?_
      refine jk_goto (q := 161) dL_state_157 rfl ?_
      refine jk_iadd (q := 162) dL_state_161 rfl ?_
      refine jk_istore1 (q := 163) dL_state_162 rfl rfl rfl ?_
      refine jk_iinc2 (q := 166) dL_state_163 rfl rfl rfl ?_
      refine jk_goto (q := 79) dL_state_166 rfl ?_
      refine jk_convw (ih (by omega) _ _ _ _ (by omega) hf8 (by omega) (by omega)) ((jk_wkS rfl (jk_wkS (jk_li (by show sv_l2 g li (sv_l1 g li (sv_l g li)) = _; unfold sv_l2 sv_l1; rw [‹(md_q_ex g (li : Int)).2 = _›]; rfl)) (jk_wkS (jk_li (by show ((li + 1 : Nat) : Int) = (li : Int) + 1; push_cast; omega)) (jk_wkN jk_wk0)))))
theorem sl_b {G : jk_G} {n : Nat} {t : jk_T} {σ : jk_I} {ρ : jk_P} {x : Nat} {g : Int → Int} {B : Int} {C D : Nat} {Q : jk_Q} {X : jk_X} (hz : zz_ok G) (hx : zx_ok G) (hzn : zn_ok G) (hzn2 : zn2_ok G) (hln : ln_at t ρ x) (hr : cl_rel σ (x + 2) g) (hok : st_ok B g) (hnn : cl_nn σ (x + 2)) (kk : ∀ n' σ' rc rs, n ≤ n' → ln_fr x σ σ' → C ≤ rc → D ≤ rs → jk_J G mL_state 77 [some (.ref x), some (jI (sv_b g (g 0).toNat)), none, none] [] n' t σ' ρ rc rs Q X) : ∀ be : Nat, be ≤ (g 0).toNat → ∀ n' σ' rc rs, n ≤ n' → ln_fr x σ σ' → C + 6 + 30 * ((g 0).toNat - be) ≤ rc → D + 36 + 180 * ((g 0).toNat - be) ≤ rs → jk_J G mL_state 31 [some (.ref x), some (jI (sv_b g be)), some (jI (be : Int)), none] [] n' t σ' ρ rc rs Q X := by
  refine jk_loop (g 0).toNat (fun be hj ih => ?_)
  intro n0 σ0 rc rs hm0 hf0 hrc hrs
  have hr0 := ln_fr_rel (st_2 hok) hr hf0
  have hnn0 := ln_fr_nn hnn hf0
  have i0 := hok.1.1.1
  have i1 := hok.1.1.2.1
  have i2 := hok.1.1.2.2.1
  refine jk_iload_n (q := 32) dL_state_31 rfl rfl ?_
  refine jk_aload_n (q := 33) dL_state_32 rfl rfl ?_
  refine jq_call (q := 36) (As := []) (c_X12_benchmarkCount  hz hx hln hr0 hok.1 hnn0 hok.2 ) rfl jm_X12_benchmarkCount jw_851 rfl hln.1 rfl rfl rfl (by omega) (by omega) rfl dL_state_33 rfl (fun σ1 hg1 => ?_)
  have hf1 := ln_fr_t hf0 hg1
  have hr1 := ln_fr_rel (st_2 hok) hr hf1
  have hnn1 := ln_fr_nn hnn hf1
  refine jk_icmp_ge (q := 77) (q2 := 39) dL_state_36 rfl rfl (by first | assumption | decide | omega | exact jB_01 _ | exact jB_in _ | exact ⟨by omega, by omega⟩) (by first | assumption | decide | omega | exact jB_01 _ | exact jB_in _ | exact ⟨by omega, by omega⟩) (fun z1 => ?_) (fun z1 => ?_)
  · have e : be = (g 0).toNat := by omega
    subst e
    exact jk_convw (kk _ _ _ _ (by omega) hf1 (by omega) (by omega)) ((jk_wkS rfl (jk_wkS rfl (jk_wkN (jk_wkN jk_wk0)))))
  · refine jk_bipush (q := 41) (y := 31) dL_state_39 rfl (by decide) ?_
    refine jk_bipush (q := 43) (y := 31) dL_state_41 rfl (by decide) ?_
    refine jk_iload_n (q := 44) dL_state_43 rfl rfl ?_
    refine jk_imul (q := 45) dL_state_44 rfl ?_
    refine jk_aload_n (q := 46) dL_state_45 rfl rfl ?_
    refine jk_bipush (q := 48) (y := 10) dL_state_46 rfl (by decide) ?_
    refine jk_iload_n (q := 49) dL_state_48 rfl rfl ?_
    refine jk_iconst (q := 50) dL_state_49 rfl ?_
    refine jk_iconst (q := 51) dL_state_50 rfl ?_
    refine jq_act_10 (q := 54) hz hx hzn hzn2 hln hr1 hok hnn1 jw_1614 rfl rfl (by omega) (by omega) rfl dL_state_51 rfl (fun n2 σ2 hm2 hg2 => ?_)
    have hf2 := ln_fr_t hf1 hg2
    have hr2 := ln_fr_rel (st_2 hok) hr hf2
    have hnn2 := ln_fr_nn hnn hf2
    refine jk_iadd (q := 55) dL_state_54 rfl ?_
    refine jk_imul (q := 56) dL_state_55 rfl ?_
    refine jk_aload_n (q := 57) dL_state_56 rfl rfl ?_
    refine jk_iload_n (q := 58) dL_state_57 rfl rfl ?_
    refine jq_call (q := 61) (As := [jI ((be : Int))]) (c_X12_isFixed (p := (be : Int)) hz hx hln hr2 hok.1 hnn2 hok.2 ⟨by omega, by omega⟩) (qk_fx ⟨by omega, by omega⟩) jm_X12_isFixed jw_1662 rfl hln.1 rfl rfl rfl (by omega) (by omega) rfl dL_state_58 rfl (fun σ3 hg3 => ?_)
    have hf3 := ln_fr_t hf2 hg3
    have hr3 := ln_fr_rel (st_2 hok) hr hf3
    have hnn3 := ln_fr_nn hnn hf3
    refine jk_ifB_eq (q := 68) (q2 := 64) dL_state_61 rfl rfl (fun z2 => ?_) (fun z2 => ?_)
    · refine jk_iconst (q := 69) dL_state_68 rfl ?_
      refine jk_iadd (q := 70) dL_state_69 rfl ?_
      refine jk_istore1 (q := 71) dL_state_70 rfl rfl rfl ?_
      refine jk_iinc2 (q := 74) dL_state_71 rfl rfl rfl ?_
      refine jk_goto (q := 31) dL_state_74 rfl ?_
      refine jk_convw (ih (by omega) _ _ _ _ (by omega) hf3 (by omega) (by omega)) ((jk_wkS rfl (jk_wkS (jk_li (by show 31 * (31 * sv_b g be + qa_ht g (be : Int)) + jB (md_q_fx g (be : Int)).2 = _; rw [‹(md_q_fx g (be : Int)).2 = _›]; rfl)) (jk_wkS (jk_li (by show ((be + 1 : Nat) : Int) = (be : Int) + 1; push_cast; omega)) (jk_wkN jk_wk0)))))
    · refine jk_iconst (q := 65) dL_state_64 rfl ?_
      refine jk_goto (q := 69) dL_state_65 rfl ?_
      refine jk_iadd (q := 70) dL_state_69 rfl ?_
      refine jk_istore1 (q := 71) dL_state_70 rfl rfl rfl ?_
      refine jk_iinc2 (q := 74) dL_state_71 rfl rfl rfl ?_
      refine jk_goto (q := 31) dL_state_74 rfl ?_
      refine jk_convw (ih (by omega) _ _ _ _ (by omega) hf3 (by omega) (by omega)) ((jk_wkS rfl (jk_wkS (jk_li (by show 31 * (31 * sv_b g be + qa_ht g (be : Int)) + jB (md_q_fx g (be : Int)).2 = _; rw [‹(md_q_fx g (be : Int)).2 = _›]; rfl)) (jk_wkS (jk_li (by show ((be + 1 : Nat) : Int) = (be : Int) + 1; push_cast; omega)) (jk_wkN jk_wk0)))))
theorem c_state {G : jk_G} {n : Nat} {t : jk_T} {σ : jk_I} {ρ : jk_P} {x : Nat} {g : Int → Int} {B : Int} (hz : zz_ok G) (hx : zx_ok G) (hzn : zn_ok G) (hzn2 : zn2_ok G) (hln : ln_at t ρ x) (hr : cl_rel σ (x + 2) g) (hok : st_ok B g) (hnn : cl_nn σ (x + 2)) : jk_K G yL_state mL_state 2500 20000 [.ref x] n t σ ρ (hq_Q x (jk_w (sv g)) σ n t ρ) jk_no := by
  have hf0 : ln_fr x σ σ := fun _ _ => rfl
  have hr0 := hr
  have hnn0 := hnn
  refine jk_entryB (ls := [some (.ref x), none, none, none]) jm_L_state.1 rfl rfl rfl ?_
  have hrc : 2500 ≤ 2500 := Nat.le_refl _
  refine jk_bipush (q := 2) (y := 31) dL_state_0 rfl (by decide) ?_
  refine jk_bipush (q := 4) (y := 31) dL_state_2 rfl (by decide) ?_
  refine jk_bipush (q := 6) (y := 31) dL_state_4 rfl (by decide) ?_
  refine jk_aload_n (q := 7) dL_state_6 rfl rfl ?_
  refine jq_call (q := 10) (As := []) (c_X12_benchmarkCount  hz hx hln hr0 hok.1 hnn0 hok.2 ) rfl jm_X12_benchmarkCount jw_851 rfl hln.1 rfl rfl rfl (by omega) (by omega) rfl dL_state_7 rfl (fun σ1 hg1 => ?_)
  have hf1 := ln_fr_t hf0 hg1
  have hr1 := ln_fr_rel (st_2 hok) hr hf1
  have hnn1 := ln_fr_nn hnn hf1
  refine jk_imul (q := 11) dL_state_10 rfl ?_
  refine jk_aload_n (q := 12) dL_state_11 rfl rfl ?_
  refine jq_call (q := 15) (As := []) (c_X12_lineCount  hz hx hln hr1 hok.1 hnn1 hok.2 ) rfl jm_X12_lineCount jw_1650 rfl hln.1 rfl rfl rfl (by omega) (by omega) rfl dL_state_12 rfl (fun σ2 hg2 => ?_)
  have hf2 := ln_fr_t hf1 hg2
  have hr2 := ln_fr_rel (st_2 hok) hr hf2
  have hnn2 := ln_fr_nn hnn hf2
  refine jk_iadd (q := 16) dL_state_15 rfl ?_
  refine jk_imul (q := 17) dL_state_16 rfl ?_
  refine jk_aload_n (q := 18) dL_state_17 rfl rfl ?_
  refine jq_call (q := 21) (As := []) (c_X12_profileCount  hz hx hln hr2 hok.1 hnn2 hok.2 ) rfl jm_X12_profileCount jw_1658 rfl hln.1 rfl rfl rfl (by omega) (by omega) rfl dL_state_18 rfl (fun σ3 hg3 => ?_)
  have hf3 := ln_fr_t hf2 hg3
  have hr3 := ln_fr_rel (st_2 hok) hr hf3
  have hnn3 := ln_fr_nn hnn hf3
  refine jk_iadd (q := 22) dL_state_21 rfl ?_
  refine jk_imul (q := 23) dL_state_22 rfl ?_
  refine jk_aload_n (q := 24) dL_state_23 rfl rfl ?_
  refine jq_call (q := 27) (As := []) (c_X12_waterLevel  hz hx hln hr3 hok.1 hnn3 hok.2 ) rfl jm_X12_waterLevel jw_1068 rfl hln.1 rfl rfl rfl (by omega) (by omega) rfl dL_state_24 rfl (fun σ4 hg4 => ?_)
  have hf4 := ln_fr_t hf3 hg4
  have hr4 := ln_fr_rel (st_2 hok) hr hf4
  have hnn4 := ln_fr_nn hnn hf4
  refine jk_iadd (q := 28) dL_state_27 rfl ?_
  refine jk_istore1 (q := 29) dL_state_28 rfl rfl rfl ?_
  refine jk_iconst (q := 30) dL_state_29 rfl ?_
  refine jk_istore2 (q := 31) dL_state_30 rfl rfl rfl ?_
  have i0 := hok.1.1.1
  have i1 := hok.1.1.2.1
  have i2 := hok.1.1.2.2.1
  refine jk_convw (sl_b (C := 6 + 60 * 16 + (6 + 250 * 4)) (D := 36 + 360 * 16 + (36 + 1500 * 4)) hz hx hzn hzn2 hln hr hok hnn (fun n1 σ1 rc1 rs1 hm1 hf1 hrc1 hrs1 => ?_) 0 (Nat.zero_le _) _ _ _ _ (Nat.le_refl _) hf4 (by omega) (by omega)) ((jk_wkS rfl (jk_wkS rfl (jk_wkS rfl (jk_wkN jk_wk0)))))
  refine jk_iconst (q := 78) dL_state_77 rfl ?_
  refine jk_istore2 (q := 79) dL_state_78 rfl rfl rfl ?_
  refine jk_convw (sl_l (C := 6 + 250 * 4) (D := 36 + 1500 * 4) hz hx hzn hzn2 hln hr hok hnn (fun n2 σ2 rc2 rs2 hm2 hf2 hrc2 hrs2 => ?_) 0 (Nat.zero_le _) _ _ _ _ hm1 hf1 (by omega) (by omega)) ((jk_wkS rfl (jk_wkS rfl (jk_wkS rfl (jk_wkN jk_wk0)))))
  refine jk_iconst (q := 170) dL_state_169 rfl ?_
  refine jk_istore2 (q := 171) dL_state_170 rfl rfl rfl ?_
  refine jk_convw (sl_p (C := 0) (D := 0) hz hx hzn hzn2 hln hr hok hnn (fun n3 σ3 rc3 rs3 hm3 hf3 hrc3 hrs3 => ?_) 0 (Nat.zero_le _) _ _ _ _ hm2 hf2 (by omega) (by omega)) ((jk_wkS rfl (jk_wkS rfl (jk_wkS rfl (jk_wkN jk_wk0)))))
  refine jk_iload_n (q := 226) dL_state_225 rfl rfl ?_
  exact jk_iret rfl dL_state_226 ⟨by rw [jk_wI], hm3, rfl, rfl, hf3⟩
end PF
