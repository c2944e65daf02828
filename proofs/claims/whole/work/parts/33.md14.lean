section MD14
theorem c_X13_lineNumber {G : jk_G} {n : Nat} {t : jk_T} {σ : jk_I} {ρ : jk_P} {m : Nat} {g O : Int → Int} {B : Int} {at_ l : Int} (hm : md_at t ρ m) (hg : σ (m + 2) = g) (hi : md_inv B g) (ho : σ m = O) (hz : md_z σ m) (hz1 : md_z10 σ m) (hat_ : jk_in at_) (hl : jk_in l) (hat2 : 0 ≤ at_ ∧ at_ ≤ 200) : jk_K G yX13_lineNumber mX13_lineNumber 0 0 [.ref m, jI at_, jI l] n t σ ρ (md_Q m σ O n t ρ (md_q_ln g at_ l).1 (jI (md_q_ln g at_ l).2)) jk_no := by
  refine jk_entryB (ls := [some (.ref m), some (jI at_), some (jI l)]) jm_X13_lineNumber.1 rfl rfl rfl ?_
  obtain ⟨i0, i1, i2, i3, -⟩ := id hi
  refine jk_aload_n (q := 1) dX13_lineNumber_0 rfl rfl ?_
  refine jk_iload_n (q := 2) dX13_lineNumber_1 rfl rfl ?_
  refine jk_cV1p (q := 5) (c_X13_isLine hm hg hi (by assumption)) jm_X13_isLine jw_1990 rfl (by first | exact hm.1 | exact hm.2.1 _ _ rfl | assumption) rfl rfl rfl dX13_lineNumber_2 rfl ?_
  refine jk_ifB_eq (q := 23) (q2 := 8) dX13_lineNumber_5 rfl rfl (fun h1 => ?_) (fun h1 => ?_)
  · refine jk_aload_n (q := 24) dX13_lineNumber_23 rfl rfl ?_
    refine jk_iconst (q := 25) dX13_lineNumber_24 rfl ?_
    refine jk_cV1p (q := 28) (c_X13_fails (O := O) hm (by first | exact ho | exact ((md_gr_ne _ _ _ ⟨by omega, by omega, by omega, by omega⟩).trans ho))) jm_X13_fails jw_1937 rfl (by first | exact hm.1 | exact hm.2.1 _ _ rfl | assumption) rfl rfl rfl dX13_lineNumber_25 rfl ?_
    exact jk_iret rfl dX13_lineNumber_28 (by first | (exact md_qi (k := 1) (v := 0) (by unfold md_q_ln; simp [*]; done) (by first | exact md_post_th (md_like_rf hz hz1) | exact md_post_th (md_like_gr hi (md_like_rf hz hz1)) | exact md_post_gr hi (md_post_th (md_like_rf hz hz1)))) | (exact md_qi (k := 0) (v := g (at_ + l)) (by unfold md_q_ln; simp [*]; done) (by first | exact md_post_th (md_like_rf hz hz1) | exact md_post_th (md_like_gr hi (md_like_rf hz hz1)) | exact md_post_gr hi (md_post_th (md_like_rf hz hz1)))))
  · have hl2 := md_inT (by assumption : md_in l 0 (g 1 - 1) = true)
    refine jk_aload_n (q := 9) dX13_lineNumber_8 rfl rfl ?_
    refine jk_aload_n (q := 10) dX13_lineNumber_9 rfl rfl ?_
    refine jk_getA (q := 13) (k := 13) 0 0 rfl (by first | exact hm.1 | exact hm.2.1 _ _ rfl | assumption) (by first | exact hm.2.2 _ _ rfl | assumption) rfl rfl jw_1848 dX13_lineNumber_10 rfl ?_
    refine jk_iload_n (q := 14) dX13_lineNumber_13 rfl rfl ?_
    refine jk_iload_n (q := 15) dX13_lineNumber_14 rfl rfl ?_
    refine jk_iadd (q := 16) dX13_lineNumber_15 rfl ?_
    refine jk_ialdR (q := 17) (by first | exact hm.1 | exact hm.2.1 _ _ rfl | assumption) (by first | exact jk_row_same _ _ _ | exact hg | exact ho | exact (md_gr_at _ m g).1 | exact (md_gr_at _ m g).2.1 | exact (md_gr_at _ m g).2.2.1 | exact (md_gr_at _ m g).2.2.2 | exact ((md_gr_ne _ _ _ ⟨by omega, by omega, by omega, by omega⟩).trans hg) | exact ((md_gr_ne _ _ _ ⟨by omega, by omega, by omega, by omega⟩).trans ho) | exact ((md_gr_ne _ _ _ ⟨by omega, by omega, by omega, by omega⟩).trans (jk_row_same _ _ _)) | (rewrite [jk_row_ne _ _ (by omega)]; first | exact jk_row_same _ _ _ | exact hg | exact ho | exact (md_gr_at _ m g).1 | exact (md_gr_at _ m g).2.1 | exact (md_gr_at _ m g).2.2.1 | exact (md_gr_at _ m g).2.2.2 | exact ((md_gr_ne _ _ _ ⟨by omega, by omega, by omega, by omega⟩).trans hg) | exact ((md_gr_ne _ _ _ ⟨by omega, by omega, by omega, by omega⟩).trans ho) | exact ((md_gr_ne _ _ _ ⟨by omega, by omega, by omega, by omega⟩).trans (jk_row_same _ _ _)) | (rewrite [jk_row_ne _ _ (by omega)]; first | exact jk_row_same _ _ _ | exact hg | exact ho | exact (md_gr_at _ m g).1 | exact (md_gr_at _ m g).2.1 | exact (md_gr_at _ m g).2.2.1 | exact (md_gr_at _ m g).2.2.2 | exact ((md_gr_ne _ _ _ ⟨by omega, by omega, by omega, by omega⟩).trans hg) | exact ((md_gr_ne _ _ _ ⟨by omega, by omega, by omega, by omega⟩).trans ho) | exact ((md_gr_ne _ _ _ ⟨by omega, by omega, by omega, by omega⟩).trans (jk_row_same _ _ _)) | (rewrite [jk_row_ne _ _ (by omega)]; first | exact jk_row_same _ _ _ | exact hg | exact ho | exact (md_gr_at _ m g).1 | exact (md_gr_at _ m g).2.1 | exact (md_gr_at _ m g).2.2.1 | exact (md_gr_at _ m g).2.2.2 | exact ((md_gr_ne _ _ _ ⟨by omega, by omega, by omega, by omega⟩).trans hg) | exact ((md_gr_ne _ _ _ ⟨by omega, by omega, by omega, by omega⟩).trans ho) | exact ((md_gr_ne _ _ _ ⟨by omega, by omega, by omega, by omega⟩).trans (jk_row_same _ _ _)) | (rewrite [jk_row_ne _ _ (by omega)]; first | exact hg | exact ho | exact (md_gr_at _ m g).1 | exact (md_gr_at _ m g).2.1 | exact (md_gr_at _ m g).2.2.1 | exact (md_gr_at _ m g).2.2.2 | exact ((md_gr_ne _ _ _ ⟨by omega, by omega, by omega, by omega⟩).trans hg) | exact ((md_gr_ne _ _ _ ⟨by omega, by omega, by omega, by omega⟩).trans ho) | exact ((md_gr_ne _ _ _ ⟨by omega, by omega, by omega, by omega⟩).trans (jk_row_same _ _ _)) | rfl))))) (by first | decide | omega | exact jB_01 _) dX13_lineNumber_16 rfl ?_
    refine jk_cV1p (q := 20) (c_X13_done (O := O) hm (by first | exact ho | exact ((md_gr_ne _ _ _ ⟨by omega, by omega, by omega, by omega⟩).trans ho))) jm_X13_done jw_1941 rfl (by first | exact hm.1 | exact hm.2.1 _ _ rfl | assumption) rfl rfl rfl dX13_lineNumber_17 rfl ?_
    refine jk_goto (q := 28) dX13_lineNumber_20 rfl ?_
    exact jk_iret rfl dX13_lineNumber_28 (by first | (exact md_qi (k := 1) (v := 0) (by unfold md_q_ln; simp [*]; done) (by first | exact md_post_th (md_like_rf hz hz1) | exact md_post_th (md_like_gr hi (md_like_rf hz hz1)) | exact md_post_gr hi (md_post_th (md_like_rf hz hz1)))) | (exact md_qi (k := 0) (v := g (at_ + l)) (by unfold md_q_ln; simp [*]; done) (by first | exact md_post_th (md_like_rf hz hz1) | exact md_post_th (md_like_gr hi (md_like_rf hz hz1)) | exact md_post_gr hi (md_post_th (md_like_rf hz hz1)))))
def md_q_firstOf (g : Int → Int) (l : Int) : Int × Int := md_q_ln g 24 l
theorem c_X13_firstOf {G : jk_G} {n : Nat} {t : jk_T} {σ : jk_I} {ρ : jk_P} {m : Nat} {g O : Int → Int} {B : Int} {l : Int} (hm : md_at t ρ m) (hg : σ (m + 2) = g) (hi : md_inv B g) (ho : σ m = O) (hz : md_z σ m) (hz1 : md_z10 σ m) (hl : jk_in l) : jk_K G yX13_firstOf mX13_firstOf 0 0 [.ref m, jI l] n t σ ρ (md_Q m σ O n t ρ (md_q_firstOf g l).1 (jI (md_q_firstOf g l).2)) jk_no := by
  refine jk_entryB (ls := [some (.ref m), some (jI l)]) jm_X13_firstOf.1 rfl rfl rfl ?_
  obtain ⟨i0, i1, i2, i3, -⟩ := id hi
  refine jk_aload_n (q := 1) dX13_firstOf_0 rfl rfl ?_
  refine jk_bipush (q := 3) (y := 24) dX13_firstOf_1 rfl (by decide) ?_
  refine jk_iload_n (q := 4) dX13_firstOf_3 rfl rfl ?_
  refine jk_cV2g (q := 7) (c_X13_lineNumber (at_ := 24) hm hg hi ho hz hz1 (by decide) hl (by decide)) jm_X13_lineNumber jw_2192 rfl (by first | exact hm.1 | exact hm.2.1 _ _ rfl | assumption) rfl rfl (Nat.zero_le _) (Nat.zero_le _) rfl dX13_firstOf_4 rfl (fun v' n' t' σ' ρ' hq => ?_) (fun _ _ _ _ _ h => h.elim)
  obtain ⟨rfl, rfl, rfl, rfl, hp⟩ := hq
  simp only [Option.toList_some, List.cons_append, List.nil_append, Nat.sub_zero]
  exact jk_iret rfl dX13_firstOf_7 (by exact ⟨rfl, rfl, rfl, rfl, hp⟩)
def md_q_secondOf (g : Int → Int) (l : Int) : Int × Int := md_q_ln g 40 l
theorem c_X13_secondOf {G : jk_G} {n : Nat} {t : jk_T} {σ : jk_I} {ρ : jk_P} {m : Nat} {g O : Int → Int} {B : Int} {l : Int} (hm : md_at t ρ m) (hg : σ (m + 2) = g) (hi : md_inv B g) (ho : σ m = O) (hz : md_z σ m) (hz1 : md_z10 σ m) (hl : jk_in l) : jk_K G yX13_secondOf mX13_secondOf 0 0 [.ref m, jI l] n t σ ρ (md_Q m σ O n t ρ (md_q_secondOf g l).1 (jI (md_q_secondOf g l).2)) jk_no := by
  refine jk_entryB (ls := [some (.ref m), some (jI l)]) jm_X13_secondOf.1 rfl rfl rfl ?_
  obtain ⟨i0, i1, i2, i3, -⟩ := id hi
  refine jk_aload_n (q := 1) dX13_secondOf_0 rfl rfl ?_
  refine jk_bipush (q := 3) (y := 40) dX13_secondOf_1 rfl (by decide) ?_
  refine jk_iload_n (q := 4) dX13_secondOf_3 rfl rfl ?_
  refine jk_cV2g (q := 7) (c_X13_lineNumber (at_ := 40) hm hg hi ho hz hz1 (by decide) hl (by decide)) jm_X13_lineNumber jw_2192 rfl (by first | exact hm.1 | exact hm.2.1 _ _ rfl | assumption) rfl rfl (Nat.zero_le _) (Nat.zero_le _) rfl dX13_secondOf_4 rfl (fun v' n' t' σ' ρ' hq => ?_) (fun _ _ _ _ _ h => h.elim)
  obtain ⟨rfl, rfl, rfl, rfl, hp⟩ := hq
  simp only [Option.toList_some, List.cons_append, List.nil_append, Nat.sub_zero]
  exact jk_iret rfl dX13_secondOf_7 (by exact ⟨rfl, rfl, rfl, rfl, hp⟩)
def md_q_lengthOf (g : Int → Int) (l : Int) : Int × Int := md_q_ln g 56 l
theorem c_X13_lengthOf {G : jk_G} {n : Nat} {t : jk_T} {σ : jk_I} {ρ : jk_P} {m : Nat} {g O : Int → Int} {B : Int} {l : Int} (hm : md_at t ρ m) (hg : σ (m + 2) = g) (hi : md_inv B g) (ho : σ m = O) (hz : md_z σ m) (hz1 : md_z10 σ m) (hl : jk_in l) : jk_K G yX13_lengthOf mX13_lengthOf 0 0 [.ref m, jI l] n t σ ρ (md_Q m σ O n t ρ (md_q_lengthOf g l).1 (jI (md_q_lengthOf g l).2)) jk_no := by
  refine jk_entryB (ls := [some (.ref m), some (jI l)]) jm_X13_lengthOf.1 rfl rfl rfl ?_
  obtain ⟨i0, i1, i2, i3, -⟩ := id hi
  refine jk_aload_n (q := 1) dX13_lengthOf_0 rfl rfl ?_
  refine jk_bipush (q := 3) (y := 56) dX13_lengthOf_1 rfl (by decide) ?_
  refine jk_iload_n (q := 4) dX13_lengthOf_3 rfl rfl ?_
  refine jk_cV2g (q := 7) (c_X13_lineNumber (at_ := 56) hm hg hi ho hz hz1 (by decide) hl (by decide)) jm_X13_lineNumber jw_2192 rfl (by first | exact hm.1 | exact hm.2.1 _ _ rfl | assumption) rfl rfl (Nat.zero_le _) (Nat.zero_le _) rfl dX13_lengthOf_4 rfl (fun v' n' t' σ' ρ' hq => ?_) (fun _ _ _ _ _ h => h.elim)
  obtain ⟨rfl, rfl, rfl, rfl, hp⟩ := hq
  simp only [Option.toList_some, List.cons_append, List.nil_append, Nat.sub_zero]
  exact jk_iret rfl dX13_lengthOf_7 (by exact ⟨rfl, rfl, rfl, rfl, hp⟩)
def md_q_correction (g : Int → Int) (l : Int) : Int × Int := md_q_ln g 136 l
theorem c_X13_correction {G : jk_G} {n : Nat} {t : jk_T} {σ : jk_I} {ρ : jk_P} {m : Nat} {g O : Int → Int} {B : Int} {l : Int} (hm : md_at t ρ m) (hg : σ (m + 2) = g) (hi : md_inv B g) (ho : σ m = O) (hz : md_z σ m) (hz1 : md_z10 σ m) (hl : jk_in l) : jk_K G yX13_correction mX13_correction 0 0 [.ref m, jI l] n t σ ρ (md_Q m σ O n t ρ (md_q_correction g l).1 (jI (md_q_correction g l).2)) jk_no := by
  refine jk_entryB (ls := [some (.ref m), some (jI l)]) jm_X13_correction.1 rfl rfl rfl ?_
  obtain ⟨i0, i1, i2, i3, -⟩ := id hi
  refine jk_aload_n (q := 1) dX13_correction_0 rfl rfl ?_
  refine jk_sipush (q := 4) (y := 136) dX13_correction_1 rfl (by decide) ?_
  refine jk_iload_n (q := 5) dX13_correction_4 rfl rfl ?_
  refine jk_cV2g (q := 8) (c_X13_lineNumber (at_ := 136) hm hg hi ho hz hz1 (by decide) hl (by decide)) jm_X13_lineNumber jw_2192 rfl (by first | exact hm.1 | exact hm.2.1 _ _ rfl | assumption) rfl rfl (Nat.zero_le _) (Nat.zero_le _) rfl dX13_correction_5 rfl (fun v' n' t' σ' ρ' hq => ?_) (fun _ _ _ _ _ h => h.elim)
  obtain ⟨rfl, rfl, rfl, rfl, hp⟩ := hq
  simp only [Option.toList_some, List.cons_append, List.nil_append, Nat.sub_zero]
  exact jk_iret rfl dX13_correction_8 (by exact ⟨rfl, rfl, rfl, rfl, hp⟩)
theorem c_X13_heightByRounds {G : jk_G} {n : Nat} {t : jk_T} {σ : jk_I} {ρ : jk_P} {m : Nat} {g O : Int → Int} {B : Int} {p : Int} (hm : md_at t ρ m) (hg : σ (m + 2) = g) (hi : md_inv B g) (ho : σ m = O) (hz : md_z σ m) (hz1 : md_z10 σ m) (hp : jk_in p) : jk_K G yX13_heightByRounds mX13_heightByRounds 0 0 [.ref m, jI p] n t σ ρ (md_Q m σ O n t ρ (md_q_ht g p).1 (jI (md_q_ht g p).2)) jk_no := by
  refine jk_entryB (ls := [some (.ref m), some (jI p)]) jm_X13_heightByRounds.1 rfl rfl rfl ?_
  obtain ⟨i0, i1, i2, i3, -⟩ := id hi
  refine jk_aload_n (q := 1) dX13_heightByRounds_0 rfl rfl ?_
  refine jk_iload_n (q := 2) dX13_heightByRounds_1 rfl rfl ?_
  refine jk_cV1g (q := 5) (c_X13_height hm hg hi ho hz hz1 hp) jm_X13_height jw_2167 rfl (by first | exact hm.1 | exact hm.2.1 _ _ rfl | assumption) rfl rfl (Nat.zero_le _) (Nat.zero_le _) rfl dX13_heightByRounds_2 rfl (fun v' n' t' σ' ρ' hq => ?_) (fun _ _ _ _ _ h => h.elim)
  obtain ⟨rfl, rfl, rfl, rfl, hp⟩ := hq
  simp only [Option.toList_some, List.cons_append, List.nil_append, Nat.sub_zero]
  exact jk_iret rfl dX13_heightByRounds_5 (by exact ⟨rfl, rfl, rfl, rfl, hp⟩)
def md_q_ex (g : Int → Int) (l : Int) : Int × Bool := if md_in l 0 (g 1 - 1) = false then (1, false) else (0, decide (g (120 + l) = 1))
theorem md_q_exv {B : Int} {g : Int → Int} (hi : md_inv B g) {l : Int} : (md_q_ln g 120 l).1 = (md_q_ex g l).1 ∧ ((md_q_ln g 120 l).2 = 0 ∨ (md_q_ln g 120 l).2 = 1) ∧ ((md_q_ln g 120 l).2 = 1 ↔ (md_q_ex g l).2 = true) := by
  unfold md_q_ln md_q_ex
  cases h : md_in l 0 (g 1 - 1)
  · simp
  · have h2 := md_inT h
    have hg1 := hi.2.1
    have h3 := (md_inv_ln hi (l := l) ⟨by omega, by omega⟩).2.2.2.2.2.2.1
    simp
    omega
theorem c_X13_isExcluded {G : jk_G} {n : Nat} {t : jk_T} {σ : jk_I} {ρ : jk_P} {m : Nat} {g O : Int → Int} {B : Int} {l : Int} (hm : md_at t ρ m) (hg : σ (m + 2) = g) (hi : md_inv B g) (ho : σ m = O) (hz : md_z σ m) (hz1 : md_z10 σ m) (hl : jk_in l) : jk_K G yX13_isExcluded mX13_isExcluded 0 0 [.ref m, jI l] n t σ ρ (md_Q m σ O n t ρ (md_q_ex g l).1 (jI (jB (md_q_ex g l).2))) jk_no := by
  refine jk_entryB (ls := [some (.ref m), some (jI l)]) jm_X13_isExcluded.1 rfl rfl rfl ?_
  obtain ⟨i0, i1, i2, i3, -⟩ := id hi
  refine jk_aload_n (q := 1) dX13_isExcluded_0 rfl rfl ?_
  refine jk_bipush (q := 3) (y := 120) dX13_isExcluded_1 rfl (by decide) ?_
  refine jk_iload_n (q := 4) dX13_isExcluded_3 rfl rfl ?_
  refine jk_cV2g (q := 7) (c_X13_lineNumber (at_ := 120) hm hg hi ho hz hz1 (by decide) hl (by decide)) jm_X13_lineNumber jw_2192 rfl (by first | exact hm.1 | exact hm.2.1 _ _ rfl | assumption) rfl rfl (Nat.zero_le _) (Nat.zero_le _) rfl dX13_isExcluded_4 rfl (fun v' n' t' σ' ρ' hq => ?_) (fun _ _ _ _ _ h => h.elim)
  obtain ⟨rfl, rfl, rfl, rfl, hp⟩ := hq
  simp only [Option.toList_some, List.cons_append, List.nil_append, Nat.sub_zero]
  have hx := md_q_exv hi (l := l)
  refine jk_iconst (q := 8) dX13_isExcluded_7 rfl ?_
  refine jk_icmp_ne (q := 15) (q2 := 11) dX13_isExcluded_8 rfl rfl (by first | decide | omega | exact jB_01 _) (by first | decide | omega | exact jB_01 _) (fun h1 => ?_) (fun h1 => ?_)
  · refine jk_iconst (q := 16) dX13_isExcluded_15 rfl ?_
    exact jk_zret rfl (by first | decide | omega | exact jB_01 _) dX13_isExcluded_16 (by rw [hx.1] at hp; first | exact ⟨by rw [hx.2.2.mp (by assumption)]; rfl, rfl, rfl, rfl, hp⟩ | exact ⟨by rw [show (md_q_ex g l).2 = false by cases h9 : (md_q_ex g l).2; rfl; exact absurd (hx.2.2.mpr h9) (by assumption)]; rfl, rfl, rfl, rfl, hp⟩)
  · refine jk_iconst (q := 12) dX13_isExcluded_11 rfl ?_
    refine jk_goto (q := 16) dX13_isExcluded_12 rfl ?_
    exact jk_zret rfl (by first | decide | omega | exact jB_01 _) dX13_isExcluded_16 (by rw [hx.1] at hp; first | exact ⟨by rw [hx.2.2.mp (by assumption)]; rfl, rfl, rfl, rfl, hp⟩ | exact ⟨by rw [show (md_q_ex g l).2 = false by cases h9 : (md_q_ex g l).2; rfl; exact absurd (hx.2.2.mpr h9) (by assumption)]; rfl, rfl, rfl, rfl, hp⟩)
def md_q_st (g : Int → Int) (q : Int) : Int × Int := if md_in q 0 (g 2 - 1) = false then (1, 0) else (0, g (156 + q))
theorem c_X13_stationCount {G : jk_G} {n : Nat} {t : jk_T} {σ : jk_I} {ρ : jk_P} {m : Nat} {g O : Int → Int} {B : Int} {q : Int} (hm : md_at t ρ m) (hg : σ (m + 2) = g) (hi : md_inv B g) (ho : σ m = O) (hz : md_z σ m) (hz1 : md_z10 σ m) (hq : jk_in q) : jk_K G yX13_stationCount mX13_stationCount 0 0 [.ref m, jI q] n t σ ρ (md_Q m σ O n t ρ (md_q_st g q).1 (jI (md_q_st g q).2)) jk_no := by
  refine jk_entryB (ls := [some (.ref m), some (jI q)]) jm_X13_stationCount.1 rfl rfl rfl ?_
  obtain ⟨i0, i1, i2, i3, -⟩ := id hi
  refine jk_aload_n (q := 1) dX13_stationCount_0 rfl rfl ?_
  refine jk_iload_n (q := 2) dX13_stationCount_1 rfl rfl ?_
  refine jk_cV1p (q := 5) (c_X13_isProfile hm hg hi (by assumption)) jm_X13_isProfile jw_2115 rfl (by first | exact hm.1 | exact hm.2.1 _ _ rfl | assumption) rfl rfl rfl dX13_stationCount_2 rfl ?_
  refine jk_ifB_eq (q := 25) (q2 := 8) dX13_stationCount_5 rfl rfl (fun h1 => ?_) (fun h1 => ?_)
  · refine jk_aload_n (q := 26) dX13_stationCount_25 rfl rfl ?_
    refine jk_iconst (q := 27) dX13_stationCount_26 rfl ?_
    refine jk_cV1p (q := 30) (c_X13_fails (O := O) hm (by first | exact ho | exact ((md_gr_ne _ _ _ ⟨by omega, by omega, by omega, by omega⟩).trans ho))) jm_X13_fails jw_1937 rfl (by first | exact hm.1 | exact hm.2.1 _ _ rfl | assumption) rfl rfl rfl dX13_stationCount_27 rfl ?_
    exact jk_iret rfl dX13_stationCount_30 (by first | (exact md_qi (k := 1) (v := 0) (by unfold md_q_st; simp [*]; done) (by first | exact md_post_th (md_like_rf hz hz1) | exact md_post_th (md_like_gr hi (md_like_rf hz hz1)) | exact md_post_gr hi (md_post_th (md_like_rf hz hz1)))) | (exact md_qi (k := 0) (v := g (156 + q)) (by unfold md_q_st; simp [*]; done) (by first | exact md_post_th (md_like_rf hz hz1) | exact md_post_th (md_like_gr hi (md_like_rf hz hz1)) | exact md_post_gr hi (md_post_th (md_like_rf hz hz1)))))
  · have hq2 := md_inT (by assumption : md_in q 0 (g 2 - 1) = true)
    refine jk_aload_n (q := 9) dX13_stationCount_8 rfl rfl ?_
    refine jk_aload_n (q := 10) dX13_stationCount_9 rfl rfl ?_
    refine jk_getA (q := 13) (k := 13) 0 0 rfl (by first | exact hm.1 | exact hm.2.1 _ _ rfl | assumption) (by first | exact hm.2.2 _ _ rfl | assumption) rfl rfl jw_1848 dX13_stationCount_10 rfl ?_
    refine jk_sipush (q := 16) (y := 156) dX13_stationCount_13 rfl (by decide) ?_
    refine jk_iload_n (q := 17) dX13_stationCount_16 rfl rfl ?_
    refine jk_iadd (q := 18) dX13_stationCount_17 rfl ?_
    refine jk_ialdR (q := 19) (by first | exact hm.1 | exact hm.2.1 _ _ rfl | assumption) (by first | exact jk_row_same _ _ _ | exact hg | exact ho | exact (md_gr_at _ m g).1 | exact (md_gr_at _ m g).2.1 | exact (md_gr_at _ m g).2.2.1 | exact (md_gr_at _ m g).2.2.2 | exact ((md_gr_ne _ _ _ ⟨by omega, by omega, by omega, by omega⟩).trans hg) | exact ((md_gr_ne _ _ _ ⟨by omega, by omega, by omega, by omega⟩).trans ho) | exact ((md_gr_ne _ _ _ ⟨by omega, by omega, by omega, by omega⟩).trans (jk_row_same _ _ _)) | (rewrite [jk_row_ne _ _ (by omega)]; first | exact jk_row_same _ _ _ | exact hg | exact ho | exact (md_gr_at _ m g).1 | exact (md_gr_at _ m g).2.1 | exact (md_gr_at _ m g).2.2.1 | exact (md_gr_at _ m g).2.2.2 | exact ((md_gr_ne _ _ _ ⟨by omega, by omega, by omega, by omega⟩).trans hg) | exact ((md_gr_ne _ _ _ ⟨by omega, by omega, by omega, by omega⟩).trans ho) | exact ((md_gr_ne _ _ _ ⟨by omega, by omega, by omega, by omega⟩).trans (jk_row_same _ _ _)) | (rewrite [jk_row_ne _ _ (by omega)]; first | exact jk_row_same _ _ _ | exact hg | exact ho | exact (md_gr_at _ m g).1 | exact (md_gr_at _ m g).2.1 | exact (md_gr_at _ m g).2.2.1 | exact (md_gr_at _ m g).2.2.2 | exact ((md_gr_ne _ _ _ ⟨by omega, by omega, by omega, by omega⟩).trans hg) | exact ((md_gr_ne _ _ _ ⟨by omega, by omega, by omega, by omega⟩).trans ho) | exact ((md_gr_ne _ _ _ ⟨by omega, by omega, by omega, by omega⟩).trans (jk_row_same _ _ _)) | (rewrite [jk_row_ne _ _ (by omega)]; first | exact jk_row_same _ _ _ | exact hg | exact ho | exact (md_gr_at _ m g).1 | exact (md_gr_at _ m g).2.1 | exact (md_gr_at _ m g).2.2.1 | exact (md_gr_at _ m g).2.2.2 | exact ((md_gr_ne _ _ _ ⟨by omega, by omega, by omega, by omega⟩).trans hg) | exact ((md_gr_ne _ _ _ ⟨by omega, by omega, by omega, by omega⟩).trans ho) | exact ((md_gr_ne _ _ _ ⟨by omega, by omega, by omega, by omega⟩).trans (jk_row_same _ _ _)) | (rewrite [jk_row_ne _ _ (by omega)]; first | exact hg | exact ho | exact (md_gr_at _ m g).1 | exact (md_gr_at _ m g).2.1 | exact (md_gr_at _ m g).2.2.1 | exact (md_gr_at _ m g).2.2.2 | exact ((md_gr_ne _ _ _ ⟨by omega, by omega, by omega, by omega⟩).trans hg) | exact ((md_gr_ne _ _ _ ⟨by omega, by omega, by omega, by omega⟩).trans ho) | exact ((md_gr_ne _ _ _ ⟨by omega, by omega, by omega, by omega⟩).trans (jk_row_same _ _ _)) | rfl))))) (by first | decide | omega | exact jB_01 _) dX13_stationCount_18 rfl ?_
    refine jk_cV1p (q := 22) (c_X13_done (O := O) hm (by first | exact ho | exact ((md_gr_ne _ _ _ ⟨by omega, by omega, by omega, by omega⟩).trans ho))) jm_X13_done jw_1941 rfl (by first | exact hm.1 | exact hm.2.1 _ _ rfl | assumption) rfl rfl rfl dX13_stationCount_19 rfl ?_
    refine jk_goto (q := 30) dX13_stationCount_22 rfl ?_
    exact jk_iret rfl dX13_stationCount_30 (by first | (exact md_qi (k := 1) (v := 0) (by unfold md_q_st; simp [*]; done) (by first | exact md_post_th (md_like_rf hz hz1) | exact md_post_th (md_like_gr hi (md_like_rf hz hz1)) | exact md_post_gr hi (md_post_th (md_like_rf hz hz1)))) | (exact md_qi (k := 0) (v := g (156 + q)) (by unfold md_q_st; simp [*]; done) (by first | exact md_post_th (md_like_rf hz hz1) | exact md_post_th (md_like_gr hi (md_like_rf hz hz1)) | exact md_post_gr hi (md_post_th (md_like_rf hz hz1)))))
def md_q_fl (g : Int → Int) : Int × Int := (0, jk_sum (fun l => md_T g l * g (56 + l)) (g 1).toNat)
theorem c_X13_forestLength {G : jk_G} {n : Nat} {t : jk_T} {σ : jk_I} {ρ : jk_P} {m : Nat} {g O : Int → Int} {B : Int} (hm : md_at t ρ m) (hg : σ (m + 2) = g) (hi : md_inv B g) (ho : σ m = O) (hz : md_z σ m) (hz1 : md_z10 σ m)  : jk_K G yX13_forestLength mX13_forestLength 0 0 [.ref m] n t σ ρ (md_Q m σ O n t ρ (md_q_fl g).1 (jI (md_q_fl g).2)) jk_no := by
  refine jk_entryB (ls := [some (.ref m), none, none]) jm_X13_forestLength.1 rfl rfl rfl ?_
  obtain ⟨i0, i1, i2, i3, -⟩ := id hi
  refine jk_aload_n (q := 1) dX13_forestLength_0 rfl rfl ?_
  refine jk_cV0v (q := 4) (c_X13_grows hm (by first | exact hg | exact (jk_row_ne _ _ (by omega)).trans hg) hi (by first | exact hz | exact md_z_row hz _ ⟨by omega, by omega, by omega⟩) (by first | exact hz1 | exact md_z10_row hz1 _ ⟨by omega, by omega, by omega, by omega⟩)) jm_X13_grows jw_2036 rfl (by first | exact hm.1 | exact hm.2.1 _ _ rfl | assumption) rfl rfl rfl dX13_forestLength_1 rfl ?_
  refine jk_iconst (q := 5) dX13_forestLength_4 rfl ?_
  refine jk_istore1 (q := 6) dX13_forestLength_5 rfl rfl rfl ?_
  refine jk_iconst (q := 7) dX13_forestLength_6 rfl ?_
  refine jk_istore2 (q := 8) dX13_forestLength_7 rfl rfl rfl ?_
  have L8 : ∀ k8 : Nat, k8 ≤ (g 1).toNat → jk_J G mX13_forestLength 8 [some (.ref m), some (jI (jk_sum (fun l => md_T g l * g (56 + l)) k8)), some (jI (k8 : Int))] [] n t (md_gr σ m g) ρ 0 0 (md_Q m σ O n t ρ (md_q_fl g).1 (jI (md_q_fl g).2)) jk_no := by
    refine jk_loop _ (fun k8 hk8 ih8 => ?_)
    refine jk_iload_n (q := 9) dX13_forestLength_8 rfl rfl ?_
    refine jk_aload_n (q := 10) dX13_forestLength_9 rfl rfl ?_
    refine jk_getA (q := 13) (k := 13) 0 0 rfl (by first | exact hm.1 | exact hm.2.1 _ _ rfl | assumption) (by first | exact hm.2.2 _ _ rfl | assumption) rfl rfl jw_1848 dX13_forestLength_10 rfl ?_
    refine jk_iconst (q := 14) dX13_forestLength_13 rfl ?_
    refine jk_ialdR (q := 15) (by first | exact hm.1 | exact hm.2.1 _ _ rfl | assumption) (by first | exact jk_row_same _ _ _ | exact hg | exact ho | exact (md_gr_at _ m g).1 | exact (md_gr_at _ m g).2.1 | exact (md_gr_at _ m g).2.2.1 | exact (md_gr_at _ m g).2.2.2 | exact ((md_gr_ne _ _ _ ⟨by omega, by omega, by omega, by omega⟩).trans hg) | exact ((md_gr_ne _ _ _ ⟨by omega, by omega, by omega, by omega⟩).trans ho) | exact ((md_gr_ne _ _ _ ⟨by omega, by omega, by omega, by omega⟩).trans (jk_row_same _ _ _)) | (rewrite [jk_row_ne _ _ (by omega)]; first | exact jk_row_same _ _ _ | exact hg | exact ho | exact (md_gr_at _ m g).1 | exact (md_gr_at _ m g).2.1 | exact (md_gr_at _ m g).2.2.1 | exact (md_gr_at _ m g).2.2.2 | exact ((md_gr_ne _ _ _ ⟨by omega, by omega, by omega, by omega⟩).trans hg) | exact ((md_gr_ne _ _ _ ⟨by omega, by omega, by omega, by omega⟩).trans ho) | exact ((md_gr_ne _ _ _ ⟨by omega, by omega, by omega, by omega⟩).trans (jk_row_same _ _ _)) | (rewrite [jk_row_ne _ _ (by omega)]; first | exact jk_row_same _ _ _ | exact hg | exact ho | exact (md_gr_at _ m g).1 | exact (md_gr_at _ m g).2.1 | exact (md_gr_at _ m g).2.2.1 | exact (md_gr_at _ m g).2.2.2 | exact ((md_gr_ne _ _ _ ⟨by omega, by omega, by omega, by omega⟩).trans hg) | exact ((md_gr_ne _ _ _ ⟨by omega, by omega, by omega, by omega⟩).trans ho) | exact ((md_gr_ne _ _ _ ⟨by omega, by omega, by omega, by omega⟩).trans (jk_row_same _ _ _)) | (rewrite [jk_row_ne _ _ (by omega)]; first | exact jk_row_same _ _ _ | exact hg | exact ho | exact (md_gr_at _ m g).1 | exact (md_gr_at _ m g).2.1 | exact (md_gr_at _ m g).2.2.1 | exact (md_gr_at _ m g).2.2.2 | exact ((md_gr_ne _ _ _ ⟨by omega, by omega, by omega, by omega⟩).trans hg) | exact ((md_gr_ne _ _ _ ⟨by omega, by omega, by omega, by omega⟩).trans ho) | exact ((md_gr_ne _ _ _ ⟨by omega, by omega, by omega, by omega⟩).trans (jk_row_same _ _ _)) | (rewrite [jk_row_ne _ _ (by omega)]; first | exact hg | exact ho | exact (md_gr_at _ m g).1 | exact (md_gr_at _ m g).2.1 | exact (md_gr_at _ m g).2.2.1 | exact (md_gr_at _ m g).2.2.2 | exact ((md_gr_ne _ _ _ ⟨by omega, by omega, by omega, by omega⟩).trans hg) | exact ((md_gr_ne _ _ _ ⟨by omega, by omega, by omega, by omega⟩).trans ho) | exact ((md_gr_ne _ _ _ ⟨by omega, by omega, by omega, by omega⟩).trans (jk_row_same _ _ _)) | rfl))))) (by first | decide | omega | exact jB_01 _) dX13_forestLength_14 rfl ?_
    refine jk_icmp_ge (q := 43) (q2 := 18) dX13_forestLength_15 rfl rfl (by first | decide | omega | exact jB_01 _) (by first | decide | omega | exact jB_01 _) (fun h1 => ?_) (fun h1 => ?_)
    · refine jk_aload_n (q := 44) dX13_forestLength_43 rfl rfl ?_
      refine jk_iload_n (q := 45) dX13_forestLength_44 rfl rfl ?_
      refine jk_cV1p (q := 48) (c_X13_done (O := O) hm (by first | exact ho | exact ((md_gr_ne _ _ _ ⟨by omega, by omega, by omega, by omega⟩).trans ho))) jm_X13_done jw_1941 rfl (by first | exact hm.1 | exact hm.2.1 _ _ rfl | assumption) rfl rfl rfl dX13_forestLength_45 rfl ?_
      exact jk_iret rfl dX13_forestLength_48 (by rw [show k8 = (g 1).toNat by omega]; exact md_qi (k := 0) (v := jk_sum (fun l => md_T g l * g (56 + l)) (g 1).toNat) rfl (by first | exact md_post_th (md_like_rf hz hz1) | exact md_post_th (md_like_gr hi (md_like_rf hz hz1)) | exact md_post_gr hi (md_post_th (md_like_rf hz hz1))))
    · refine jk_iload_n (q := 19) dX13_forestLength_18 rfl rfl ?_
      refine jk_aload_n (q := 20) dX13_forestLength_19 rfl rfl ?_
      refine jk_getA (q := 23) (k := 13) 13 13 rfl (by first | exact hm.1 | exact hm.2.1 _ _ rfl | assumption) (by first | exact hm.2.2 _ _ rfl | assumption) rfl rfl jw_1861 dX13_forestLength_20 rfl ?_
      refine jk_iload_n (q := 24) dX13_forestLength_23 rfl rfl ?_
      refine jk_ialdR (q := 25) (by first | exact hm.1 | exact hm.2.1 _ _ rfl | assumption) (by first | exact jk_row_same _ _ _ | exact hg | exact ho | exact (md_gr_at _ m g).1 | exact (md_gr_at _ m g).2.1 | exact (md_gr_at _ m g).2.2.1 | exact (md_gr_at _ m g).2.2.2 | exact ((md_gr_ne _ _ _ ⟨by omega, by omega, by omega, by omega⟩).trans hg) | exact ((md_gr_ne _ _ _ ⟨by omega, by omega, by omega, by omega⟩).trans ho) | exact ((md_gr_ne _ _ _ ⟨by omega, by omega, by omega, by omega⟩).trans (jk_row_same _ _ _)) | (rewrite [jk_row_ne _ _ (by omega)]; first | exact jk_row_same _ _ _ | exact hg | exact ho | exact (md_gr_at _ m g).1 | exact (md_gr_at _ m g).2.1 | exact (md_gr_at _ m g).2.2.1 | exact (md_gr_at _ m g).2.2.2 | exact ((md_gr_ne _ _ _ ⟨by omega, by omega, by omega, by omega⟩).trans hg) | exact ((md_gr_ne _ _ _ ⟨by omega, by omega, by omega, by omega⟩).trans ho) | exact ((md_gr_ne _ _ _ ⟨by omega, by omega, by omega, by omega⟩).trans (jk_row_same _ _ _)) | (rewrite [jk_row_ne _ _ (by omega)]; first | exact jk_row_same _ _ _ | exact hg | exact ho | exact (md_gr_at _ m g).1 | exact (md_gr_at _ m g).2.1 | exact (md_gr_at _ m g).2.2.1 | exact (md_gr_at _ m g).2.2.2 | exact ((md_gr_ne _ _ _ ⟨by omega, by omega, by omega, by omega⟩).trans hg) | exact ((md_gr_ne _ _ _ ⟨by omega, by omega, by omega, by omega⟩).trans ho) | exact ((md_gr_ne _ _ _ ⟨by omega, by omega, by omega, by omega⟩).trans (jk_row_same _ _ _)) | (rewrite [jk_row_ne _ _ (by omega)]; first | exact jk_row_same _ _ _ | exact hg | exact ho | exact (md_gr_at _ m g).1 | exact (md_gr_at _ m g).2.1 | exact (md_gr_at _ m g).2.2.1 | exact (md_gr_at _ m g).2.2.2 | exact ((md_gr_ne _ _ _ ⟨by omega, by omega, by omega, by omega⟩).trans hg) | exact ((md_gr_ne _ _ _ ⟨by omega, by omega, by omega, by omega⟩).trans ho) | exact ((md_gr_ne _ _ _ ⟨by omega, by omega, by omega, by omega⟩).trans (jk_row_same _ _ _)) | (rewrite [jk_row_ne _ _ (by omega)]; first | exact hg | exact ho | exact (md_gr_at _ m g).1 | exact (md_gr_at _ m g).2.1 | exact (md_gr_at _ m g).2.2.1 | exact (md_gr_at _ m g).2.2.2 | exact ((md_gr_ne _ _ _ ⟨by omega, by omega, by omega, by omega⟩).trans hg) | exact ((md_gr_ne _ _ _ ⟨by omega, by omega, by omega, by omega⟩).trans ho) | exact ((md_gr_ne _ _ _ ⟨by omega, by omega, by omega, by omega⟩).trans (jk_row_same _ _ _)) | rfl))))) (by first | decide | omega | exact jB_01 _) dX13_forestLength_24 rfl ?_
      refine jk_aload_n (q := 26) dX13_forestLength_25 rfl rfl ?_
      refine jk_getA (q := 29) (k := 13) 0 0 rfl (by first | exact hm.1 | exact hm.2.1 _ _ rfl | assumption) (by first | exact hm.2.2 _ _ rfl | assumption) rfl rfl jw_1848 dX13_forestLength_26 rfl ?_
      refine jk_bipush (q := 31) (y := 56) dX13_forestLength_29 rfl (by decide) ?_
      refine jk_iload_n (q := 32) dX13_forestLength_31 rfl rfl ?_
      refine jk_iadd (q := 33) dX13_forestLength_32 rfl ?_
      refine jk_ialdR (q := 34) (by first | exact hm.1 | exact hm.2.1 _ _ rfl | assumption) (by first | exact jk_row_same _ _ _ | exact hg | exact ho | exact (md_gr_at _ m g).1 | exact (md_gr_at _ m g).2.1 | exact (md_gr_at _ m g).2.2.1 | exact (md_gr_at _ m g).2.2.2 | exact ((md_gr_ne _ _ _ ⟨by omega, by omega, by omega, by omega⟩).trans hg) | exact ((md_gr_ne _ _ _ ⟨by omega, by omega, by omega, by omega⟩).trans ho) | exact ((md_gr_ne _ _ _ ⟨by omega, by omega, by omega, by omega⟩).trans (jk_row_same _ _ _)) | (rewrite [jk_row_ne _ _ (by omega)]; first | exact jk_row_same _ _ _ | exact hg | exact ho | exact (md_gr_at _ m g).1 | exact (md_gr_at _ m g).2.1 | exact (md_gr_at _ m g).2.2.1 | exact (md_gr_at _ m g).2.2.2 | exact ((md_gr_ne _ _ _ ⟨by omega, by omega, by omega, by omega⟩).trans hg) | exact ((md_gr_ne _ _ _ ⟨by omega, by omega, by omega, by omega⟩).trans ho) | exact ((md_gr_ne _ _ _ ⟨by omega, by omega, by omega, by omega⟩).trans (jk_row_same _ _ _)) | (rewrite [jk_row_ne _ _ (by omega)]; first | exact jk_row_same _ _ _ | exact hg | exact ho | exact (md_gr_at _ m g).1 | exact (md_gr_at _ m g).2.1 | exact (md_gr_at _ m g).2.2.1 | exact (md_gr_at _ m g).2.2.2 | exact ((md_gr_ne _ _ _ ⟨by omega, by omega, by omega, by omega⟩).trans hg) | exact ((md_gr_ne _ _ _ ⟨by omega, by omega, by omega, by omega⟩).trans ho) | exact ((md_gr_ne _ _ _ ⟨by omega, by omega, by omega, by omega⟩).trans (jk_row_same _ _ _)) | (rewrite [jk_row_ne _ _ (by omega)]; first | exact jk_row_same _ _ _ | exact hg | exact ho | exact (md_gr_at _ m g).1 | exact (md_gr_at _ m g).2.1 | exact (md_gr_at _ m g).2.2.1 | exact (md_gr_at _ m g).2.2.2 | exact ((md_gr_ne _ _ _ ⟨by omega, by omega, by omega, by omega⟩).trans hg) | exact ((md_gr_ne _ _ _ ⟨by omega, by omega, by omega, by omega⟩).trans ho) | exact ((md_gr_ne _ _ _ ⟨by omega, by omega, by omega, by omega⟩).trans (jk_row_same _ _ _)) | (rewrite [jk_row_ne _ _ (by omega)]; first | exact hg | exact ho | exact (md_gr_at _ m g).1 | exact (md_gr_at _ m g).2.1 | exact (md_gr_at _ m g).2.2.1 | exact (md_gr_at _ m g).2.2.2 | exact ((md_gr_ne _ _ _ ⟨by omega, by omega, by omega, by omega⟩).trans hg) | exact ((md_gr_ne _ _ _ ⟨by omega, by omega, by omega, by omega⟩).trans ho) | exact ((md_gr_ne _ _ _ ⟨by omega, by omega, by omega, by omega⟩).trans (jk_row_same _ _ _)) | rfl))))) (by first | decide | omega | exact jB_01 _) dX13_forestLength_33 rfl ?_
      refine jk_imul (q := 35) dX13_forestLength_34 rfl ?_
      refine jk_iadd (q := 36) dX13_forestLength_35 rfl ?_
      refine jk_istore1 (q := 37) dX13_forestLength_36 rfl rfl rfl ?_
      refine jk_iinc2 (q := 40) dX13_forestLength_37 rfl rfl rfl ?_
      refine jk_goto (q := 8) dX13_forestLength_40 rfl ?_
      refine jk_convl (ih8 (by omega)) (jk_loc rfl (jk_loc (jk_li ?_) rfl))
      simp [jk_sum, *, jB_t, jB_f]
  exact L8 0 (Nat.zero_le _)
def md_q_tc (g : Int → Int) : Int × Int := (0, jk_sum (fun p => if md_Ro g p = p then 1 else 0) (g 0).toNat)
theorem c_X13_treeCount {G : jk_G} {n : Nat} {t : jk_T} {σ : jk_I} {ρ : jk_P} {m : Nat} {g O : Int → Int} {B : Int} (hm : md_at t ρ m) (hg : σ (m + 2) = g) (hi : md_inv B g) (ho : σ m = O) (hz : md_z σ m) (hz1 : md_z10 σ m)  : jk_K G yX13_treeCount mX13_treeCount 0 0 [.ref m] n t σ ρ (md_Q m σ O n t ρ (md_q_tc g).1 (jI (md_q_tc g).2)) jk_no := by
  refine jk_entryB (ls := [some (.ref m), none, none]) jm_X13_treeCount.1 rfl rfl rfl ?_
  obtain ⟨i0, i1, i2, i3, -⟩ := id hi
  refine jk_aload_n (q := 1) dX13_treeCount_0 rfl rfl ?_
  refine jk_cV0v (q := 4) (c_X13_grows hm (by first | exact hg | exact (jk_row_ne _ _ (by omega)).trans hg) hi (by first | exact hz | exact md_z_row hz _ ⟨by omega, by omega, by omega⟩) (by first | exact hz1 | exact md_z10_row hz1 _ ⟨by omega, by omega, by omega, by omega⟩)) jm_X13_grows jw_2036 rfl (by first | exact hm.1 | exact hm.2.1 _ _ rfl | assumption) rfl rfl rfl dX13_treeCount_1 rfl ?_
  refine jk_iconst (q := 5) dX13_treeCount_4 rfl ?_
  refine jk_istore1 (q := 6) dX13_treeCount_5 rfl rfl rfl ?_
  refine jk_iconst (q := 7) dX13_treeCount_6 rfl ?_
  refine jk_istore2 (q := 8) dX13_treeCount_7 rfl rfl rfl ?_
  have L8 : ∀ k8 : Nat, k8 ≤ (g 0).toNat → jk_J G mX13_treeCount 8 [some (.ref m), some (jI (jk_sum (fun p => if md_Ro g p = p then 1 else 0) k8)), some (jI (k8 : Int))] [] n t (md_gr σ m g) ρ 0 0 (md_Q m σ O n t ρ (md_q_tc g).1 (jI (md_q_tc g).2)) jk_no := by
    refine jk_loop _ (fun k8 hk8 ih8 => ?_)
    refine jk_iload_n (q := 9) dX13_treeCount_8 rfl rfl ?_
    refine jk_aload_n (q := 10) dX13_treeCount_9 rfl rfl ?_
    refine jk_getA (q := 13) (k := 13) 0 0 rfl (by first | exact hm.1 | exact hm.2.1 _ _ rfl | assumption) (by first | exact hm.2.2 _ _ rfl | assumption) rfl rfl jw_1848 dX13_treeCount_10 rfl ?_
    refine jk_iconst (q := 14) dX13_treeCount_13 rfl ?_
    refine jk_ialdR (q := 15) (by first | exact hm.1 | exact hm.2.1 _ _ rfl | assumption) (by first | exact jk_row_same _ _ _ | exact hg | exact ho | exact (md_gr_at _ m g).1 | exact (md_gr_at _ m g).2.1 | exact (md_gr_at _ m g).2.2.1 | exact (md_gr_at _ m g).2.2.2 | exact ((md_gr_ne _ _ _ ⟨by omega, by omega, by omega, by omega⟩).trans hg) | exact ((md_gr_ne _ _ _ ⟨by omega, by omega, by omega, by omega⟩).trans ho) | exact ((md_gr_ne _ _ _ ⟨by omega, by omega, by omega, by omega⟩).trans (jk_row_same _ _ _)) | (rewrite [jk_row_ne _ _ (by omega)]; first | exact jk_row_same _ _ _ | exact hg | exact ho | exact (md_gr_at _ m g).1 | exact (md_gr_at _ m g).2.1 | exact (md_gr_at _ m g).2.2.1 | exact (md_gr_at _ m g).2.2.2 | exact ((md_gr_ne _ _ _ ⟨by omega, by omega, by omega, by omega⟩).trans hg) | exact ((md_gr_ne _ _ _ ⟨by omega, by omega, by omega, by omega⟩).trans ho) | exact ((md_gr_ne _ _ _ ⟨by omega, by omega, by omega, by omega⟩).trans (jk_row_same _ _ _)) | (rewrite [jk_row_ne _ _ (by omega)]; first | exact jk_row_same _ _ _ | exact hg | exact ho | exact (md_gr_at _ m g).1 | exact (md_gr_at _ m g).2.1 | exact (md_gr_at _ m g).2.2.1 | exact (md_gr_at _ m g).2.2.2 | exact ((md_gr_ne _ _ _ ⟨by omega, by omega, by omega, by omega⟩).trans hg) | exact ((md_gr_ne _ _ _ ⟨by omega, by omega, by omega, by omega⟩).trans ho) | exact ((md_gr_ne _ _ _ ⟨by omega, by omega, by omega, by omega⟩).trans (jk_row_same _ _ _)) | (rewrite [jk_row_ne _ _ (by omega)]; first | exact jk_row_same _ _ _ | exact hg | exact ho | exact (md_gr_at _ m g).1 | exact (md_gr_at _ m g).2.1 | exact (md_gr_at _ m g).2.2.1 | exact (md_gr_at _ m g).2.2.2 | exact ((md_gr_ne _ _ _ ⟨by omega, by omega, by omega, by omega⟩).trans hg) | exact ((md_gr_ne _ _ _ ⟨by omega, by omega, by omega, by omega⟩).trans ho) | exact ((md_gr_ne _ _ _ ⟨by omega, by omega, by omega, by omega⟩).trans (jk_row_same _ _ _)) | (rewrite [jk_row_ne _ _ (by omega)]; first | exact hg | exact ho | exact (md_gr_at _ m g).1 | exact (md_gr_at _ m g).2.1 | exact (md_gr_at _ m g).2.2.1 | exact (md_gr_at _ m g).2.2.2 | exact ((md_gr_ne _ _ _ ⟨by omega, by omega, by omega, by omega⟩).trans hg) | exact ((md_gr_ne _ _ _ ⟨by omega, by omega, by omega, by omega⟩).trans ho) | exact ((md_gr_ne _ _ _ ⟨by omega, by omega, by omega, by omega⟩).trans (jk_row_same _ _ _)) | rfl))))) (by first | decide | omega | exact jB_01 _) dX13_treeCount_14 rfl ?_
    refine jk_icmp_ge (q := 42) (q2 := 18) dX13_treeCount_15 rfl rfl (by first | decide | omega | exact jB_01 _) (by first | decide | omega | exact jB_01 _) (fun h1 => ?_) (fun h1 => ?_)
    · refine jk_aload_n (q := 43) dX13_treeCount_42 rfl rfl ?_
      refine jk_iload_n (q := 44) dX13_treeCount_43 rfl rfl ?_
      refine jk_cV1p (q := 47) (c_X13_done (O := O) hm (by first | exact ho | exact ((md_gr_ne _ _ _ ⟨by omega, by omega, by omega, by omega⟩).trans ho))) jm_X13_done jw_1941 rfl (by first | exact hm.1 | exact hm.2.1 _ _ rfl | assumption) rfl rfl rfl dX13_treeCount_44 rfl ?_
      exact jk_iret rfl dX13_treeCount_47 (by rw [show k8 = (g 0).toNat by omega]; exact md_qi (k := 0) (v := jk_sum (fun p => if md_Ro g p = p then 1 else 0) (g 0).toNat) rfl (by first | exact md_post_th (md_like_rf hz hz1) | exact md_post_th (md_like_gr hi (md_like_rf hz hz1)) | exact md_post_gr hi (md_post_th (md_like_rf hz hz1))))
    · have hro := (md_kr_tr hi 50).2 (k8 : Int) ⟨by omega, by omega⟩
      rw [show (md_kr g 50).2 = md_Ro g from rfl] at hro
      refine jk_iload_n (q := 19) dX13_treeCount_18 rfl rfl ?_
      refine jk_aload_n (q := 20) dX13_treeCount_19 rfl rfl ?_
      refine jk_getA (q := 23) (k := 13) 14 14 rfl (by first | exact hm.1 | exact hm.2.1 _ _ rfl | assumption) (by first | exact hm.2.2 _ _ rfl | assumption) rfl rfl jw_1862 dX13_treeCount_20 rfl ?_
      refine jk_iload_n (q := 24) dX13_treeCount_23 rfl rfl ?_
      refine jk_ialdR (q := 25) (by first | exact hm.1 | exact hm.2.1 _ _ rfl | assumption) (by first | exact jk_row_same _ _ _ | exact hg | exact ho | exact (md_gr_at _ m g).1 | exact (md_gr_at _ m g).2.1 | exact (md_gr_at _ m g).2.2.1 | exact (md_gr_at _ m g).2.2.2 | exact ((md_gr_ne _ _ _ ⟨by omega, by omega, by omega, by omega⟩).trans hg) | exact ((md_gr_ne _ _ _ ⟨by omega, by omega, by omega, by omega⟩).trans ho) | exact ((md_gr_ne _ _ _ ⟨by omega, by omega, by omega, by omega⟩).trans (jk_row_same _ _ _)) | (rewrite [jk_row_ne _ _ (by omega)]; first | exact jk_row_same _ _ _ | exact hg | exact ho | exact (md_gr_at _ m g).1 | exact (md_gr_at _ m g).2.1 | exact (md_gr_at _ m g).2.2.1 | exact (md_gr_at _ m g).2.2.2 | exact ((md_gr_ne _ _ _ ⟨by omega, by omega, by omega, by omega⟩).trans hg) | exact ((md_gr_ne _ _ _ ⟨by omega, by omega, by omega, by omega⟩).trans ho) | exact ((md_gr_ne _ _ _ ⟨by omega, by omega, by omega, by omega⟩).trans (jk_row_same _ _ _)) | (rewrite [jk_row_ne _ _ (by omega)]; first | exact jk_row_same _ _ _ | exact hg | exact ho | exact (md_gr_at _ m g).1 | exact (md_gr_at _ m g).2.1 | exact (md_gr_at _ m g).2.2.1 | exact (md_gr_at _ m g).2.2.2 | exact ((md_gr_ne _ _ _ ⟨by omega, by omega, by omega, by omega⟩).trans hg) | exact ((md_gr_ne _ _ _ ⟨by omega, by omega, by omega, by omega⟩).trans ho) | exact ((md_gr_ne _ _ _ ⟨by omega, by omega, by omega, by omega⟩).trans (jk_row_same _ _ _)) | (rewrite [jk_row_ne _ _ (by omega)]; first | exact jk_row_same _ _ _ | exact hg | exact ho | exact (md_gr_at _ m g).1 | exact (md_gr_at _ m g).2.1 | exact (md_gr_at _ m g).2.2.1 | exact (md_gr_at _ m g).2.2.2 | exact ((md_gr_ne _ _ _ ⟨by omega, by omega, by omega, by omega⟩).trans hg) | exact ((md_gr_ne _ _ _ ⟨by omega, by omega, by omega, by omega⟩).trans ho) | exact ((md_gr_ne _ _ _ ⟨by omega, by omega, by omega, by omega⟩).trans (jk_row_same _ _ _)) | (rewrite [jk_row_ne _ _ (by omega)]; first | exact hg | exact ho | exact (md_gr_at _ m g).1 | exact (md_gr_at _ m g).2.1 | exact (md_gr_at _ m g).2.2.1 | exact (md_gr_at _ m g).2.2.2 | exact ((md_gr_ne _ _ _ ⟨by omega, by omega, by omega, by omega⟩).trans hg) | exact ((md_gr_ne _ _ _ ⟨by omega, by omega, by omega, by omega⟩).trans ho) | exact ((md_gr_ne _ _ _ ⟨by omega, by omega, by omega, by omega⟩).trans (jk_row_same _ _ _)) | rfl))))) (by first | decide | omega | exact jB_01 _) dX13_treeCount_24 rfl ?_
      refine jk_iload_n (q := 26) dX13_treeCount_25 rfl rfl ?_
      refine jk_icmp_ne (q := 33) (q2 := 29) dX13_treeCount_26 rfl rfl (by first | decide | omega | exact jB_01 _) (by first | decide | omega | exact jB_01 _) (fun h2 => ?_) (fun h2 => ?_)
      · refine jk_iconst (q := 34) dX13_treeCount_33 rfl ?_
        refine jk_iadd (q := 35) dX13_treeCount_34 rfl ?_
        refine jk_istore1 (q := 36) dX13_treeCount_35 rfl rfl rfl ?_
        refine jk_iinc2 (q := 39) dX13_treeCount_36 rfl rfl rfl ?_
        refine jk_goto (q := 8) dX13_treeCount_39 rfl ?_
        refine jk_convl (ih8 (by omega)) (jk_loc rfl (jk_loc (jk_li ?_) rfl))
        simp [jk_sum, *, jB_t, jB_f]
      · refine jk_iconst (q := 30) dX13_treeCount_29 rfl ?_
        refine jk_goto (q := 34) dX13_treeCount_30 rfl ?_
        refine jk_iadd (q := 35) dX13_treeCount_34 rfl ?_
        refine jk_istore1 (q := 36) dX13_treeCount_35 rfl rfl rfl ?_
        refine jk_iinc2 (q := 39) dX13_treeCount_36 rfl rfl rfl ?_
        refine jk_goto (q := 8) dX13_treeCount_39 rfl ?_
        refine jk_convl (ih8 (by omega)) (jk_loc rfl (jk_loc (jk_li ?_) rfl))
        simp [jk_sum, *, jB_t, jB_f]
  exact L8 0 (Nat.zero_le _)
def md_q_lo (g : Int → Int) : Int × Int := (0, jk_sum (fun l => jB (md_clo g (md_T g) l)) (g 1).toNat)
theorem c_X13_loopCount {G : jk_G} {n : Nat} {t : jk_T} {σ : jk_I} {ρ : jk_P} {m : Nat} {g O : Int → Int} {B : Int} (hm : md_at t ρ m) (hg : σ (m + 2) = g) (hi : md_inv B g) (ho : σ m = O) (hz : md_z σ m) (hz1 : md_z10 σ m)  : jk_K G yX13_loopCount mX13_loopCount 0 0 [.ref m] n t σ ρ (md_Q m σ O n t ρ (md_q_lo g).1 (jI (md_q_lo g).2)) jk_no := by
  refine jk_entryB (ls := [some (.ref m), none, none]) jm_X13_loopCount.1 rfl rfl rfl ?_
  obtain ⟨i0, i1, i2, i3, -⟩ := id hi
  refine jk_aload_n (q := 1) dX13_loopCount_0 rfl rfl ?_
  refine jk_cV0v (q := 4) (c_X13_grows hm (by first | exact hg | exact (jk_row_ne _ _ (by omega)).trans hg) hi (by first | exact hz | exact md_z_row hz _ ⟨by omega, by omega, by omega⟩) (by first | exact hz1 | exact md_z10_row hz1 _ ⟨by omega, by omega, by omega, by omega⟩)) jm_X13_grows jw_2036 rfl (by first | exact hm.1 | exact hm.2.1 _ _ rfl | assumption) rfl rfl rfl dX13_loopCount_1 rfl ?_
  refine jk_iconst (q := 5) dX13_loopCount_4 rfl ?_
  refine jk_istore1 (q := 6) dX13_loopCount_5 rfl rfl rfl ?_
  refine jk_iconst (q := 7) dX13_loopCount_6 rfl ?_
  refine jk_istore2 (q := 8) dX13_loopCount_7 rfl rfl rfl ?_
  have L8 : ∀ k8 : Nat, k8 ≤ (g 1).toNat → jk_J G mX13_loopCount 8 [some (.ref m), some (jI (jk_sum (fun l => jB (md_clo g (md_T g) l)) k8)), some (jI (k8 : Int))] [] n t (md_gr σ m g) ρ 0 0 (md_Q m σ O n t ρ (md_q_lo g).1 (jI (md_q_lo g).2)) jk_no := by
    refine jk_loop _ (fun k8 hk8 ih8 => ?_)
    refine jk_iload_n (q := 9) dX13_loopCount_8 rfl rfl ?_
    refine jk_aload_n (q := 10) dX13_loopCount_9 rfl rfl ?_
    refine jk_getA (q := 13) (k := 13) 0 0 rfl (by first | exact hm.1 | exact hm.2.1 _ _ rfl | assumption) (by first | exact hm.2.2 _ _ rfl | assumption) rfl rfl jw_1848 dX13_loopCount_10 rfl ?_
    refine jk_iconst (q := 14) dX13_loopCount_13 rfl ?_
    refine jk_ialdR (q := 15) (by first | exact hm.1 | exact hm.2.1 _ _ rfl | assumption) (by first | exact jk_row_same _ _ _ | exact hg | exact ho | exact (md_gr_at _ m g).1 | exact (md_gr_at _ m g).2.1 | exact (md_gr_at _ m g).2.2.1 | exact (md_gr_at _ m g).2.2.2 | exact ((md_gr_ne _ _ _ ⟨by omega, by omega, by omega, by omega⟩).trans hg) | exact ((md_gr_ne _ _ _ ⟨by omega, by omega, by omega, by omega⟩).trans ho) | exact ((md_gr_ne _ _ _ ⟨by omega, by omega, by omega, by omega⟩).trans (jk_row_same _ _ _)) | (rewrite [jk_row_ne _ _ (by omega)]; first | exact jk_row_same _ _ _ | exact hg | exact ho | exact (md_gr_at _ m g).1 | exact (md_gr_at _ m g).2.1 | exact (md_gr_at _ m g).2.2.1 | exact (md_gr_at _ m g).2.2.2 | exact ((md_gr_ne _ _ _ ⟨by omega, by omega, by omega, by omega⟩).trans hg) | exact ((md_gr_ne _ _ _ ⟨by omega, by omega, by omega, by omega⟩).trans ho) | exact ((md_gr_ne _ _ _ ⟨by omega, by omega, by omega, by omega⟩).trans (jk_row_same _ _ _)) | (rewrite [jk_row_ne _ _ (by omega)]; first | exact jk_row_same _ _ _ | exact hg | exact ho | exact (md_gr_at _ m g).1 | exact (md_gr_at _ m g).2.1 | exact (md_gr_at _ m g).2.2.1 | exact (md_gr_at _ m g).2.2.2 | exact ((md_gr_ne _ _ _ ⟨by omega, by omega, by omega, by omega⟩).trans hg) | exact ((md_gr_ne _ _ _ ⟨by omega, by omega, by omega, by omega⟩).trans ho) | exact ((md_gr_ne _ _ _ ⟨by omega, by omega, by omega, by omega⟩).trans (jk_row_same _ _ _)) | (rewrite [jk_row_ne _ _ (by omega)]; first | exact jk_row_same _ _ _ | exact hg | exact ho | exact (md_gr_at _ m g).1 | exact (md_gr_at _ m g).2.1 | exact (md_gr_at _ m g).2.2.1 | exact (md_gr_at _ m g).2.2.2 | exact ((md_gr_ne _ _ _ ⟨by omega, by omega, by omega, by omega⟩).trans hg) | exact ((md_gr_ne _ _ _ ⟨by omega, by omega, by omega, by omega⟩).trans ho) | exact ((md_gr_ne _ _ _ ⟨by omega, by omega, by omega, by omega⟩).trans (jk_row_same _ _ _)) | (rewrite [jk_row_ne _ _ (by omega)]; first | exact hg | exact ho | exact (md_gr_at _ m g).1 | exact (md_gr_at _ m g).2.1 | exact (md_gr_at _ m g).2.2.1 | exact (md_gr_at _ m g).2.2.2 | exact ((md_gr_ne _ _ _ ⟨by omega, by omega, by omega, by omega⟩).trans hg) | exact ((md_gr_ne _ _ _ ⟨by omega, by omega, by omega, by omega⟩).trans ho) | exact ((md_gr_ne _ _ _ ⟨by omega, by omega, by omega, by omega⟩).trans (jk_row_same _ _ _)) | rfl))))) (by first | decide | omega | exact jB_01 _) dX13_loopCount_14 rfl ?_
    refine jk_icmp_ge (q := 40) (q2 := 18) dX13_loopCount_15 rfl rfl (by first | decide | omega | exact jB_01 _) (by first | decide | omega | exact jB_01 _) (fun h1 => ?_) (fun h1 => ?_)
    · refine jk_aload_n (q := 41) dX13_loopCount_40 rfl rfl ?_
      refine jk_iload_n (q := 42) dX13_loopCount_41 rfl rfl ?_
      refine jk_cV1p (q := 45) (c_X13_done (O := O) hm (by first | exact ho | exact ((md_gr_ne _ _ _ ⟨by omega, by omega, by omega, by omega⟩).trans ho))) jm_X13_done jw_1941 rfl (by first | exact hm.1 | exact hm.2.1 _ _ rfl | assumption) rfl rfl rfl dX13_loopCount_42 rfl ?_
      exact jk_iret rfl dX13_loopCount_45 (by rw [show k8 = (g 1).toNat by omega]; exact md_qi (k := 0) (v := jk_sum (fun l => jB (md_clo g (md_T g) l)) (g 1).toNat) rfl (by first | exact md_post_th (md_like_rf hz hz1) | exact md_post_th (md_like_gr hi (md_like_rf hz hz1)) | exact md_post_gr hi (md_post_th (md_like_rf hz hz1))))
    · refine jk_iload_n (q := 19) dX13_loopCount_18 rfl rfl ?_
      refine jk_aload_n (q := 20) dX13_loopCount_19 rfl rfl ?_
      refine jk_iload_n (q := 21) dX13_loopCount_20 rfl rfl ?_
      refine jk_cV1p (q := 24) (c_X13_closes (T := md_T g) hm ((md_gr_ne _ _ _ ⟨by omega, by omega, by omega, by omega⟩).trans hg) hi (md_gr_at _ m g).1 (md_kr_tr hi 50).1 ⟨by omega, by omega⟩) jm_X13_closes jw_2063 rfl (by first | exact hm.1 | exact hm.2.1 _ _ rfl | assumption) rfl rfl rfl dX13_loopCount_21 rfl ?_
      refine jk_ifB_eq (q := 31) (q2 := 27) dX13_loopCount_24 rfl rfl (fun h2 => ?_) (fun h2 => ?_)
      · refine jk_iconst (q := 32) dX13_loopCount_31 rfl ?_
        refine jk_iadd (q := 33) dX13_loopCount_32 rfl ?_
        refine jk_istore1 (q := 34) dX13_loopCount_33 rfl rfl rfl ?_
        refine jk_iinc2 (q := 37) dX13_loopCount_34 rfl rfl rfl ?_
        refine jk_goto (q := 8) dX13_loopCount_37 rfl ?_
        refine jk_convl (ih8 (by omega)) (jk_loc rfl (jk_loc (jk_li ?_) rfl))
        simp [jk_sum, *, jB_t, jB_f]
      · refine jk_iconst (q := 28) dX13_loopCount_27 rfl ?_
        refine jk_goto (q := 32) dX13_loopCount_28 rfl ?_
        refine jk_iadd (q := 33) dX13_loopCount_32 rfl ?_
        refine jk_istore1 (q := 34) dX13_loopCount_33 rfl rfl rfl ?_
        refine jk_iinc2 (q := 37) dX13_loopCount_34 rfl rfl rfl ?_
        refine jk_goto (q := 8) dX13_loopCount_37 rfl ?_
        refine jk_convl (ih8 (by omega)) (jk_loc rfl (jk_loc (jk_li ?_) rfl))
        simp [jk_sum, *, jB_t, jB_f]
  exact L8 0 (Nat.zero_le _)
theorem c_X13_forestLengthByGrowing {G : jk_G} {n : Nat} {t : jk_T} {σ : jk_I} {ρ : jk_P} {m : Nat} {g O : Int → Int} {B : Int} (hm : md_at t ρ m) (hg : σ (m + 2) = g) (hi : md_inv B g) (ho : σ m = O) (hz : md_z σ m) (hz1 : md_z10 σ m)  : jk_K G yX13_forestLengthByGrowing mX13_forestLengthByGrowing 0 0 [.ref m] n t σ ρ (md_Q m σ O n t ρ (md_q_fl g).1 (jI (md_q_fl g).2)) jk_no := by
  refine jk_entryB (ls := [some (.ref m)]) jm_X13_forestLengthByGrowing.1 rfl rfl rfl ?_
  obtain ⟨i0, i1, i2, i3, -⟩ := id hi
  refine jk_aload_n (q := 1) dX13_forestLengthByGrowing_0 rfl rfl ?_
  refine jk_cV0g (q := 4) (c_X13_forestLength hm hg hi ho hz hz1) jm_X13_forestLength jw_2248 rfl (by first | exact hm.1 | exact hm.2.1 _ _ rfl | assumption) rfl rfl (Nat.zero_le _) (Nat.zero_le _) rfl dX13_forestLengthByGrowing_1 rfl (fun v' n' t' σ' ρ' hq => ?_) (fun _ _ _ _ _ h => h.elim)
  obtain ⟨rfl, rfl, rfl, rfl, hp⟩ := hq
  simp only [Option.toList_some, List.cons_append, List.nil_append, Nat.sub_zero]
  exact jk_iret rfl dX13_forestLengthByGrowing_4 (by exact ⟨rfl, rfl, rfl, rfl, hp⟩)
def md_laP (g : Int → Int) (p : Int) : Int → Bool := fun l => md_clo g (md_T g) l && decide (jk_sum (fun j => jB (md_clo g (md_T g) j)) l.toNat = p)
def md_q_la (g : Int → Int) (p : Int) : Int × Int := if jk_fnd (md_laP g p) (g 1).toNat = -1 then (1, 0) else (0, jk_fnd (md_laP g p) (g 1).toNat)
theorem md_sumB (P : Int → Bool) (k : Nat) : 0 ≤ jk_sum (fun j => jB (P j)) k ∧ jk_sum (fun j => jB (P j)) k ≤ (k : Int) := by
  have h := jk_sum_bd2 (f := fun j => jB (P j)) (a := 0) (b := 1) k (fun i _ _ => by rcases jB_01 (P i) with h | h <;> rw [h] <;> decide)
  omega
theorem c_X13_loopAt {G : jk_G} {n : Nat} {t : jk_T} {σ : jk_I} {ρ : jk_P} {m : Nat} {g O : Int → Int} {B : Int} {p : Int} (hm : md_at t ρ m) (hg : σ (m + 2) = g) (hi : md_inv B g) (ho : σ m = O) (hz : md_z σ m) (hz1 : md_z10 σ m) (hp : jk_in p) : jk_K G yX13_loopAt mX13_loopAt 0 0 [.ref m, jI p] n t σ ρ (md_Q m σ O n t ρ (md_q_la g p).1 (jI (md_q_la g p).2)) jk_no := by
  refine jk_entryB (ls := [some (.ref m), some (jI p), none, none]) jm_X13_loopAt.1 rfl rfl rfl ?_
  obtain ⟨i0, i1, i2, i3, -⟩ := id hi
  refine jk_aload_n (q := 1) dX13_loopAt_0 rfl rfl ?_
  refine jk_cV0v (q := 4) (c_X13_grows hm (by first | exact hg | exact (jk_row_ne _ _ (by omega)).trans hg) hi (by first | exact hz | exact md_z_row hz _ ⟨by omega, by omega, by omega⟩) (by first | exact hz1 | exact md_z10_row hz1 _ ⟨by omega, by omega, by omega, by omega⟩)) jm_X13_grows jw_2036 rfl (by first | exact hm.1 | exact hm.2.1 _ _ rfl | assumption) rfl rfl rfl dX13_loopAt_1 rfl ?_
  refine jk_iconst (q := 5) dX13_loopAt_4 rfl ?_
  refine jk_istore2 (q := 6) dX13_loopAt_5 rfl rfl rfl ?_
  refine jk_iconst (q := 7) dX13_loopAt_6 rfl ?_
  refine jk_istore3 (q := 8) dX13_loopAt_7 rfl rfl rfl ?_
  have L8 : ∀ k8 : Nat, k8 ≤ (g 1).toNat → (hf : jk_fnd (md_laP g p) k8 = -1) → jk_J G mX13_loopAt 8 [some (.ref m), some (jI p), some (jI (jk_sum (fun j => jB (md_clo g (md_T g) j)) k8)), some (jI (k8 : Int))] [] n t (md_gr σ m g) ρ 0 0 (md_Q m σ O n t ρ (md_q_la g p).1 (jI (md_q_la g p).2)) jk_no := by
    refine jk_loop _ (fun k8 hk8 ih8 => ?_)
    intro  hf
    refine jk_iload_n (q := 9) dX13_loopAt_8 rfl rfl ?_
    refine jk_aload_n (q := 10) dX13_loopAt_9 rfl rfl ?_
    refine jk_getA (q := 13) (k := 13) 0 0 rfl (by first | exact hm.1 | exact hm.2.1 _ _ rfl | assumption) (by first | exact hm.2.2 _ _ rfl | assumption) rfl rfl jw_1848 dX13_loopAt_10 rfl ?_
    refine jk_iconst (q := 14) dX13_loopAt_13 rfl ?_
    refine jk_ialdR (q := 15) (by first | exact hm.1 | exact hm.2.1 _ _ rfl | assumption) (by first | exact jk_row_same _ _ _ | exact hg | exact ho | exact (md_gr_at _ m g).1 | exact (md_gr_at _ m g).2.1 | exact (md_gr_at _ m g).2.2.1 | exact (md_gr_at _ m g).2.2.2 | exact ((md_gr_ne _ _ _ ⟨by omega, by omega, by omega, by omega⟩).trans hg) | exact ((md_gr_ne _ _ _ ⟨by omega, by omega, by omega, by omega⟩).trans ho) | exact ((md_gr_ne _ _ _ ⟨by omega, by omega, by omega, by omega⟩).trans (jk_row_same _ _ _)) | (rewrite [jk_row_ne _ _ (by omega)]; first | exact jk_row_same _ _ _ | exact hg | exact ho | exact (md_gr_at _ m g).1 | exact (md_gr_at _ m g).2.1 | exact (md_gr_at _ m g).2.2.1 | exact (md_gr_at _ m g).2.2.2 | exact ((md_gr_ne _ _ _ ⟨by omega, by omega, by omega, by omega⟩).trans hg) | exact ((md_gr_ne _ _ _ ⟨by omega, by omega, by omega, by omega⟩).trans ho) | exact ((md_gr_ne _ _ _ ⟨by omega, by omega, by omega, by omega⟩).trans (jk_row_same _ _ _)) | (rewrite [jk_row_ne _ _ (by omega)]; first | exact jk_row_same _ _ _ | exact hg | exact ho | exact (md_gr_at _ m g).1 | exact (md_gr_at _ m g).2.1 | exact (md_gr_at _ m g).2.2.1 | exact (md_gr_at _ m g).2.2.2 | exact ((md_gr_ne _ _ _ ⟨by omega, by omega, by omega, by omega⟩).trans hg) | exact ((md_gr_ne _ _ _ ⟨by omega, by omega, by omega, by omega⟩).trans ho) | exact ((md_gr_ne _ _ _ ⟨by omega, by omega, by omega, by omega⟩).trans (jk_row_same _ _ _)) | (rewrite [jk_row_ne _ _ (by omega)]; first | exact jk_row_same _ _ _ | exact hg | exact ho | exact (md_gr_at _ m g).1 | exact (md_gr_at _ m g).2.1 | exact (md_gr_at _ m g).2.2.1 | exact (md_gr_at _ m g).2.2.2 | exact ((md_gr_ne _ _ _ ⟨by omega, by omega, by omega, by omega⟩).trans hg) | exact ((md_gr_ne _ _ _ ⟨by omega, by omega, by omega, by omega⟩).trans ho) | exact ((md_gr_ne _ _ _ ⟨by omega, by omega, by omega, by omega⟩).trans (jk_row_same _ _ _)) | (rewrite [jk_row_ne _ _ (by omega)]; first | exact hg | exact ho | exact (md_gr_at _ m g).1 | exact (md_gr_at _ m g).2.1 | exact (md_gr_at _ m g).2.2.1 | exact (md_gr_at _ m g).2.2.2 | exact ((md_gr_ne _ _ _ ⟨by omega, by omega, by omega, by omega⟩).trans hg) | exact ((md_gr_ne _ _ _ ⟨by omega, by omega, by omega, by omega⟩).trans ho) | exact ((md_gr_ne _ _ _ ⟨by omega, by omega, by omega, by omega⟩).trans (jk_row_same _ _ _)) | rfl))))) (by first | decide | omega | exact jB_01 _) dX13_loopAt_14 rfl ?_
    refine jk_icmp_ge (q := 46) (q2 := 18) dX13_loopAt_15 rfl rfl (by first | decide | omega | exact jB_01 _) (by first | decide | omega | exact jB_01 _) (fun h1 => ?_) (fun h1 => ?_)
    · refine jk_aload_n (q := 47) dX13_loopAt_46 rfl rfl ?_
      refine jk_iconst (q := 48) dX13_loopAt_47 rfl ?_
      refine jk_cV1p (q := 51) (c_X13_fails (O := O) hm (by first | exact ho | exact ((md_gr_ne _ _ _ ⟨by omega, by omega, by omega, by omega⟩).trans ho))) jm_X13_fails jw_1937 rfl (by first | exact hm.1 | exact hm.2.1 _ _ rfl | assumption) rfl rfl rfl dX13_loopAt_48 rfl ?_
      exact jk_iret rfl dX13_loopAt_51 (by exact md_qi (k := 1) (v := 0) (by unfold md_q_la; rw [show (g 1).toNat = k8 by omega, if_pos hf]) (by first | exact md_post_th (md_like_rf hz hz1) | exact md_post_th (md_like_gr hi (md_like_rf hz hz1)) | exact md_post_gr hi (md_post_th (md_like_rf hz hz1))))
    · refine jk_aload_n (q := 19) dX13_loopAt_18 rfl rfl ?_
      refine jk_iload_n (q := 20) dX13_loopAt_19 rfl rfl ?_
      refine jk_cV1p (q := 23) (c_X13_closes (T := md_T g) hm ((md_gr_ne _ _ _ ⟨by omega, by omega, by omega, by omega⟩).trans hg) hi (md_gr_at _ m g).1 (md_kr_tr hi 50).1 ⟨by omega, by omega⟩) jm_X13_closes jw_2063 rfl (by first | exact hm.1 | exact hm.2.1 _ _ rfl | assumption) rfl rfl rfl dX13_loopAt_20 rfl ?_
      refine jk_ifB_eq (q := 40) (q2 := 26) dX13_loopAt_23 rfl rfl (fun h2 => ?_) (fun h2 => ?_)
      · refine jk_iinc3 (q := 43) dX13_loopAt_40 rfl rfl rfl ?_
        refine jk_goto (q := 8) dX13_loopAt_43 rfl ?_
        refine jk_convl (ih8 (by omega) (jk_fnd_S hf (by simp [md_laP, *]))) (jk_loc rfl (jk_loc rfl (jk_loc (jk_li ?_) rfl)))
        simp [jk_sum, *, jB_t, jB_f]
      · have hcs := md_sumB (fun j => md_clo g (md_T g) j) k8
        refine jk_iload_n (q := 27) dX13_loopAt_26 rfl rfl ?_
        refine jk_iload_n (q := 28) dX13_loopAt_27 rfl rfl ?_
        refine jk_icmp_ne (q := 37) (q2 := 31) dX13_loopAt_28 rfl rfl (by first | decide | omega | exact jB_01 _) (by first | decide | omega | exact jB_01 _) (fun h3 => ?_) (fun h3 => ?_)
        · refine jk_iinc2 (q := 40) dX13_loopAt_37 rfl rfl rfl ?_
          refine jk_iinc3 (q := 43) dX13_loopAt_40 rfl rfl rfl ?_
          refine jk_goto (q := 8) dX13_loopAt_43 rfl ?_
          refine jk_convl (ih8 (by omega) (jk_fnd_S hf (by simp [md_laP, *]))) (jk_loc rfl (jk_loc rfl (jk_loc (jk_li ?_) rfl)))
          simp [jk_sum, *, jB_t, jB_f]
        · refine jk_aload_n (q := 32) dX13_loopAt_31 rfl rfl ?_
          refine jk_iload_n (q := 33) dX13_loopAt_32 rfl rfl ?_
          refine jk_cV1p (q := 36) (c_X13_done (O := O) hm (by first | exact ho | exact ((md_gr_ne _ _ _ ⟨by omega, by omega, by omega, by omega⟩).trans ho))) jm_X13_done jw_1941 rfl (by first | exact hm.1 | exact hm.2.1 _ _ rfl | assumption) rfl rfl rfl dX13_loopAt_33 rfl ?_
          exact jk_iret rfl dX13_loopAt_36 (by have h9 := jk_fnd_hit hf (by simp [md_laP, *]) (g 1).toNat (by omega); exact md_qi (k := 0) (v := (k8 : Int)) (by unfold md_q_la; rw [h9, if_neg (by omega)]) (by first | exact md_post_th (md_like_rf hz hz1) | exact md_post_th (md_like_gr hi (md_like_rf hz hz1)) | exact md_post_gr hi (md_post_th (md_like_rf hz hz1))))
  exact L8 0 (Nat.zero_le _) rfl
end MD14
