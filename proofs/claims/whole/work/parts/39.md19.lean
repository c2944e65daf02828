section MD19
def md_q_oa (O L : Int → Int) (i : Int) : Int × Int := if md_in i 0 (O 11 - 1) = false then (1, 0) else (0, L i)
def md_q_ep (O : Int → Int) : Int × Int := if O 8 = -1 then (1, 0) else (0, O 8)
def md_q_fc (O : Int → Int) : Int × Int := if O 9 = -1 then (1, 0) else (0, O 9)
theorem c_X13_outputAt {G : jk_G} {n : Nat} {t : jk_T} {σ : jk_I} {ρ : jk_P} {m : Nat} {O L : Int → Int} {i : Int} (hm : md_at t ρ m) (ho : σ m = O) (hz : md_z σ m) (hz1 : md_z10 σ m) (hl : σ (m + 12) = L) (hi : jk_in i) (h11 : 0 ≤ O 11 ∧ O 11 ≤ 60) (hlt : ∀ j, 0 ≤ j ∧ j < 60 → 0 ≤ L j ∧ L j < 65536) : jk_K G yX13_outputAt mX13_outputAt 0 0 [.ref m, jI i] n t σ ρ (md_Q m σ O n t ρ (md_q_oa O L i).1 (jI (md_q_oa O L i).2)) jk_no := by
  refine jk_entryB (ls := [some (.ref m), some (jI i)]) jm_X13_outputAt.1 rfl rfl rfl ?_
  refine jk_aload_n (q := 1) dX13_outputAt_0 rfl rfl ?_
  refine jk_iload_n (q := 2) dX13_outputAt_1 rfl rfl ?_
  refine jk_iconst (q := 3) dX13_outputAt_2 rfl ?_
  refine jk_aload_n (q := 4) dX13_outputAt_3 rfl rfl ?_
  refine jk_getIR (q := 7) (k := 13) 11 11 rfl (by first | exact hm.1 | exact hm.2.1 _ _ rfl | assumption) (by first | exact jk_row_same _ _ _ | exact ho | exact hl | (rewrite [jk_row_ne _ _ (by omega)]; first | exact jk_row_same _ _ _ | exact ho | exact hl | (rewrite [jk_row_ne _ _ (by omega)]; first | exact jk_row_same _ _ _ | exact ho | exact hl | (rewrite [jk_row_ne _ _ (by omega)]; first | exact jk_row_same _ _ _ | exact ho | exact hl | (rewrite [jk_row_ne _ _ (by omega)]; first | exact ho | exact hl | rfl))))) rfl rfl jw_1859 dX13_outputAt_4 rfl ?_
  refine jk_iconst (q := 8) dX13_outputAt_7 rfl ?_
  refine jk_isub (q := 9) dX13_outputAt_8 rfl ?_
  refine jk_cS3p (q := 12) (c_X13_in hi (by decide) ⟨by omega, by omega⟩) jm_X13_in jw_1961 rfl rfl rfl dX13_outputAt_9 rfl ?_
  refine jk_ifB_eq (q := 19) (q2 := 15) dX13_outputAt_12 rfl rfl (fun h1 => ?_) (fun h1 => ?_)
  · refine jk_iconst (q := 20) dX13_outputAt_19 rfl ?_
    refine jk_putIR (q := 23) (k := 13) 12 12 rfl (by first | exact hm.1 | exact hm.2.1 _ _ rfl | assumption) (by first | exact jk_row_same _ _ _ | exact ho | exact hl | (rewrite [jk_row_ne _ _ (by omega)]; first | exact jk_row_same _ _ _ | exact ho | exact hl | (rewrite [jk_row_ne _ _ (by omega)]; first | exact jk_row_same _ _ _ | exact ho | exact hl | (rewrite [jk_row_ne _ _ (by omega)]; first | exact jk_row_same _ _ _ | exact ho | exact hl | (rewrite [jk_row_ne _ _ (by omega)]; first | exact ho | exact hl | rfl))))) rfl rfl rfl jw_1860 dX13_outputAt_20 rfl ?_
    refine jk_aload_n (q := 24) dX13_outputAt_23 rfl rfl ?_
    refine jk_getIR (q := 27) (k := 13) 12 12 rfl (by first | exact hm.1 | exact hm.2.1 _ _ rfl | assumption) (by first | exact jk_row_same _ _ _ | exact ho | exact hl | (rewrite [jk_row_ne _ _ (by omega)]; first | exact jk_row_same _ _ _ | exact ho | exact hl | (rewrite [jk_row_ne _ _ (by omega)]; first | exact jk_row_same _ _ _ | exact ho | exact hl | (rewrite [jk_row_ne _ _ (by omega)]; first | exact jk_row_same _ _ _ | exact ho | exact hl | (rewrite [jk_row_ne _ _ (by omega)]; first | exact ho | exact hl | rfl))))) rfl rfl jw_1860 dX13_outputAt_24 rfl ?_
    rw [jk_set_at]
    refine jk_ifT_ne (q := 39) (by decide) (by decide) dX13_outputAt_27 rfl ?_
    refine jk_iconst (q := 40) dX13_outputAt_39 rfl ?_
    exact jk_cret rfl (by first | decide | omega | exact jB_01 _) dX13_outputAt_40 (by first | (exact md_qi (k := 0) (v := L i) (by unfold md_q_oa; simp [*]; done) (by exact md_post_th (md_like_rf hz hz1))) | (exact md_qi (k := 1) (v := 0) (by unfold md_q_oa; simp [*]; done) (by exact md_post_th (md_like_rf hz hz1))))
  · refine jk_iconst (q := 16) dX13_outputAt_15 rfl ?_
    refine jk_goto (q := 20) dX13_outputAt_16 rfl ?_
    refine jk_putIR (q := 23) (k := 13) 12 12 rfl (by first | exact hm.1 | exact hm.2.1 _ _ rfl | assumption) (by first | exact jk_row_same _ _ _ | exact ho | exact hl | (rewrite [jk_row_ne _ _ (by omega)]; first | exact jk_row_same _ _ _ | exact ho | exact hl | (rewrite [jk_row_ne _ _ (by omega)]; first | exact jk_row_same _ _ _ | exact ho | exact hl | (rewrite [jk_row_ne _ _ (by omega)]; first | exact jk_row_same _ _ _ | exact ho | exact hl | (rewrite [jk_row_ne _ _ (by omega)]; first | exact ho | exact hl | rfl))))) rfl rfl rfl jw_1860 dX13_outputAt_20 rfl ?_
    refine jk_aload_n (q := 24) dX13_outputAt_23 rfl rfl ?_
    refine jk_getIR (q := 27) (k := 13) 12 12 rfl (by first | exact hm.1 | exact hm.2.1 _ _ rfl | assumption) (by first | exact jk_row_same _ _ _ | exact ho | exact hl | (rewrite [jk_row_ne _ _ (by omega)]; first | exact jk_row_same _ _ _ | exact ho | exact hl | (rewrite [jk_row_ne _ _ (by omega)]; first | exact jk_row_same _ _ _ | exact ho | exact hl | (rewrite [jk_row_ne _ _ (by omega)]; first | exact jk_row_same _ _ _ | exact ho | exact hl | (rewrite [jk_row_ne _ _ (by omega)]; first | exact ho | exact hl | rfl))))) rfl rfl jw_1860 dX13_outputAt_24 rfl ?_
    rw [jk_set_at]
    refine jk_ifN_ne (q := 30) (by decide) (by decide) dX13_outputAt_27 rfl rfl ?_
    have hi2 := md_inT (by assumption : md_in i 0 (O 11 - 1) = true)
    have hli := hlt i ⟨by omega, by omega⟩
    refine jk_aload_n (q := 31) dX13_outputAt_30 rfl rfl ?_
    refine jk_getA (q := 34) (k := 13) 10 10 rfl (by first | exact hm.1 | exact hm.2.1 _ _ rfl | assumption) (by first | exact hm.2.2 _ _ rfl | assumption) rfl rfl jw_1858 dX13_outputAt_31 rfl ?_
    refine jk_iload_n (q := 35) dX13_outputAt_34 rfl rfl ?_
    refine jk_caldR (q := 36) (by first | exact hm.1 | exact hm.2.1 _ _ rfl | assumption) (by first | exact jk_row_same _ _ _ | exact ho | exact hl | (rewrite [jk_row_ne _ _ (by omega)]; first | exact jk_row_same _ _ _ | exact ho | exact hl | (rewrite [jk_row_ne _ _ (by omega)]; first | exact jk_row_same _ _ _ | exact ho | exact hl | (rewrite [jk_row_ne _ _ (by omega)]; first | exact jk_row_same _ _ _ | exact ho | exact hl | (rewrite [jk_row_ne _ _ (by omega)]; first | exact ho | exact hl | rfl))))) (by first | decide | omega | exact jB_01 _) dX13_outputAt_35 rfl ?_
    refine jk_goto (q := 40) dX13_outputAt_36 rfl ?_
    exact jk_cret rfl (by first | decide | omega | exact jB_01 _) dX13_outputAt_40 (by first | (exact md_qi (k := 0) (v := L i) (by unfold md_q_oa; simp [*]; done) (by exact md_post_th (md_like_rf hz hz1))) | (exact md_qi (k := 1) (v := 0) (by unfold md_q_oa; simp [*]; done) (by exact md_post_th (md_like_rf hz hz1))))
theorem c_X13_errorPosition {G : jk_G} {n : Nat} {t : jk_T} {σ : jk_I} {ρ : jk_P} {m : Nat} {O : Int → Int} (hm : md_at t ρ m) (ho : σ m = O) (hz : md_z σ m) (hz1 : md_z10 σ m) (h8 : jk_in (O 8)) : jk_K G yX13_errorPosition mX13_errorPosition 0 0 [.ref m] n t σ ρ (md_Q m σ O n t ρ (md_q_ep O).1 (jI (md_q_ep O).2)) jk_no := by
  refine jk_entryB (ls := [some (.ref m)]) jm_X13_errorPosition.1 rfl rfl rfl ?_
  refine jk_aload_n (q := 1) dX13_errorPosition_0 rfl rfl ?_
  refine jk_getIR (q := 4) (k := 13) 8 8 rfl (by first | exact hm.1 | exact hm.2.1 _ _ rfl | assumption) (by first | exact jk_row_same _ _ _ | exact ho | (rewrite [jk_row_ne _ _ (by omega)]; first | exact jk_row_same _ _ _ | exact ho | (rewrite [jk_row_ne _ _ (by omega)]; first | exact jk_row_same _ _ _ | exact ho | (rewrite [jk_row_ne _ _ (by omega)]; first | exact jk_row_same _ _ _ | exact ho | (rewrite [jk_row_ne _ _ (by omega)]; first | exact ho | rfl))))) rfl rfl jw_1856 dX13_errorPosition_1 rfl ?_
  refine jk_iconst (q := 5) dX13_errorPosition_4 rfl ?_
  refine jk_icmp_ne (q := 16) (q2 := 8) dX13_errorPosition_5 rfl rfl (by first | decide | omega | exact jB_01 _) (by first | decide | omega | exact jB_01 _) (fun h1 => ?_) (fun h1 => ?_)
  · refine jk_aload_n (q := 17) dX13_errorPosition_16 rfl rfl ?_
    refine jk_aload_n (q := 18) dX13_errorPosition_17 rfl rfl ?_
    refine jk_getIR (q := 21) (k := 13) 8 8 rfl (by first | exact hm.1 | exact hm.2.1 _ _ rfl | assumption) (by first | exact jk_row_same _ _ _ | exact ho | (rewrite [jk_row_ne _ _ (by omega)]; first | exact jk_row_same _ _ _ | exact ho | (rewrite [jk_row_ne _ _ (by omega)]; first | exact jk_row_same _ _ _ | exact ho | (rewrite [jk_row_ne _ _ (by omega)]; first | exact jk_row_same _ _ _ | exact ho | (rewrite [jk_row_ne _ _ (by omega)]; first | exact ho | rfl))))) rfl rfl jw_1856 dX13_errorPosition_18 rfl ?_
    refine jk_cV1p (q := 24) (c_X13_done hm ho) jm_X13_done jw_1941 rfl (by first | exact hm.1 | exact hm.2.1 _ _ rfl | assumption) rfl rfl rfl dX13_errorPosition_21 rfl ?_
    exact jk_iret rfl dX13_errorPosition_24 (by first | (exact md_qi (k := 0) (v := O 8) (by unfold md_q_ep; rw [if_neg (by assumption)]) (by exact md_post_th (md_like_rf hz hz1))) | (exact md_qi (k := 1) (v := 0) (by unfold md_q_ep; rw [if_pos (by assumption)]) (by exact md_post_th (md_like_rf hz hz1))))
  · refine jk_aload_n (q := 9) dX13_errorPosition_8 rfl rfl ?_
    refine jk_iconst (q := 10) dX13_errorPosition_9 rfl ?_
    refine jk_cV1p (q := 13) (c_X13_fails hm ho) jm_X13_fails jw_1937 rfl (by first | exact hm.1 | exact hm.2.1 _ _ rfl | assumption) rfl rfl rfl dX13_errorPosition_10 rfl ?_
    refine jk_goto (q := 24) dX13_errorPosition_13 rfl ?_
    exact jk_iret rfl dX13_errorPosition_24 (by first | (exact md_qi (k := 0) (v := O 8) (by unfold md_q_ep; rw [if_neg (by assumption)]) (by exact md_post_th (md_like_rf hz hz1))) | (exact md_qi (k := 1) (v := 0) (by unfold md_q_ep; rw [if_pos (by assumption)]) (by exact md_post_th (md_like_rf hz hz1))))
theorem c_X13_failedCommand {G : jk_G} {n : Nat} {t : jk_T} {σ : jk_I} {ρ : jk_P} {m : Nat} {O : Int → Int} (hm : md_at t ρ m) (ho : σ m = O) (hz : md_z σ m) (hz1 : md_z10 σ m) (h8 : jk_in (O 9)) : jk_K G yX13_failedCommand mX13_failedCommand 0 0 [.ref m] n t σ ρ (md_Q m σ O n t ρ (md_q_fc O).1 (jI (md_q_fc O).2)) jk_no := by
  refine jk_entryB (ls := [some (.ref m)]) jm_X13_failedCommand.1 rfl rfl rfl ?_
  refine jk_aload_n (q := 1) dX13_failedCommand_0 rfl rfl ?_
  refine jk_getIR (q := 4) (k := 13) 9 9 rfl (by first | exact hm.1 | exact hm.2.1 _ _ rfl | assumption) (by first | exact jk_row_same _ _ _ | exact ho | (rewrite [jk_row_ne _ _ (by omega)]; first | exact jk_row_same _ _ _ | exact ho | (rewrite [jk_row_ne _ _ (by omega)]; first | exact jk_row_same _ _ _ | exact ho | (rewrite [jk_row_ne _ _ (by omega)]; first | exact jk_row_same _ _ _ | exact ho | (rewrite [jk_row_ne _ _ (by omega)]; first | exact ho | rfl))))) rfl rfl jw_1857 dX13_failedCommand_1 rfl ?_
  refine jk_iconst (q := 5) dX13_failedCommand_4 rfl ?_
  refine jk_icmp_ne (q := 16) (q2 := 8) dX13_failedCommand_5 rfl rfl (by first | decide | omega | exact jB_01 _) (by first | decide | omega | exact jB_01 _) (fun h1 => ?_) (fun h1 => ?_)
  · refine jk_aload_n (q := 17) dX13_failedCommand_16 rfl rfl ?_
    refine jk_aload_n (q := 18) dX13_failedCommand_17 rfl rfl ?_
    refine jk_getIR (q := 21) (k := 13) 9 9 rfl (by first | exact hm.1 | exact hm.2.1 _ _ rfl | assumption) (by first | exact jk_row_same _ _ _ | exact ho | (rewrite [jk_row_ne _ _ (by omega)]; first | exact jk_row_same _ _ _ | exact ho | (rewrite [jk_row_ne _ _ (by omega)]; first | exact jk_row_same _ _ _ | exact ho | (rewrite [jk_row_ne _ _ (by omega)]; first | exact jk_row_same _ _ _ | exact ho | (rewrite [jk_row_ne _ _ (by omega)]; first | exact ho | rfl))))) rfl rfl jw_1857 dX13_failedCommand_18 rfl ?_
    refine jk_cV1p (q := 24) (c_X13_done hm ho) jm_X13_done jw_1941 rfl (by first | exact hm.1 | exact hm.2.1 _ _ rfl | assumption) rfl rfl rfl dX13_failedCommand_21 rfl ?_
    exact jk_iret rfl dX13_failedCommand_24 (by first | (exact md_qi (k := 0) (v := O 9) (by unfold md_q_fc; rw [if_neg (by assumption)]) (by exact md_post_th (md_like_rf hz hz1))) | (exact md_qi (k := 1) (v := 0) (by unfold md_q_fc; rw [if_pos (by assumption)]) (by exact md_post_th (md_like_rf hz hz1))))
  · refine jk_aload_n (q := 9) dX13_failedCommand_8 rfl rfl ?_
    refine jk_iconst (q := 10) dX13_failedCommand_9 rfl ?_
    refine jk_cV1p (q := 13) (c_X13_fails hm ho) jm_X13_fails jw_1937 rfl (by first | exact hm.1 | exact hm.2.1 _ _ rfl | assumption) rfl rfl rfl dX13_failedCommand_10 rfl ?_
    refine jk_goto (q := 24) dX13_failedCommand_13 rfl ?_
    exact jk_iret rfl dX13_failedCommand_24 (by first | (exact md_qi (k := 0) (v := O 9) (by unfold md_q_fc; rw [if_neg (by assumption)]) (by exact md_post_th (md_like_rf hz hz1))) | (exact md_qi (k := 1) (v := 0) (by unfold md_q_fc; rw [if_pos (by assumption)]) (by exact md_post_th (md_like_rf hz hz1))))
def md_ty (O : Int → Int) (c : Int) : Int × Int := if md_in c 32 126 = false then (1, 0) else if O 7 = 60 then (2, 0) else (0, O 7 + 1)
def md_tyS (σ : jk_I) (m : Nat) (O Bf : Int → Int) (c : Int) : jk_I := if md_in c 32 126 = false then md_th σ m O 1 else if O 7 = 60 then md_th σ m O 2 else jk_row (jk_row σ (m + 10) (jk_set Bf (O 7) c)) m (jk_set (jk_set O 7 (O 7 + 1)) 12 0)
theorem md_q2 {n : Nat} {t : jk_T} {σ' σ2 : jk_I} {ρ : jk_P} {v w : Int} (h1 : v = w) (h2 : σ' = σ2) : jk_q (some (jI v)) n t σ' ρ (some (jI w)) n t σ2 ρ := by subst h1 h2; exact jk_qr
theorem c_X13_type {G : jk_G} {n : Nat} {t : jk_T} {σ : jk_I} {ρ : jk_P} {m : Nat} {O Bf : Int → Int} {c : Int} (hm : md_at t ρ m) (ho : σ m = O) (hb : σ (m + 10) = Bf) (hc : 0 ≤ c ∧ c < 65536) (h7 : 0 ≤ O 7 ∧ O 7 ≤ 60) : jk_K G yX13_type mX13_type 0 0 [.ref m, jI c] n t σ ρ (jk_q (some (jI (md_ty O c).2)) n t (md_tyS σ m O Bf c) ρ) jk_no := by
  refine jk_entryB (ls := [some (.ref m), some (jI c)]) jm_X13_type.1 rfl rfl rfl ?_
  refine jk_iload_n (q := 1) dX13_type_0 rfl rfl ?_
  refine jk_bipush (q := 3) (y := 32) dX13_type_1 rfl (by decide) ?_
  refine jk_bipush (q := 5) (y := 126) dX13_type_3 rfl (by decide) ?_
  refine jk_cS3p (q := 8) (c_X13_in ⟨by omega, by omega⟩ (by decide) (by decide)) jm_X13_in jw_1961 rfl rfl rfl dX13_type_5 rfl ?_
  refine jk_ifB_ne (q := 17) (q2 := 11) dX13_type_8 rfl rfl (fun h1 => ?_) (fun h1 => ?_)
  · refine jk_aload_n (q := 18) dX13_type_17 rfl rfl ?_
    refine jk_getIR (q := 21) (k := 13) 7 7 rfl (by first | exact hm.1 | exact hm.2.1 _ _ rfl | assumption) (by first | exact jk_row_same _ _ _ | exact ho | exact hb | (rewrite [jk_row_ne _ _ (by omega)]; first | exact jk_row_same _ _ _ | exact ho | exact hb | (rewrite [jk_row_ne _ _ (by omega)]; first | exact jk_row_same _ _ _ | exact ho | exact hb | (rewrite [jk_row_ne _ _ (by omega)]; first | exact jk_row_same _ _ _ | exact ho | exact hb | (rewrite [jk_row_ne _ _ (by omega)]; first | exact ho | exact hb | rfl))))) rfl rfl jw_1855 dX13_type_18 rfl ?_
    refine jk_bipush (q := 23) (y := 60) dX13_type_21 rfl (by decide) ?_
    refine jk_icmp_ne (q := 32) (q2 := 26) dX13_type_23 rfl rfl (by first | decide | omega | exact jB_01 _) (by first | decide | omega | exact jB_01 _) (fun h2 => ?_) (fun h2 => ?_)
    · refine jk_aload_n (q := 33) dX13_type_32 rfl rfl ?_
      refine jk_getA (q := 36) (k := 13) 6 6 rfl (by first | exact hm.1 | exact hm.2.1 _ _ rfl | assumption) (by first | exact hm.2.2 _ _ rfl | assumption) rfl rfl jw_1854 dX13_type_33 rfl ?_
      refine jk_aload_n (q := 37) dX13_type_36 rfl rfl ?_
      refine jk_getIR (q := 40) (k := 13) 7 7 rfl (by first | exact hm.1 | exact hm.2.1 _ _ rfl | assumption) (by first | exact jk_row_same _ _ _ | exact ho | exact hb | (rewrite [jk_row_ne _ _ (by omega)]; first | exact jk_row_same _ _ _ | exact ho | exact hb | (rewrite [jk_row_ne _ _ (by omega)]; first | exact jk_row_same _ _ _ | exact ho | exact hb | (rewrite [jk_row_ne _ _ (by omega)]; first | exact jk_row_same _ _ _ | exact ho | exact hb | (rewrite [jk_row_ne _ _ (by omega)]; first | exact ho | exact hb | rfl))))) rfl rfl jw_1855 dX13_type_37 rfl ?_
      refine jk_iload_n (q := 41) dX13_type_40 rfl rfl ?_
      refine jk_castR (q := 42) (by first | exact hm.1 | exact hm.2.1 _ _ rfl | assumption) (by first | exact jk_row_same _ _ _ | exact ho | exact hb | (rewrite [jk_row_ne _ _ (by omega)]; first | exact jk_row_same _ _ _ | exact ho | exact hb | (rewrite [jk_row_ne _ _ (by omega)]; first | exact jk_row_same _ _ _ | exact ho | exact hb | (rewrite [jk_row_ne _ _ (by omega)]; first | exact jk_row_same _ _ _ | exact ho | exact hb | (rewrite [jk_row_ne _ _ (by omega)]; first | exact ho | exact hb | rfl))))) (by first | decide | omega | exact jB_01 _) (by first | decide | omega | exact jB_01 _) dX13_type_41 rfl ?_
      refine jk_aload_n (q := 43) dX13_type_42 rfl rfl ?_
      refine jk_dup (q := 44) dX13_type_43 rfl rfl ?_
      refine jk_getIR (q := 47) (k := 13) 7 7 rfl (by first | exact hm.1 | exact hm.2.1 _ _ rfl | assumption) (by first | exact jk_row_same _ _ _ | exact ho | exact hb | (rewrite [jk_row_ne _ _ (by omega)]; first | exact jk_row_same _ _ _ | exact ho | exact hb | (rewrite [jk_row_ne _ _ (by omega)]; first | exact jk_row_same _ _ _ | exact ho | exact hb | (rewrite [jk_row_ne _ _ (by omega)]; first | exact jk_row_same _ _ _ | exact ho | exact hb | (rewrite [jk_row_ne _ _ (by omega)]; first | exact ho | exact hb | rfl))))) rfl rfl jw_1855 dX13_type_44 rfl ?_
      refine jk_iconst (q := 48) dX13_type_47 rfl ?_
      refine jk_iadd (q := 49) dX13_type_48 rfl ?_
      refine jk_putIR (q := 52) (k := 13) 7 7 rfl (by first | exact hm.1 | exact hm.2.1 _ _ rfl | assumption) (by first | exact jk_row_same _ _ _ | exact ho | exact hb | (rewrite [jk_row_ne _ _ (by omega)]; first | exact jk_row_same _ _ _ | exact ho | exact hb | (rewrite [jk_row_ne _ _ (by omega)]; first | exact jk_row_same _ _ _ | exact ho | exact hb | (rewrite [jk_row_ne _ _ (by omega)]; first | exact jk_row_same _ _ _ | exact ho | exact hb | (rewrite [jk_row_ne _ _ (by omega)]; first | exact ho | exact hb | rfl))))) rfl rfl rfl jw_1855 dX13_type_49 rfl ?_
      refine jk_aload_n (q := 53) dX13_type_52 rfl rfl ?_
      refine jk_aload_n (q := 54) dX13_type_53 rfl rfl ?_
      refine jk_getIR (q := 57) (k := 13) 7 7 rfl (by first | exact hm.1 | exact hm.2.1 _ _ rfl | assumption) (by first | exact jk_row_same _ _ _ | exact ho | exact hb | (rewrite [jk_row_ne _ _ (by omega)]; first | exact jk_row_same _ _ _ | exact ho | exact hb | (rewrite [jk_row_ne _ _ (by omega)]; first | exact jk_row_same _ _ _ | exact ho | exact hb | (rewrite [jk_row_ne _ _ (by omega)]; first | exact jk_row_same _ _ _ | exact ho | exact hb | (rewrite [jk_row_ne _ _ (by omega)]; first | exact ho | exact hb | rfl))))) rfl rfl jw_1855 dX13_type_54 rfl ?_
      rw [jk_set_at]
      refine jk_cV1p (q := 60) (c_X13_done hm (jk_row_same _ _ _)) jm_X13_done jw_1941 rfl (by first | exact hm.1 | exact hm.2.1 _ _ rfl | assumption) rfl rfl rfl dX13_type_57 rfl ?_
      exact jk_iret rfl dX13_type_60 (by exact md_q2 (by unfold md_ty; simp [*]) (by unfold md_tyS; simp [*]; try (unfold md_th; rw [jk_row_row])))
    · refine jk_aload_n (q := 27) dX13_type_26 rfl rfl ?_
      refine jk_iconst (q := 28) dX13_type_27 rfl ?_
      refine jk_cV1p (q := 31) (c_X13_fails hm ho) jm_X13_fails jw_1937 rfl (by first | exact hm.1 | exact hm.2.1 _ _ rfl | assumption) rfl rfl rfl dX13_type_28 rfl ?_
      exact jk_iret rfl dX13_type_31 (by exact md_q2 (by unfold md_ty; simp [*]) (by unfold md_tyS; simp [*]; try (unfold md_th; rw [jk_row_row])))
  · refine jk_aload_n (q := 12) dX13_type_11 rfl rfl ?_
    refine jk_iconst (q := 13) dX13_type_12 rfl ?_
    refine jk_cV1p (q := 16) (c_X13_fails hm ho) jm_X13_fails jw_1937 rfl (by first | exact hm.1 | exact hm.2.1 _ _ rfl | assumption) rfl rfl rfl dX13_type_13 rfl ?_
    exact jk_iret rfl dX13_type_16 (by exact md_q2 (by unfold md_ty; simp [*]) (by unfold md_tyS; simp [*]; try (unfold md_th; rw [jk_row_row])))
def md_unG (h g O : Int → Int) : Int → Int := md_cpy h g ((O 3 - 1) * 240) 0 240
def md_un (O : Int → Int) : Int × Int := if O 3 = 0 then (1, 0) else (0, O 3 - 1)
def md_unS (σ : jk_I) (m : Nat) (O h g : Int → Int) : jk_I := if O 3 = 0 then md_th σ m O 1 else jk_row (jk_row σ (m + 2) (md_unG h g O)) m (jk_set (jk_set O 3 (O 3 - 1)) 12 0)
def md_saS (σ : jk_I) (m : Nat) (O g : Int → Int) : jk_I := jk_row (jk_row σ (m + 8) g) m (jk_set (jk_set O 5 1) 12 0)
def md_rs (O s : Int → Int) : Int × Int := if O 5 = 0 then (1, 0) else (0, s 1)
def md_rsS (σ : jk_I) (m : Nat) (O s : Int → Int) : jk_I := if O 5 = 0 then md_th σ m O 1 else jk_row (jk_row σ (m + 2) s) m (jk_set (jk_set O 3 0) 12 0)
theorem c_X13_undo {G : jk_G} {n : Nat} {t : jk_T} {σ : jk_I} {ρ : jk_P} {m : Nat} {O h g : Int → Int} (hm : md_at t ρ m) (ho : σ m = O) (hg : σ (m + 2) = g) (hgz : md_zf 240 g) (hh : σ (m + 6) = h) (ho3 : 0 ≤ O 3 ∧ O 3 ≤ 8) : jk_K G yX13_undo mX13_undo 0 0 [.ref m] n t σ ρ (jk_q (some (jI (md_un O).2)) n t (md_unS σ m O h g) ρ) jk_no := by
  refine jk_entryB (ls := [some (.ref m)]) jm_X13_undo.1 rfl rfl rfl ?_
  refine jk_aload_n (q := 1) dX13_undo_0 rfl rfl ?_
  refine jk_getIR (q := 4) (k := 13) 3 3 rfl (by first | exact hm.1 | exact hm.2.1 _ _ rfl | assumption) (by first | exact jk_row_same _ _ _ | exact ho | exact hg | exact hh | (rewrite [jk_row_ne _ _ (by omega)]; first | exact jk_row_same _ _ _ | exact ho | exact hg | exact hh | (rewrite [jk_row_ne _ _ (by omega)]; first | exact jk_row_same _ _ _ | exact ho | exact hg | exact hh | (rewrite [jk_row_ne _ _ (by omega)]; first | exact jk_row_same _ _ _ | exact ho | exact hg | exact hh | (rewrite [jk_row_ne _ _ (by omega)]; first | exact ho | exact hg | exact hh | rfl))))) rfl rfl jw_1851 dX13_undo_1 rfl ?_
  refine jk_if_ne (q := 13) (q2 := 7) dX13_undo_4 rfl rfl (by first | decide | omega | exact jB_01 _) (fun h1 => ?_) (fun h1 => ?_)
  · refine jk_aload_n (q := 14) dX13_undo_13 rfl rfl ?_
    refine jk_dup (q := 15) dX13_undo_14 rfl rfl ?_
    refine jk_getIR (q := 18) (k := 13) 3 3 rfl (by first | exact hm.1 | exact hm.2.1 _ _ rfl | assumption) (by first | exact jk_row_same _ _ _ | exact ho | exact hg | exact hh | (rewrite [jk_row_ne _ _ (by omega)]; first | exact jk_row_same _ _ _ | exact ho | exact hg | exact hh | (rewrite [jk_row_ne _ _ (by omega)]; first | exact jk_row_same _ _ _ | exact ho | exact hg | exact hh | (rewrite [jk_row_ne _ _ (by omega)]; first | exact jk_row_same _ _ _ | exact ho | exact hg | exact hh | (rewrite [jk_row_ne _ _ (by omega)]; first | exact ho | exact hg | exact hh | rfl))))) rfl rfl jw_1851 dX13_undo_15 rfl ?_
    refine jk_iconst (q := 19) dX13_undo_18 rfl ?_
    refine jk_isub (q := 20) dX13_undo_19 rfl ?_
    refine jk_putIR (q := 23) (k := 13) 3 3 rfl (by first | exact hm.1 | exact hm.2.1 _ _ rfl | assumption) (by first | exact jk_row_same _ _ _ | exact ho | exact hg | exact hh | (rewrite [jk_row_ne _ _ (by omega)]; first | exact jk_row_same _ _ _ | exact ho | exact hg | exact hh | (rewrite [jk_row_ne _ _ (by omega)]; first | exact jk_row_same _ _ _ | exact ho | exact hg | exact hh | (rewrite [jk_row_ne _ _ (by omega)]; first | exact jk_row_same _ _ _ | exact ho | exact hg | exact hh | (rewrite [jk_row_ne _ _ (by omega)]; first | exact ho | exact hg | exact hh | rfl))))) rfl rfl rfl jw_1851 dX13_undo_20 rfl ?_
    refine jk_aload_n (q := 24) dX13_undo_23 rfl rfl ?_
    refine jk_getA (q := 27) (k := 13) 2 2 rfl (by first | exact hm.1 | exact hm.2.1 _ _ rfl | assumption) (by first | exact hm.2.2 _ _ rfl | assumption) rfl rfl jw_1850 dX13_undo_24 rfl ?_
    refine jk_aload_n (q := 28) dX13_undo_27 rfl rfl ?_
    refine jk_getIR (q := 31) (k := 13) 3 3 rfl (by first | exact hm.1 | exact hm.2.1 _ _ rfl | assumption) (by first | exact jk_row_same _ _ _ | exact ho | exact hg | exact hh | (rewrite [jk_row_ne _ _ (by omega)]; first | exact jk_row_same _ _ _ | exact ho | exact hg | exact hh | (rewrite [jk_row_ne _ _ (by omega)]; first | exact jk_row_same _ _ _ | exact ho | exact hg | exact hh | (rewrite [jk_row_ne _ _ (by omega)]; first | exact jk_row_same _ _ _ | exact ho | exact hg | exact hh | (rewrite [jk_row_ne _ _ (by omega)]; first | exact ho | exact hg | exact hh | rfl))))) rfl rfl jw_1851 dX13_undo_28 rfl ?_
    refine jk_sipush (q := 34) (y := 240) dX13_undo_31 rfl (by decide) ?_
    skip
    refine jk_imul (q := 35) dX13_undo_34 rfl ?_
    refine jk_aload_n (q := 36) dX13_undo_35 rfl rfl ?_
    refine jk_getA (q := 39) (k := 13) 0 0 rfl (by first | exact hm.1 | exact hm.2.1 _ _ rfl | assumption) (by first | exact hm.2.2 _ _ rfl | assumption) rfl rfl jw_1848 dX13_undo_36 rfl ?_
    refine jk_iconst (q := 40) dX13_undo_39 rfl ?_
    refine jk_cS4v (q := 43) (c_X13_copy (hm.2.1 6 _ rfl) (hm.2.1 2 _ rfl) ((jk_row_ne _ _ (by omega)).trans hh) ((jk_row_ne _ _ (by omega)).trans hg) (by omega) (by rw [jk_set_at]; exact ⟨by omega, by show _ ≤ ((1920 : Nat) : Int); omega⟩) (by decide) (by decide)) jm_X13_copy jw_1930 rfl rfl rfl dX13_undo_40 rfl ?_
    refine jk_aload_n (q := 44) dX13_undo_43 rfl rfl ?_
    refine jk_aload_n (q := 45) dX13_undo_44 rfl rfl ?_
    refine jk_getIR (q := 48) (k := 13) 3 3 rfl (by first | exact hm.1 | exact hm.2.1 _ _ rfl | assumption) (by first | exact jk_row_same _ _ _ | exact ho | exact hg | exact hh | (rewrite [jk_row_ne _ _ (by omega)]; first | exact jk_row_same _ _ _ | exact ho | exact hg | exact hh | (rewrite [jk_row_ne _ _ (by omega)]; first | exact jk_row_same _ _ _ | exact ho | exact hg | exact hh | (rewrite [jk_row_ne _ _ (by omega)]; first | exact jk_row_same _ _ _ | exact ho | exact hg | exact hh | (rewrite [jk_row_ne _ _ (by omega)]; first | exact ho | exact hg | exact hh | rfl))))) rfl rfl jw_1851 dX13_undo_45 rfl ?_
    refine jk_cV1p (q := 51) (c_X13_done hm ((jk_row_ne _ _ (by omega)).trans (jk_row_same _ _ _))) jm_X13_done jw_1941 rfl (by first | exact hm.1 | exact hm.2.1 _ _ rfl | assumption) rfl rfl rfl dX13_undo_48 rfl ?_
    exact jk_iret rfl dX13_undo_51 (by exact md_q2 (by unfold md_un; simp [*, jk_set_at]) (by unfold md_unS; first | rw [if_pos (by assumption)] | (rw [if_neg (by assumption)]; unfold md_th md_unG; rw [jk_set_at, jk_row_comm σ (a := m) (b := m + 2) _ _ (by omega), jk_row_row])))
  · refine jk_aload_n (q := 8) dX13_undo_7 rfl rfl ?_
    refine jk_iconst (q := 9) dX13_undo_8 rfl ?_
    refine jk_cV1p (q := 12) (c_X13_fails hm ho) jm_X13_fails jw_1937 rfl (by first | exact hm.1 | exact hm.2.1 _ _ rfl | assumption) rfl rfl rfl dX13_undo_9 rfl ?_
    exact jk_iret rfl dX13_undo_12 (by exact md_q2 (by unfold md_un; simp [*, jk_set_at]) (by unfold md_unS; first | rw [if_pos (by assumption)] | (rw [if_neg (by assumption)]; unfold md_th md_unG; rw [jk_set_at, jk_row_comm σ (a := m) (b := m + 2) _ _ (by omega), jk_row_row])))
theorem c_X13_save {G : jk_G} {n : Nat} {t : jk_T} {σ : jk_I} {ρ : jk_P} {m : Nat} {O s g : Int → Int} (hm : md_at t ρ m) (ho : σ m = O) (hg : σ (m + 2) = g) (hgz : md_zf 240 g) (hs : σ (m + 8) = s) (hsz : md_zf 240 s) : jk_K G yX13_save mX13_save 0 0 [.ref m] n t σ ρ (jk_q (some (jI (g 1))) n t (md_saS σ m O g) ρ) jk_no := by
  refine jk_entryB (ls := [some (.ref m)]) jm_X13_save.1 rfl rfl rfl ?_
  refine jk_aload_n (q := 1) dX13_save_0 rfl rfl ?_
  refine jk_getA (q := 4) (k := 13) 0 0 rfl (by first | exact hm.1 | exact hm.2.1 _ _ rfl | assumption) (by first | exact hm.2.2 _ _ rfl | assumption) rfl rfl jw_1848 dX13_save_1 rfl ?_
  refine jk_iconst (q := 5) dX13_save_4 rfl ?_
  refine jk_aload_n (q := 6) dX13_save_5 rfl rfl ?_
  refine jk_getA (q := 9) (k := 13) 4 4 rfl (by first | exact hm.1 | exact hm.2.1 _ _ rfl | assumption) (by first | exact hm.2.2 _ _ rfl | assumption) rfl rfl jw_1852 dX13_save_6 rfl ?_
  refine jk_iconst (q := 10) dX13_save_9 rfl ?_
  refine jk_cS4v (q := 13) (c_X13_copy (hm.2.1 2 _ rfl) (hm.2.1 8 _ rfl) hg hs (by omega) (by decide) (by decide) (by decide)) jm_X13_copy jw_1930 rfl rfl rfl dX13_save_10 rfl ?_
  rw [md_cpy_all hgz hsz]
  refine jk_aload_n (q := 14) dX13_save_13 rfl rfl ?_
  refine jk_iconst (q := 15) dX13_save_14 rfl ?_
  refine jk_putZR (q := 18) (k := 13) 5 5 rfl (by first | exact hm.1 | exact hm.2.1 _ _ rfl | assumption) (by first | exact jk_row_same _ _ _ | exact ho | exact hg | exact hs | (rewrite [jk_row_ne _ _ (by omega)]; first | exact jk_row_same _ _ _ | exact ho | exact hg | exact hs | (rewrite [jk_row_ne _ _ (by omega)]; first | exact jk_row_same _ _ _ | exact ho | exact hg | exact hs | (rewrite [jk_row_ne _ _ (by omega)]; first | exact jk_row_same _ _ _ | exact ho | exact hg | exact hs | (rewrite [jk_row_ne _ _ (by omega)]; first | exact ho | exact hg | exact hs | rfl))))) rfl rfl rfl (by first | decide | omega | exact jB_01 _) jw_1853 dX13_save_15 rfl ?_
  refine jk_aload_n (q := 19) dX13_save_18 rfl rfl ?_
  refine jk_aload_n (q := 20) dX13_save_19 rfl rfl ?_
  refine jk_getA (q := 23) (k := 13) 0 0 rfl (by first | exact hm.1 | exact hm.2.1 _ _ rfl | assumption) (by first | exact hm.2.2 _ _ rfl | assumption) rfl rfl jw_1848 dX13_save_20 rfl ?_
  refine jk_iconst (q := 24) dX13_save_23 rfl ?_
  refine jk_ialdR (q := 25) (by first | exact hm.1 | exact hm.2.1 _ _ rfl | assumption) (by first | exact jk_row_same _ _ _ | exact ho | exact hg | exact hs | (rewrite [jk_row_ne _ _ (by omega)]; first | exact jk_row_same _ _ _ | exact ho | exact hg | exact hs | (rewrite [jk_row_ne _ _ (by omega)]; first | exact jk_row_same _ _ _ | exact ho | exact hg | exact hs | (rewrite [jk_row_ne _ _ (by omega)]; first | exact jk_row_same _ _ _ | exact ho | exact hg | exact hs | (rewrite [jk_row_ne _ _ (by omega)]; first | exact ho | exact hg | exact hs | rfl))))) (by first | decide | omega | exact jB_01 _) dX13_save_24 rfl ?_
  refine jk_cV1p (q := 28) (c_X13_done hm (jk_row_same _ _ _)) jm_X13_done jw_1941 rfl (by first | exact hm.1 | exact hm.2.1 _ _ rfl | assumption) rfl rfl rfl dX13_save_25 rfl ?_
  exact jk_iret rfl dX13_save_28 (by exact md_q2 rfl (by unfold md_saS md_th; rw [jk_row_row]))
theorem c_X13_restore {G : jk_G} {n : Nat} {t : jk_T} {σ : jk_I} {ρ : jk_P} {m : Nat} {O s g : Int → Int} (hm : md_at t ρ m) (ho : σ m = O) (hg : σ (m + 2) = g) (hgz : md_zf 240 g) (hs : σ (m + 8) = s) (hsz : md_zf 240 s) (ho5 : O 5 = 0 ∨ O 5 = 1) : jk_K G yX13_restore mX13_restore 0 0 [.ref m] n t σ ρ (jk_q (some (jI (md_rs O s).2)) n t (md_rsS σ m O s) ρ) jk_no := by
  refine jk_entryB (ls := [some (.ref m)]) jm_X13_restore.1 rfl rfl rfl ?_
  refine jk_aload_n (q := 1) dX13_restore_0 rfl rfl ?_
  refine jk_getIR (q := 4) (k := 13) 5 5 rfl (by first | exact hm.1 | exact hm.2.1 _ _ rfl | assumption) (by first | exact jk_row_same _ _ _ | exact ho | exact hg | exact hs | (rewrite [jk_row_ne _ _ (by omega)]; first | exact jk_row_same _ _ _ | exact ho | exact hg | exact hs | (rewrite [jk_row_ne _ _ (by omega)]; first | exact jk_row_same _ _ _ | exact ho | exact hg | exact hs | (rewrite [jk_row_ne _ _ (by omega)]; first | exact jk_row_same _ _ _ | exact ho | exact hg | exact hs | (rewrite [jk_row_ne _ _ (by omega)]; first | exact ho | exact hg | exact hs | rfl))))) rfl rfl jw_1853 dX13_restore_1 rfl ?_
  refine jk_if_ne (q := 13) (q2 := 7) dX13_restore_4 rfl rfl (by first | decide | omega | exact jB_01 _) (fun h1 => ?_) (fun h1 => ?_)
  · refine jk_aload_n (q := 14) dX13_restore_13 rfl rfl ?_
    refine jk_getA (q := 17) (k := 13) 4 4 rfl (by first | exact hm.1 | exact hm.2.1 _ _ rfl | assumption) (by first | exact hm.2.2 _ _ rfl | assumption) rfl rfl jw_1852 dX13_restore_14 rfl ?_
    refine jk_iconst (q := 18) dX13_restore_17 rfl ?_
    refine jk_aload_n (q := 19) dX13_restore_18 rfl rfl ?_
    refine jk_getA (q := 22) (k := 13) 0 0 rfl (by first | exact hm.1 | exact hm.2.1 _ _ rfl | assumption) (by first | exact hm.2.2 _ _ rfl | assumption) rfl rfl jw_1848 dX13_restore_19 rfl ?_
    refine jk_iconst (q := 23) dX13_restore_22 rfl ?_
    refine jk_cS4v (q := 26) (c_X13_copy (hm.2.1 8 _ rfl) (hm.2.1 2 _ rfl) hs hg (by omega) (by decide) (by decide) (by decide)) jm_X13_copy jw_1930 rfl rfl rfl dX13_restore_23 rfl ?_
    rw [md_cpy_all hsz hgz]
    refine jk_aload_n (q := 27) dX13_restore_26 rfl rfl ?_
    refine jk_iconst (q := 28) dX13_restore_27 rfl ?_
    refine jk_putIR (q := 31) (k := 13) 3 3 rfl (by first | exact hm.1 | exact hm.2.1 _ _ rfl | assumption) (by first | exact jk_row_same _ _ _ | exact ho | exact hg | exact hs | (rewrite [jk_row_ne _ _ (by omega)]; first | exact jk_row_same _ _ _ | exact ho | exact hg | exact hs | (rewrite [jk_row_ne _ _ (by omega)]; first | exact jk_row_same _ _ _ | exact ho | exact hg | exact hs | (rewrite [jk_row_ne _ _ (by omega)]; first | exact jk_row_same _ _ _ | exact ho | exact hg | exact hs | (rewrite [jk_row_ne _ _ (by omega)]; first | exact ho | exact hg | exact hs | rfl))))) rfl rfl rfl jw_1851 dX13_restore_28 rfl ?_
    refine jk_aload_n (q := 32) dX13_restore_31 rfl rfl ?_
    refine jk_aload_n (q := 33) dX13_restore_32 rfl rfl ?_
    refine jk_getA (q := 36) (k := 13) 0 0 rfl (by first | exact hm.1 | exact hm.2.1 _ _ rfl | assumption) (by first | exact hm.2.2 _ _ rfl | assumption) rfl rfl jw_1848 dX13_restore_33 rfl ?_
    refine jk_iconst (q := 37) dX13_restore_36 rfl ?_
    refine jk_ialdR (q := 38) (by first | exact hm.1 | exact hm.2.1 _ _ rfl | assumption) (by first | exact jk_row_same _ _ _ | exact ho | exact hg | exact hs | (rewrite [jk_row_ne _ _ (by omega)]; first | exact jk_row_same _ _ _ | exact ho | exact hg | exact hs | (rewrite [jk_row_ne _ _ (by omega)]; first | exact jk_row_same _ _ _ | exact ho | exact hg | exact hs | (rewrite [jk_row_ne _ _ (by omega)]; first | exact jk_row_same _ _ _ | exact ho | exact hg | exact hs | (rewrite [jk_row_ne _ _ (by omega)]; first | exact ho | exact hg | exact hs | rfl))))) (by first | decide | omega | exact jB_01 _) dX13_restore_37 rfl ?_
    refine jk_cV1p (q := 41) (c_X13_done hm (jk_row_same _ _ _)) jm_X13_done jw_1941 rfl (by first | exact hm.1 | exact hm.2.1 _ _ rfl | assumption) rfl rfl rfl dX13_restore_38 rfl ?_
    exact jk_iret rfl dX13_restore_41 (by exact md_q2 (by unfold md_rs; simp [*]) (by unfold md_rsS; simp [*]; try (unfold md_th; rw [jk_row_row])))
  · refine jk_aload_n (q := 8) dX13_restore_7 rfl rfl ?_
    refine jk_iconst (q := 9) dX13_restore_8 rfl ?_
    refine jk_cV1p (q := 12) (c_X13_fails hm ho) jm_X13_fails jw_1937 rfl (by first | exact hm.1 | exact hm.2.1 _ _ rfl | assumption) rfl rfl rfl dX13_restore_9 rfl ?_
    exact jk_iret rfl dX13_restore_12 (by exact md_q2 (by unfold md_rs; simp [*]) (by unfold md_rsS; simp [*]; try (unfold md_th; rw [jk_row_row])))
end MD19
