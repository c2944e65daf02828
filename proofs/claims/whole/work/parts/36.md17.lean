section MD17
theorem md_like_wng {B : Int} {g : Int → Int} (hi : md_inv B g) {m : Nat} {σ : jk_I} (hz : md_z σ m) (hz1 : md_z10 σ m) (q : Int) : md_like m σ (md_wngS σ m g q) := by
  unfold md_wngS; split
  · exact md_like_rf hz hz1
  · exact md_like_gr hi (md_like_rf hz hz1)
theorem md_wng0 {σ : jk_I} {m : Nat} {g : Int → Int} {q : Int} (h : ¬ 0 < md_wng g q) : md_wngS σ m g q = md_gr σ m g ∧ md_in q 0 (g 2 - 1) = true ∧ md_hi g (md_Ro g) (g (152 + q)) = true := by
  unfold md_wng at h
  unfold md_wngS
  cases h1 : md_in q 0 (g 2 - 1) <;> rw [h1] at h
  · exact absurd (show (0 : Int) < 1 by decide) h
  · cases h2 : md_H g (g (152 + q)) <;> rw [h2] at h
    · exact absurd (show (0 : Int) < 2 by decide) h
    · exact ⟨rfl, rfl, h2⟩
theorem md_wng_bd (g : Int → Int) (q : Int) : 0 ≤ md_wng g q ∧ md_wng g q ≤ 2 := by unfold md_wng; (repeat' split) <;> decide
theorem md_wngS_m (σ : jk_I) (m : Nat) (g : Int → Int) (q : Int) : md_wngS σ m g q m = σ m := by
  unfold md_wngS; split
  · rfl
  · exact md_gr_ne _ _ _ ⟨by omega, by omega, by omega, by omega⟩
theorem md_qwn {n : Nat} {t : jk_T} {σ σ' : jk_I} {ρ : jk_P} {m : Nat} {g : Int → Int} {q v : Int} (h1 : md_wng g q = v) (h2 : md_wngS σ m g q = σ') : jk_q (some (jI (md_wng g q))) n t (md_wngS σ m g q) ρ (some (jI v)) n t σ' ρ := by subst h1 h2; exact jk_qr
theorem c_X13_ground {G : jk_G} {n : Nat} {t : jk_T} {σ : jk_I} {ρ : jk_P} {m : Nat} {g O : Int → Int} {B : Int} {q c : Int} (hm : md_at t ρ m) (hg : σ (m + 2) = g) (hi : md_inv B g) (ho : σ m = O) (hz : md_z σ m) (hz1 : md_z10 σ m) (hq : jk_in q) (hc : jk_in c) (hx : md_inx g) : jk_K G yX13_ground mX13_ground 0 0 [.ref m, jI q, jI c] n t σ ρ (md_Q m σ O n t ρ (md_q_gr g q c).1 (jI (md_q_gr g q c).2)) jk_no := by
  refine jk_entryB (ls := [some (.ref m), some (jI q), some (jI c)]) jm_X13_ground.1 rfl rfl rfl ?_
  obtain ⟨i0, i1, i2, i3, -⟩ := id hi
  refine jk_aload_n (q := 1) dX13_ground_0 rfl rfl ?_
  refine jk_iload_n (q := 2) dX13_ground_1 rfl rfl ?_
  refine jk_cV1p (q := 5) (c_X13_isProfile hm hg hi (by assumption)) jm_X13_isProfile jw_2115 rfl (by first | exact hm.1 | exact hm.2.1 _ _ rfl | assumption) rfl rfl rfl dX13_ground_2 rfl ?_
  refine jk_ifB_ne (q := 14) (q2 := 8) dX13_ground_5 rfl rfl (fun h1 => ?_) (fun h1 => ?_)
  · have hq2 := md_inT (by assumption : md_in q 0 (g 2 - 1) = true)
    obtain ⟨s1, s2⟩ := hi.2.2.2.2.2.2.2.1 q ⟨by omega, by omega⟩
    refine jk_aload_n (q := 15) dX13_ground_14 rfl rfl ?_
    refine jk_getA (q := 18) (k := 13) 0 0 rfl (by first | exact hm.1 | exact hm.2.1 _ _ rfl | assumption) (by first | exact hm.2.2 _ _ rfl | assumption) rfl rfl jw_1848 dX13_ground_15 rfl ?_
    refine jk_sipush (q := 21) (y := 156) dX13_ground_18 rfl (by decide) ?_
    refine jk_iload_n (q := 22) dX13_ground_21 rfl rfl ?_
    refine jk_iadd (q := 23) dX13_ground_22 rfl ?_
    refine jk_ialdR (q := 24) (by first | exact hm.1 | exact hm.2.1 _ _ rfl | assumption) (by first | exact jk_row_same _ _ _ | exact hg | exact ho | exact (md_gr_at _ m g).1 | exact (md_gr_at _ m g).2.1 | exact (md_gr_at _ m g).2.2.1 | exact (md_gr_at _ m g).2.2.2 | exact ((md_gr_ne _ _ _ ⟨by omega, by omega, by omega, by omega⟩).trans hg) | exact ((md_gr_ne _ _ _ ⟨by omega, by omega, by omega, by omega⟩).trans ho) | exact ((md_gr_ne _ _ _ ⟨by omega, by omega, by omega, by omega⟩).trans (jk_row_same _ _ _)) | (rewrite [jk_row_ne _ _ (by omega)]; first | exact jk_row_same _ _ _ | exact hg | exact ho | exact (md_gr_at _ m g).1 | exact (md_gr_at _ m g).2.1 | exact (md_gr_at _ m g).2.2.1 | exact (md_gr_at _ m g).2.2.2 | exact ((md_gr_ne _ _ _ ⟨by omega, by omega, by omega, by omega⟩).trans hg) | exact ((md_gr_ne _ _ _ ⟨by omega, by omega, by omega, by omega⟩).trans ho) | exact ((md_gr_ne _ _ _ ⟨by omega, by omega, by omega, by omega⟩).trans (jk_row_same _ _ _)) | (rewrite [jk_row_ne _ _ (by omega)]; first | exact jk_row_same _ _ _ | exact hg | exact ho | exact (md_gr_at _ m g).1 | exact (md_gr_at _ m g).2.1 | exact (md_gr_at _ m g).2.2.1 | exact (md_gr_at _ m g).2.2.2 | exact ((md_gr_ne _ _ _ ⟨by omega, by omega, by omega, by omega⟩).trans hg) | exact ((md_gr_ne _ _ _ ⟨by omega, by omega, by omega, by omega⟩).trans ho) | exact ((md_gr_ne _ _ _ ⟨by omega, by omega, by omega, by omega⟩).trans (jk_row_same _ _ _)) | (rewrite [jk_row_ne _ _ (by omega)]; first | exact jk_row_same _ _ _ | exact hg | exact ho | exact (md_gr_at _ m g).1 | exact (md_gr_at _ m g).2.1 | exact (md_gr_at _ m g).2.2.1 | exact (md_gr_at _ m g).2.2.2 | exact ((md_gr_ne _ _ _ ⟨by omega, by omega, by omega, by omega⟩).trans hg) | exact ((md_gr_ne _ _ _ ⟨by omega, by omega, by omega, by omega⟩).trans ho) | exact ((md_gr_ne _ _ _ ⟨by omega, by omega, by omega, by omega⟩).trans (jk_row_same _ _ _)) | (rewrite [jk_row_ne _ _ (by omega)]; first | exact hg | exact ho | exact (md_gr_at _ m g).1 | exact (md_gr_at _ m g).2.1 | exact (md_gr_at _ m g).2.2.1 | exact (md_gr_at _ m g).2.2.2 | exact ((md_gr_ne _ _ _ ⟨by omega, by omega, by omega, by omega⟩).trans hg) | exact ((md_gr_ne _ _ _ ⟨by omega, by omega, by omega, by omega⟩).trans ho) | exact ((md_gr_ne _ _ _ ⟨by omega, by omega, by omega, by omega⟩).trans (jk_row_same _ _ _)) | rfl))))) (by first | decide | omega | exact jB_01 _) dX13_ground_23 rfl ?_
    refine jk_if_eq (q := 44) (q2 := 27) dX13_ground_24 rfl rfl (by first | decide | omega | exact jB_01 _) (fun h2 => ?_) (fun h2 => ?_)
    · refine jk_aload_n (q := 45) dX13_ground_44 rfl rfl ?_
      refine jk_iconst (q := 46) dX13_ground_45 rfl ?_
      refine jk_cV1p (q := 49) (c_X13_fails (O := O) hm (by first | exact ho | exact ((md_gr_ne _ _ _ ⟨by omega, by omega, by omega, by omega⟩).trans ho))) jm_X13_fails jw_1937 rfl (by first | exact hm.1 | exact hm.2.1 _ _ rfl | assumption) rfl rfl rfl dX13_ground_46 rfl ?_
      exact jk_iret rfl dX13_ground_49 (by exact md_qi (k := 2) (v := 0) (by unfold md_q_gr; simp [*]) (by first | exact md_post_th (md_like_rf hz hz1) | exact md_post_th (md_like_gr hi (md_like_rf hz hz1)) | exact md_post_th (md_like_wng hi hz hz1 q)))
    · obtain ⟨hx1, hx2⟩ := hx q ⟨by omega, by omega⟩
      have he0 := hx1 0 ⟨by omega, by omega⟩
      have he1 := hx1 (g (156 + q) - 1) ⟨by omega, by omega⟩
      refine jk_iload_n (q := 28) dX13_ground_27 rfl rfl ?_
      refine jk_aload_n (q := 29) dX13_ground_28 rfl rfl ?_
      refine jk_iload_n (q := 30) dX13_ground_29 rfl rfl ?_
      refine jk_cV1p (q := 33) (c_X13_firstColumn hm (by first | exact hg | exact ((md_gr_ne _ _ _ ⟨by omega, by omega, by omega, by omega⟩).trans hg)) ⟨by omega, by omega⟩ ⟨by omega, by omega⟩) jm_X13_firstColumn jw_2298 rfl (by first | exact hm.1 | exact hm.2.1 _ _ rfl | assumption) rfl rfl rfl dX13_ground_30 rfl ?_
      refine jk_aload_n (q := 34) dX13_ground_33 rfl rfl ?_
      refine jk_iload_n (q := 35) dX13_ground_34 rfl rfl ?_
      refine jk_cV1p (q := 38) (c_X13_lastColumn hm (by first | exact hg | exact ((md_gr_ne _ _ _ ⟨by omega, by omega, by omega, by omega⟩).trans hg)) ⟨by omega, by omega⟩ ⟨by omega, by omega⟩) jm_X13_lastColumn jw_2302 rfl (by first | exact hm.1 | exact hm.2.1 _ _ rfl | assumption) rfl rfl rfl dX13_ground_35 rfl ?_
      refine jk_cS3p (q := 41) (c_X13_in (by assumption) ⟨by omega, by omega⟩ ⟨by omega, by omega⟩) jm_X13_in jw_1961 rfl rfl rfl dX13_ground_38 rfl ?_
      refine jk_ifB_ne (q := 50) (q2 := 44) dX13_ground_41 rfl rfl (fun h3 => ?_) (fun h3 => ?_)
      · have hc2 := md_inT (by assumption : md_in c (md_Ds g q 0) (md_Ds g q (g (156 + q) - 1)) = true)
        refine jk_aload_n (q := 51) dX13_ground_50 rfl rfl ?_
        refine jk_cV0v (q := 54) (c_X13_grows hm (by first | exact hg | exact (jk_row_ne _ _ (by omega)).trans hg) hi (by first | exact hz | exact md_z_row hz _ ⟨by omega, by omega, by omega⟩) (by first | exact hz1 | exact md_z10_row hz1 _ ⟨by omega, by omega, by omega, by omega⟩)) jm_X13_grows jw_2036 rfl (by first | exact hm.1 | exact hm.2.1 _ _ rfl | assumption) rfl rfl rfl dX13_ground_51 rfl ?_
        refine jk_aload_n (q := 55) dX13_ground_54 rfl rfl ?_
        refine jk_aload_n (q := 56) dX13_ground_55 rfl rfl ?_
        refine jk_getA (q := 59) (k := 13) 0 0 rfl (by first | exact hm.1 | exact hm.2.1 _ _ rfl | assumption) (by first | exact hm.2.2 _ _ rfl | assumption) rfl rfl jw_1848 dX13_ground_56 rfl ?_
        refine jk_sipush (q := 62) (y := 152) dX13_ground_59 rfl (by decide) ?_
        refine jk_iload_n (q := 63) dX13_ground_62 rfl rfl ?_
        refine jk_iadd (q := 64) dX13_ground_63 rfl ?_
        refine jk_ialdR (q := 65) (by first | exact hm.1 | exact hm.2.1 _ _ rfl | assumption) (by first | exact jk_row_same _ _ _ | exact hg | exact ho | exact (md_gr_at _ m g).1 | exact (md_gr_at _ m g).2.1 | exact (md_gr_at _ m g).2.2.1 | exact (md_gr_at _ m g).2.2.2 | exact ((md_gr_ne _ _ _ ⟨by omega, by omega, by omega, by omega⟩).trans hg) | exact ((md_gr_ne _ _ _ ⟨by omega, by omega, by omega, by omega⟩).trans ho) | exact ((md_gr_ne _ _ _ ⟨by omega, by omega, by omega, by omega⟩).trans (jk_row_same _ _ _)) | (rewrite [jk_row_ne _ _ (by omega)]; first | exact jk_row_same _ _ _ | exact hg | exact ho | exact (md_gr_at _ m g).1 | exact (md_gr_at _ m g).2.1 | exact (md_gr_at _ m g).2.2.1 | exact (md_gr_at _ m g).2.2.2 | exact ((md_gr_ne _ _ _ ⟨by omega, by omega, by omega, by omega⟩).trans hg) | exact ((md_gr_ne _ _ _ ⟨by omega, by omega, by omega, by omega⟩).trans ho) | exact ((md_gr_ne _ _ _ ⟨by omega, by omega, by omega, by omega⟩).trans (jk_row_same _ _ _)) | (rewrite [jk_row_ne _ _ (by omega)]; first | exact jk_row_same _ _ _ | exact hg | exact ho | exact (md_gr_at _ m g).1 | exact (md_gr_at _ m g).2.1 | exact (md_gr_at _ m g).2.2.1 | exact (md_gr_at _ m g).2.2.2 | exact ((md_gr_ne _ _ _ ⟨by omega, by omega, by omega, by omega⟩).trans hg) | exact ((md_gr_ne _ _ _ ⟨by omega, by omega, by omega, by omega⟩).trans ho) | exact ((md_gr_ne _ _ _ ⟨by omega, by omega, by omega, by omega⟩).trans (jk_row_same _ _ _)) | (rewrite [jk_row_ne _ _ (by omega)]; first | exact jk_row_same _ _ _ | exact hg | exact ho | exact (md_gr_at _ m g).1 | exact (md_gr_at _ m g).2.1 | exact (md_gr_at _ m g).2.2.1 | exact (md_gr_at _ m g).2.2.2 | exact ((md_gr_ne _ _ _ ⟨by omega, by omega, by omega, by omega⟩).trans hg) | exact ((md_gr_ne _ _ _ ⟨by omega, by omega, by omega, by omega⟩).trans ho) | exact ((md_gr_ne _ _ _ ⟨by omega, by omega, by omega, by omega⟩).trans (jk_row_same _ _ _)) | (rewrite [jk_row_ne _ _ (by omega)]; first | exact hg | exact ho | exact (md_gr_at _ m g).1 | exact (md_gr_at _ m g).2.1 | exact (md_gr_at _ m g).2.2.1 | exact (md_gr_at _ m g).2.2.2 | exact ((md_gr_ne _ _ _ ⟨by omega, by omega, by omega, by omega⟩).trans hg) | exact ((md_gr_ne _ _ _ ⟨by omega, by omega, by omega, by omega⟩).trans ho) | exact ((md_gr_ne _ _ _ ⟨by omega, by omega, by omega, by omega⟩).trans (jk_row_same _ _ _)) | rfl))))) (by first | decide | omega | exact jB_01 _) dX13_ground_64 rfl ?_
        refine jk_cV1p (q := 68) (c_X13_isHigh (r := md_Ro g) hm (by first | exact ((md_gr_ne _ _ _ ⟨by omega, by omega, by omega, by omega⟩).trans hg) | exact (md_gr_ne _ _ _ ⟨by omega, by omega, by omega, by omega⟩).trans ((jk_row_ne _ _ (by omega)).trans hg)) hi (md_gr_at _ m g).2.1 (md_kr_tr hi 50).2 ⟨by omega, by omega⟩) jm_X13_isHigh jw_2143 rfl (by first | exact hm.1 | exact hm.2.1 _ _ rfl | assumption) rfl rfl rfl dX13_ground_65 rfl ?_
        refine jk_ifB_eq (q := 84) (q2 := 71) dX13_ground_68 rfl rfl (fun h4 => ?_) (fun h4 => ?_)
        · refine jk_aload_n (q := 85) dX13_ground_84 rfl rfl ?_
          refine jk_iconst (q := 86) dX13_ground_85 rfl ?_
          refine jk_cV1p (q := 89) (c_X13_fails (O := O) hm (by first | exact ho | exact ((md_gr_ne _ _ _ ⟨by omega, by omega, by omega, by omega⟩).trans ho))) jm_X13_fails jw_1937 rfl (by first | exact hm.1 | exact hm.2.1 _ _ rfl | assumption) rfl rfl rfl dX13_ground_86 rfl ?_
          exact jk_iret rfl dX13_ground_89 (by first | (exact md_qi (k := 0) (v := md_gnd g q c) (by unfold md_q_gr; simp [md_H, *]; done) (by first | exact md_post_th (md_like_rf hz hz1) | exact md_post_th (md_like_gr hi (md_like_rf hz hz1)) | exact md_post_th (md_like_wng hi hz hz1 q))) | (exact md_qi (k := 3) (v := 0) (by unfold md_q_gr; simp [md_H, *]; done) (by first | exact md_post_th (md_like_rf hz hz1) | exact md_post_th (md_like_gr hi (md_like_rf hz hz1)) | exact md_post_th (md_like_wng hi hz hz1 q))))
        · refine jk_aload_n (q := 72) dX13_ground_71 rfl rfl ?_
          refine jk_aload_n (q := 73) dX13_ground_72 rfl rfl ?_
          refine jk_iload_n (q := 74) dX13_ground_73 rfl rfl ?_
          refine jk_iload_n (q := 75) dX13_ground_74 rfl rfl ?_
          refine jk_cV2p (q := 78) (c_X13_groundAt hm ((md_gr_ne _ _ _ ⟨by omega, by omega, by omega, by omega⟩).trans hg) hi ⟨by omega, by omega⟩ ⟨by omega, by omega⟩ hx (by omega) ⟨by omega, by omega⟩ (md_gr_at _ m g).2.1 (md_gr_at _ m g).2.2.2 (by assumption)) jm_X13_groundAt jw_2306 rfl (by first | exact hm.1 | exact hm.2.1 _ _ rfl | assumption) rfl rfl rfl dX13_ground_75 rfl ?_
          refine jk_cV1p (q := 81) (c_X13_done (O := O) hm (by first | exact ho | exact ((md_gr_ne _ _ _ ⟨by omega, by omega, by omega, by omega⟩).trans ho))) jm_X13_done jw_1941 rfl (by first | exact hm.1 | exact hm.2.1 _ _ rfl | assumption) rfl rfl rfl dX13_ground_78 rfl ?_
          refine jk_goto (q := 89) dX13_ground_81 rfl ?_
          exact jk_iret rfl dX13_ground_89 (by first | (exact md_qi (k := 0) (v := md_gnd g q c) (by unfold md_q_gr; simp [md_H, *]; done) (by first | exact md_post_th (md_like_rf hz hz1) | exact md_post_th (md_like_gr hi (md_like_rf hz hz1)) | exact md_post_th (md_like_wng hi hz hz1 q))) | (exact md_qi (k := 3) (v := 0) (by unfold md_q_gr; simp [md_H, *]; done) (by first | exact md_post_th (md_like_rf hz hz1) | exact md_post_th (md_like_gr hi (md_like_rf hz hz1)) | exact md_post_th (md_like_wng hi hz hz1 q))))
      · refine jk_aload_n (q := 45) dX13_ground_44 rfl rfl ?_
        refine jk_iconst (q := 46) dX13_ground_45 rfl ?_
        refine jk_cV1p (q := 49) (c_X13_fails (O := O) hm (by first | exact ho | exact ((md_gr_ne _ _ _ ⟨by omega, by omega, by omega, by omega⟩).trans ho))) jm_X13_fails jw_1937 rfl (by first | exact hm.1 | exact hm.2.1 _ _ rfl | assumption) rfl rfl rfl dX13_ground_46 rfl ?_
        exact jk_iret rfl dX13_ground_49 (by exact md_qi (k := 2) (v := 0) (by unfold md_q_gr; simp [*]) (by first | exact md_post_th (md_like_rf hz hz1) | exact md_post_th (md_like_gr hi (md_like_rf hz hz1)) | exact md_post_th (md_like_wng hi hz hz1 q)))
  · refine jk_aload_n (q := 9) dX13_ground_8 rfl rfl ?_
    refine jk_iconst (q := 10) dX13_ground_9 rfl ?_
    refine jk_cV1p (q := 13) (c_X13_fails (O := O) hm (by first | exact ho | exact ((md_gr_ne _ _ _ ⟨by omega, by omega, by omega, by omega⟩).trans ho))) jm_X13_fails jw_1937 rfl (by first | exact hm.1 | exact hm.2.1 _ _ rfl | assumption) rfl rfl rfl dX13_ground_10 rfl ?_
    exact jk_iret rfl dX13_ground_13 (by exact md_qi (k := 1) (v := 0) (by unfold md_q_gr; simp [*]) (by first | exact md_post_th (md_like_rf hz hz1) | exact md_post_th (md_like_gr hi (md_like_rf hz hz1)) | exact md_post_th (md_like_wng hi hz hz1 q)))
theorem c_X13_whyNoGround {G : jk_G} {n : Nat} {t : jk_T} {σ : jk_I} {ρ : jk_P} {m : Nat} {g : Int → Int} {B : Int} {q : Int} (hm : md_at t ρ m) (hg : σ (m + 2) = g) (hi : md_inv B g) (hz : md_z σ m) (hz1 : md_z10 σ m) (hq : jk_in q) : jk_K G yX13_whyNoGround mX13_whyNoGround 0 0 [.ref m, jI q] n t σ ρ (jk_q (some (jI (md_wng g q))) n t (md_wngS σ m g q) ρ) jk_no := by
  refine jk_entryB (ls := [some (.ref m), some (jI q)]) jm_X13_whyNoGround.1 rfl rfl rfl ?_
  obtain ⟨i0, i1, i2, i3, -⟩ := id hi
  refine jk_aload_n (q := 1) dX13_whyNoGround_0 rfl rfl ?_
  refine jk_iload_n (q := 2) dX13_whyNoGround_1 rfl rfl ?_
  refine jk_cV1p (q := 5) (c_X13_isProfile hm hg hi hq) jm_X13_isProfile jw_2115 rfl (by first | exact hm.1 | exact hm.2.1 _ _ rfl | assumption) rfl rfl rfl dX13_whyNoGround_2 rfl ?_
  refine jk_ifB_ne (q := 10) (q2 := 8) dX13_whyNoGround_5 rfl rfl (fun h1 => ?_) (fun h1 => ?_)
  · have hq2 := md_inT (by assumption : md_in q 0 (g 2 - 1) = true)
    obtain ⟨s1, s2⟩ := hi.2.2.2.2.2.2.2.1 q ⟨by omega, by omega⟩
    refine jk_aload_n (q := 11) dX13_whyNoGround_10 rfl rfl ?_
    refine jk_cV0v (q := 14) (c_X13_grows hm hg hi hz hz1) jm_X13_grows jw_2036 rfl (by first | exact hm.1 | exact hm.2.1 _ _ rfl | assumption) rfl rfl rfl dX13_whyNoGround_11 rfl ?_
    refine jk_aload_n (q := 15) dX13_whyNoGround_14 rfl rfl ?_
    refine jk_aload_n (q := 16) dX13_whyNoGround_15 rfl rfl ?_
    refine jk_getA (q := 19) (k := 13) 0 0 rfl (by first | exact hm.1 | exact hm.2.1 _ _ rfl | assumption) (by first | exact hm.2.2 _ _ rfl | assumption) rfl rfl jw_1848 dX13_whyNoGround_16 rfl ?_
    refine jk_sipush (q := 22) (y := 152) dX13_whyNoGround_19 rfl (by decide) ?_
    refine jk_iload_n (q := 23) dX13_whyNoGround_22 rfl rfl ?_
    refine jk_iadd (q := 24) dX13_whyNoGround_23 rfl ?_
    refine jk_ialdR (q := 25) (by first | exact hm.1 | exact hm.2.1 _ _ rfl | assumption) (by first | exact jk_row_same _ _ _ | exact hg | exact ((md_gr_ne _ _ _ ⟨by omega, by omega, by omega, by omega⟩).trans hg) | (rewrite [jk_row_ne _ _ (by omega)]; first | exact jk_row_same _ _ _ | exact hg | exact ((md_gr_ne _ _ _ ⟨by omega, by omega, by omega, by omega⟩).trans hg) | (rewrite [jk_row_ne _ _ (by omega)]; first | exact jk_row_same _ _ _ | exact hg | exact ((md_gr_ne _ _ _ ⟨by omega, by omega, by omega, by omega⟩).trans hg) | (rewrite [jk_row_ne _ _ (by omega)]; first | exact jk_row_same _ _ _ | exact hg | exact ((md_gr_ne _ _ _ ⟨by omega, by omega, by omega, by omega⟩).trans hg) | (rewrite [jk_row_ne _ _ (by omega)]; first | exact hg | exact ((md_gr_ne _ _ _ ⟨by omega, by omega, by omega, by omega⟩).trans hg) | rfl))))) (by first | decide | omega | exact jB_01 _) dX13_whyNoGround_24 rfl ?_
    refine jk_cV1p (q := 28) (c_X13_isHigh (r := md_Ro g) hm ((md_gr_ne _ _ _ ⟨by omega, by omega, by omega, by omega⟩).trans hg) hi (md_gr_at _ m g).2.1 (md_kr_tr hi 50).2 s2) jm_X13_isHigh jw_2143 rfl (by first | exact hm.1 | exact hm.2.1 _ _ rfl | assumption) rfl rfl rfl dX13_whyNoGround_25 rfl ?_
    refine jk_ifB_eq (q := 35) (q2 := 31) dX13_whyNoGround_28 rfl rfl (fun h2 => ?_) (fun h2 => ?_)
    · refine jk_iconst (q := 36) dX13_whyNoGround_35 rfl ?_
      exact jk_iret rfl dX13_whyNoGround_36 (by exact md_qwn (by unfold md_wng; simp [md_H, *]) (by unfold md_wngS; simp [*]))
    · refine jk_iconst (q := 32) dX13_whyNoGround_31 rfl ?_
      refine jk_goto (q := 36) dX13_whyNoGround_32 rfl ?_
      exact jk_iret rfl dX13_whyNoGround_36 (by exact md_qwn (by unfold md_wng; simp [md_H, *]) (by unfold md_wngS; simp [*]))
  · refine jk_iconst (q := 9) dX13_whyNoGround_8 rfl ?_
    exact jk_iret rfl dX13_whyNoGround_9 (by exact md_qwn (by unfold md_wng; simp [md_H, *]) (by unfold md_wngS; simp [*]))
theorem c_X13_wetColumns {G : jk_G} {n : Nat} {t : jk_T} {σ : jk_I} {ρ : jk_P} {m : Nat} {g O : Int → Int} {B : Int} {q : Int} (hm : md_at t ρ m) (hg : σ (m + 2) = g) (hi : md_inv B g) (ho : σ m = O) (hz : md_z σ m) (hz1 : md_z10 σ m) (hq : jk_in q) (hx : md_inx g) : jk_K G yX13_wetColumns mX13_wetColumns 0 0 [.ref m, jI q] n t σ ρ (md_Q m σ O n t ρ (md_q_wc g q).1 (jI (md_q_wc g q).2)) jk_no := by
  refine jk_entryB (ls := [some (.ref m), some (jI q), none, none, none]) jm_X13_wetColumns.1 rfl rfl rfl ?_
  obtain ⟨i0, i1, i2, i3, -⟩ := id hi
  refine jk_aload_n (q := 1) dX13_wetColumns_0 rfl rfl ?_
  refine jk_iload_n (q := 2) dX13_wetColumns_1 rfl rfl ?_
  refine jk_cV1p (q := 5) (c_X13_whyNoGround hm hg hi hz hz1 hq) jm_X13_whyNoGround jw_2318 rfl (by first | exact hm.1 | exact hm.2.1 _ _ rfl | assumption) rfl rfl rfl dX13_wetColumns_2 rfl ?_
  refine jk_istore2 (q := 6) dX13_wetColumns_5 rfl rfl rfl ?_
  have hwb := md_wng_bd g q
  refine jk_iload_n (q := 7) dX13_wetColumns_6 rfl rfl ?_
  refine jk_if_le (q := 16) (q2 := 10) dX13_wetColumns_7 rfl rfl (by first | decide | omega | exact jB_01 _) (fun h1 => ?_) (fun h1 => ?_)
  · have hnw : ¬ 0 < md_wng g q := (by omega)
    obtain ⟨hws, hin9, hhi9⟩ := md_wng0 (σ := σ) (m := m) hnw
    rw [hws]
    have hq2 := md_inT hin9
    obtain ⟨s1, s2⟩ := hi.2.2.2.2.2.2.2.1 q ⟨by omega, by omega⟩
    refine jk_iconst (q := 17) dX13_wetColumns_16 rfl ?_
    refine jk_istore3 (q := 18) dX13_wetColumns_17 rfl rfl rfl ?_
    refine jk_iconst (q := 19) dX13_wetColumns_18 rfl ?_
    refine jk_istore4 (q := 21) dX13_wetColumns_19 rfl rfl rfl ?_
    have L21 : ∀ k21 : Nat, k21 ≤ 100 → (hk0 : ¬ 0 < g (156 + q) → k21 = 0) → jk_J G mX13_wetColumns 21 [some (.ref m), some (jI q), some (jI (md_wng g q)), some (jI (jk_sum (fun c => jB (md_wetI g q c)) k21)), some (jI (k21 : Int))] [] n t (md_gr σ m g) ρ 0 0 (md_Q m σ O n t ρ (md_q_wc g q).1 (jI (md_q_wc g q).2)) jk_no := by
      refine jk_loop _ (fun k21 hk21 ih21 => ?_)
      intro  hk0
      refine jk_iload (q := 23) dX13_wetColumns_21 rfl rfl ?_
      refine jk_bipush (q := 25) (y := 100) dX13_wetColumns_23 rfl (by decide) ?_
      refine jk_icmp_ge (q := 83) (q2 := 28) dX13_wetColumns_25 rfl rfl (by first | decide | omega | exact jB_01 _) (by first | decide | omega | exact jB_01 _) (fun h2 => ?_) (fun h2 => ?_)
      · refine jk_aload_n (q := 84) dX13_wetColumns_83 rfl rfl ?_
        refine jk_iload_n (q := 85) dX13_wetColumns_84 rfl rfl ?_
        refine jk_cV1p (q := 88) (c_X13_done (O := O) hm ((md_gr_ne _ _ _ ⟨by omega, by omega, by omega, by omega⟩).trans ho)) jm_X13_done jw_1941 rfl (by first | exact hm.1 | exact hm.2.1 _ _ rfl | assumption) rfl rfl rfl dX13_wetColumns_85 rfl ?_
        exact jk_iret rfl dX13_wetColumns_88 (by first | (have h9 : 0 < g (156 + q) := (by omega); exact md_qi (k := 0) (v := jk_sum (fun c => jB (md_wetI g q c)) k21) (by unfold md_q_wc; rw [if_neg hnw, if_pos h9, show k21 = 100 by omega]) (by first | exact md_post_th (md_like_rf hz hz1) | exact md_post_th (md_like_gr hi (md_like_rf hz hz1)) | exact md_post_th (md_like_wng hi hz hz1 q))) | (have h9 : ¬ 0 < g (156 + q) := (by omega); exact md_qi (k := 0) (v := jk_sum (fun c => jB (md_wetI g q c)) k21) (by unfold md_q_wc; rw [if_neg hnw, if_neg h9, hk0 h9]; rfl) (by first | exact md_post_th (md_like_rf hz hz1) | exact md_post_th (md_like_gr hi (md_like_rf hz hz1)) | exact md_post_th (md_like_wng hi hz hz1 q))))
      · refine jk_aload_n (q := 29) dX13_wetColumns_28 rfl rfl ?_
        refine jk_getA (q := 32) (k := 13) 0 0 rfl (by first | exact hm.1 | exact hm.2.1 _ _ rfl | assumption) (by first | exact hm.2.2 _ _ rfl | assumption) rfl rfl jw_1848 dX13_wetColumns_29 rfl ?_
        refine jk_sipush (q := 35) (y := 156) dX13_wetColumns_32 rfl (by decide) ?_
        refine jk_iload_n (q := 36) dX13_wetColumns_35 rfl rfl ?_
        refine jk_iadd (q := 37) dX13_wetColumns_36 rfl ?_
        refine jk_ialdR (q := 38) (by first | exact hm.1 | exact hm.2.1 _ _ rfl | assumption) (by first | exact jk_row_same _ _ _ | exact hg | exact ho | exact ((md_gr_ne _ _ _ ⟨by omega, by omega, by omega, by omega⟩).trans hg) | exact ((md_gr_ne _ _ _ ⟨by omega, by omega, by omega, by omega⟩).trans ho) | (rewrite [jk_row_ne _ _ (by omega)]; first | exact jk_row_same _ _ _ | exact hg | exact ho | exact ((md_gr_ne _ _ _ ⟨by omega, by omega, by omega, by omega⟩).trans hg) | exact ((md_gr_ne _ _ _ ⟨by omega, by omega, by omega, by omega⟩).trans ho) | (rewrite [jk_row_ne _ _ (by omega)]; first | exact jk_row_same _ _ _ | exact hg | exact ho | exact ((md_gr_ne _ _ _ ⟨by omega, by omega, by omega, by omega⟩).trans hg) | exact ((md_gr_ne _ _ _ ⟨by omega, by omega, by omega, by omega⟩).trans ho) | (rewrite [jk_row_ne _ _ (by omega)]; first | exact jk_row_same _ _ _ | exact hg | exact ho | exact ((md_gr_ne _ _ _ ⟨by omega, by omega, by omega, by omega⟩).trans hg) | exact ((md_gr_ne _ _ _ ⟨by omega, by omega, by omega, by omega⟩).trans ho) | (rewrite [jk_row_ne _ _ (by omega)]; first | exact hg | exact ho | exact ((md_gr_ne _ _ _ ⟨by omega, by omega, by omega, by omega⟩).trans hg) | exact ((md_gr_ne _ _ _ ⟨by omega, by omega, by omega, by omega⟩).trans ho) | rfl))))) (by first | decide | omega | exact jB_01 _) dX13_wetColumns_37 rfl ?_
        refine jk_if_le (q := 83) (q2 := 41) dX13_wetColumns_38 rfl rfl (by first | decide | omega | exact jB_01 _) (fun h3 => ?_) (fun h3 => ?_)
        · refine jk_aload_n (q := 84) dX13_wetColumns_83 rfl rfl ?_
          refine jk_iload_n (q := 85) dX13_wetColumns_84 rfl rfl ?_
          refine jk_cV1p (q := 88) (c_X13_done (O := O) hm ((md_gr_ne _ _ _ ⟨by omega, by omega, by omega, by omega⟩).trans ho)) jm_X13_done jw_1941 rfl (by first | exact hm.1 | exact hm.2.1 _ _ rfl | assumption) rfl rfl rfl dX13_wetColumns_85 rfl ?_
          exact jk_iret rfl dX13_wetColumns_88 (by first | (have h9 : 0 < g (156 + q) := (by omega); exact md_qi (k := 0) (v := jk_sum (fun c => jB (md_wetI g q c)) k21) (by unfold md_q_wc; rw [if_neg hnw, if_pos h9, show k21 = 100 by omega]) (by first | exact md_post_th (md_like_rf hz hz1) | exact md_post_th (md_like_gr hi (md_like_rf hz hz1)) | exact md_post_th (md_like_wng hi hz hz1 q))) | (have h9 : ¬ 0 < g (156 + q) := (by omega); exact md_qi (k := 0) (v := jk_sum (fun c => jB (md_wetI g q c)) k21) (by unfold md_q_wc; rw [if_neg hnw, if_neg h9, hk0 h9]; rfl) (by first | exact md_post_th (md_like_rf hz hz1) | exact md_post_th (md_like_gr hi (md_like_rf hz hz1)) | exact md_post_th (md_like_wng hi hz hz1 q))))
        · obtain ⟨hx1, hx2⟩ := hx q ⟨by omega, by omega⟩
          have he0 := hx1 0 ⟨by omega, by omega⟩
          have he1 := hx1 (g (156 + q) - 1) ⟨by omega, by omega⟩
          refine jk_iload_n (q := 42) dX13_wetColumns_41 rfl rfl ?_
          refine jk_iload (q := 44) dX13_wetColumns_42 rfl rfl ?_
          refine jk_aload_n (q := 45) dX13_wetColumns_44 rfl rfl ?_
          refine jk_iload_n (q := 46) dX13_wetColumns_45 rfl rfl ?_
          refine jk_cV1p (q := 49) (c_X13_firstColumn hm (by first | exact hg | exact ((md_gr_ne _ _ _ ⟨by omega, by omega, by omega, by omega⟩).trans hg)) ⟨by omega, by omega⟩ ⟨by omega, by omega⟩) jm_X13_firstColumn jw_2298 rfl (by first | exact hm.1 | exact hm.2.1 _ _ rfl | assumption) rfl rfl rfl dX13_wetColumns_46 rfl ?_
          refine jk_aload_n (q := 50) dX13_wetColumns_49 rfl rfl ?_
          refine jk_iload_n (q := 51) dX13_wetColumns_50 rfl rfl ?_
          refine jk_cV1p (q := 54) (c_X13_lastColumn hm (by first | exact hg | exact ((md_gr_ne _ _ _ ⟨by omega, by omega, by omega, by omega⟩).trans hg)) ⟨by omega, by omega⟩ ⟨by omega, by omega⟩) jm_X13_lastColumn jw_2302 rfl (by first | exact hm.1 | exact hm.2.1 _ _ rfl | assumption) rfl rfl rfl dX13_wetColumns_51 rfl ?_
          refine jk_cS3p (q := 57) (c_X13_in ⟨by omega, by omega⟩ ⟨by omega, by omega⟩ ⟨by omega, by omega⟩) jm_X13_in jw_1961 rfl rfl rfl dX13_wetColumns_54 rfl ?_
          refine jk_ifB_eq (q := 74) (q2 := 60) dX13_wetColumns_57 rfl rfl (fun h4 => ?_) (fun h4 => ?_)
          · refine jk_iconst (q := 75) dX13_wetColumns_74 rfl ?_
            refine jk_iadd (q := 76) dX13_wetColumns_75 rfl ?_
            refine jk_istore3 (q := 77) dX13_wetColumns_76 rfl rfl rfl ?_
            refine jk_iinc4 (q := 80) dX13_wetColumns_77 rfl rfl rfl ?_
            refine jk_goto (q := 21) dX13_wetColumns_80 rfl ?_
            refine jk_convl (ih21 (by omega) (fun h => absurd (by omega) h)) (jk_loc rfl (jk_loc rfl (jk_loc rfl (jk_loc (jk_li ?_) rfl))))
            simp [jk_sum, md_wetI, *, jB_t, jB_f]
          · have hc2 := md_inT (by assumption : md_in (k21 : Int) (md_Ds g q 0) (md_Ds g q (g (156 + q) - 1)) = true)
            refine jk_aload_n (q := 61) dX13_wetColumns_60 rfl rfl ?_
            refine jk_iload_n (q := 62) dX13_wetColumns_61 rfl rfl ?_
            refine jk_iload (q := 64) dX13_wetColumns_62 rfl rfl ?_
            refine jk_cV2p (q := 67) (c_X13_isWet hm ((md_gr_ne _ _ _ ⟨by omega, by omega, by omega, by omega⟩).trans hg) hi ⟨by omega, by omega⟩ ⟨by omega, by omega⟩ hx (by omega) ⟨by omega, by omega⟩ (md_gr_at _ m g).2.1 (md_gr_at _ m g).2.2.2 hhi9) jm_X13_isWet jw_2322 rfl (by first | exact hm.1 | exact hm.2.1 _ _ rfl | assumption) rfl rfl rfl dX13_wetColumns_64 rfl ?_
            refine jk_ifB_eq (q := 74) (q2 := 70) dX13_wetColumns_67 rfl rfl (fun h5 => ?_) (fun h5 => ?_)
            · refine jk_iconst (q := 75) dX13_wetColumns_74 rfl ?_
              refine jk_iadd (q := 76) dX13_wetColumns_75 rfl ?_
              refine jk_istore3 (q := 77) dX13_wetColumns_76 rfl rfl rfl ?_
              refine jk_iinc4 (q := 80) dX13_wetColumns_77 rfl rfl rfl ?_
              refine jk_goto (q := 21) dX13_wetColumns_80 rfl ?_
              refine jk_convl (ih21 (by omega) (fun h => absurd (by omega) h)) (jk_loc rfl (jk_loc rfl (jk_loc rfl (jk_loc (jk_li ?_) rfl))))
              simp [jk_sum, md_wetI, *, jB_t, jB_f]
            · refine jk_iconst (q := 71) dX13_wetColumns_70 rfl ?_
              refine jk_goto (q := 75) dX13_wetColumns_71 rfl ?_
              refine jk_iadd (q := 76) dX13_wetColumns_75 rfl ?_
              refine jk_istore3 (q := 77) dX13_wetColumns_76 rfl rfl rfl ?_
              refine jk_iinc4 (q := 80) dX13_wetColumns_77 rfl rfl rfl ?_
              refine jk_goto (q := 21) dX13_wetColumns_80 rfl ?_
              refine jk_convl (ih21 (by omega) (fun h => absurd (by omega) h)) (jk_loc rfl (jk_loc rfl (jk_loc rfl (jk_loc (jk_li ?_) rfl))))
              simp [jk_sum, md_wetI, *, jB_t, jB_f]
    exact L21 0 (Nat.zero_le _) (fun _ => rfl)
  · refine jk_aload_n (q := 11) dX13_wetColumns_10 rfl rfl ?_
    refine jk_iload_n (q := 12) dX13_wetColumns_11 rfl rfl ?_
    refine jk_cV1p (q := 15) (c_X13_fails (O := O) hm ((md_wngS_m _ _ _ _).trans ho)) jm_X13_fails jw_1937 rfl (by first | exact hm.1 | exact hm.2.1 _ _ rfl | assumption) rfl rfl rfl dX13_wetColumns_12 rfl ?_
    exact jk_iret rfl dX13_wetColumns_15 (by exact md_qi (k := md_wng g q) (v := 0) (by unfold md_q_wc; rw [if_pos (by omega)]) (by first | exact md_post_th (md_like_rf hz hz1) | exact md_post_th (md_like_gr hi (md_like_rf hz hz1)) | exact md_post_th (md_like_wng hi hz hz1 q)))
theorem c_X13_wetColumnsBySegments {G : jk_G} {n : Nat} {t : jk_T} {σ : jk_I} {ρ : jk_P} {m : Nat} {g O : Int → Int} {B : Int} {q : Int} (hm : md_at t ρ m) (hg : σ (m + 2) = g) (hi : md_inv B g) (ho : σ m = O) (hz : md_z σ m) (hz1 : md_z10 σ m) (hq : jk_in q) (hx : md_inx g) : jk_K G yX13_wetColumnsBySegments mX13_wetColumnsBySegments 0 0 [.ref m, jI q] n t σ ρ (md_Q m σ O n t ρ (md_q_wc g q).1 (jI (md_q_wc g q).2)) jk_no := by
  refine jk_entryB (ls := [some (.ref m), some (jI q)]) jm_X13_wetColumnsBySegments.1 rfl rfl rfl ?_
  obtain ⟨i0, i1, i2, i3, -⟩ := id hi
  refine jk_aload_n (q := 1) dX13_wetColumnsBySegments_0 rfl rfl ?_
  refine jk_iload_n (q := 2) dX13_wetColumnsBySegments_1 rfl rfl ?_
  refine jk_cV1g (q := 5) (c_X13_wetColumns hm hg hi ho hz hz1 hq hx) jm_X13_wetColumns jw_2330 rfl (by first | exact hm.1 | exact hm.2.1 _ _ rfl | assumption) rfl rfl (Nat.zero_le _) (Nat.zero_le _) rfl dX13_wetColumnsBySegments_2 rfl (fun v' n' t' σ' ρ' hq => ?_) (fun _ _ _ _ _ h => h.elim)
  obtain ⟨rfl, rfl, rfl, rfl, hp⟩ := hq
  simp only [Option.toList_some, List.cons_append, List.nil_append, Nat.sub_zero]
  exact jk_iret rfl dX13_wetColumnsBySegments_5 (by exact ⟨rfl, rfl, rfl, rfl, hp⟩)
theorem jB_inj {p q : Bool} (h : jB p = jB q) : p = q := by cases p <;> cases q <;> first | rfl | exact absurd h (by decide)
theorem md_shoT {g : Int → Int} {q c : Int} (h1 : md_Ds g q 0 < c ∧ c ≤ md_Ds g q (g (156 + q) - 1)) (h2 : ¬ jB (md_wet g q c) = jB (md_wet g q (c - 1))) : md_sho g q c = true := by
  unfold md_sho
  rw [decide_eq_true h1]
  cases h3 : md_wet g q c <;> cases h4 : md_wet g q (c - 1) <;> rw [h3, h4] at h2 <;> first | rfl | exact absurd rfl h2
theorem md_shoF {g : Int → Int} {q c : Int} (h : ¬ (md_Ds g q 0 < c ∧ c ≤ md_Ds g q (g (156 + q) - 1)) ∨ jB (md_wet g q c) = jB (md_wet g q (c - 1))) : md_sho g q c = false := by
  unfold md_sho
  rcases h with h | h
  · rw [decide_eq_false h]; rfl
  · rw [jB_inj h]; simp
theorem c_X13_shores {G : jk_G} {n : Nat} {t : jk_T} {σ : jk_I} {ρ : jk_P} {m : Nat} {g O : Int → Int} {B : Int} {q : Int} (hm : md_at t ρ m) (hg : σ (m + 2) = g) (hi : md_inv B g) (ho : σ m = O) (hz : md_z σ m) (hz1 : md_z10 σ m) (hq : jk_in q) (hx : md_inx g) : jk_K G yX13_shores mX13_shores 0 0 [.ref m, jI q] n t σ ρ (md_Q m σ O n t ρ (md_q_sh g q).1 (jI (md_q_sh g q).2)) jk_no := by
  refine jk_entryB (ls := [some (.ref m), some (jI q), none, none, none, none]) jm_X13_shores.1 rfl rfl rfl ?_
  obtain ⟨i0, i1, i2, i3, -⟩ := id hi
  refine jk_aload_n (q := 1) dX13_shores_0 rfl rfl ?_
  refine jk_iload_n (q := 2) dX13_shores_1 rfl rfl ?_
  refine jk_cV1p (q := 5) (c_X13_whyNoGround hm hg hi hz hz1 hq) jm_X13_whyNoGround jw_2318 rfl (by first | exact hm.1 | exact hm.2.1 _ _ rfl | assumption) rfl rfl rfl dX13_shores_2 rfl ?_
  refine jk_istore2 (q := 6) dX13_shores_5 rfl rfl rfl ?_
  have hwb := md_wng_bd g q
  refine jk_iload_n (q := 7) dX13_shores_6 rfl rfl ?_
  refine jk_if_le (q := 16) (q2 := 10) dX13_shores_7 rfl rfl (by first | decide | omega | exact jB_01 _ | exact jB_in _) (fun h1 => ?_) (fun h1 => ?_)
  · have hnw : ¬ 0 < md_wng g q := (by omega)
    obtain ⟨hws, hin9, hhi9⟩ := md_wng0 (σ := σ) (m := m) hnw
    rw [hws]
    have hq2 := md_inT hin9
    obtain ⟨s1, s2⟩ := hi.2.2.2.2.2.2.2.1 q ⟨by omega, by omega⟩
    refine jk_iconst (q := 17) dX13_shores_16 rfl ?_
    refine jk_istore3 (q := 18) dX13_shores_17 rfl rfl rfl ?_
    refine jk_iconst (q := 19) dX13_shores_18 rfl ?_
    refine jk_istore4 (q := 21) dX13_shores_19 rfl rfl rfl ?_
    have L21 : ∀ k21 : Nat, k21 ≤ 99 → (hk0 : ¬ 0 < g (156 + q) → k21 = 0) → jk_J G mX13_shores 21 [some (.ref m), some (jI q), some (jI (md_wng g q)), some (jI (jk_sum (fun c => jB (md_sho g q (c + 1))) k21)), some (jI ((k21 : Int) + 1)), none] [] n t (md_gr σ m g) ρ 0 0 (md_Q m σ O n t ρ (md_q_sh g q).1 (jI (md_q_sh g q).2)) jk_no := by
      refine jk_loop _ (fun k21 hk21 ih21 => ?_)
      intro  hk0
      refine jk_iload (q := 23) dX13_shores_21 rfl rfl ?_
      refine jk_bipush (q := 25) (y := 100) dX13_shores_23 rfl (by decide) ?_
      refine jk_icmp_ge (q := 106) (q2 := 28) dX13_shores_25 rfl rfl (by first | decide | omega | exact jB_01 _ | exact jB_in _) (by first | decide | omega | exact jB_01 _ | exact jB_in _) (fun h2 => ?_) (fun h2 => ?_)
      · refine jk_aload_n (q := 107) dX13_shores_106 rfl rfl ?_
        refine jk_iload_n (q := 108) dX13_shores_107 rfl rfl ?_
        refine jk_cV1p (q := 111) (c_X13_done (O := O) hm ((md_gr_ne _ _ _ ⟨by omega, by omega, by omega, by omega⟩).trans ho)) jm_X13_done jw_1941 rfl (by first | exact hm.1 | exact hm.2.1 _ _ rfl | assumption) rfl rfl rfl dX13_shores_108 rfl ?_
        exact jk_iret rfl dX13_shores_111 (by first | (have h9 : 0 < g (156 + q) := (by omega); exact md_qi (k := 0) (v := jk_sum (fun c => jB (md_sho g q (c + 1))) k21) (by unfold md_q_sh; rw [if_neg hnw, if_pos h9, show k21 = 99 by omega]) (by first | exact md_post_th (md_like_rf hz hz1) | exact md_post_th (md_like_gr hi (md_like_rf hz hz1)) | exact md_post_th (md_like_wng hi hz hz1 q))) | (have h9 : ¬ 0 < g (156 + q) := (by omega); exact md_qi (k := 0) (v := jk_sum (fun c => jB (md_sho g q (c + 1))) k21) (by unfold md_q_sh; rw [if_neg hnw, if_neg h9, hk0 h9]; rfl) (by first | exact md_post_th (md_like_rf hz hz1) | exact md_post_th (md_like_gr hi (md_like_rf hz hz1)) | exact md_post_th (md_like_wng hi hz hz1 q))))
      · refine jk_aload_n (q := 29) dX13_shores_28 rfl rfl ?_
        refine jk_getA (q := 32) (k := 13) 0 0 rfl (by first | exact hm.1 | exact hm.2.1 _ _ rfl | assumption) (by first | exact hm.2.2 _ _ rfl | assumption) rfl rfl jw_1848 dX13_shores_29 rfl ?_
        refine jk_sipush (q := 35) (y := 156) dX13_shores_32 rfl (by decide) ?_
        refine jk_iload_n (q := 36) dX13_shores_35 rfl rfl ?_
        refine jk_iadd (q := 37) dX13_shores_36 rfl ?_
        refine jk_ialdR (q := 38) (by first | exact hm.1 | exact hm.2.1 _ _ rfl | assumption) (by first | exact jk_row_same _ _ _ | exact hg | exact ho | exact ((md_gr_ne _ _ _ ⟨by omega, by omega, by omega, by omega⟩).trans hg) | exact ((md_gr_ne _ _ _ ⟨by omega, by omega, by omega, by omega⟩).trans ho) | (rewrite [jk_row_ne _ _ (by omega)]; first | exact jk_row_same _ _ _ | exact hg | exact ho | exact ((md_gr_ne _ _ _ ⟨by omega, by omega, by omega, by omega⟩).trans hg) | exact ((md_gr_ne _ _ _ ⟨by omega, by omega, by omega, by omega⟩).trans ho) | (rewrite [jk_row_ne _ _ (by omega)]; first | exact jk_row_same _ _ _ | exact hg | exact ho | exact ((md_gr_ne _ _ _ ⟨by omega, by omega, by omega, by omega⟩).trans hg) | exact ((md_gr_ne _ _ _ ⟨by omega, by omega, by omega, by omega⟩).trans ho) | (rewrite [jk_row_ne _ _ (by omega)]; first | exact jk_row_same _ _ _ | exact hg | exact ho | exact ((md_gr_ne _ _ _ ⟨by omega, by omega, by omega, by omega⟩).trans hg) | exact ((md_gr_ne _ _ _ ⟨by omega, by omega, by omega, by omega⟩).trans ho) | (rewrite [jk_row_ne _ _ (by omega)]; first | exact hg | exact ho | exact ((md_gr_ne _ _ _ ⟨by omega, by omega, by omega, by omega⟩).trans hg) | exact ((md_gr_ne _ _ _ ⟨by omega, by omega, by omega, by omega⟩).trans ho) | rfl))))) (by first | decide | omega | exact jB_01 _ | exact jB_in _) dX13_shores_37 rfl ?_
        refine jk_if_le (q := 106) (q2 := 41) dX13_shores_38 rfl rfl (by first | decide | omega | exact jB_01 _ | exact jB_in _) (fun h3 => ?_) (fun h3 => ?_)
        · refine jk_aload_n (q := 107) dX13_shores_106 rfl rfl ?_
          refine jk_iload_n (q := 108) dX13_shores_107 rfl rfl ?_
          refine jk_cV1p (q := 111) (c_X13_done (O := O) hm ((md_gr_ne _ _ _ ⟨by omega, by omega, by omega, by omega⟩).trans ho)) jm_X13_done jw_1941 rfl (by first | exact hm.1 | exact hm.2.1 _ _ rfl | assumption) rfl rfl rfl dX13_shores_108 rfl ?_
          exact jk_iret rfl dX13_shores_111 (by first | (have h9 : 0 < g (156 + q) := (by omega); exact md_qi (k := 0) (v := jk_sum (fun c => jB (md_sho g q (c + 1))) k21) (by unfold md_q_sh; rw [if_neg hnw, if_pos h9, show k21 = 99 by omega]) (by first | exact md_post_th (md_like_rf hz hz1) | exact md_post_th (md_like_gr hi (md_like_rf hz hz1)) | exact md_post_th (md_like_wng hi hz hz1 q))) | (have h9 : ¬ 0 < g (156 + q) := (by omega); exact md_qi (k := 0) (v := jk_sum (fun c => jB (md_sho g q (c + 1))) k21) (by unfold md_q_sh; rw [if_neg hnw, if_neg h9, hk0 h9]; rfl) (by first | exact md_post_th (md_like_rf hz hz1) | exact md_post_th (md_like_gr hi (md_like_rf hz hz1)) | exact md_post_th (md_like_wng hi hz hz1 q))))
        · obtain ⟨hx1, hx2⟩ := hx q ⟨by omega, by omega⟩
          have he0 := hx1 0 ⟨by omega, by omega⟩
          have he1 := hx1 (g (156 + q) - 1) ⟨by omega, by omega⟩
          refine jk_iload (q := 43) dX13_shores_41 rfl rfl ?_
          refine jk_aload_n (q := 44) dX13_shores_43 rfl rfl ?_
          refine jk_iload_n (q := 45) dX13_shores_44 rfl rfl ?_
          refine jk_cV1p (q := 48) (c_X13_firstColumn hm (by first | exact hg | exact ((md_gr_ne _ _ _ ⟨by omega, by omega, by omega, by omega⟩).trans hg)) ⟨by omega, by omega⟩ ⟨by omega, by omega⟩) jm_X13_firstColumn jw_2298 rfl (by first | exact hm.1 | exact hm.2.1 _ _ rfl | assumption) rfl rfl rfl dX13_shores_45 rfl ?_
          refine jk_icmp_le (q := 65) (q2 := 51) dX13_shores_48 rfl rfl (by first | decide | omega | exact jB_01 _ | exact jB_in _) (by first | decide | omega | exact jB_01 _ | exact jB_in _) (fun h4 => ?_) (fun h4 => ?_)
          · refine jk_iconst (q := 66) dX13_shores_65 rfl ?_
            refine jk_istore5 (q := 68) dX13_shores_66 rfl rfl rfl ?_
            refine jk_iload_n (q := 69) dX13_shores_68 rfl rfl ?_
            refine jk_iload (q := 71) dX13_shores_69 rfl rfl ?_
            refine jk_ifT_eq (q := 97) (by decide) (by decide) dX13_shores_71 rfl ?_
            refine jk_iconst (q := 98) dX13_shores_97 rfl ?_
            refine jk_iadd (q := 99) dX13_shores_98 rfl ?_
            refine jk_istore3 (q := 100) dX13_shores_99 rfl rfl rfl ?_
            refine jk_iinc4 (q := 103) dX13_shores_100 rfl rfl rfl ?_
            refine jk_goto (q := 21) dX13_shores_103 rfl ?_
            refine jk_convw (ih21 (by omega) (fun h => absurd (by omega) h)) (jk_wkS rfl (jk_wkS rfl (jk_wkS rfl (jk_wkS (jk_li ?_) (jk_wkS rfl (jk_wkN jk_wk0))))))
            first
            | (rw [show jk_sum (fun c => jB (md_sho g q (c + 1))) (k21 + 1) = jk_sum (fun c => jB (md_sho g q (c + 1))) k21 + jB (md_sho g q ((k21 : Int) + 1)) from rfl, show md_sho g q ((k21 : Int) + 1) = true from md_shoT (by omega) (by assumption)]; rfl)
            | (rw [show jk_sum (fun c => jB (md_sho g q (c + 1))) (k21 + 1) = jk_sum (fun c => jB (md_sho g q (c + 1))) k21 + jB (md_sho g q ((k21 : Int) + 1)) from rfl, show md_sho g q ((k21 : Int) + 1) = false from md_shoF (by first | exact Or.inl (by omega) | exact Or.inr (by assumption))]; rfl)
          · refine jk_iload (q := 53) dX13_shores_51 rfl rfl ?_
            refine jk_aload_n (q := 54) dX13_shores_53 rfl rfl ?_
            refine jk_iload_n (q := 55) dX13_shores_54 rfl rfl ?_
            refine jk_cV1p (q := 58) (c_X13_lastColumn hm (by first | exact hg | exact ((md_gr_ne _ _ _ ⟨by omega, by omega, by omega, by omega⟩).trans hg)) ⟨by omega, by omega⟩ ⟨by omega, by omega⟩) jm_X13_lastColumn jw_2302 rfl (by first | exact hm.1 | exact hm.2.1 _ _ rfl | assumption) rfl rfl rfl dX13_shores_55 rfl ?_
            refine jk_icmp_gt (q := 65) (q2 := 61) dX13_shores_58 rfl rfl (by first | decide | omega | exact jB_01 _ | exact jB_in _) (by first | decide | omega | exact jB_01 _ | exact jB_in _) (fun h5 => ?_) (fun h5 => ?_)
            · refine jk_iconst (q := 66) dX13_shores_65 rfl ?_
              refine jk_istore5 (q := 68) dX13_shores_66 rfl rfl rfl ?_
              refine jk_iload_n (q := 69) dX13_shores_68 rfl rfl ?_
              refine jk_iload (q := 71) dX13_shores_69 rfl rfl ?_
              refine jk_ifT_eq (q := 97) (by decide) (by decide) dX13_shores_71 rfl ?_
              refine jk_iconst (q := 98) dX13_shores_97 rfl ?_
              refine jk_iadd (q := 99) dX13_shores_98 rfl ?_
              refine jk_istore3 (q := 100) dX13_shores_99 rfl rfl rfl ?_
              refine jk_iinc4 (q := 103) dX13_shores_100 rfl rfl rfl ?_
              refine jk_goto (q := 21) dX13_shores_103 rfl ?_
              refine jk_convw (ih21 (by omega) (fun h => absurd (by omega) h)) (jk_wkS rfl (jk_wkS rfl (jk_wkS rfl (jk_wkS (jk_li ?_) (jk_wkS rfl (jk_wkN jk_wk0))))))
              first
              | (rw [show jk_sum (fun c => jB (md_sho g q (c + 1))) (k21 + 1) = jk_sum (fun c => jB (md_sho g q (c + 1))) k21 + jB (md_sho g q ((k21 : Int) + 1)) from rfl, show md_sho g q ((k21 : Int) + 1) = true from md_shoT (by omega) (by assumption)]; rfl)
              | (rw [show jk_sum (fun c => jB (md_sho g q (c + 1))) (k21 + 1) = jk_sum (fun c => jB (md_sho g q (c + 1))) k21 + jB (md_sho g q ((k21 : Int) + 1)) from rfl, show md_sho g q ((k21 : Int) + 1) = false from md_shoF (by first | exact Or.inl (by omega) | exact Or.inr (by assumption))]; rfl)
            · refine jk_iconst (q := 62) dX13_shores_61 rfl ?_
              refine jk_goto (q := 66) dX13_shores_62 rfl ?_
              refine jk_istore5 (q := 68) dX13_shores_66 rfl rfl rfl ?_
              refine jk_iload_n (q := 69) dX13_shores_68 rfl rfl ?_
              refine jk_iload (q := 71) dX13_shores_69 rfl rfl ?_
              refine jk_ifN_eq (q := 74) (by decide) (by decide) dX13_shores_71 rfl rfl ?_
              refine jk_aload_n (q := 75) dX13_shores_74 rfl rfl ?_
              refine jk_iload_n (q := 76) dX13_shores_75 rfl rfl ?_
              refine jk_iload (q := 78) dX13_shores_76 rfl rfl ?_
              refine jk_cV2p (q := 81) (c_X13_isWet hm ((md_gr_ne _ _ _ ⟨by omega, by omega, by omega, by omega⟩).trans hg) hi ⟨by omega, by omega⟩ ⟨by omega, by omega⟩ hx (by omega) ⟨by omega, by omega⟩ (md_gr_at _ m g).2.1 (md_gr_at _ m g).2.2.2 hhi9) jm_X13_isWet jw_2322 rfl (by first | exact hm.1 | exact hm.2.1 _ _ rfl | assumption) rfl rfl rfl dX13_shores_78 rfl ?_
              refine jk_aload_n (q := 82) dX13_shores_81 rfl rfl ?_
              refine jk_iload_n (q := 83) dX13_shores_82 rfl rfl ?_
              refine jk_iload (q := 85) dX13_shores_83 rfl rfl ?_
              refine jk_iconst (q := 86) dX13_shores_85 rfl ?_
              refine jk_isub (q := 87) dX13_shores_86 rfl ?_
              refine jk_cV2p (q := 90) (c_X13_isWet hm ((md_gr_ne _ _ _ ⟨by omega, by omega, by omega, by omega⟩).trans hg) hi ⟨by omega, by omega⟩ ⟨by omega, by omega⟩ hx (by omega) ⟨by omega, by omega⟩ (md_gr_at _ m g).2.1 (md_gr_at _ m g).2.2.2 hhi9) jm_X13_isWet jw_2322 rfl (by first | exact hm.1 | exact hm.2.1 _ _ rfl | assumption) rfl rfl rfl dX13_shores_87 rfl ?_
              refine jk_icmp_eq (q := 97) (q2 := 93) dX13_shores_90 rfl rfl (by first | decide | omega | exact jB_01 _ | exact jB_in _) (by first | decide | omega | exact jB_01 _ | exact jB_in _) (fun h6 => ?_) (fun h6 => ?_)
              · refine jk_iconst (q := 98) dX13_shores_97 rfl ?_
                refine jk_iadd (q := 99) dX13_shores_98 rfl ?_
                refine jk_istore3 (q := 100) dX13_shores_99 rfl rfl rfl ?_
                refine jk_iinc4 (q := 103) dX13_shores_100 rfl rfl rfl ?_
                refine jk_goto (q := 21) dX13_shores_103 rfl ?_
                refine jk_convw (ih21 (by omega) (fun h => absurd (by omega) h)) (jk_wkS rfl (jk_wkS rfl (jk_wkS rfl (jk_wkS (jk_li ?_) (jk_wkS rfl (jk_wkN jk_wk0))))))
                first
                | (rw [show jk_sum (fun c => jB (md_sho g q (c + 1))) (k21 + 1) = jk_sum (fun c => jB (md_sho g q (c + 1))) k21 + jB (md_sho g q ((k21 : Int) + 1)) from rfl, show md_sho g q ((k21 : Int) + 1) = true from md_shoT (by omega) (by assumption)]; rfl)
                | (rw [show jk_sum (fun c => jB (md_sho g q (c + 1))) (k21 + 1) = jk_sum (fun c => jB (md_sho g q (c + 1))) k21 + jB (md_sho g q ((k21 : Int) + 1)) from rfl, show md_sho g q ((k21 : Int) + 1) = false from md_shoF (by first | exact Or.inl (by omega) | exact Or.inr (by assumption))]; rfl)
              · refine jk_iconst (q := 94) dX13_shores_93 rfl ?_
                refine jk_goto (q := 98) dX13_shores_94 rfl ?_
                refine jk_iadd (q := 99) dX13_shores_98 rfl ?_
                refine jk_istore3 (q := 100) dX13_shores_99 rfl rfl rfl ?_
                refine jk_iinc4 (q := 103) dX13_shores_100 rfl rfl rfl ?_
                refine jk_goto (q := 21) dX13_shores_103 rfl ?_
                refine jk_convw (ih21 (by omega) (fun h => absurd (by omega) h)) (jk_wkS rfl (jk_wkS rfl (jk_wkS rfl (jk_wkS (jk_li ?_) (jk_wkS rfl (jk_wkN jk_wk0))))))
                first
                | (rw [show jk_sum (fun c => jB (md_sho g q (c + 1))) (k21 + 1) = jk_sum (fun c => jB (md_sho g q (c + 1))) k21 + jB (md_sho g q ((k21 : Int) + 1)) from rfl, show md_sho g q ((k21 : Int) + 1) = true from md_shoT (by omega) (by assumption)]; rfl)
                | (rw [show jk_sum (fun c => jB (md_sho g q (c + 1))) (k21 + 1) = jk_sum (fun c => jB (md_sho g q (c + 1))) k21 + jB (md_sho g q ((k21 : Int) + 1)) from rfl, show md_sho g q ((k21 : Int) + 1) = false from md_shoF (by first | exact Or.inl (by omega) | exact Or.inr (by assumption))]; rfl)
    exact jk_convw (L21 0 (Nat.zero_le _) (fun _ => rfl)) (jk_wkS rfl (jk_wkS rfl (jk_wkS rfl (jk_wkS rfl (jk_wkS rfl (jk_wkN jk_wk0))))))
  · refine jk_aload_n (q := 11) dX13_shores_10 rfl rfl ?_
    refine jk_iload_n (q := 12) dX13_shores_11 rfl rfl ?_
    refine jk_cV1p (q := 15) (c_X13_fails (O := O) hm ((md_wngS_m _ _ _ _).trans ho)) jm_X13_fails jw_1937 rfl (by first | exact hm.1 | exact hm.2.1 _ _ rfl | assumption) rfl rfl rfl dX13_shores_12 rfl ?_
    exact jk_iret rfl dX13_shores_15 (by exact md_qi (k := md_wng g q) (v := 0) (by unfold md_q_sh; rw [if_pos (by omega)]) (by first | exact md_post_th (md_like_rf hz hz1) | exact md_post_th (md_like_gr hi (md_like_rf hz hz1)) | exact md_post_th (md_like_wng hi hz hz1 q)))
theorem md_low_bd (g : Int → Int) (q b : Int) : ∀ k : Nat, b ≤ md_low g q b k ∧ md_low g q b k ≤ b + (k : Int)
  | 0 => ⟨Int.le_refl _, by show b ≤ b + 0; omega⟩
  | k + 1 => by
    have := md_low_bd g q b k
    simp only [md_low]
    split <;> omega
theorem md_Ds_le {g : Int → Int} (hx : md_inx g) {q : Int} (hq : 0 ≤ q ∧ q < g 2) : ∀ {s : Int}, 0 ≤ s ∧ s < g (156 + q) → md_Ds g q 0 ≤ md_Ds g q s := by
  have key : ∀ k : Nat, (k : Int) < g (156 + q) → md_Ds g q 0 ≤ md_Ds g q (k : Int) := by
    intro k
    induction k with
    | zero => intro _; exact Int.le_refl _
    | succ k ih => intro h; have := ih (by omega); have := (hx q hq).2 (k : Int) ⟨by omega, by omega⟩; have e : ((k + 1 : Nat) : Int) = (k : Int) + 1 := rfl; rw [e]; omega
  intro s hs
  have := key s.toNat (by omega)
  rwa [show (s.toNat : Int) = s by omega] at this
theorem c_X13_lowestColumn {G : jk_G} {n : Nat} {t : jk_T} {σ : jk_I} {ρ : jk_P} {m : Nat} {g O : Int → Int} {B : Int} {q : Int} (hm : md_at t ρ m) (hg : σ (m + 2) = g) (hi : md_inv B g) (ho : σ m = O) (hz : md_z σ m) (hz1 : md_z10 σ m) (hq : jk_in q) (hx : md_inx g) : jk_K G yX13_lowestColumn mX13_lowestColumn 0 0 [.ref m, jI q] n t σ ρ (md_Q m σ O n t ρ (md_q_lw g q).1 (jI (md_q_lw g q).2)) jk_no := by
  refine jk_entryB (ls := [some (.ref m), some (jI q), none, none]) jm_X13_lowestColumn.1 rfl rfl rfl ?_
  obtain ⟨i0, i1, i2, i3, -⟩ := id hi
  refine jk_aload_n (q := 1) dX13_lowestColumn_0 rfl rfl ?_
  refine jk_iload_n (q := 2) dX13_lowestColumn_1 rfl rfl ?_
  refine jk_cV1p (q := 5) (c_X13_isProfile hm hg hi (by assumption)) jm_X13_isProfile jw_2115 rfl (by first | exact hm.1 | exact hm.2.1 _ _ rfl | assumption) rfl rfl rfl dX13_lowestColumn_2 rfl ?_
  refine jk_ifB_ne (q := 14) (q2 := 8) dX13_lowestColumn_5 rfl rfl (fun h1 => ?_) (fun h1 => ?_)
  · have hq2 := md_inT (by assumption : md_in q 0 (g 2 - 1) = true)
    obtain ⟨s1, s2⟩ := hi.2.2.2.2.2.2.2.1 q ⟨by omega, by omega⟩
    refine jk_aload_n (q := 15) dX13_lowestColumn_14 rfl rfl ?_
    refine jk_getA (q := 18) (k := 13) 0 0 rfl (by first | exact hm.1 | exact hm.2.1 _ _ rfl | assumption) (by first | exact hm.2.2 _ _ rfl | assumption) rfl rfl jw_1848 dX13_lowestColumn_15 rfl ?_
    refine jk_sipush (q := 21) (y := 156) dX13_lowestColumn_18 rfl (by decide) ?_
    refine jk_iload_n (q := 22) dX13_lowestColumn_21 rfl rfl ?_
    refine jk_iadd (q := 23) dX13_lowestColumn_22 rfl ?_
    refine jk_ialdR (q := 24) (by first | exact hm.1 | exact hm.2.1 _ _ rfl | assumption) (by first | exact jk_row_same _ _ _ | exact hg | exact ho | exact (md_gr_at _ m g).1 | exact (md_gr_at _ m g).2.1 | exact (md_gr_at _ m g).2.2.1 | exact (md_gr_at _ m g).2.2.2 | exact ((md_gr_ne _ _ _ ⟨by omega, by omega, by omega, by omega⟩).trans hg) | exact ((md_gr_ne _ _ _ ⟨by omega, by omega, by omega, by omega⟩).trans ho) | exact ((md_gr_ne _ _ _ ⟨by omega, by omega, by omega, by omega⟩).trans (jk_row_same _ _ _)) | (rewrite [jk_row_ne _ _ (by omega)]; first | exact jk_row_same _ _ _ | exact hg | exact ho | exact (md_gr_at _ m g).1 | exact (md_gr_at _ m g).2.1 | exact (md_gr_at _ m g).2.2.1 | exact (md_gr_at _ m g).2.2.2 | exact ((md_gr_ne _ _ _ ⟨by omega, by omega, by omega, by omega⟩).trans hg) | exact ((md_gr_ne _ _ _ ⟨by omega, by omega, by omega, by omega⟩).trans ho) | exact ((md_gr_ne _ _ _ ⟨by omega, by omega, by omega, by omega⟩).trans (jk_row_same _ _ _)) | (rewrite [jk_row_ne _ _ (by omega)]; first | exact jk_row_same _ _ _ | exact hg | exact ho | exact (md_gr_at _ m g).1 | exact (md_gr_at _ m g).2.1 | exact (md_gr_at _ m g).2.2.1 | exact (md_gr_at _ m g).2.2.2 | exact ((md_gr_ne _ _ _ ⟨by omega, by omega, by omega, by omega⟩).trans hg) | exact ((md_gr_ne _ _ _ ⟨by omega, by omega, by omega, by omega⟩).trans ho) | exact ((md_gr_ne _ _ _ ⟨by omega, by omega, by omega, by omega⟩).trans (jk_row_same _ _ _)) | (rewrite [jk_row_ne _ _ (by omega)]; first | exact jk_row_same _ _ _ | exact hg | exact ho | exact (md_gr_at _ m g).1 | exact (md_gr_at _ m g).2.1 | exact (md_gr_at _ m g).2.2.1 | exact (md_gr_at _ m g).2.2.2 | exact ((md_gr_ne _ _ _ ⟨by omega, by omega, by omega, by omega⟩).trans hg) | exact ((md_gr_ne _ _ _ ⟨by omega, by omega, by omega, by omega⟩).trans ho) | exact ((md_gr_ne _ _ _ ⟨by omega, by omega, by omega, by omega⟩).trans (jk_row_same _ _ _)) | (rewrite [jk_row_ne _ _ (by omega)]; first | exact hg | exact ho | exact (md_gr_at _ m g).1 | exact (md_gr_at _ m g).2.1 | exact (md_gr_at _ m g).2.2.1 | exact (md_gr_at _ m g).2.2.2 | exact ((md_gr_ne _ _ _ ⟨by omega, by omega, by omega, by omega⟩).trans hg) | exact ((md_gr_ne _ _ _ ⟨by omega, by omega, by omega, by omega⟩).trans ho) | exact ((md_gr_ne _ _ _ ⟨by omega, by omega, by omega, by omega⟩).trans (jk_row_same _ _ _)) | rfl))))) (by first | decide | omega | exact jB_01 _) dX13_lowestColumn_23 rfl ?_
    refine jk_if_ne (q := 33) (q2 := 27) dX13_lowestColumn_24 rfl rfl (by first | decide | omega | exact jB_01 _) (fun h2 => ?_) (fun h2 => ?_)
    · obtain ⟨hx1, hx2⟩ := hx q ⟨by omega, by omega⟩
      have he0 := hx1 0 ⟨by omega, by omega⟩
      have he1 := hx1 (g (156 + q) - 1) ⟨by omega, by omega⟩
      have he2 := md_Ds_le hx (q := q) ⟨by omega, by omega⟩ (s := g (156 + q) - 1) ⟨by omega, by omega⟩
      refine jk_aload_n (q := 34) dX13_lowestColumn_33 rfl rfl ?_
      refine jk_iload_n (q := 35) dX13_lowestColumn_34 rfl rfl ?_
      refine jk_cV1p (q := 38) (c_X13_firstColumn hm (by first | exact hg | exact ((md_gr_ne _ _ _ ⟨by omega, by omega, by omega, by omega⟩).trans hg)) ⟨by omega, by omega⟩ ⟨by omega, by omega⟩) jm_X13_firstColumn jw_2298 rfl (by first | exact hm.1 | exact hm.2.1 _ _ rfl | assumption) rfl rfl rfl dX13_lowestColumn_35 rfl ?_
      refine jk_istore2 (q := 39) dX13_lowestColumn_38 rfl rfl rfl ?_
      refine jk_iload_n (q := 40) dX13_lowestColumn_39 rfl rfl ?_
      refine jk_iconst (q := 41) dX13_lowestColumn_40 rfl ?_
      refine jk_iadd (q := 42) dX13_lowestColumn_41 rfl ?_
      refine jk_istore3 (q := 43) dX13_lowestColumn_42 rfl rfl rfl ?_
      have L43 : ∀ k43 : Nat, k43 ≤ (md_Ds g q (g (156 + q) - 1) - md_Ds g q 0).toNat → jk_J G mX13_lowestColumn 43 [some (.ref m), some (jI q), some (jI (md_low g q (md_Ds g q 0) k43)), some (jI (md_Ds g q 0 + 1 + (k43 : Int)))] [] n t σ ρ 0 0 (md_Q m σ O n t ρ (md_q_lw g q).1 (jI (md_q_lw g q).2)) jk_no := by
        refine jk_loop _ (fun k43 hk43 ih43 => ?_)
        have hlb := md_low_bd g q (md_Ds g q 0) k43
        refine jk_iload_n (q := 44) dX13_lowestColumn_43 rfl rfl ?_
        refine jk_aload_n (q := 45) dX13_lowestColumn_44 rfl rfl ?_
        refine jk_iload_n (q := 46) dX13_lowestColumn_45 rfl rfl ?_
        refine jk_cV1p (q := 49) (c_X13_lastColumn hm (by first | exact hg | exact ((md_gr_ne _ _ _ ⟨by omega, by omega, by omega, by omega⟩).trans hg)) ⟨by omega, by omega⟩ ⟨by omega, by omega⟩) jm_X13_lastColumn jw_2302 rfl (by first | exact hm.1 | exact hm.2.1 _ _ rfl | assumption) rfl rfl rfl dX13_lowestColumn_46 rfl ?_
        refine jk_icmp_gt (q := 79) (q2 := 52) dX13_lowestColumn_49 rfl rfl (by first | decide | omega | exact jB_01 _) (by first | decide | omega | exact jB_01 _) (fun h3 => ?_) (fun h3 => ?_)
        · refine jk_aload_n (q := 80) dX13_lowestColumn_79 rfl rfl ?_
          refine jk_iload_n (q := 81) dX13_lowestColumn_80 rfl rfl ?_
          refine jk_cV1p (q := 84) (c_X13_done (O := O) hm (by first | exact ho | exact ((md_gr_ne _ _ _ ⟨by omega, by omega, by omega, by omega⟩).trans ho))) jm_X13_done jw_1941 rfl (by first | exact hm.1 | exact hm.2.1 _ _ rfl | assumption) rfl rfl rfl dX13_lowestColumn_81 rfl ?_
          exact jk_iret rfl dX13_lowestColumn_84 (by exact md_qi (k := 0) (v := (md_low g q (md_Ds g q 0) k43)) (by unfold md_q_lw; rw [if_neg (by simp [*]), if_neg (by assumption), show (md_Ds g q (g (156 + q) - 1) - md_Ds g q 0).toNat = k43 by omega]) (by first | exact md_post_th (md_like_rf hz hz1) | exact md_post_th (md_like_gr hi (md_like_rf hz hz1)) | exact md_post_th (md_like_wng hi hz hz1 q)))
        · refine jk_aload_n (q := 53) dX13_lowestColumn_52 rfl rfl ?_
          refine jk_iload_n (q := 54) dX13_lowestColumn_53 rfl rfl ?_
          refine jk_iload_n (q := 55) dX13_lowestColumn_54 rfl rfl ?_
          refine jk_cV2p (q := 58) (c_X13_offsetAt hm hg hi ⟨by omega, by omega⟩ ⟨by omega, by omega⟩ hx (by omega) ⟨by omega, by omega⟩) jm_X13_offsetAt jw_2310 rfl (by first | exact hm.1 | exact hm.2.1 _ _ rfl | assumption) rfl rfl rfl dX13_lowestColumn_55 rfl ?_
          refine jk_aload_n (q := 59) dX13_lowestColumn_58 rfl rfl ?_
          refine jk_iload_n (q := 60) dX13_lowestColumn_59 rfl rfl ?_
          refine jk_iload_n (q := 61) dX13_lowestColumn_60 rfl rfl ?_
          refine jk_cV2p (q := 64) (c_X13_offsetAt hm hg hi ⟨by omega, by omega⟩ ⟨by omega, by omega⟩ hx (by omega) ⟨by omega, by omega⟩) jm_X13_offsetAt jw_2310 rfl (by first | exact hm.1 | exact hm.2.1 _ _ rfl | assumption) rfl rfl rfl dX13_lowestColumn_61 rfl ?_
          have ho1 := md_off_bd hi (q := q) (c := md_Ds g q 0 + 1 + (k43 : Int)) ⟨by omega, by omega⟩ ⟨by omega, by omega⟩ hx (by omega) ⟨by omega, by omega⟩
          have ho2 := md_off_bd hi (q := q) (c := (md_low g q (md_Ds g q 0) k43)) ⟨by omega, by omega⟩ ⟨by omega, by omega⟩ hx (by omega) ⟨by omega, by omega⟩
          refine jk_icmp_ge (q := 71) (q2 := 67) dX13_lowestColumn_64 rfl rfl (by first | decide | omega | exact jB_01 _) (by first | decide | omega | exact jB_01 _) (fun h4 => ?_) (fun h4 => ?_)
          · refine jk_iload_n (q := 72) dX13_lowestColumn_71 rfl rfl ?_
            refine jk_istore2 (q := 73) dX13_lowestColumn_72 rfl rfl rfl ?_
            refine jk_iinc3 (q := 76) dX13_lowestColumn_73 rfl rfl rfl ?_
            refine jk_goto (q := 43) dX13_lowestColumn_76 rfl ?_
            refine jk_convl (ih43 (by omega)) (jk_loc rfl (jk_loc rfl (jk_loc (jk_li ?_) (jk_loc (jk_li (by omega)) rfl))))
            show (if _ then _ else _) = _
            first | rw [if_pos (by omega)] | rw [if_neg (by omega)]
          · refine jk_iload_n (q := 68) dX13_lowestColumn_67 rfl rfl ?_
            refine jk_goto (q := 72) dX13_lowestColumn_68 rfl ?_
            refine jk_istore2 (q := 73) dX13_lowestColumn_72 rfl rfl rfl ?_
            refine jk_iinc3 (q := 76) dX13_lowestColumn_73 rfl rfl rfl ?_
            refine jk_goto (q := 43) dX13_lowestColumn_76 rfl ?_
            refine jk_convl (ih43 (by omega)) (jk_loc rfl (jk_loc rfl (jk_loc (jk_li ?_) (jk_loc (jk_li (by omega)) rfl))))
            show (if _ then _ else _) = _
            first | rw [if_pos (by omega)] | rw [if_neg (by omega)]
      exact jk_convl (L43 0 (Nat.zero_le _)) (jk_loc rfl (jk_loc rfl (jk_loc rfl (jk_loc (jk_li (by omega)) rfl))))
    · refine jk_aload_n (q := 28) dX13_lowestColumn_27 rfl rfl ?_
      refine jk_iconst (q := 29) dX13_lowestColumn_28 rfl ?_
      refine jk_cV1p (q := 32) (c_X13_fails (O := O) hm (by first | exact ho | exact ((md_gr_ne _ _ _ ⟨by omega, by omega, by omega, by omega⟩).trans ho))) jm_X13_fails jw_1937 rfl (by first | exact hm.1 | exact hm.2.1 _ _ rfl | assumption) rfl rfl rfl dX13_lowestColumn_29 rfl ?_
      exact jk_iret rfl dX13_lowestColumn_32 (by exact md_qi (k := 2) (v := 0) (by unfold md_q_lw; simp [*]) (by first | exact md_post_th (md_like_rf hz hz1) | exact md_post_th (md_like_gr hi (md_like_rf hz hz1)) | exact md_post_th (md_like_wng hi hz hz1 q)))
  · refine jk_aload_n (q := 9) dX13_lowestColumn_8 rfl rfl ?_
    refine jk_iconst (q := 10) dX13_lowestColumn_9 rfl ?_
    refine jk_cV1p (q := 13) (c_X13_fails (O := O) hm (by first | exact ho | exact ((md_gr_ne _ _ _ ⟨by omega, by omega, by omega, by omega⟩).trans ho))) jm_X13_fails jw_1937 rfl (by first | exact hm.1 | exact hm.2.1 _ _ rfl | assumption) rfl rfl rfl dX13_lowestColumn_10 rfl ?_
    exact jk_iret rfl dX13_lowestColumn_13 (by exact md_qi (k := 1) (v := 0) (by unfold md_q_lw; simp [*]) (by first | exact md_post_th (md_like_rf hz hz1) | exact md_post_th (md_like_gr hi (md_like_rf hz hz1)) | exact md_post_th (md_like_wng hi hz hz1 q)))
end MD17
