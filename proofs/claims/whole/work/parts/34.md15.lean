section MD15
def md_abv (g : Int → Int) (x p : Int) : Bool := decide (0 < md_HT g x - md_HT g p ∨ (md_HT g x - md_HT g p = 0 ∧ x < p))
def md_wrs (g : Int → Int) (x l : Int) : Bool := decide (0 < md_abs (md_gap g x) - md_abs (md_gap g l) ∨ (md_abs (md_gap g x) - md_abs (md_gap g l) = 0 ∧ x < l))
theorem c_X13_isAbove {G : jk_G} {n : Nat} {t : jk_T} {σ : jk_I} {ρ : jk_P} {m : Nat} {g : Int → Int} {B : Int} {x p : Int} (hm : md_at t ρ m) (hg : σ (m + 2) = g) (hi : md_inv B g) (hr : σ (m + 16) = md_Ro g) (hv : σ (m + 18) = (md_fin g).2) (hx : 0 ≤ x ∧ x < 10) (hp : 0 ≤ p ∧ p < 10) (hhx : md_hi g (md_Ro g) x = true) (hhp : md_hi g (md_Ro g) p = true) : jk_K G yX13_isAbove mX13_isAbove 0 0 [.ref m, jI x, jI p] n t σ ρ (jk_q (some (jI (jB (md_abv g x p)))) n t σ ρ) jk_no := by
  refine jk_entryB (ls := [some (.ref m), some (jI x), some (jI p), none]) jm_X13_isAbove.1 rfl rfl rfl ?_
  have hbx := md_HT_bd hi hx hhx
  have hbp := md_HT_bd hi hp hhp
  refine jk_aload_n (q := 1) dX13_isAbove_0 rfl rfl ?_
  refine jk_iload_n (q := 2) dX13_isAbove_1 rfl rfl ?_
  refine jk_cV1p (q := 5) (c_X13_heightOf (r := md_Ro g) (V := (md_fin g).2) hm hg hi hr (md_kr_tr hi 50).2 hv hx (md_hi_t hhx)) jm_X13_heightOf jw_2155 rfl (by first | exact hm.1 | exact hm.2.1 _ _ rfl | assumption) rfl rfl rfl dX13_isAbove_2 rfl ?_
  refine jk_aload_n (q := 6) dX13_isAbove_5 rfl rfl ?_
  refine jk_iload_n (q := 7) dX13_isAbove_6 rfl rfl ?_
  refine jk_cV1p (q := 10) (c_X13_heightOf (r := md_Ro g) (V := (md_fin g).2) hm hg hi hr (md_kr_tr hi 50).2 hv hp (md_hi_t hhp)) jm_X13_heightOf jw_2155 rfl (by first | exact hm.1 | exact hm.2.1 _ _ rfl | assumption) rfl rfl rfl dX13_isAbove_7 rfl ?_
  rw [show md_ht g (md_Ro g) (md_fin g).2 x = md_HT g x from rfl, show md_ht g (md_Ro g) (md_fin g).2 p = md_HT g p from rfl]
  refine jk_isub (q := 11) dX13_isAbove_10 rfl ?_
  refine jk_istore3 (q := 12) dX13_isAbove_11 rfl rfl rfl ?_
  refine jk_iload_n (q := 13) dX13_isAbove_12 rfl rfl ?_
  refine jk_if_gt (q := 25) (q2 := 16) dX13_isAbove_13 rfl rfl (by first | decide | omega | exact jB_01 _) (fun h1 => ?_) (fun h1 => ?_)
  · refine jk_iconst (q := 26) dX13_isAbove_25 rfl ?_
    refine jk_goto (q := 30) dX13_isAbove_26 rfl ?_
    exact jk_zret rfl (by first | decide | omega | exact jB_01 _) dX13_isAbove_30 (by first | (refine jk_qT ?_; unfold md_abv; exact decide_eq_true (by first | exact Or.inl (by omega) | exact Or.inr ⟨by omega, by omega⟩)) | (refine jk_qF ?_; unfold md_abv; exact decide_eq_false (by intro hc; omega)))
  · refine jk_iload_n (q := 17) dX13_isAbove_16 rfl rfl ?_
    refine jk_if_ne (q := 29) (q2 := 20) dX13_isAbove_17 rfl rfl (by first | decide | omega | exact jB_01 _) (fun h2 => ?_) (fun h2 => ?_)
    · refine jk_iconst (q := 30) dX13_isAbove_29 rfl ?_
      exact jk_zret rfl (by first | decide | omega | exact jB_01 _) dX13_isAbove_30 (by first | (refine jk_qT ?_; unfold md_abv; exact decide_eq_true (by first | exact Or.inl (by omega) | exact Or.inr ⟨by omega, by omega⟩)) | (refine jk_qF ?_; unfold md_abv; exact decide_eq_false (by intro hc; omega)))
    · refine jk_iload_n (q := 21) dX13_isAbove_20 rfl rfl ?_
      refine jk_iload_n (q := 22) dX13_isAbove_21 rfl rfl ?_
      refine jk_icmp_ge (q := 29) (q2 := 25) dX13_isAbove_22 rfl rfl (by first | decide | omega | exact jB_01 _) (by first | decide | omega | exact jB_01 _) (fun h3 => ?_) (fun h3 => ?_)
      · refine jk_iconst (q := 30) dX13_isAbove_29 rfl ?_
        exact jk_zret rfl (by first | decide | omega | exact jB_01 _) dX13_isAbove_30 (by first | (refine jk_qT ?_; unfold md_abv; exact decide_eq_true (by first | exact Or.inl (by omega) | exact Or.inr ⟨by omega, by omega⟩)) | (refine jk_qF ?_; unfold md_abv; exact decide_eq_false (by intro hc; omega)))
      · refine jk_iconst (q := 26) dX13_isAbove_25 rfl ?_
        refine jk_goto (q := 30) dX13_isAbove_26 rfl ?_
        exact jk_zret rfl (by first | decide | omega | exact jB_01 _) dX13_isAbove_30 (by first | (refine jk_qT ?_; unfold md_abv; exact decide_eq_true (by first | exact Or.inl (by omega) | exact Or.inr ⟨by omega, by omega⟩)) | (refine jk_qF ?_; unfold md_abv; exact decide_eq_false (by intro hc; omega)))
theorem c_X13_isWorse {G : jk_G} {n : Nat} {t : jk_T} {σ : jk_I} {ρ : jk_P} {m : Nat} {g : Int → Int} {B : Int} {x l : Int} (hm : md_at t ρ m) (hg : σ (m + 2) = g) (hi : md_inv B g) (hx : 0 ≤ x ∧ x < 16) (hl : 0 ≤ l ∧ l < 16) : jk_K G yX13_isWorse mX13_isWorse 0 0 [.ref m, jI x, jI l] n t σ ρ (jk_q (some (jI (jB (md_wrs g x l)))) n t σ ρ) jk_no := by
  refine jk_entryB (ls := [some (.ref m), some (jI x), some (jI l), none]) jm_X13_isWorse.1 rfl rfl rfl ?_
  obtain ⟨x1, x2, x3, x4, x5, x6, x7, x8⟩ := md_inv_ln hi hx
  obtain ⟨l1, l2, l3, l4, l5, l6, l7, l8⟩ := md_inv_ln hi hl
  have hgx : -19998 ≤ md_gap g x ∧ md_gap g x ≤ 19998 := by unfold md_gap; omega
  have hgl : -19998 ≤ md_gap g l ∧ md_gap g l ≤ 19998 := by unfold md_gap; omega
  have hax : 0 ≤ md_abs (md_gap g x) ∧ md_abs (md_gap g x) ≤ 19998 := by unfold md_abs; split <;> omega
  have hal : 0 ≤ md_abs (md_gap g l) ∧ md_abs (md_gap g l) ≤ 19998 := by unfold md_abs; split <;> omega
  refine jk_aload_n (q := 1) dX13_isWorse_0 rfl rfl ?_
  refine jk_iload_n (q := 2) dX13_isWorse_1 rfl rfl ?_
  refine jk_cV1p (q := 5) (c_X13_gapOf hm hg hx) jm_X13_gapOf jw_1994 rfl (by first | exact hm.1 | exact hm.2.1 _ _ rfl | assumption) rfl rfl rfl dX13_isWorse_2 rfl ?_
  refine jk_cS1p (q := 8) (c_X13_size (by omega)) jm_X13_size jw_2014 rfl rfl rfl dX13_isWorse_5 rfl ?_
  refine jk_aload_n (q := 9) dX13_isWorse_8 rfl rfl ?_
  refine jk_iload_n (q := 10) dX13_isWorse_9 rfl rfl ?_
  refine jk_cV1p (q := 13) (c_X13_gapOf hm hg hl) jm_X13_gapOf jw_1994 rfl (by first | exact hm.1 | exact hm.2.1 _ _ rfl | assumption) rfl rfl rfl dX13_isWorse_10 rfl ?_
  refine jk_cS1p (q := 16) (c_X13_size (by omega)) jm_X13_size jw_2014 rfl rfl rfl dX13_isWorse_13 rfl ?_
  refine jk_isub (q := 17) dX13_isWorse_16 rfl ?_
  refine jk_istore3 (q := 18) dX13_isWorse_17 rfl rfl rfl ?_
  refine jk_iload_n (q := 19) dX13_isWorse_18 rfl rfl ?_
  refine jk_if_gt (q := 31) (q2 := 22) dX13_isWorse_19 rfl rfl (by first | decide | omega | exact jB_01 _) (fun h1 => ?_) (fun h1 => ?_)
  · refine jk_iconst (q := 32) dX13_isWorse_31 rfl ?_
    refine jk_goto (q := 36) dX13_isWorse_32 rfl ?_
    exact jk_zret rfl (by first | decide | omega | exact jB_01 _) dX13_isWorse_36 (by first | (refine jk_qT ?_; unfold md_wrs; exact decide_eq_true (by first | exact Or.inl (by omega) | exact Or.inr ⟨by omega, by omega⟩)) | (refine jk_qF ?_; unfold md_wrs; exact decide_eq_false (by intro hc; omega)))
  · refine jk_iload_n (q := 23) dX13_isWorse_22 rfl rfl ?_
    refine jk_if_ne (q := 35) (q2 := 26) dX13_isWorse_23 rfl rfl (by first | decide | omega | exact jB_01 _) (fun h2 => ?_) (fun h2 => ?_)
    · refine jk_iconst (q := 36) dX13_isWorse_35 rfl ?_
      exact jk_zret rfl (by first | decide | omega | exact jB_01 _) dX13_isWorse_36 (by first | (refine jk_qT ?_; unfold md_wrs; exact decide_eq_true (by first | exact Or.inl (by omega) | exact Or.inr ⟨by omega, by omega⟩)) | (refine jk_qF ?_; unfold md_wrs; exact decide_eq_false (by intro hc; omega)))
    · refine jk_iload_n (q := 27) dX13_isWorse_26 rfl rfl ?_
      refine jk_iload_n (q := 28) dX13_isWorse_27 rfl rfl ?_
      refine jk_icmp_ge (q := 35) (q2 := 31) dX13_isWorse_28 rfl rfl (by first | decide | omega | exact jB_01 _) (by first | decide | omega | exact jB_01 _) (fun h3 => ?_) (fun h3 => ?_)
      · refine jk_iconst (q := 36) dX13_isWorse_35 rfl ?_
        exact jk_zret rfl (by first | decide | omega | exact jB_01 _) dX13_isWorse_36 (by first | (refine jk_qT ?_; unfold md_wrs; exact decide_eq_true (by first | exact Or.inl (by omega) | exact Or.inr ⟨by omega, by omega⟩)) | (refine jk_qF ?_; unfold md_wrs; exact decide_eq_false (by intro hc; omega)))
      · refine jk_iconst (q := 32) dX13_isWorse_31 rfl ?_
        refine jk_goto (q := 36) dX13_isWorse_32 rfl ?_
        exact jk_zret rfl (by first | decide | omega | exact jB_01 _) dX13_isWorse_36 (by first | (refine jk_qT ?_; unfold md_wrs; exact decide_eq_true (by first | exact Or.inl (by omega) | exact Or.inr ⟨by omega, by omega⟩)) | (refine jk_qF ?_; unfold md_wrs; exact decide_eq_false (by intro hc; omega)))
theorem md_sumB2 (P : Int → Bool) (k : Nat) : 0 ≤ jk_sum (fun j => jB (P j)) k ∧ jk_sum (fun j => jB (P j)) k ≤ (k : Int) := md_sumB P k
def md_hcnt (g : Int → Int) (p : Int) : Int := jk_sum (fun x => jB (md_hi g (md_Ro g) x && md_abv g x p)) (g 0).toNat
def md_bhP (g : Int → Int) (r : Int) : Int → Bool := fun p => md_hi g (md_Ro g) p && decide (md_hcnt g p = r)
def md_q_bh (g : Int → Int) (r : Int) : Int × Int := if jk_fnd (md_bhP g r) (g 0).toNat = -1 then (1, 0) else (0, jk_fnd (md_bhP g r) (g 0).toNat)
def md_lcnt (g : Int → Int) (l : Int) : Int := jk_sum (fun x => jB (decide (g (88 + x) = 1) && md_wrs g x l)) (g 1).toNat
def md_ldP (g : Int → Int) (r : Int) : Int → Bool := fun l => decide (g (88 + l) = 1) && decide (md_lcnt g l = r)
def md_q_ld (g : Int → Int) (r : Int) : Int × Int := if jk_fnd (md_ldP g r) (g 1).toNat = -1 then (1, 0) else (0, jk_fnd (md_ldP g r) (g 1).toNat)
theorem c_X13_benchmarkByHeight {G : jk_G} {n : Nat} {t : jk_T} {σ : jk_I} {ρ : jk_P} {m : Nat} {g O : Int → Int} {B : Int} {r : Int} (hm : md_at t ρ m) (hg : σ (m + 2) = g) (hi : md_inv B g) (ho : σ m = O) (hz : md_z σ m) (hz1 : md_z10 σ m) (hr : jk_in r) : jk_K G yX13_benchmarkByHeight mX13_benchmarkByHeight 0 0 [.ref m, jI r] n t σ ρ (md_Q m σ O n t ρ (md_q_bh g r).1 (jI (md_q_bh g r).2)) jk_no := by
  refine jk_entryB (ls := [some (.ref m), some (jI r), none, none, none]) jm_X13_benchmarkByHeight.1 rfl rfl rfl ?_
  obtain ⟨i0, i1, i2, i3, -⟩ := id hi
  refine jk_aload_n (q := 1) dX13_benchmarkByHeight_0 rfl rfl ?_
  refine jk_cV0v (q := 4) (c_X13_grows hm (by first | exact hg | exact (jk_row_ne _ _ (by omega)).trans hg) hi (by first | exact hz | exact md_z_row hz _ ⟨by omega, by omega, by omega⟩) (by first | exact hz1 | exact md_z10_row hz1 _ ⟨by omega, by omega, by omega, by omega⟩)) jm_X13_grows jw_2036 rfl (by first | exact hm.1 | exact hm.2.1 _ _ rfl | assumption) rfl rfl rfl dX13_benchmarkByHeight_1 rfl ?_
  refine jk_iconst (q := 5) dX13_benchmarkByHeight_4 rfl ?_
  refine jk_istore2 (q := 6) dX13_benchmarkByHeight_5 rfl rfl rfl ?_
  have L6 : ∀ k6 : Nat, k6 ≤ (g 0).toNat → (hf : jk_fnd (md_bhP g r) k6 = -1) → jk_J G mX13_benchmarkByHeight 6 [some (.ref m), some (jI r), some (jI (k6 : Int)), none, none] [] n t (md_gr σ m g) ρ 0 0 (md_Q m σ O n t ρ (md_q_bh g r).1 (jI (md_q_bh g r).2)) jk_no := by
    refine jk_loop _ (fun k6 hk6 ih6 => ?_)
    intro  hf
    refine jk_iload_n (q := 7) dX13_benchmarkByHeight_6 rfl rfl ?_
    refine jk_aload_n (q := 8) dX13_benchmarkByHeight_7 rfl rfl ?_
    refine jk_getA (q := 11) (k := 13) 0 0 rfl (by first | exact hm.1 | exact hm.2.1 _ _ rfl | assumption) (by first | exact hm.2.2 _ _ rfl | assumption) rfl rfl jw_1848 dX13_benchmarkByHeight_8 rfl ?_
    refine jk_iconst (q := 12) dX13_benchmarkByHeight_11 rfl ?_
    refine jk_ialdR (q := 13) (by first | exact hm.1 | exact hm.2.1 _ _ rfl | assumption) (by first | exact jk_row_same _ _ _ | exact hg | exact ho | exact (md_gr_at _ m g).1 | exact (md_gr_at _ m g).2.1 | exact (md_gr_at _ m g).2.2.1 | exact (md_gr_at _ m g).2.2.2 | exact ((md_gr_ne _ _ _ ⟨by omega, by omega, by omega, by omega⟩).trans hg) | exact ((md_gr_ne _ _ _ ⟨by omega, by omega, by omega, by omega⟩).trans ho) | exact ((md_gr_ne _ _ _ ⟨by omega, by omega, by omega, by omega⟩).trans (jk_row_same _ _ _)) | (rewrite [jk_row_ne _ _ (by omega)]; first | exact jk_row_same _ _ _ | exact hg | exact ho | exact (md_gr_at _ m g).1 | exact (md_gr_at _ m g).2.1 | exact (md_gr_at _ m g).2.2.1 | exact (md_gr_at _ m g).2.2.2 | exact ((md_gr_ne _ _ _ ⟨by omega, by omega, by omega, by omega⟩).trans hg) | exact ((md_gr_ne _ _ _ ⟨by omega, by omega, by omega, by omega⟩).trans ho) | exact ((md_gr_ne _ _ _ ⟨by omega, by omega, by omega, by omega⟩).trans (jk_row_same _ _ _)) | (rewrite [jk_row_ne _ _ (by omega)]; first | exact jk_row_same _ _ _ | exact hg | exact ho | exact (md_gr_at _ m g).1 | exact (md_gr_at _ m g).2.1 | exact (md_gr_at _ m g).2.2.1 | exact (md_gr_at _ m g).2.2.2 | exact ((md_gr_ne _ _ _ ⟨by omega, by omega, by omega, by omega⟩).trans hg) | exact ((md_gr_ne _ _ _ ⟨by omega, by omega, by omega, by omega⟩).trans ho) | exact ((md_gr_ne _ _ _ ⟨by omega, by omega, by omega, by omega⟩).trans (jk_row_same _ _ _)) | (rewrite [jk_row_ne _ _ (by omega)]; first | exact jk_row_same _ _ _ | exact hg | exact ho | exact (md_gr_at _ m g).1 | exact (md_gr_at _ m g).2.1 | exact (md_gr_at _ m g).2.2.1 | exact (md_gr_at _ m g).2.2.2 | exact ((md_gr_ne _ _ _ ⟨by omega, by omega, by omega, by omega⟩).trans hg) | exact ((md_gr_ne _ _ _ ⟨by omega, by omega, by omega, by omega⟩).trans ho) | exact ((md_gr_ne _ _ _ ⟨by omega, by omega, by omega, by omega⟩).trans (jk_row_same _ _ _)) | (rewrite [jk_row_ne _ _ (by omega)]; first | exact hg | exact ho | exact (md_gr_at _ m g).1 | exact (md_gr_at _ m g).2.1 | exact (md_gr_at _ m g).2.2.1 | exact (md_gr_at _ m g).2.2.2 | exact ((md_gr_ne _ _ _ ⟨by omega, by omega, by omega, by omega⟩).trans hg) | exact ((md_gr_ne _ _ _ ⟨by omega, by omega, by omega, by omega⟩).trans ho) | exact ((md_gr_ne _ _ _ ⟨by omega, by omega, by omega, by omega⟩).trans (jk_row_same _ _ _)) | rfl))))) (by first | decide | omega | exact jB_01 _) dX13_benchmarkByHeight_12 rfl ?_
    refine jk_icmp_ge (q := 98) (q2 := 16) dX13_benchmarkByHeight_13 rfl rfl (by first | decide | omega | exact jB_01 _) (by first | decide | omega | exact jB_01 _) (fun h1 => ?_) (fun h1 => ?_)
    · refine jk_aload_n (q := 99) dX13_benchmarkByHeight_98 rfl rfl ?_
      refine jk_iconst (q := 100) dX13_benchmarkByHeight_99 rfl ?_
      refine jk_cV1p (q := 103) (c_X13_fails (O := O) hm (by first | exact ho | exact ((md_gr_ne _ _ _ ⟨by omega, by omega, by omega, by omega⟩).trans ho))) jm_X13_fails jw_1937 rfl (by first | exact hm.1 | exact hm.2.1 _ _ rfl | assumption) rfl rfl rfl dX13_benchmarkByHeight_100 rfl ?_
      exact jk_iret rfl dX13_benchmarkByHeight_103 (by exact md_qi (k := 1) (v := 0) (by unfold md_q_bh; rw [show (g 0).toNat = k6 by omega, if_pos hf]) (by first | exact md_post_th (md_like_rf hz hz1) | exact md_post_th (md_like_gr hi (md_like_rf hz hz1)) | exact md_post_gr hi (md_post_th (md_like_rf hz hz1))))
    · refine jk_iconst (q := 17) dX13_benchmarkByHeight_16 rfl ?_
      refine jk_istore3 (q := 18) dX13_benchmarkByHeight_17 rfl rfl rfl ?_
      refine jk_iconst (q := 19) dX13_benchmarkByHeight_18 rfl ?_
      refine jk_istore4 (q := 21) dX13_benchmarkByHeight_19 rfl rfl rfl ?_
      have L21 : ∀ k21 : Nat, k21 ≤ (g 0).toNat → jk_J G mX13_benchmarkByHeight 21 [some (.ref m), some (jI r), some (jI (k6 : Int)), some (jI (jk_sum (fun x => jB (md_hi g (md_Ro g) x && md_abv g x (k6 : Int))) k21)), some (jI (k21 : Int))] [] n t (md_gr σ m g) ρ 0 0 (md_Q m σ O n t ρ (md_q_bh g r).1 (jI (md_q_bh g r).2)) jk_no := by
        refine jk_loop _ (fun k21 hk21 ih21 => ?_)
        refine jk_iload (q := 23) dX13_benchmarkByHeight_21 rfl rfl ?_
        refine jk_aload_n (q := 24) dX13_benchmarkByHeight_23 rfl rfl ?_
        refine jk_getA (q := 27) (k := 13) 0 0 rfl (by first | exact hm.1 | exact hm.2.1 _ _ rfl | assumption) (by first | exact hm.2.2 _ _ rfl | assumption) rfl rfl jw_1848 dX13_benchmarkByHeight_24 rfl ?_
        refine jk_iconst (q := 28) dX13_benchmarkByHeight_27 rfl ?_
        refine jk_ialdR (q := 29) (by first | exact hm.1 | exact hm.2.1 _ _ rfl | assumption) (by first | exact jk_row_same _ _ _ | exact hg | exact ho | exact (md_gr_at _ m g).1 | exact (md_gr_at _ m g).2.1 | exact (md_gr_at _ m g).2.2.1 | exact (md_gr_at _ m g).2.2.2 | exact ((md_gr_ne _ _ _ ⟨by omega, by omega, by omega, by omega⟩).trans hg) | exact ((md_gr_ne _ _ _ ⟨by omega, by omega, by omega, by omega⟩).trans ho) | exact ((md_gr_ne _ _ _ ⟨by omega, by omega, by omega, by omega⟩).trans (jk_row_same _ _ _)) | (rewrite [jk_row_ne _ _ (by omega)]; first | exact jk_row_same _ _ _ | exact hg | exact ho | exact (md_gr_at _ m g).1 | exact (md_gr_at _ m g).2.1 | exact (md_gr_at _ m g).2.2.1 | exact (md_gr_at _ m g).2.2.2 | exact ((md_gr_ne _ _ _ ⟨by omega, by omega, by omega, by omega⟩).trans hg) | exact ((md_gr_ne _ _ _ ⟨by omega, by omega, by omega, by omega⟩).trans ho) | exact ((md_gr_ne _ _ _ ⟨by omega, by omega, by omega, by omega⟩).trans (jk_row_same _ _ _)) | (rewrite [jk_row_ne _ _ (by omega)]; first | exact jk_row_same _ _ _ | exact hg | exact ho | exact (md_gr_at _ m g).1 | exact (md_gr_at _ m g).2.1 | exact (md_gr_at _ m g).2.2.1 | exact (md_gr_at _ m g).2.2.2 | exact ((md_gr_ne _ _ _ ⟨by omega, by omega, by omega, by omega⟩).trans hg) | exact ((md_gr_ne _ _ _ ⟨by omega, by omega, by omega, by omega⟩).trans ho) | exact ((md_gr_ne _ _ _ ⟨by omega, by omega, by omega, by omega⟩).trans (jk_row_same _ _ _)) | (rewrite [jk_row_ne _ _ (by omega)]; first | exact jk_row_same _ _ _ | exact hg | exact ho | exact (md_gr_at _ m g).1 | exact (md_gr_at _ m g).2.1 | exact (md_gr_at _ m g).2.2.1 | exact (md_gr_at _ m g).2.2.2 | exact ((md_gr_ne _ _ _ ⟨by omega, by omega, by omega, by omega⟩).trans hg) | exact ((md_gr_ne _ _ _ ⟨by omega, by omega, by omega, by omega⟩).trans ho) | exact ((md_gr_ne _ _ _ ⟨by omega, by omega, by omega, by omega⟩).trans (jk_row_same _ _ _)) | (rewrite [jk_row_ne _ _ (by omega)]; first | exact hg | exact ho | exact (md_gr_at _ m g).1 | exact (md_gr_at _ m g).2.1 | exact (md_gr_at _ m g).2.2.1 | exact (md_gr_at _ m g).2.2.2 | exact ((md_gr_ne _ _ _ ⟨by omega, by omega, by omega, by omega⟩).trans hg) | exact ((md_gr_ne _ _ _ ⟨by omega, by omega, by omega, by omega⟩).trans ho) | exact ((md_gr_ne _ _ _ ⟨by omega, by omega, by omega, by omega⟩).trans (jk_row_same _ _ _)) | rfl))))) (by first | decide | omega | exact jB_01 _) dX13_benchmarkByHeight_28 rfl ?_
        refine jk_icmp_ge (q := 73) (q2 := 32) dX13_benchmarkByHeight_29 rfl rfl (by first | decide | omega | exact jB_01 _) (by first | decide | omega | exact jB_01 _) (fun h2 => ?_) (fun h2 => ?_)
        · refine jk_aload_n (q := 74) dX13_benchmarkByHeight_73 rfl rfl ?_
          refine jk_iload_n (q := 75) dX13_benchmarkByHeight_74 rfl rfl ?_
          refine jk_cV1p (q := 78) (c_X13_isHigh (r := md_Ro g) hm (by first | exact ((md_gr_ne _ _ _ ⟨by omega, by omega, by omega, by omega⟩).trans hg) | exact (md_gr_ne _ _ _ ⟨by omega, by omega, by omega, by omega⟩).trans ((jk_row_ne _ _ (by omega)).trans hg)) hi (md_gr_at _ m g).2.1 (md_kr_tr hi 50).2 ⟨by omega, by omega⟩) jm_X13_isHigh jw_2143 rfl (by first | exact hm.1 | exact hm.2.1 _ _ rfl | assumption) rfl rfl rfl dX13_benchmarkByHeight_75 rfl ?_
          refine jk_ifB_eq (q := 92) (q2 := 81) dX13_benchmarkByHeight_78 rfl rfl (fun h3 => ?_) (fun h3 => ?_)
          · refine jk_iinc2 (q := 95) dX13_benchmarkByHeight_92 rfl rfl rfl ?_
            refine jk_goto (q := 6) dX13_benchmarkByHeight_95 rfl ?_
            refine jk_convw (ih6 (by omega) (jk_fnd_S hf (by
              unfold md_bhP md_hcnt
              first
              | (rw [show md_hi g (md_Ro g) (k6 : Int) = false by assumption]; rfl)
              | (rw [show (g 0).toNat = k21 by omega, show md_hi g (md_Ro g) (k6 : Int) = true by assumption]; simp [*])))) (jk_wkS rfl (jk_wkS rfl (jk_wkS rfl (jk_wkN (jk_wkN jk_wk0)))))
          · have hcs := md_sumB (fun x => md_hi g (md_Ro g) x && md_abv g x (k6 : Int)) k21
            refine jk_iload_n (q := 82) dX13_benchmarkByHeight_81 rfl rfl ?_
            refine jk_iload_n (q := 83) dX13_benchmarkByHeight_82 rfl rfl ?_
            refine jk_icmp_ne (q := 92) (q2 := 86) dX13_benchmarkByHeight_83 rfl rfl (by first | decide | omega | exact jB_01 _) (by first | decide | omega | exact jB_01 _) (fun h4 => ?_) (fun h4 => ?_)
            · refine jk_iinc2 (q := 95) dX13_benchmarkByHeight_92 rfl rfl rfl ?_
              refine jk_goto (q := 6) dX13_benchmarkByHeight_95 rfl ?_
              refine jk_convw (ih6 (by omega) (jk_fnd_S hf (by
                unfold md_bhP md_hcnt
                first
                | (rw [show md_hi g (md_Ro g) (k6 : Int) = false by assumption]; rfl)
                | (rw [show (g 0).toNat = k21 by omega, show md_hi g (md_Ro g) (k6 : Int) = true by assumption]; simp [*])))) (jk_wkS rfl (jk_wkS rfl (jk_wkS rfl (jk_wkN (jk_wkN jk_wk0)))))
            · refine jk_aload_n (q := 87) dX13_benchmarkByHeight_86 rfl rfl ?_
              refine jk_iload_n (q := 88) dX13_benchmarkByHeight_87 rfl rfl ?_
              refine jk_cV1p (q := 91) (c_X13_done (O := O) hm (by first | exact ho | exact ((md_gr_ne _ _ _ ⟨by omega, by omega, by omega, by omega⟩).trans ho))) jm_X13_done jw_1941 rfl (by first | exact hm.1 | exact hm.2.1 _ _ rfl | assumption) rfl rfl rfl dX13_benchmarkByHeight_88 rfl ?_
              exact jk_iret rfl dX13_benchmarkByHeight_91 (by first | exact absurd ((by assumption : md_hi g (md_Ro g) (k6 : Int) = true).symm.trans (by assumption : md_hi g (md_Ro g) (k6 : Int) = false)) (by decide) | (have h9 := jk_fnd_hit hf (by unfold md_bhP md_hcnt; rw [show (g 0).toNat = k21 by omega]; simp [*]) (g 0).toNat (by omega); exact md_qi (k := 0) (v := (k6 : Int)) (by unfold md_q_bh; rw [h9, if_neg (by omega)]) (by first | exact md_post_th (md_like_rf hz hz1) | exact md_post_th (md_like_gr hi (md_like_rf hz hz1)) | exact md_post_gr hi (md_post_th (md_like_rf hz hz1)))))
        · refine jk_aload_n (q := 33) dX13_benchmarkByHeight_32 rfl rfl ?_
          refine jk_iload_n (q := 34) dX13_benchmarkByHeight_33 rfl rfl ?_
          refine jk_cV1p (q := 37) (c_X13_isHigh (r := md_Ro g) hm (by first | exact ((md_gr_ne _ _ _ ⟨by omega, by omega, by omega, by omega⟩).trans hg) | exact (md_gr_ne _ _ _ ⟨by omega, by omega, by omega, by omega⟩).trans ((jk_row_ne _ _ (by omega)).trans hg)) hi (md_gr_at _ m g).2.1 (md_kr_tr hi 50).2 ⟨by omega, by omega⟩) jm_X13_isHigh jw_2143 rfl (by first | exact hm.1 | exact hm.2.1 _ _ rfl | assumption) rfl rfl rfl dX13_benchmarkByHeight_34 rfl ?_
          refine jk_ifB_eq (q := 73) (q2 := 40) dX13_benchmarkByHeight_37 rfl rfl (fun h5 => ?_) (fun h5 => ?_)
          · refine jk_aload_n (q := 74) dX13_benchmarkByHeight_73 rfl rfl ?_
            refine jk_iload_n (q := 75) dX13_benchmarkByHeight_74 rfl rfl ?_
            refine jk_cV1p (q := 78) (c_X13_isHigh (r := md_Ro g) hm (by first | exact ((md_gr_ne _ _ _ ⟨by omega, by omega, by omega, by omega⟩).trans hg) | exact (md_gr_ne _ _ _ ⟨by omega, by omega, by omega, by omega⟩).trans ((jk_row_ne _ _ (by omega)).trans hg)) hi (md_gr_at _ m g).2.1 (md_kr_tr hi 50).2 ⟨by omega, by omega⟩) jm_X13_isHigh jw_2143 rfl (by first | exact hm.1 | exact hm.2.1 _ _ rfl | assumption) rfl rfl rfl dX13_benchmarkByHeight_75 rfl ?_
            refine jk_ifB_eq (q := 92) (q2 := 81) dX13_benchmarkByHeight_78 rfl rfl (fun h6 => ?_) (fun h6 => ?_)
            · refine jk_iinc2 (q := 95) dX13_benchmarkByHeight_92 rfl rfl rfl ?_
              refine jk_goto (q := 6) dX13_benchmarkByHeight_95 rfl ?_
              refine jk_convw (ih6 (by omega) (jk_fnd_S hf (by
                unfold md_bhP md_hcnt
                first
                | (rw [show md_hi g (md_Ro g) (k6 : Int) = false by assumption]; rfl)
                | (rw [show (g 0).toNat = k21 by omega, show md_hi g (md_Ro g) (k6 : Int) = true by assumption]; simp [*])))) (jk_wkS rfl (jk_wkS rfl (jk_wkS rfl (jk_wkN (jk_wkN jk_wk0)))))
            · have hcs := md_sumB (fun x => md_hi g (md_Ro g) x && md_abv g x (k6 : Int)) k21
              refine jk_iload_n (q := 82) dX13_benchmarkByHeight_81 rfl rfl ?_
              refine jk_iload_n (q := 83) dX13_benchmarkByHeight_82 rfl rfl ?_
              refine jk_icmp_ne (q := 92) (q2 := 86) dX13_benchmarkByHeight_83 rfl rfl (by first | decide | omega | exact jB_01 _) (by first | decide | omega | exact jB_01 _) (fun h7 => ?_) (fun h7 => ?_)
              · refine jk_iinc2 (q := 95) dX13_benchmarkByHeight_92 rfl rfl rfl ?_
                refine jk_goto (q := 6) dX13_benchmarkByHeight_95 rfl ?_
                refine jk_convw (ih6 (by omega) (jk_fnd_S hf (by
                  unfold md_bhP md_hcnt
                  first
                  | (rw [show md_hi g (md_Ro g) (k6 : Int) = false by assumption]; rfl)
                  | (rw [show (g 0).toNat = k21 by omega, show md_hi g (md_Ro g) (k6 : Int) = true by assumption]; simp [*])))) (jk_wkS rfl (jk_wkS rfl (jk_wkS rfl (jk_wkN (jk_wkN jk_wk0)))))
              · refine jk_aload_n (q := 87) dX13_benchmarkByHeight_86 rfl rfl ?_
                refine jk_iload_n (q := 88) dX13_benchmarkByHeight_87 rfl rfl ?_
                refine jk_cV1p (q := 91) (c_X13_done (O := O) hm (by first | exact ho | exact ((md_gr_ne _ _ _ ⟨by omega, by omega, by omega, by omega⟩).trans ho))) jm_X13_done jw_1941 rfl (by first | exact hm.1 | exact hm.2.1 _ _ rfl | assumption) rfl rfl rfl dX13_benchmarkByHeight_88 rfl ?_
                exact jk_iret rfl dX13_benchmarkByHeight_91 (by first | exact absurd ((by assumption : md_hi g (md_Ro g) (k6 : Int) = true).symm.trans (by assumption : md_hi g (md_Ro g) (k6 : Int) = false)) (by decide) | (have h9 := jk_fnd_hit hf (by unfold md_bhP md_hcnt; rw [show (g 0).toNat = k21 by omega]; simp [*]) (g 0).toNat (by omega); exact md_qi (k := 0) (v := (k6 : Int)) (by unfold md_q_bh; rw [h9, if_neg (by omega)]) (by first | exact md_post_th (md_like_rf hz hz1) | exact md_post_th (md_like_gr hi (md_like_rf hz hz1)) | exact md_post_gr hi (md_post_th (md_like_rf hz hz1)))))
          · refine jk_iload_n (q := 41) dX13_benchmarkByHeight_40 rfl rfl ?_
            refine jk_aload_n (q := 42) dX13_benchmarkByHeight_41 rfl rfl ?_
            refine jk_iload (q := 44) dX13_benchmarkByHeight_42 rfl rfl ?_
            refine jk_cV1p (q := 47) (c_X13_isHigh (r := md_Ro g) hm (by first | exact ((md_gr_ne _ _ _ ⟨by omega, by omega, by omega, by omega⟩).trans hg) | exact (md_gr_ne _ _ _ ⟨by omega, by omega, by omega, by omega⟩).trans ((jk_row_ne _ _ (by omega)).trans hg)) hi (md_gr_at _ m g).2.1 (md_kr_tr hi 50).2 ⟨by omega, by omega⟩) jm_X13_isHigh jw_2143 rfl (by first | exact hm.1 | exact hm.2.1 _ _ rfl | assumption) rfl rfl rfl dX13_benchmarkByHeight_44 rfl ?_
            refine jk_ifB_eq (q := 64) (q2 := 50) dX13_benchmarkByHeight_47 rfl rfl (fun h8 => ?_) (fun h8 => ?_)
            · refine jk_iconst (q := 65) dX13_benchmarkByHeight_64 rfl ?_
              refine jk_iadd (q := 66) dX13_benchmarkByHeight_65 rfl ?_
              refine jk_istore3 (q := 67) dX13_benchmarkByHeight_66 rfl rfl rfl ?_
              refine jk_iinc4 (q := 70) dX13_benchmarkByHeight_67 rfl rfl rfl ?_
              refine jk_goto (q := 21) dX13_benchmarkByHeight_70 rfl ?_
              refine jk_convl (ih21 (by omega)) (jk_loc rfl (jk_loc rfl (jk_loc rfl (jk_loc (jk_li ?_) (jk_loc rfl rfl)))))
              simp [jk_sum, *, jB_t, jB_f]
            · refine jk_aload_n (q := 51) dX13_benchmarkByHeight_50 rfl rfl ?_
              refine jk_iload (q := 53) dX13_benchmarkByHeight_51 rfl rfl ?_
              refine jk_iload_n (q := 54) dX13_benchmarkByHeight_53 rfl rfl ?_
              refine jk_cV2p (q := 57) (c_X13_isAbove hm ((md_gr_ne _ _ _ ⟨by omega, by omega, by omega, by omega⟩).trans hg) hi (md_gr_at _ m g).2.1 (md_gr_at _ m g).2.2.2 ⟨by omega, by omega⟩ ⟨by omega, by omega⟩ (by assumption) (by assumption)) jm_X13_isAbove jw_2180 rfl (by first | exact hm.1 | exact hm.2.1 _ _ rfl | assumption) rfl rfl rfl dX13_benchmarkByHeight_54 rfl ?_
              refine jk_ifB_eq (q := 64) (q2 := 60) dX13_benchmarkByHeight_57 rfl rfl (fun h9 => ?_) (fun h9 => ?_)
              · refine jk_iconst (q := 65) dX13_benchmarkByHeight_64 rfl ?_
                refine jk_iadd (q := 66) dX13_benchmarkByHeight_65 rfl ?_
                refine jk_istore3 (q := 67) dX13_benchmarkByHeight_66 rfl rfl rfl ?_
                refine jk_iinc4 (q := 70) dX13_benchmarkByHeight_67 rfl rfl rfl ?_
                refine jk_goto (q := 21) dX13_benchmarkByHeight_70 rfl ?_
                refine jk_convl (ih21 (by omega)) (jk_loc rfl (jk_loc rfl (jk_loc rfl (jk_loc (jk_li ?_) (jk_loc rfl rfl)))))
                simp [jk_sum, *, jB_t, jB_f]
              · refine jk_iconst (q := 61) dX13_benchmarkByHeight_60 rfl ?_
                refine jk_goto (q := 65) dX13_benchmarkByHeight_61 rfl ?_
                refine jk_iadd (q := 66) dX13_benchmarkByHeight_65 rfl ?_
                refine jk_istore3 (q := 67) dX13_benchmarkByHeight_66 rfl rfl rfl ?_
                refine jk_iinc4 (q := 70) dX13_benchmarkByHeight_67 rfl rfl rfl ?_
                refine jk_goto (q := 21) dX13_benchmarkByHeight_70 rfl ?_
                refine jk_convl (ih21 (by omega)) (jk_loc rfl (jk_loc rfl (jk_loc rfl (jk_loc (jk_li ?_) (jk_loc rfl rfl)))))
                simp [jk_sum, *, jB_t, jB_f]
      exact L21 0 (Nat.zero_le _)
  exact jk_convw (L6 0 (Nat.zero_le _) rfl) (jk_wkS rfl (jk_wkS rfl (jk_wkS rfl (jk_wkN (jk_wkN jk_wk0)))))
theorem c_X13_lineByDiscrepancy {G : jk_G} {n : Nat} {t : jk_T} {σ : jk_I} {ρ : jk_P} {m : Nat} {g O : Int → Int} {B : Int} {r : Int} (hm : md_at t ρ m) (hg : σ (m + 2) = g) (hi : md_inv B g) (ho : σ m = O) (hz : md_z σ m) (hz1 : md_z10 σ m) (hr : jk_in r) : jk_K G yX13_lineByDiscrepancy mX13_lineByDiscrepancy 0 0 [.ref m, jI r] n t σ ρ (md_Q m σ O n t ρ (md_q_ld g r).1 (jI (md_q_ld g r).2)) jk_no := by
  refine jk_entryB (ls := [some (.ref m), some (jI r), none, none, none]) jm_X13_lineByDiscrepancy.1 rfl rfl rfl ?_
  obtain ⟨i0, i1, i2, i3, -⟩ := id hi
  refine jk_iconst (q := 1) dX13_lineByDiscrepancy_0 rfl ?_
  refine jk_istore2 (q := 2) dX13_lineByDiscrepancy_1 rfl rfl rfl ?_
  have L2 : ∀ k2 : Nat, k2 ≤ (g 1).toNat → (hf : jk_fnd (md_ldP g r) k2 = -1) → jk_J G mX13_lineByDiscrepancy 2 [some (.ref m), some (jI r), some (jI (k2 : Int)), none, none] [] n t σ ρ 0 0 (md_Q m σ O n t ρ (md_q_ld g r).1 (jI (md_q_ld g r).2)) jk_no := by
    refine jk_loop _ (fun k2 hk2 ih2 => ?_)
    intro  hf
    refine jk_iload_n (q := 3) dX13_lineByDiscrepancy_2 rfl rfl ?_
    refine jk_aload_n (q := 4) dX13_lineByDiscrepancy_3 rfl rfl ?_
    refine jk_getA (q := 7) (k := 13) 0 0 rfl (by first | exact hm.1 | exact hm.2.1 _ _ rfl | assumption) (by first | exact hm.2.2 _ _ rfl | assumption) rfl rfl jw_1848 dX13_lineByDiscrepancy_4 rfl ?_
    refine jk_iconst (q := 8) dX13_lineByDiscrepancy_7 rfl ?_
    refine jk_ialdR (q := 9) (by first | exact hm.1 | exact hm.2.1 _ _ rfl | assumption) (by first | exact jk_row_same _ _ _ | exact hg | exact ho | exact (md_gr_at _ m g).1 | exact (md_gr_at _ m g).2.1 | exact (md_gr_at _ m g).2.2.1 | exact (md_gr_at _ m g).2.2.2 | exact ((md_gr_ne _ _ _ ⟨by omega, by omega, by omega, by omega⟩).trans hg) | exact ((md_gr_ne _ _ _ ⟨by omega, by omega, by omega, by omega⟩).trans ho) | exact ((md_gr_ne _ _ _ ⟨by omega, by omega, by omega, by omega⟩).trans (jk_row_same _ _ _)) | (rewrite [jk_row_ne _ _ (by omega)]; first | exact jk_row_same _ _ _ | exact hg | exact ho | exact (md_gr_at _ m g).1 | exact (md_gr_at _ m g).2.1 | exact (md_gr_at _ m g).2.2.1 | exact (md_gr_at _ m g).2.2.2 | exact ((md_gr_ne _ _ _ ⟨by omega, by omega, by omega, by omega⟩).trans hg) | exact ((md_gr_ne _ _ _ ⟨by omega, by omega, by omega, by omega⟩).trans ho) | exact ((md_gr_ne _ _ _ ⟨by omega, by omega, by omega, by omega⟩).trans (jk_row_same _ _ _)) | (rewrite [jk_row_ne _ _ (by omega)]; first | exact jk_row_same _ _ _ | exact hg | exact ho | exact (md_gr_at _ m g).1 | exact (md_gr_at _ m g).2.1 | exact (md_gr_at _ m g).2.2.1 | exact (md_gr_at _ m g).2.2.2 | exact ((md_gr_ne _ _ _ ⟨by omega, by omega, by omega, by omega⟩).trans hg) | exact ((md_gr_ne _ _ _ ⟨by omega, by omega, by omega, by omega⟩).trans ho) | exact ((md_gr_ne _ _ _ ⟨by omega, by omega, by omega, by omega⟩).trans (jk_row_same _ _ _)) | (rewrite [jk_row_ne _ _ (by omega)]; first | exact jk_row_same _ _ _ | exact hg | exact ho | exact (md_gr_at _ m g).1 | exact (md_gr_at _ m g).2.1 | exact (md_gr_at _ m g).2.2.1 | exact (md_gr_at _ m g).2.2.2 | exact ((md_gr_ne _ _ _ ⟨by omega, by omega, by omega, by omega⟩).trans hg) | exact ((md_gr_ne _ _ _ ⟨by omega, by omega, by omega, by omega⟩).trans ho) | exact ((md_gr_ne _ _ _ ⟨by omega, by omega, by omega, by omega⟩).trans (jk_row_same _ _ _)) | (rewrite [jk_row_ne _ _ (by omega)]; first | exact hg | exact ho | exact (md_gr_at _ m g).1 | exact (md_gr_at _ m g).2.1 | exact (md_gr_at _ m g).2.2.1 | exact (md_gr_at _ m g).2.2.2 | exact ((md_gr_ne _ _ _ ⟨by omega, by omega, by omega, by omega⟩).trans hg) | exact ((md_gr_ne _ _ _ ⟨by omega, by omega, by omega, by omega⟩).trans ho) | exact ((md_gr_ne _ _ _ ⟨by omega, by omega, by omega, by omega⟩).trans (jk_row_same _ _ _)) | rfl))))) (by first | decide | omega | exact jB_01 _) dX13_lineByDiscrepancy_8 rfl ?_
    refine jk_icmp_ge (q := 96) (q2 := 12) dX13_lineByDiscrepancy_9 rfl rfl (by first | decide | omega | exact jB_01 _) (by first | decide | omega | exact jB_01 _) (fun h1 => ?_) (fun h1 => ?_)
    · refine jk_aload_n (q := 97) dX13_lineByDiscrepancy_96 rfl rfl ?_
      refine jk_iconst (q := 98) dX13_lineByDiscrepancy_97 rfl ?_
      refine jk_cV1p (q := 101) (c_X13_fails (O := O) hm (by first | exact ho | exact ((md_gr_ne _ _ _ ⟨by omega, by omega, by omega, by omega⟩).trans ho))) jm_X13_fails jw_1937 rfl (by first | exact hm.1 | exact hm.2.1 _ _ rfl | assumption) rfl rfl rfl dX13_lineByDiscrepancy_98 rfl ?_
      exact jk_iret rfl dX13_lineByDiscrepancy_101 (by exact md_qi (k := 1) (v := 0) (by unfold md_q_ld; rw [show (g 1).toNat = k2 by omega, if_pos hf]) (by first | exact md_post_th (md_like_rf hz hz1) | exact md_post_th (md_like_gr hi (md_like_rf hz hz1)) | exact md_post_gr hi (md_post_th (md_like_rf hz hz1))))
    · refine jk_iconst (q := 13) dX13_lineByDiscrepancy_12 rfl ?_
      refine jk_istore3 (q := 14) dX13_lineByDiscrepancy_13 rfl rfl rfl ?_
      refine jk_iconst (q := 15) dX13_lineByDiscrepancy_14 rfl ?_
      refine jk_istore4 (q := 17) dX13_lineByDiscrepancy_15 rfl rfl rfl ?_
      have L17 : ∀ k17 : Nat, k17 ≤ (g 1).toNat → jk_J G mX13_lineByDiscrepancy 17 [some (.ref m), some (jI r), some (jI (k2 : Int)), some (jI (jk_sum (fun x => jB (decide (g (88 + x) = 1) && md_wrs g x (k2 : Int))) k17)), some (jI (k17 : Int))] [] n t σ ρ 0 0 (md_Q m σ O n t ρ (md_q_ld g r).1 (jI (md_q_ld g r).2)) jk_no := by
        refine jk_loop _ (fun k17 hk17 ih17 => ?_)
        refine jk_iload (q := 19) dX13_lineByDiscrepancy_17 rfl rfl ?_
        refine jk_aload_n (q := 20) dX13_lineByDiscrepancy_19 rfl rfl ?_
        refine jk_getA (q := 23) (k := 13) 0 0 rfl (by first | exact hm.1 | exact hm.2.1 _ _ rfl | assumption) (by first | exact hm.2.2 _ _ rfl | assumption) rfl rfl jw_1848 dX13_lineByDiscrepancy_20 rfl ?_
        refine jk_iconst (q := 24) dX13_lineByDiscrepancy_23 rfl ?_
        refine jk_ialdR (q := 25) (by first | exact hm.1 | exact hm.2.1 _ _ rfl | assumption) (by first | exact jk_row_same _ _ _ | exact hg | exact ho | exact (md_gr_at _ m g).1 | exact (md_gr_at _ m g).2.1 | exact (md_gr_at _ m g).2.2.1 | exact (md_gr_at _ m g).2.2.2 | exact ((md_gr_ne _ _ _ ⟨by omega, by omega, by omega, by omega⟩).trans hg) | exact ((md_gr_ne _ _ _ ⟨by omega, by omega, by omega, by omega⟩).trans ho) | exact ((md_gr_ne _ _ _ ⟨by omega, by omega, by omega, by omega⟩).trans (jk_row_same _ _ _)) | (rewrite [jk_row_ne _ _ (by omega)]; first | exact jk_row_same _ _ _ | exact hg | exact ho | exact (md_gr_at _ m g).1 | exact (md_gr_at _ m g).2.1 | exact (md_gr_at _ m g).2.2.1 | exact (md_gr_at _ m g).2.2.2 | exact ((md_gr_ne _ _ _ ⟨by omega, by omega, by omega, by omega⟩).trans hg) | exact ((md_gr_ne _ _ _ ⟨by omega, by omega, by omega, by omega⟩).trans ho) | exact ((md_gr_ne _ _ _ ⟨by omega, by omega, by omega, by omega⟩).trans (jk_row_same _ _ _)) | (rewrite [jk_row_ne _ _ (by omega)]; first | exact jk_row_same _ _ _ | exact hg | exact ho | exact (md_gr_at _ m g).1 | exact (md_gr_at _ m g).2.1 | exact (md_gr_at _ m g).2.2.1 | exact (md_gr_at _ m g).2.2.2 | exact ((md_gr_ne _ _ _ ⟨by omega, by omega, by omega, by omega⟩).trans hg) | exact ((md_gr_ne _ _ _ ⟨by omega, by omega, by omega, by omega⟩).trans ho) | exact ((md_gr_ne _ _ _ ⟨by omega, by omega, by omega, by omega⟩).trans (jk_row_same _ _ _)) | (rewrite [jk_row_ne _ _ (by omega)]; first | exact jk_row_same _ _ _ | exact hg | exact ho | exact (md_gr_at _ m g).1 | exact (md_gr_at _ m g).2.1 | exact (md_gr_at _ m g).2.2.1 | exact (md_gr_at _ m g).2.2.2 | exact ((md_gr_ne _ _ _ ⟨by omega, by omega, by omega, by omega⟩).trans hg) | exact ((md_gr_ne _ _ _ ⟨by omega, by omega, by omega, by omega⟩).trans ho) | exact ((md_gr_ne _ _ _ ⟨by omega, by omega, by omega, by omega⟩).trans (jk_row_same _ _ _)) | (rewrite [jk_row_ne _ _ (by omega)]; first | exact hg | exact ho | exact (md_gr_at _ m g).1 | exact (md_gr_at _ m g).2.1 | exact (md_gr_at _ m g).2.2.1 | exact (md_gr_at _ m g).2.2.2 | exact ((md_gr_ne _ _ _ ⟨by omega, by omega, by omega, by omega⟩).trans hg) | exact ((md_gr_ne _ _ _ ⟨by omega, by omega, by omega, by omega⟩).trans ho) | exact ((md_gr_ne _ _ _ ⟨by omega, by omega, by omega, by omega⟩).trans (jk_row_same _ _ _)) | rfl))))) (by first | decide | omega | exact jB_01 _) dX13_lineByDiscrepancy_24 rfl ?_
        refine jk_icmp_ge (q := 66) (q2 := 28) dX13_lineByDiscrepancy_25 rfl rfl (by first | decide | omega | exact jB_01 _) (by first | decide | omega | exact jB_01 _) (fun h2 => ?_) (fun h2 => ?_)
        · have hl88 := (md_inv_ln hi (l := (k2 : Int)) ⟨by omega, by omega⟩).2.2.2.2.1
          refine jk_aload_n (q := 67) dX13_lineByDiscrepancy_66 rfl rfl ?_
          refine jk_getA (q := 70) (k := 13) 0 0 rfl (by first | exact hm.1 | exact hm.2.1 _ _ rfl | assumption) (by first | exact hm.2.2 _ _ rfl | assumption) rfl rfl jw_1848 dX13_lineByDiscrepancy_67 rfl ?_
          refine jk_bipush (q := 72) (y := 88) dX13_lineByDiscrepancy_70 rfl (by decide) ?_
          refine jk_iload_n (q := 73) dX13_lineByDiscrepancy_72 rfl rfl ?_
          refine jk_iadd (q := 74) dX13_lineByDiscrepancy_73 rfl ?_
          refine jk_ialdR (q := 75) (by first | exact hm.1 | exact hm.2.1 _ _ rfl | assumption) (by first | exact jk_row_same _ _ _ | exact hg | exact ho | exact (md_gr_at _ m g).1 | exact (md_gr_at _ m g).2.1 | exact (md_gr_at _ m g).2.2.1 | exact (md_gr_at _ m g).2.2.2 | exact ((md_gr_ne _ _ _ ⟨by omega, by omega, by omega, by omega⟩).trans hg) | exact ((md_gr_ne _ _ _ ⟨by omega, by omega, by omega, by omega⟩).trans ho) | exact ((md_gr_ne _ _ _ ⟨by omega, by omega, by omega, by omega⟩).trans (jk_row_same _ _ _)) | (rewrite [jk_row_ne _ _ (by omega)]; first | exact jk_row_same _ _ _ | exact hg | exact ho | exact (md_gr_at _ m g).1 | exact (md_gr_at _ m g).2.1 | exact (md_gr_at _ m g).2.2.1 | exact (md_gr_at _ m g).2.2.2 | exact ((md_gr_ne _ _ _ ⟨by omega, by omega, by omega, by omega⟩).trans hg) | exact ((md_gr_ne _ _ _ ⟨by omega, by omega, by omega, by omega⟩).trans ho) | exact ((md_gr_ne _ _ _ ⟨by omega, by omega, by omega, by omega⟩).trans (jk_row_same _ _ _)) | (rewrite [jk_row_ne _ _ (by omega)]; first | exact jk_row_same _ _ _ | exact hg | exact ho | exact (md_gr_at _ m g).1 | exact (md_gr_at _ m g).2.1 | exact (md_gr_at _ m g).2.2.1 | exact (md_gr_at _ m g).2.2.2 | exact ((md_gr_ne _ _ _ ⟨by omega, by omega, by omega, by omega⟩).trans hg) | exact ((md_gr_ne _ _ _ ⟨by omega, by omega, by omega, by omega⟩).trans ho) | exact ((md_gr_ne _ _ _ ⟨by omega, by omega, by omega, by omega⟩).trans (jk_row_same _ _ _)) | (rewrite [jk_row_ne _ _ (by omega)]; first | exact jk_row_same _ _ _ | exact hg | exact ho | exact (md_gr_at _ m g).1 | exact (md_gr_at _ m g).2.1 | exact (md_gr_at _ m g).2.2.1 | exact (md_gr_at _ m g).2.2.2 | exact ((md_gr_ne _ _ _ ⟨by omega, by omega, by omega, by omega⟩).trans hg) | exact ((md_gr_ne _ _ _ ⟨by omega, by omega, by omega, by omega⟩).trans ho) | exact ((md_gr_ne _ _ _ ⟨by omega, by omega, by omega, by omega⟩).trans (jk_row_same _ _ _)) | (rewrite [jk_row_ne _ _ (by omega)]; first | exact hg | exact ho | exact (md_gr_at _ m g).1 | exact (md_gr_at _ m g).2.1 | exact (md_gr_at _ m g).2.2.1 | exact (md_gr_at _ m g).2.2.2 | exact ((md_gr_ne _ _ _ ⟨by omega, by omega, by omega, by omega⟩).trans hg) | exact ((md_gr_ne _ _ _ ⟨by omega, by omega, by omega, by omega⟩).trans ho) | exact ((md_gr_ne _ _ _ ⟨by omega, by omega, by omega, by omega⟩).trans (jk_row_same _ _ _)) | rfl))))) (by first | decide | omega | exact jB_01 _) dX13_lineByDiscrepancy_74 rfl ?_
          refine jk_iconst (q := 76) dX13_lineByDiscrepancy_75 rfl ?_
          refine jk_icmp_ne (q := 90) (q2 := 79) dX13_lineByDiscrepancy_76 rfl rfl (by first | decide | omega | exact jB_01 _) (by first | decide | omega | exact jB_01 _) (fun h3 => ?_) (fun h3 => ?_)
          · refine jk_iinc2 (q := 93) dX13_lineByDiscrepancy_90 rfl rfl rfl ?_
            refine jk_goto (q := 2) dX13_lineByDiscrepancy_93 rfl ?_
            refine jk_convw (ih2 (by omega) (jk_fnd_S hf (by
              unfold md_ldP md_lcnt
              rw [show (g 1).toNat = k17 by omega]
              simp [*]))) (jk_wkS rfl (jk_wkS rfl (jk_wkS rfl (jk_wkN (jk_wkN jk_wk0)))))
          · have hcs := md_sumB (fun x => decide (g (88 + x) = 1) && md_wrs g x (k2 : Int)) k17
            refine jk_iload_n (q := 80) dX13_lineByDiscrepancy_79 rfl rfl ?_
            refine jk_iload_n (q := 81) dX13_lineByDiscrepancy_80 rfl rfl ?_
            refine jk_icmp_ne (q := 90) (q2 := 84) dX13_lineByDiscrepancy_81 rfl rfl (by first | decide | omega | exact jB_01 _) (by first | decide | omega | exact jB_01 _) (fun h4 => ?_) (fun h4 => ?_)
            · refine jk_iinc2 (q := 93) dX13_lineByDiscrepancy_90 rfl rfl rfl ?_
              refine jk_goto (q := 2) dX13_lineByDiscrepancy_93 rfl ?_
              refine jk_convw (ih2 (by omega) (jk_fnd_S hf (by
                unfold md_ldP md_lcnt
                rw [show (g 1).toNat = k17 by omega]
                simp [*]))) (jk_wkS rfl (jk_wkS rfl (jk_wkS rfl (jk_wkN (jk_wkN jk_wk0)))))
            · refine jk_aload_n (q := 85) dX13_lineByDiscrepancy_84 rfl rfl ?_
              refine jk_iload_n (q := 86) dX13_lineByDiscrepancy_85 rfl rfl ?_
              refine jk_cV1p (q := 89) (c_X13_done (O := O) hm (by first | exact ho | exact ((md_gr_ne _ _ _ ⟨by omega, by omega, by omega, by omega⟩).trans ho))) jm_X13_done jw_1941 rfl (by first | exact hm.1 | exact hm.2.1 _ _ rfl | assumption) rfl rfl rfl dX13_lineByDiscrepancy_86 rfl ?_
              exact jk_iret rfl dX13_lineByDiscrepancy_89 (by have h9 := jk_fnd_hit hf (by unfold md_ldP md_lcnt; rw [show (g 1).toNat = k17 by omega]; simp [*]) (g 1).toNat (by omega); exact md_qi (k := 0) (v := (k2 : Int)) (by unfold md_q_ld; rw [h9, if_neg (by omega)]) (by first | exact md_post_th (md_like_rf hz hz1) | exact md_post_th (md_like_gr hi (md_like_rf hz hz1)) | exact md_post_gr hi (md_post_th (md_like_rf hz hz1))))
        · have hx88 := (md_inv_ln hi (l := (k17 : Int)) ⟨by omega, by omega⟩).2.2.2.2.1
          refine jk_iload_n (q := 29) dX13_lineByDiscrepancy_28 rfl rfl ?_
          refine jk_aload_n (q := 30) dX13_lineByDiscrepancy_29 rfl rfl ?_
          refine jk_getA (q := 33) (k := 13) 0 0 rfl (by first | exact hm.1 | exact hm.2.1 _ _ rfl | assumption) (by first | exact hm.2.2 _ _ rfl | assumption) rfl rfl jw_1848 dX13_lineByDiscrepancy_30 rfl ?_
          refine jk_bipush (q := 35) (y := 88) dX13_lineByDiscrepancy_33 rfl (by decide) ?_
          refine jk_iload (q := 37) dX13_lineByDiscrepancy_35 rfl rfl ?_
          refine jk_iadd (q := 38) dX13_lineByDiscrepancy_37 rfl ?_
          refine jk_ialdR (q := 39) (by first | exact hm.1 | exact hm.2.1 _ _ rfl | assumption) (by first | exact jk_row_same _ _ _ | exact hg | exact ho | exact (md_gr_at _ m g).1 | exact (md_gr_at _ m g).2.1 | exact (md_gr_at _ m g).2.2.1 | exact (md_gr_at _ m g).2.2.2 | exact ((md_gr_ne _ _ _ ⟨by omega, by omega, by omega, by omega⟩).trans hg) | exact ((md_gr_ne _ _ _ ⟨by omega, by omega, by omega, by omega⟩).trans ho) | exact ((md_gr_ne _ _ _ ⟨by omega, by omega, by omega, by omega⟩).trans (jk_row_same _ _ _)) | (rewrite [jk_row_ne _ _ (by omega)]; first | exact jk_row_same _ _ _ | exact hg | exact ho | exact (md_gr_at _ m g).1 | exact (md_gr_at _ m g).2.1 | exact (md_gr_at _ m g).2.2.1 | exact (md_gr_at _ m g).2.2.2 | exact ((md_gr_ne _ _ _ ⟨by omega, by omega, by omega, by omega⟩).trans hg) | exact ((md_gr_ne _ _ _ ⟨by omega, by omega, by omega, by omega⟩).trans ho) | exact ((md_gr_ne _ _ _ ⟨by omega, by omega, by omega, by omega⟩).trans (jk_row_same _ _ _)) | (rewrite [jk_row_ne _ _ (by omega)]; first | exact jk_row_same _ _ _ | exact hg | exact ho | exact (md_gr_at _ m g).1 | exact (md_gr_at _ m g).2.1 | exact (md_gr_at _ m g).2.2.1 | exact (md_gr_at _ m g).2.2.2 | exact ((md_gr_ne _ _ _ ⟨by omega, by omega, by omega, by omega⟩).trans hg) | exact ((md_gr_ne _ _ _ ⟨by omega, by omega, by omega, by omega⟩).trans ho) | exact ((md_gr_ne _ _ _ ⟨by omega, by omega, by omega, by omega⟩).trans (jk_row_same _ _ _)) | (rewrite [jk_row_ne _ _ (by omega)]; first | exact jk_row_same _ _ _ | exact hg | exact ho | exact (md_gr_at _ m g).1 | exact (md_gr_at _ m g).2.1 | exact (md_gr_at _ m g).2.2.1 | exact (md_gr_at _ m g).2.2.2 | exact ((md_gr_ne _ _ _ ⟨by omega, by omega, by omega, by omega⟩).trans hg) | exact ((md_gr_ne _ _ _ ⟨by omega, by omega, by omega, by omega⟩).trans ho) | exact ((md_gr_ne _ _ _ ⟨by omega, by omega, by omega, by omega⟩).trans (jk_row_same _ _ _)) | (rewrite [jk_row_ne _ _ (by omega)]; first | exact hg | exact ho | exact (md_gr_at _ m g).1 | exact (md_gr_at _ m g).2.1 | exact (md_gr_at _ m g).2.2.1 | exact (md_gr_at _ m g).2.2.2 | exact ((md_gr_ne _ _ _ ⟨by omega, by omega, by omega, by omega⟩).trans hg) | exact ((md_gr_ne _ _ _ ⟨by omega, by omega, by omega, by omega⟩).trans ho) | exact ((md_gr_ne _ _ _ ⟨by omega, by omega, by omega, by omega⟩).trans (jk_row_same _ _ _)) | rfl))))) (by first | decide | omega | exact jB_01 _) dX13_lineByDiscrepancy_38 rfl ?_
          refine jk_iconst (q := 40) dX13_lineByDiscrepancy_39 rfl ?_
          refine jk_icmp_ne (q := 57) (q2 := 43) dX13_lineByDiscrepancy_40 rfl rfl (by first | decide | omega | exact jB_01 _) (by first | decide | omega | exact jB_01 _) (fun h5 => ?_) (fun h5 => ?_)
          · refine jk_iconst (q := 58) dX13_lineByDiscrepancy_57 rfl ?_
            refine jk_iadd (q := 59) dX13_lineByDiscrepancy_58 rfl ?_
            refine jk_istore3 (q := 60) dX13_lineByDiscrepancy_59 rfl rfl rfl ?_
            refine jk_iinc4 (q := 63) dX13_lineByDiscrepancy_60 rfl rfl rfl ?_
            refine jk_goto (q := 17) dX13_lineByDiscrepancy_63 rfl ?_
            refine jk_convl (ih17 (by omega)) (jk_loc rfl (jk_loc rfl (jk_loc rfl (jk_loc (jk_li ?_) (jk_loc rfl rfl)))))
            simp [jk_sum, *, jB_t, jB_f]
          · refine jk_aload_n (q := 44) dX13_lineByDiscrepancy_43 rfl rfl ?_
            refine jk_iload (q := 46) dX13_lineByDiscrepancy_44 rfl rfl ?_
            refine jk_iload_n (q := 47) dX13_lineByDiscrepancy_46 rfl rfl ?_
            refine jk_cV2p (q := 50) (c_X13_isWorse hm hg hi ⟨by omega, by omega⟩ ⟨by omega, by omega⟩) jm_X13_isWorse jw_2232 rfl (by first | exact hm.1 | exact hm.2.1 _ _ rfl | assumption) rfl rfl rfl dX13_lineByDiscrepancy_47 rfl ?_
            refine jk_ifB_eq (q := 57) (q2 := 53) dX13_lineByDiscrepancy_50 rfl rfl (fun h6 => ?_) (fun h6 => ?_)
            · refine jk_iconst (q := 58) dX13_lineByDiscrepancy_57 rfl ?_
              refine jk_iadd (q := 59) dX13_lineByDiscrepancy_58 rfl ?_
              refine jk_istore3 (q := 60) dX13_lineByDiscrepancy_59 rfl rfl rfl ?_
              refine jk_iinc4 (q := 63) dX13_lineByDiscrepancy_60 rfl rfl rfl ?_
              refine jk_goto (q := 17) dX13_lineByDiscrepancy_63 rfl ?_
              refine jk_convl (ih17 (by omega)) (jk_loc rfl (jk_loc rfl (jk_loc rfl (jk_loc (jk_li ?_) (jk_loc rfl rfl)))))
              simp [jk_sum, *, jB_t, jB_f]
            · refine jk_iconst (q := 54) dX13_lineByDiscrepancy_53 rfl ?_
              refine jk_goto (q := 58) dX13_lineByDiscrepancy_54 rfl ?_
              refine jk_iadd (q := 59) dX13_lineByDiscrepancy_58 rfl ?_
              refine jk_istore3 (q := 60) dX13_lineByDiscrepancy_59 rfl rfl rfl ?_
              refine jk_iinc4 (q := 63) dX13_lineByDiscrepancy_60 rfl rfl rfl ?_
              refine jk_goto (q := 17) dX13_lineByDiscrepancy_63 rfl ?_
              refine jk_convl (ih17 (by omega)) (jk_loc rfl (jk_loc rfl (jk_loc rfl (jk_loc (jk_li ?_) (jk_loc rfl rfl)))))
              simp [jk_sum, *, jB_t, jB_f]
      exact L17 0 (Nat.zero_le _)
  exact jk_convw (L2 0 (Nat.zero_le _) rfl) (jk_wkS rfl (jk_wkS rfl (jk_wkS rfl (jk_wkN (jk_wkN jk_wk0)))))
theorem md_rp_z {B : Int} {g T : Int → Int} (hi : md_inv B g) {s : md_SS} (h : md_zf 10 s.1 ∧ md_zf 10 s.2) {l : Int} (hl : 0 ≤ l ∧ l < 16) : md_zf 10 (md_rp g T s l).1 ∧ md_zf 10 (md_rp g T s l).2 := by
  obtain ⟨a, b, -⟩ := md_inv_ln hi hl
  unfold md_rp
  split
  · refine ⟨md_zf_set (md_zf_set h.1 a) b, ?_⟩
    show md_zf 10 (jk_set s.2 (if _ then _ else _) l)
    split
    · exact md_zf_set h.2 a
    · exact md_zf_set h.2 b
  · exact h
theorem md_rl_z {B : Int} {g T : Int → Int} (hi : md_inv B g) {s : md_SS} (h : md_zf 10 s.1 ∧ md_zf 10 s.2) : ∀ k : Nat, k ≤ 16 → md_zf 10 (md_rl g T k s).1 ∧ md_zf 10 (md_rl g T k s).2
  | 0, _ => h
  | k + 1, hk => md_rp_z hi (md_rl_z hi h k (by omega)) ⟨by omega, by omega⟩
theorem md_reach_z {B : Int} {g T : Int → Int} (hi : md_inv B g) {f : Int} (hf : 0 ≤ f ∧ f < 10) : ∀ j : Nat, md_zf 10 (md_rr g T f j).1 ∧ md_zf 10 (md_rr g T f j).2
  | 0 => ⟨fun p hp => by show (if 0 ≤ p ∧ p < 10 then (if p = f then (1 : Int) else 0) else 0) = 0; rw [if_neg (by omega)], fun p hp => by show (if 0 ≤ p ∧ p < 10 then (-1 : Int) else 0) = 0; rw [if_neg (by omega)]⟩
  | j + 1 => md_rl_z hi (md_reach_z hi hf j) _ (by have := hi.2.1; omega)
theorem md_like_lp {B : Int} {g : Int → Int} (hi : md_inv B g) {m : Nat} {σ : jk_I} (hz : md_z σ m) (hz1 : md_z10 σ m) {l : Int} (hl : 0 ≤ l ∧ l < 16) {J : Nat} (h : md_ok g (md_reach g (md_T g) (g (24 + l))).2 (g (40 + l)) (g (24 + l)) J) : md_like m σ (md_lp σ m g l) := by
  refine ⟨fun a ha => ?_, fun p hp => ⟨?_, ?_, ?_⟩, fun p hp => ⟨?_, ?_, ?_, ?_⟩⟩
  · unfold md_scr at ha; exact md_lp_ne _ _ _ _ ⟨by omega, by omega, by omega, by omega, by omega, by omega⟩
  · rw [show md_lp σ m g l (m + 14) = md_T g by unfold md_lp; rw [jk_row_ne _ _ (by omega), jk_row_ne _ _ (by omega), jk_row_ne _ _ (by omega)]; exact (md_gr_at σ m g).1]; exact (md_kr_z hi 50).1 p hp
  · rw [md_lp_sg]; exact md_sgn_z hl h p hp
  · rw [md_lp_ne _ _ _ _ ⟨by omega, by omega, by omega, by omega, by omega, by omega⟩]; exact (hz p hp).2.2
  · rw [show md_lp σ m g l (m + 16) = md_Ro g by unfold md_lp; rw [jk_row_ne _ _ (by omega), jk_row_ne _ _ (by omega), jk_row_ne _ _ (by omega)]; exact (md_gr_at σ m g).2.1]; exact (md_kr_z hi 50).2 p hp
  · rw [show md_lp σ m g l (m + 18) = (md_fin g).2 by unfold md_lp; rw [jk_row_ne _ _ (by omega), jk_row_ne _ _ (by omega), jk_row_ne _ _ (by omega)]; exact (md_gr_at σ m g).2.2.2]; exact (md_it_z hi 11).2 p hp
  · rw [show md_lp σ m g l (m + 20) = (md_reach g (md_T g) (g (24 + l))).1 by unfold md_lp; rw [jk_row_ne _ _ (by omega), jk_row_same]]; exact (md_reach_z hi (md_inv_ln hi hl).1 10).1 p hp
  · rw [show md_lp σ m g l (m + 26) = (md_reach g (md_T g) (g (24 + l))).2 by unfold md_lp; rw [jk_row_ne _ _ (by omega), jk_row_ne _ _ (by omega), jk_row_same]]; exact (md_reach_z hi (md_inv_ln hi hl).1 10).2 p hp
theorem md_like_why {B : Int} {g : Int → Int} (hi : md_inv B g) {m : Nat} {σ : jk_I} (hz : md_z σ m) (hz1 : md_z10 σ m) (hJ : md_loops g) (l : Int) : md_like m σ (md_whyS σ m g l) := by
  unfold md_whyS
  split
  · exact md_like_rf hz hz1
  · rename_i h1
    have h2 := md_inT (by simpa using h1 : md_in l 0 (g 1 - 1) = true)
    have hg1 := hi.2.1
    split
    · exact md_like_gr hi (md_like_rf hz hz1)
    · rename_i h3
      obtain ⟨J, h4⟩ := hJ l ⟨by omega, by omega⟩ (by simpa using h3)
      exact md_like_lp hi hz hz1 ⟨by omega, by omega⟩ h4
theorem md_like_row {m : Nat} {σ σb : jk_I} (h : md_like m σ σb) {a : Nat} {x : Int → Int} (ha : a = m + 24) (hx : md_zf 16 x) : md_like m σ (jk_row σb a x) := by
  subst ha
  refine ⟨fun b hb => (jk_row_ne _ _ (by unfold md_scr at hb; omega)).trans (h.1 b hb), fun p hp => ?_, md_z10_row h.2.2 _ ⟨by omega, by omega, by omega, by omega⟩⟩
  rw [jk_row_ne _ _ (by omega), jk_row_ne _ _ (by omega), jk_row_same]
  exact ⟨(h.2.1 p hp).1, (h.2.1 p hp).2.1, hx p hp⟩
def md_q_ls (g : Int → Int) (l : Int) : Int × Int := if 0 < md_why g l then (md_why g l, 0) else (0, jk_sum (fun x => if md_sgn g (md_T g) l x = 0 then 0 else 1) (g 1).toNat)
def md_q_ll (g : Int → Int) (l : Int) : Int × Int := if 0 < md_why g l then (md_why g l, 0) else (0, md_len g (md_sgn g (md_T g) l))
def md_q_mc (g : Int → Int) (l : Int) : Int × Int := if 0 < md_why g l then (md_why g l, 0) else (0, md_err g (md_sgn g (md_T g) l))
def md_q_pt (g : Int → Int) (l x : Int) : Int × Int := if md_in l 0 (g 1 - 1) = false ∨ md_in x 0 (g 1 - 1) = false then (1, 0) else if 0 < md_why g l then (md_why g l, 0) else (0, md_parts g (md_sgn g (md_T g) l) x)
theorem c_X13_loopSize {G : jk_G} {n : Nat} {t : jk_T} {σ : jk_I} {ρ : jk_P} {m : Nat} {g O : Int → Int} {B : Int} {l : Int} (hm : md_at t ρ m) (hg : σ (m + 2) = g) (hi : md_inv B g) (ho : σ m = O) (hz : md_z σ m) (hz1 : md_z10 σ m) (hl : jk_in l) (hJ : md_loops g) : jk_K G yX13_loopSize mX13_loopSize 0 0 [.ref m, jI l] n t σ ρ (md_Q m σ O n t ρ (md_q_ls g l).1 (jI (md_q_ls g l).2)) jk_no := by
  refine jk_entryB (ls := [some (.ref m), some (jI l), none, none, none]) jm_X13_loopSize.1 rfl rfl rfl ?_
  obtain ⟨i0, i1, i2, i3, -⟩ := id hi
  refine jk_aload_n (q := 1) dX13_loopSize_0 rfl rfl ?_
  refine jk_iload_n (q := 2) dX13_loopSize_1 rfl rfl ?_
  refine jk_cV1p (q := 5) (c_X13_whyNoLoop hm hg hi hz hz1 hJ hl) jm_X13_whyNoLoop jw_2032 rfl (by first | exact hm.1 | exact hm.2.1 _ _ rfl | assumption) rfl rfl rfl dX13_loopSize_2 rfl ?_
  refine jk_istore2 (q := 6) dX13_loopSize_5 rfl rfl rfl ?_
  have hwb := md_why_bd g l
  refine jk_iload_n (q := 7) dX13_loopSize_6 rfl rfl ?_
  refine jk_if_le (q := 16) (q2 := 10) dX13_loopSize_7 rfl rfl (by first | decide | omega | exact jB_01 _) (fun h1 => ?_) (fun h1 => ?_)
  · have hnw : ¬ 0 < md_why g l := (by omega)
    obtain ⟨hws, hin9, hcl9⟩ := md_why0 (σ := σ) (m := m) hnw
    rw [hws]
    have hl9 := md_inT hin9
    obtain ⟨J, hJ9⟩ := hJ l ⟨by omega, by omega⟩ hcl9
    have hsb := md_sgn_sb g (md_T g) l
    refine jk_iconst (q := 17) dX13_loopSize_16 rfl ?_
    refine jk_istore3 (q := 18) dX13_loopSize_17 rfl rfl rfl ?_
    refine jk_iconst (q := 19) dX13_loopSize_18 rfl ?_
    refine jk_istore4 (q := 21) dX13_loopSize_19 rfl rfl rfl ?_
    have L21 : ∀ k21 : Nat, k21 ≤ (g 1).toNat → jk_J G mX13_loopSize 21 [some (.ref m), some (jI l), some (jI (md_why g l)), some (jI (jk_sum (fun x => if md_sgn g (md_T g) l x = 0 then 0 else 1) k21)), some (jI (k21 : Int))] [] n t (md_lp σ m g l) ρ 0 0 (md_Q m σ O n t ρ (md_q_ls g l).1 (jI (md_q_ls g l).2)) jk_no := by
      refine jk_loop _ (fun k21 hk21 ih21 => ?_)
      refine jk_iload (q := 23) dX13_loopSize_21 rfl rfl ?_
      refine jk_aload_n (q := 24) dX13_loopSize_23 rfl rfl ?_
      refine jk_getA (q := 27) (k := 13) 0 0 rfl (by first | exact hm.1 | exact hm.2.1 _ _ rfl | assumption) (by first | exact hm.2.2 _ _ rfl | assumption) rfl rfl jw_1848 dX13_loopSize_24 rfl ?_
      refine jk_iconst (q := 28) dX13_loopSize_27 rfl ?_
      refine jk_ialdR (q := 29) (by first | exact hm.1 | exact hm.2.1 _ _ rfl | assumption) (by first | exact jk_row_same _ _ _ | exact hg | exact ho | exact (md_lp_sg σ m g l) | exact ((md_lp_ne _ _ _ _ ⟨by omega, by omega, by omega, by omega, by omega, by omega⟩).trans hg) | (rewrite [jk_row_ne _ _ (by omega)]; first | exact jk_row_same _ _ _ | exact hg | exact ho | exact (md_lp_sg σ m g l) | exact ((md_lp_ne _ _ _ _ ⟨by omega, by omega, by omega, by omega, by omega, by omega⟩).trans hg) | (rewrite [jk_row_ne _ _ (by omega)]; first | exact jk_row_same _ _ _ | exact hg | exact ho | exact (md_lp_sg σ m g l) | exact ((md_lp_ne _ _ _ _ ⟨by omega, by omega, by omega, by omega, by omega, by omega⟩).trans hg) | (rewrite [jk_row_ne _ _ (by omega)]; first | exact jk_row_same _ _ _ | exact hg | exact ho | exact (md_lp_sg σ m g l) | exact ((md_lp_ne _ _ _ _ ⟨by omega, by omega, by omega, by omega, by omega, by omega⟩).trans hg) | (rewrite [jk_row_ne _ _ (by omega)]; first | exact hg | exact ho | exact (md_lp_sg σ m g l) | exact ((md_lp_ne _ _ _ _ ⟨by omega, by omega, by omega, by omega, by omega, by omega⟩).trans hg) | rfl))))) (by first | decide | omega | exact jB_01 _) dX13_loopSize_28 rfl ?_
      refine jk_icmp_ge (q := 56) (q2 := 32) dX13_loopSize_29 rfl rfl (by first | decide | omega | exact jB_01 _) (by first | decide | omega | exact jB_01 _) (fun h2 => ?_) (fun h2 => ?_)
      · refine jk_aload_n (q := 57) dX13_loopSize_56 rfl rfl ?_
        refine jk_iload_n (q := 58) dX13_loopSize_57 rfl rfl ?_
        refine jk_cV1p (q := 61) (c_X13_done (O := O) hm (by exact (md_lp_ne _ _ _ _ ⟨by omega, by omega, by omega, by omega, by omega, by omega⟩).trans ho)) jm_X13_done jw_1941 rfl (by first | exact hm.1 | exact hm.2.1 _ _ rfl | assumption) rfl rfl rfl dX13_loopSize_58 rfl ?_
        exact jk_iret rfl dX13_loopSize_61 (by rw [show k21 = (g 1).toNat by omega]; exact md_qi (k := 0) (v := jk_sum (fun x => if md_sgn g (md_T g) l x = 0 then 0 else 1) (g 1).toNat) (by unfold md_q_ls; rw [if_neg (by omega)]) (by first | exact md_post_th (md_like_rf hz hz1) | exact md_post_th (md_like_why hi hz hz1 hJ l) | exact md_post_th (md_like_lp hi hz hz1 ⟨by omega, by omega⟩ hJ9)))
      · have hsk := hsb (k21 : Int)
        refine jk_iload_n (q := 33) dX13_loopSize_32 rfl rfl ?_
        refine jk_aload_n (q := 34) dX13_loopSize_33 rfl rfl ?_
        refine jk_getA (q := 37) (k := 13) 17 17 rfl (by first | exact hm.1 | exact hm.2.1 _ _ rfl | assumption) (by first | exact hm.2.2 _ _ rfl | assumption) rfl rfl jw_1865 dX13_loopSize_34 rfl ?_
        refine jk_iload (q := 39) dX13_loopSize_37 rfl rfl ?_
        refine jk_ialdR (q := 40) (by first | exact hm.1 | exact hm.2.1 _ _ rfl | assumption) (by first | exact jk_row_same _ _ _ | exact hg | exact ho | exact (md_lp_sg σ m g l) | exact ((md_lp_ne _ _ _ _ ⟨by omega, by omega, by omega, by omega, by omega, by omega⟩).trans hg) | (rewrite [jk_row_ne _ _ (by omega)]; first | exact jk_row_same _ _ _ | exact hg | exact ho | exact (md_lp_sg σ m g l) | exact ((md_lp_ne _ _ _ _ ⟨by omega, by omega, by omega, by omega, by omega, by omega⟩).trans hg) | (rewrite [jk_row_ne _ _ (by omega)]; first | exact jk_row_same _ _ _ | exact hg | exact ho | exact (md_lp_sg σ m g l) | exact ((md_lp_ne _ _ _ _ ⟨by omega, by omega, by omega, by omega, by omega, by omega⟩).trans hg) | (rewrite [jk_row_ne _ _ (by omega)]; first | exact jk_row_same _ _ _ | exact hg | exact ho | exact (md_lp_sg σ m g l) | exact ((md_lp_ne _ _ _ _ ⟨by omega, by omega, by omega, by omega, by omega, by omega⟩).trans hg) | (rewrite [jk_row_ne _ _ (by omega)]; first | exact hg | exact ho | exact (md_lp_sg σ m g l) | exact ((md_lp_ne _ _ _ _ ⟨by omega, by omega, by omega, by omega, by omega, by omega⟩).trans hg) | rfl))))) (by first | decide | omega | exact jB_01 _) dX13_loopSize_39 rfl ?_
        refine jk_if_eq (q := 47) (q2 := 43) dX13_loopSize_40 rfl rfl (by first | decide | omega | exact jB_01 _) (fun h3 => ?_) (fun h3 => ?_)
        · refine jk_iconst (q := 48) dX13_loopSize_47 rfl ?_
          refine jk_iadd (q := 49) dX13_loopSize_48 rfl ?_
          refine jk_istore3 (q := 50) dX13_loopSize_49 rfl rfl rfl ?_
          refine jk_iinc4 (q := 53) dX13_loopSize_50 rfl rfl rfl ?_
          refine jk_goto (q := 21) dX13_loopSize_53 rfl ?_
          refine jk_convl (ih21 (by omega)) (jk_loc rfl (jk_loc rfl (jk_loc rfl (jk_loc (jk_li ?_) rfl))))
          simp [jk_sum, *]
        · refine jk_iconst (q := 44) dX13_loopSize_43 rfl ?_
          refine jk_goto (q := 48) dX13_loopSize_44 rfl ?_
          refine jk_iadd (q := 49) dX13_loopSize_48 rfl ?_
          refine jk_istore3 (q := 50) dX13_loopSize_49 rfl rfl rfl ?_
          refine jk_iinc4 (q := 53) dX13_loopSize_50 rfl rfl rfl ?_
          refine jk_goto (q := 21) dX13_loopSize_53 rfl ?_
          refine jk_convl (ih21 (by omega)) (jk_loc rfl (jk_loc rfl (jk_loc rfl (jk_loc (jk_li ?_) rfl))))
          simp [jk_sum, *]
    exact L21 0 (Nat.zero_le _)
  · refine jk_aload_n (q := 11) dX13_loopSize_10 rfl rfl ?_
    refine jk_iload_n (q := 12) dX13_loopSize_11 rfl rfl ?_
    refine jk_cV1p (q := 15) (c_X13_fails (O := O) hm (by first | exact ho | exact (md_whyS_ne _ _ _ _ ⟨by omega, by omega, by omega, by omega, by omega, by omega⟩).trans ho)) jm_X13_fails jw_1937 rfl (by first | exact hm.1 | exact hm.2.1 _ _ rfl | assumption) rfl rfl rfl dX13_loopSize_12 rfl ?_
    exact jk_iret rfl dX13_loopSize_15 (by exact md_qi (k := md_why g l) (v := 0) (by unfold md_q_ls; rw [if_pos (by omega)]) (by first | exact md_post_th (md_like_rf hz hz1) | exact md_post_th (md_like_why hi hz hz1 hJ l) | exact md_post_th (md_like_lp hi hz hz1 ⟨by omega, by omega⟩ hJ9)))
theorem c_X13_loopLength {G : jk_G} {n : Nat} {t : jk_T} {σ : jk_I} {ρ : jk_P} {m : Nat} {g O : Int → Int} {B : Int} {l : Int} (hm : md_at t ρ m) (hg : σ (m + 2) = g) (hi : md_inv B g) (ho : σ m = O) (hz : md_z σ m) (hz1 : md_z10 σ m) (hl : jk_in l) (hJ : md_loops g) : jk_K G yX13_loopLength mX13_loopLength 0 0 [.ref m, jI l] n t σ ρ (md_Q m σ O n t ρ (md_q_ll g l).1 (jI (md_q_ll g l).2)) jk_no := by
  refine jk_entryB (ls := [some (.ref m), some (jI l), none]) jm_X13_loopLength.1 rfl rfl rfl ?_
  obtain ⟨i0, i1, i2, i3, -⟩ := id hi
  refine jk_aload_n (q := 1) dX13_loopLength_0 rfl rfl ?_
  refine jk_iload_n (q := 2) dX13_loopLength_1 rfl rfl ?_
  refine jk_cV1p (q := 5) (c_X13_whyNoLoop hm hg hi hz hz1 hJ hl) jm_X13_whyNoLoop jw_2032 rfl (by first | exact hm.1 | exact hm.2.1 _ _ rfl | assumption) rfl rfl rfl dX13_loopLength_2 rfl ?_
  refine jk_istore2 (q := 6) dX13_loopLength_5 rfl rfl rfl ?_
  have hwb := md_why_bd g l
  refine jk_iload_n (q := 7) dX13_loopLength_6 rfl rfl ?_
  refine jk_if_le (q := 18) (q2 := 10) dX13_loopLength_7 rfl rfl (by first | decide | omega | exact jB_01 _) (fun h1 => ?_) (fun h1 => ?_)
  · have hnw : ¬ 0 < md_why g l := (by omega)
    obtain ⟨hws, hin9, hcl9⟩ := md_why0 (σ := σ) (m := m) hnw
    rw [hws]
    have hl9 := md_inT hin9
    obtain ⟨J, hJ9⟩ := hJ l ⟨by omega, by omega⟩ hcl9
    have hsb := md_sgn_sb g (md_T g) l
    refine jk_aload_n (q := 19) dX13_loopLength_18 rfl rfl ?_
    refine jk_aload_n (q := 20) dX13_loopLength_19 rfl rfl ?_
    refine jk_cV0p (q := 23) (c_X13_lengthAround hm ((md_lp_ne _ _ _ _ ⟨by omega, by omega, by omega, by omega, by omega, by omega⟩).trans hg) hi (md_lp_sg σ m g l) (fun j _ => hsb j)) jm_X13_lengthAround jw_2079 rfl (by first | exact hm.1 | exact hm.2.1 _ _ rfl | assumption) rfl rfl rfl dX13_loopLength_20 rfl ?_
    refine jk_cV1p (q := 26) (c_X13_done (O := O) hm (by exact (md_lp_ne _ _ _ _ ⟨by omega, by omega, by omega, by omega, by omega, by omega⟩).trans ho)) jm_X13_done jw_1941 rfl (by first | exact hm.1 | exact hm.2.1 _ _ rfl | assumption) rfl rfl rfl dX13_loopLength_23 rfl ?_
    exact jk_iret rfl dX13_loopLength_26 (by first | (exact md_qi (k := md_why g l) (v := 0) (by unfold md_q_ll; rw [if_pos (by omega)]) (by first | exact md_post_th (md_like_rf hz hz1) | exact md_post_th (md_like_why hi hz hz1 hJ l) | exact md_post_th (md_like_lp hi hz hz1 ⟨by omega, by omega⟩ hJ9))) | (exact md_qi (k := 0) (v := md_len g (md_sgn g (md_T g) l)) (by unfold md_q_ll; rw [if_neg (by omega)]) (by first | exact md_post_th (md_like_rf hz hz1) | exact md_post_th (md_like_why hi hz hz1 hJ l) | exact md_post_th (md_like_lp hi hz hz1 ⟨by omega, by omega⟩ hJ9))))
  · refine jk_aload_n (q := 11) dX13_loopLength_10 rfl rfl ?_
    refine jk_iload_n (q := 12) dX13_loopLength_11 rfl rfl ?_
    refine jk_cV1p (q := 15) (c_X13_fails (O := O) hm (by first | exact ho | exact (md_whyS_ne _ _ _ _ ⟨by omega, by omega, by omega, by omega, by omega, by omega⟩).trans ho)) jm_X13_fails jw_1937 rfl (by first | exact hm.1 | exact hm.2.1 _ _ rfl | assumption) rfl rfl rfl dX13_loopLength_12 rfl ?_
    refine jk_goto (q := 26) dX13_loopLength_15 rfl ?_
    exact jk_iret rfl dX13_loopLength_26 (by first | (exact md_qi (k := md_why g l) (v := 0) (by unfold md_q_ll; rw [if_pos (by omega)]) (by first | exact md_post_th (md_like_rf hz hz1) | exact md_post_th (md_like_why hi hz hz1 hJ l) | exact md_post_th (md_like_lp hi hz hz1 ⟨by omega, by omega⟩ hJ9))) | (exact md_qi (k := 0) (v := md_len g (md_sgn g (md_T g) l)) (by unfold md_q_ll; rw [if_neg (by omega)]) (by first | exact md_post_th (md_like_rf hz hz1) | exact md_post_th (md_like_why hi hz hz1 hJ l) | exact md_post_th (md_like_lp hi hz hz1 ⟨by omega, by omega⟩ hJ9))))
theorem c_X13_misclosure {G : jk_G} {n : Nat} {t : jk_T} {σ : jk_I} {ρ : jk_P} {m : Nat} {g O : Int → Int} {B : Int} {l : Int} (hm : md_at t ρ m) (hg : σ (m + 2) = g) (hi : md_inv B g) (ho : σ m = O) (hz : md_z σ m) (hz1 : md_z10 σ m) (hl : jk_in l) (hJ : md_loops g) : jk_K G yX13_misclosure mX13_misclosure 0 0 [.ref m, jI l] n t σ ρ (md_Q m σ O n t ρ (md_q_mc g l).1 (jI (md_q_mc g l).2)) jk_no := by
  refine jk_entryB (ls := [some (.ref m), some (jI l), none]) jm_X13_misclosure.1 rfl rfl rfl ?_
  obtain ⟨i0, i1, i2, i3, -⟩ := id hi
  refine jk_aload_n (q := 1) dX13_misclosure_0 rfl rfl ?_
  refine jk_iload_n (q := 2) dX13_misclosure_1 rfl rfl ?_
  refine jk_cV1p (q := 5) (c_X13_whyNoLoop hm hg hi hz hz1 hJ hl) jm_X13_whyNoLoop jw_2032 rfl (by first | exact hm.1 | exact hm.2.1 _ _ rfl | assumption) rfl rfl rfl dX13_misclosure_2 rfl ?_
  refine jk_istore2 (q := 6) dX13_misclosure_5 rfl rfl rfl ?_
  have hwb := md_why_bd g l
  refine jk_iload_n (q := 7) dX13_misclosure_6 rfl rfl ?_
  refine jk_if_le (q := 18) (q2 := 10) dX13_misclosure_7 rfl rfl (by first | decide | omega | exact jB_01 _) (fun h1 => ?_) (fun h1 => ?_)
  · have hnw : ¬ 0 < md_why g l := (by omega)
    obtain ⟨hws, hin9, hcl9⟩ := md_why0 (σ := σ) (m := m) hnw
    rw [hws]
    have hl9 := md_inT hin9
    obtain ⟨J, hJ9⟩ := hJ l ⟨by omega, by omega⟩ hcl9
    have hsb := md_sgn_sb g (md_T g) l
    refine jk_aload_n (q := 19) dX13_misclosure_18 rfl rfl ?_
    refine jk_aload_n (q := 20) dX13_misclosure_19 rfl rfl ?_
    refine jk_cV0p (q := 23) (c_X13_errorAround hm ((md_lp_ne _ _ _ _ ⟨by omega, by omega, by omega, by omega, by omega, by omega⟩).trans hg) hi (md_lp_sg σ m g l) (fun j _ => hsb j)) jm_X13_errorAround jw_2075 rfl (by first | exact hm.1 | exact hm.2.1 _ _ rfl | assumption) rfl rfl rfl dX13_misclosure_20 rfl ?_
    refine jk_cV1p (q := 26) (c_X13_done (O := O) hm (by exact (md_lp_ne _ _ _ _ ⟨by omega, by omega, by omega, by omega, by omega, by omega⟩).trans ho)) jm_X13_done jw_1941 rfl (by first | exact hm.1 | exact hm.2.1 _ _ rfl | assumption) rfl rfl rfl dX13_misclosure_23 rfl ?_
    exact jk_iret rfl dX13_misclosure_26 (by first | (exact md_qi (k := md_why g l) (v := 0) (by unfold md_q_mc; rw [if_pos (by omega)]) (by first | exact md_post_th (md_like_rf hz hz1) | exact md_post_th (md_like_why hi hz hz1 hJ l) | exact md_post_th (md_like_lp hi hz hz1 ⟨by omega, by omega⟩ hJ9))) | (exact md_qi (k := 0) (v := md_err g (md_sgn g (md_T g) l)) (by unfold md_q_mc; rw [if_neg (by omega)]) (by first | exact md_post_th (md_like_rf hz hz1) | exact md_post_th (md_like_why hi hz hz1 hJ l) | exact md_post_th (md_like_lp hi hz hz1 ⟨by omega, by omega⟩ hJ9))))
  · refine jk_aload_n (q := 11) dX13_misclosure_10 rfl rfl ?_
    refine jk_iload_n (q := 12) dX13_misclosure_11 rfl rfl ?_
    refine jk_cV1p (q := 15) (c_X13_fails (O := O) hm (by first | exact ho | exact (md_whyS_ne _ _ _ _ ⟨by omega, by omega, by omega, by omega, by omega, by omega⟩).trans ho)) jm_X13_fails jw_1937 rfl (by first | exact hm.1 | exact hm.2.1 _ _ rfl | assumption) rfl rfl rfl dX13_misclosure_12 rfl ?_
    refine jk_goto (q := 26) dX13_misclosure_15 rfl ?_
    exact jk_iret rfl dX13_misclosure_26 (by first | (exact md_qi (k := md_why g l) (v := 0) (by unfold md_q_mc; rw [if_pos (by omega)]) (by first | exact md_post_th (md_like_rf hz hz1) | exact md_post_th (md_like_why hi hz hz1 hJ l) | exact md_post_th (md_like_lp hi hz hz1 ⟨by omega, by omega⟩ hJ9))) | (exact md_qi (k := 0) (v := md_err g (md_sgn g (md_T g) l)) (by unfold md_q_mc; rw [if_neg (by omega)]) (by first | exact md_post_th (md_like_rf hz hz1) | exact md_post_th (md_like_why hi hz hz1 hJ l) | exact md_post_th (md_like_lp hi hz hz1 ⟨by omega, by omega⟩ hJ9))))
theorem c_X13_misclosureByLevels {G : jk_G} {n : Nat} {t : jk_T} {σ : jk_I} {ρ : jk_P} {m : Nat} {g O : Int → Int} {B : Int} {l : Int} (hm : md_at t ρ m) (hg : σ (m + 2) = g) (hi : md_inv B g) (ho : σ m = O) (hz : md_z σ m) (hz1 : md_z10 σ m) (hl : jk_in l) (hJ : md_loops g) : jk_K G yX13_misclosureByLevels mX13_misclosureByLevels 0 0 [.ref m, jI l] n t σ ρ (md_Q m σ O n t ρ (md_q_mc g l).1 (jI (md_q_mc g l).2)) jk_no := by
  refine jk_entryB (ls := [some (.ref m), some (jI l)]) jm_X13_misclosureByLevels.1 rfl rfl rfl ?_
  obtain ⟨i0, i1, i2, i3, -⟩ := id hi
  refine jk_aload_n (q := 1) dX13_misclosureByLevels_0 rfl rfl ?_
  refine jk_iload_n (q := 2) dX13_misclosureByLevels_1 rfl rfl ?_
  refine jk_cV1g (q := 5) (c_X13_misclosure hm hg hi ho hz hz1 hl hJ) jm_X13_misclosure jw_2277 rfl (by first | exact hm.1 | exact hm.2.1 _ _ rfl | assumption) rfl rfl (Nat.zero_le _) (Nat.zero_le _) rfl dX13_misclosureByLevels_2 rfl (fun v' n' t' σ' ρ' hq => ?_) (fun _ _ _ _ _ h => h.elim)
  obtain ⟨rfl, rfl, rfl, rfl, hp⟩ := hq
  simp only [Option.toList_some, List.cons_append, List.nil_append, Nat.sub_zero]
  exact jk_iret rfl dX13_misclosureByLevels_5 (by exact ⟨rfl, rfl, rfl, rfl, hp⟩)
end MD15
