section MD18
/-- the divisions that the two averages ask for give numbers -/
def md_fp : Prop := (∀ s c : Int, 0 ≤ s ∧ s ≤ 800 → 1 ≤ c ∧ c ≤ 16 → vf_n64 (FP.ddiv (FP.i2d (Int32.ofInt s)) (FP.i2d (Int32.ofInt c)))) ∧ ∀ s c : Int, 0 ≤ s ∧ s ≤ 16 → 1 ≤ c ∧ c ≤ 16 → vf_n32 (FP.fdiv (FP.i2f (Int32.ofInt s)) (FP.i2f (Int32.ofInt c)))
def md_lsum (g : Int → Int) : Int := jk_sum (fun l => if md_good g l = true then g (56 + l) else 0) (g 1).toNat
def md_q_ml (g : Int → Int) : Int × Value := if md_goods g = 0 then (1, .double FP.dconst0) else (0, .double (FP.ddiv (FP.i2d (Int32.ofInt (md_lsum g))) (FP.i2d (Int32.ofInt (md_goods g)))))
def md_q_sr (g : Int → Int) : Int × Value := if g 1 = 0 then (1, .float FP.fconst0) else (0, .float (FP.fdiv (FP.i2f (Int32.ofInt (md_goods g))) (FP.i2f (Int32.ofInt (g 1)))))
theorem md_qv {n : Nat} {t : jk_T} {σ σ' : jk_I} {ρ : jk_P} {m : Nat} {O : Int → Int} {r : Int × Value} {k : Int} {v : Value} (hr : r = (k, v)) (hp : md_post m σ σ' O k) : md_Q m σ O n t ρ r.1 r.2 (some v) n t σ' ρ := by subst hr; exact ⟨rfl, rfl, rfl, rfl, hp⟩
theorem md_goods_bd {B : Int} {g : Int → Int} (hi : md_inv B g) : 0 ≤ md_goods g ∧ md_goods g ≤ 16 := by
  have h := md_sumB (fun l => md_good g l) (g 1).toNat
  have := hi.2.1
  unfold md_goods; omega
theorem md_lsum_bd {B : Int} {g : Int → Int} (hi : md_inv B g) : 0 ≤ md_lsum g ∧ md_lsum g ≤ 800 := by
  have h := jk_sum_bd2 (f := fun l => if md_good g l = true then g (56 + l) else 0) (a := 0) (b := 50) (g 1).toNat (fun i h1 h2 => by
    have hc := (md_inv_ln hi (l := i) ⟨h1, by have := hi.2.1; omega⟩).2.2.1
    split <;> omega)
  have := hi.2.1
  unfold md_lsum; omega
theorem c_X13_meanLength {G : jk_G} {n : Nat} {t : jk_T} {σ : jk_I} {ρ : jk_P} {m : Nat} {g O : Int → Int} {B : Int} (hm : md_at t ρ m) (hg : σ (m + 2) = g) (hi : md_inv B g) (ho : σ m = O) (hz : md_z σ m) (hz1 : md_z10 σ m) (hfp : md_fp) : jk_K G yX13_meanLength mX13_meanLength 0 0 [.ref m] n t σ ρ (md_Q m σ O n t ρ (md_q_ml g).1 (md_q_ml g).2) jk_no := by
  refine jk_entryB (ls := [some (.ref m), none, none]) jm_X13_meanLength.1 rfl rfl rfl ?_
  obtain ⟨i0, i1, i2, i3, -⟩ := id hi
  have hgb := md_goods_bd hi
  have hlb := md_lsum_bd hi
  refine jk_iconst (q := 1) dX13_meanLength_0 rfl ?_
  refine jk_istore1 (q := 2) dX13_meanLength_1 rfl rfl rfl ?_
  refine jk_iconst (q := 3) dX13_meanLength_2 rfl ?_
  refine jk_istore2 (q := 4) dX13_meanLength_3 rfl rfl rfl ?_
  have L4 : ∀ k4 : Nat, k4 ≤ (g 1).toNat → jk_J G mX13_meanLength 4 [some (.ref m), some (jI (jk_sum (fun l => if md_good g l = true then g (56 + l) else 0) k4)), some (jI (k4 : Int))] [] n t σ ρ 0 0 (md_Q m σ O n t ρ (md_q_ml g).1 (md_q_ml g).2) jk_no := by
    refine jk_loop _ (fun k4 hk4 ih4 => ?_)
    refine jk_iload_n (q := 5) dX13_meanLength_4 rfl rfl ?_
    refine jk_aload_n (q := 6) dX13_meanLength_5 rfl rfl ?_
    refine jk_getA (q := 9) (k := 13) 0 0 rfl (by first | exact hm.1 | exact hm.2.1 _ _ rfl | assumption) (by first | exact hm.2.2 _ _ rfl | assumption) rfl rfl jw_1848 dX13_meanLength_6 rfl ?_
    refine jk_iconst (q := 10) dX13_meanLength_9 rfl ?_
    refine jk_ialdR (q := 11) (by first | exact hm.1 | exact hm.2.1 _ _ rfl | assumption) (by first | exact jk_row_same _ _ _ | exact hg | exact ho | (rewrite [jk_row_ne _ _ (by omega)]; first | exact jk_row_same _ _ _ | exact hg | exact ho | (rewrite [jk_row_ne _ _ (by omega)]; first | exact jk_row_same _ _ _ | exact hg | exact ho | (rewrite [jk_row_ne _ _ (by omega)]; first | exact jk_row_same _ _ _ | exact hg | exact ho | (rewrite [jk_row_ne _ _ (by omega)]; first | exact hg | exact ho | rfl))))) (by first | decide | omega | exact jB_01 _) dX13_meanLength_10 rfl ?_
    refine jk_icmp_ge (q := 44) (q2 := 14) dX13_meanLength_11 rfl rfl (by first | decide | omega | exact jB_01 _) (by first | decide | omega | exact jB_01 _) (fun h1 => ?_) (fun h1 => ?_)
    · rw [show jk_sum (fun l => if md_good g l = true then g (56 + l) else 0) k4 = md_lsum g by unfold md_lsum; rw [show (g 1).toNat = k4 by omega]]
      refine jk_aload_n (q := 45) dX13_meanLength_44 rfl rfl ?_
      refine jk_aload_n (q := 46) dX13_meanLength_45 rfl rfl ?_
      refine jk_cV0p (q := 49) (c_X13_goodOnes hm (by first | exact hg | exact (jk_row_ne _ _ (by omega)).trans hg) hi) jm_X13_goodOnes jw_2006 rfl (by first | exact hm.1 | exact hm.2.1 _ _ rfl | assumption) rfl rfl rfl dX13_meanLength_46 rfl ?_
      refine jk_if_ne (q := 56) (q2 := 52) dX13_meanLength_49 rfl rfl (by first | decide | omega | exact jB_01 _) (fun h2 => ?_) (fun h2 => ?_)
      · refine jk_iconst (q := 57) dX13_meanLength_56 rfl ?_
        refine jk_putIR (q := 60) (k := 13) 12 12 rfl (by first | exact hm.1 | exact hm.2.1 _ _ rfl | assumption) (by first | exact jk_row_same _ _ _ | exact hg | exact ho | (rewrite [jk_row_ne _ _ (by omega)]; first | exact jk_row_same _ _ _ | exact hg | exact ho | (rewrite [jk_row_ne _ _ (by omega)]; first | exact jk_row_same _ _ _ | exact hg | exact ho | (rewrite [jk_row_ne _ _ (by omega)]; first | exact jk_row_same _ _ _ | exact hg | exact ho | (rewrite [jk_row_ne _ _ (by omega)]; first | exact hg | exact ho | rfl))))) rfl rfl rfl jw_1860 dX13_meanLength_57 rfl ?_
        refine jk_aload_n (q := 61) dX13_meanLength_60 rfl rfl ?_
        refine jk_getIR (q := 64) (k := 13) 12 12 rfl (by first | exact hm.1 | exact hm.2.1 _ _ rfl | assumption) (by first | exact jk_row_same _ _ _ | exact hg | exact ho | (rewrite [jk_row_ne _ _ (by omega)]; first | exact jk_row_same _ _ _ | exact hg | exact ho | (rewrite [jk_row_ne _ _ (by omega)]; first | exact jk_row_same _ _ _ | exact hg | exact ho | (rewrite [jk_row_ne _ _ (by omega)]; first | exact jk_row_same _ _ _ | exact hg | exact ho | (rewrite [jk_row_ne _ _ (by omega)]; first | exact hg | exact ho | rfl))))) rfl rfl jw_1860 dX13_meanLength_61 rfl ?_
        rw [jk_set_at]
        refine jk_ifN_ne (q := 67) (by decide) (by decide) dX13_meanLength_64 rfl rfl ?_
        refine jk_iload_n (q := 68) dX13_meanLength_67 rfl rfl ?_
        refine jk_i2d (q := 69) dX13_meanLength_68 rfl ?_
        refine jk_aload_n (q := 70) dX13_meanLength_69 rfl rfl ?_
        refine jk_cV0p (q := 73) (c_X13_goodOnes hm (by first | exact hg | exact (jk_row_ne _ _ (by omega)).trans hg) hi) jm_X13_goodOnes jw_2006 rfl (by first | exact hm.1 | exact hm.2.1 _ _ rfl | assumption) rfl rfl rfl dX13_meanLength_70 rfl ?_
        refine jk_i2d (q := 74) dX13_meanLength_73 rfl ?_
        refine jk_ddiv (q := 75) (by exact hfp.1 _ _ hlb ⟨by omega, by omega⟩) dX13_meanLength_74 rfl ?_
        refine jk_goto (q := 79) dX13_meanLength_75 rfl ?_
        exact jk_dret rfl dX13_meanLength_79 (by first | exact md_qv (k := 1) (v := .double FP.dconst0) (by unfold md_q_ml; rw [if_pos (by assumption)]) (by exact md_post_th (md_like_rf hz hz1)) | exact md_qv (k := 0) (v := .double (FP.ddiv (FP.i2d (Int32.ofInt (md_lsum g))) (FP.i2d (Int32.ofInt (md_goods g))))) (by unfold md_q_ml; rw [if_neg (by assumption)]) (by exact md_post_th (md_like_rf hz hz1)))
      · refine jk_iconst (q := 53) dX13_meanLength_52 rfl ?_
        refine jk_goto (q := 57) dX13_meanLength_53 rfl ?_
        refine jk_putIR (q := 60) (k := 13) 12 12 rfl (by first | exact hm.1 | exact hm.2.1 _ _ rfl | assumption) (by first | exact jk_row_same _ _ _ | exact hg | exact ho | (rewrite [jk_row_ne _ _ (by omega)]; first | exact jk_row_same _ _ _ | exact hg | exact ho | (rewrite [jk_row_ne _ _ (by omega)]; first | exact jk_row_same _ _ _ | exact hg | exact ho | (rewrite [jk_row_ne _ _ (by omega)]; first | exact jk_row_same _ _ _ | exact hg | exact ho | (rewrite [jk_row_ne _ _ (by omega)]; first | exact hg | exact ho | rfl))))) rfl rfl rfl jw_1860 dX13_meanLength_57 rfl ?_
        refine jk_aload_n (q := 61) dX13_meanLength_60 rfl rfl ?_
        refine jk_getIR (q := 64) (k := 13) 12 12 rfl (by first | exact hm.1 | exact hm.2.1 _ _ rfl | assumption) (by first | exact jk_row_same _ _ _ | exact hg | exact ho | (rewrite [jk_row_ne _ _ (by omega)]; first | exact jk_row_same _ _ _ | exact hg | exact ho | (rewrite [jk_row_ne _ _ (by omega)]; first | exact jk_row_same _ _ _ | exact hg | exact ho | (rewrite [jk_row_ne _ _ (by omega)]; first | exact jk_row_same _ _ _ | exact hg | exact ho | (rewrite [jk_row_ne _ _ (by omega)]; first | exact hg | exact ho | rfl))))) rfl rfl jw_1860 dX13_meanLength_61 rfl ?_
        rw [jk_set_at]
        refine jk_ifT_ne (q := 78) (by decide) (by decide) dX13_meanLength_64 rfl ?_
        refine jk_dconst0 (q := 79) dX13_meanLength_78 rfl ?_
        exact jk_dret rfl dX13_meanLength_79 (by first | exact md_qv (k := 1) (v := .double FP.dconst0) (by unfold md_q_ml; rw [if_pos (by assumption)]) (by exact md_post_th (md_like_rf hz hz1)) | exact md_qv (k := 0) (v := .double (FP.ddiv (FP.i2d (Int32.ofInt (md_lsum g))) (FP.i2d (Int32.ofInt (md_goods g))))) (by unfold md_q_ml; rw [if_neg (by assumption)]) (by exact md_post_th (md_like_rf hz hz1)))
    · refine jk_iload_n (q := 15) dX13_meanLength_14 rfl rfl ?_
      refine jk_aload_n (q := 16) dX13_meanLength_15 rfl rfl ?_
      refine jk_iload_n (q := 17) dX13_meanLength_16 rfl rfl ?_
      refine jk_cV1p (q := 20) (c_X13_isGood hm hg hi ⟨by omega, by omega⟩) jm_X13_isGood jw_2010 rfl (by first | exact hm.1 | exact hm.2.1 _ _ rfl | assumption) rfl rfl rfl dX13_meanLength_17 rfl ?_
      refine jk_ifB_eq (q := 35) (q2 := 23) dX13_meanLength_20 rfl rfl (fun h3 => ?_) (fun h3 => ?_)
      · refine jk_iconst (q := 36) dX13_meanLength_35 rfl ?_
        refine jk_iadd (q := 37) dX13_meanLength_36 rfl ?_
        refine jk_istore1 (q := 38) dX13_meanLength_37 rfl rfl rfl ?_
        refine jk_iinc2 (q := 41) dX13_meanLength_38 rfl rfl rfl ?_
        refine jk_goto (q := 4) dX13_meanLength_41 rfl ?_
        refine jk_convl (ih4 (by omega)) (jk_loc rfl (jk_loc (jk_li ?_) rfl))
        simp [jk_sum, *]
      · refine jk_aload_n (q := 24) dX13_meanLength_23 rfl rfl ?_
        refine jk_getA (q := 27) (k := 13) 0 0 rfl (by first | exact hm.1 | exact hm.2.1 _ _ rfl | assumption) (by first | exact hm.2.2 _ _ rfl | assumption) rfl rfl jw_1848 dX13_meanLength_24 rfl ?_
        refine jk_bipush (q := 29) (y := 56) dX13_meanLength_27 rfl (by decide) ?_
        refine jk_iload_n (q := 30) dX13_meanLength_29 rfl rfl ?_
        refine jk_iadd (q := 31) dX13_meanLength_30 rfl ?_
        refine jk_ialdR (q := 32) (by first | exact hm.1 | exact hm.2.1 _ _ rfl | assumption) (by first | exact jk_row_same _ _ _ | exact hg | exact ho | (rewrite [jk_row_ne _ _ (by omega)]; first | exact jk_row_same _ _ _ | exact hg | exact ho | (rewrite [jk_row_ne _ _ (by omega)]; first | exact jk_row_same _ _ _ | exact hg | exact ho | (rewrite [jk_row_ne _ _ (by omega)]; first | exact jk_row_same _ _ _ | exact hg | exact ho | (rewrite [jk_row_ne _ _ (by omega)]; first | exact hg | exact ho | rfl))))) (by first | decide | omega | exact jB_01 _) dX13_meanLength_31 rfl ?_
        refine jk_goto (q := 36) dX13_meanLength_32 rfl ?_
        refine jk_iadd (q := 37) dX13_meanLength_36 rfl ?_
        refine jk_istore1 (q := 38) dX13_meanLength_37 rfl rfl rfl ?_
        refine jk_iinc2 (q := 41) dX13_meanLength_38 rfl rfl rfl ?_
        refine jk_goto (q := 4) dX13_meanLength_41 rfl ?_
        refine jk_convl (ih4 (by omega)) (jk_loc rfl (jk_loc (jk_li ?_) rfl))
        simp [jk_sum, *]
  exact L4 0 (Nat.zero_le _)
theorem c_X13_usableShare {G : jk_G} {n : Nat} {t : jk_T} {σ : jk_I} {ρ : jk_P} {m : Nat} {g O : Int → Int} {B : Int} (hm : md_at t ρ m) (hg : σ (m + 2) = g) (hi : md_inv B g) (ho : σ m = O) (hz : md_z σ m) (hz1 : md_z10 σ m) (hfp : md_fp) : jk_K G yX13_usableShare mX13_usableShare 0 0 [.ref m] n t σ ρ (md_Q m σ O n t ρ (md_q_sr g).1 (md_q_sr g).2) jk_no := by
  refine jk_entryB (ls := [some (.ref m)]) jm_X13_usableShare.1 rfl rfl rfl ?_
  obtain ⟨i0, i1, i2, i3, -⟩ := id hi
  have hgb := md_goods_bd hi
  have hlb := md_lsum_bd hi
  refine jk_aload_n (q := 1) dX13_usableShare_0 rfl rfl ?_
  refine jk_aload_n (q := 2) dX13_usableShare_1 rfl rfl ?_
  refine jk_getA (q := 5) (k := 13) 0 0 rfl (by first | exact hm.1 | exact hm.2.1 _ _ rfl | assumption) (by first | exact hm.2.2 _ _ rfl | assumption) rfl rfl jw_1848 dX13_usableShare_2 rfl ?_
  refine jk_iconst (q := 6) dX13_usableShare_5 rfl ?_
  refine jk_ialdR (q := 7) (by first | exact hm.1 | exact hm.2.1 _ _ rfl | assumption) (by first | exact jk_row_same _ _ _ | exact hg | exact ho | (rewrite [jk_row_ne _ _ (by omega)]; first | exact jk_row_same _ _ _ | exact hg | exact ho | (rewrite [jk_row_ne _ _ (by omega)]; first | exact jk_row_same _ _ _ | exact hg | exact ho | (rewrite [jk_row_ne _ _ (by omega)]; first | exact jk_row_same _ _ _ | exact hg | exact ho | (rewrite [jk_row_ne _ _ (by omega)]; first | exact hg | exact ho | rfl))))) (by first | decide | omega | exact jB_01 _) dX13_usableShare_6 rfl ?_
  refine jk_if_ne (q := 14) (q2 := 10) dX13_usableShare_7 rfl rfl (by first | decide | omega | exact jB_01 _) (fun h1 => ?_) (fun h1 => ?_)
  · refine jk_iconst (q := 15) dX13_usableShare_14 rfl ?_
    refine jk_putIR (q := 18) (k := 13) 12 12 rfl (by first | exact hm.1 | exact hm.2.1 _ _ rfl | assumption) (by first | exact jk_row_same _ _ _ | exact hg | exact ho | (rewrite [jk_row_ne _ _ (by omega)]; first | exact jk_row_same _ _ _ | exact hg | exact ho | (rewrite [jk_row_ne _ _ (by omega)]; first | exact jk_row_same _ _ _ | exact hg | exact ho | (rewrite [jk_row_ne _ _ (by omega)]; first | exact jk_row_same _ _ _ | exact hg | exact ho | (rewrite [jk_row_ne _ _ (by omega)]; first | exact hg | exact ho | rfl))))) rfl rfl rfl jw_1860 dX13_usableShare_15 rfl ?_
    refine jk_aload_n (q := 19) dX13_usableShare_18 rfl rfl ?_
    refine jk_getIR (q := 22) (k := 13) 12 12 rfl (by first | exact hm.1 | exact hm.2.1 _ _ rfl | assumption) (by first | exact jk_row_same _ _ _ | exact hg | exact ho | (rewrite [jk_row_ne _ _ (by omega)]; first | exact jk_row_same _ _ _ | exact hg | exact ho | (rewrite [jk_row_ne _ _ (by omega)]; first | exact jk_row_same _ _ _ | exact hg | exact ho | (rewrite [jk_row_ne _ _ (by omega)]; first | exact jk_row_same _ _ _ | exact hg | exact ho | (rewrite [jk_row_ne _ _ (by omega)]; first | exact hg | exact ho | rfl))))) rfl rfl jw_1860 dX13_usableShare_19 rfl ?_
    rw [jk_set_at]
    refine jk_ifN_ne (q := 25) (by decide) (by decide) dX13_usableShare_22 rfl rfl ?_
    refine jk_aload_n (q := 26) dX13_usableShare_25 rfl rfl ?_
    refine jk_cV0p (q := 29) (c_X13_goodOnes hm (by first | exact hg | exact (jk_row_ne _ _ (by omega)).trans hg) hi) jm_X13_goodOnes jw_2006 rfl (by first | exact hm.1 | exact hm.2.1 _ _ rfl | assumption) rfl rfl rfl dX13_usableShare_26 rfl ?_
    refine jk_i2f (q := 30) dX13_usableShare_29 rfl ?_
    refine jk_aload_n (q := 31) dX13_usableShare_30 rfl rfl ?_
    refine jk_getA (q := 34) (k := 13) 0 0 rfl (by first | exact hm.1 | exact hm.2.1 _ _ rfl | assumption) (by first | exact hm.2.2 _ _ rfl | assumption) rfl rfl jw_1848 dX13_usableShare_31 rfl ?_
    refine jk_iconst (q := 35) dX13_usableShare_34 rfl ?_
    refine jk_ialdR (q := 36) (by first | exact hm.1 | exact hm.2.1 _ _ rfl | assumption) (by first | exact jk_row_same _ _ _ | exact hg | exact ho | (rewrite [jk_row_ne _ _ (by omega)]; first | exact jk_row_same _ _ _ | exact hg | exact ho | (rewrite [jk_row_ne _ _ (by omega)]; first | exact jk_row_same _ _ _ | exact hg | exact ho | (rewrite [jk_row_ne _ _ (by omega)]; first | exact jk_row_same _ _ _ | exact hg | exact ho | (rewrite [jk_row_ne _ _ (by omega)]; first | exact hg | exact ho | rfl))))) (by first | decide | omega | exact jB_01 _) dX13_usableShare_35 rfl ?_
    refine jk_i2f (q := 37) dX13_usableShare_36 rfl ?_
    refine jk_fdiv (q := 38) (by exact hfp.2 _ _ hgb ⟨by omega, by omega⟩) dX13_usableShare_37 rfl ?_
    refine jk_goto (q := 42) dX13_usableShare_38 rfl ?_
    exact jk_fret rfl dX13_usableShare_42 (by first | exact md_qv (k := 1) (v := .float FP.fconst0) (by unfold md_q_sr; rw [if_pos (by assumption)]) (by exact md_post_th (md_like_rf hz hz1)) | exact md_qv (k := 0) (v := .float (FP.fdiv (FP.i2f (Int32.ofInt (md_goods g))) (FP.i2f (Int32.ofInt (g 1))))) (by unfold md_q_sr; rw [if_neg (by assumption)]) (by exact md_post_th (md_like_rf hz hz1)))
  · refine jk_iconst (q := 11) dX13_usableShare_10 rfl ?_
    refine jk_goto (q := 15) dX13_usableShare_11 rfl ?_
    refine jk_putIR (q := 18) (k := 13) 12 12 rfl (by first | exact hm.1 | exact hm.2.1 _ _ rfl | assumption) (by first | exact jk_row_same _ _ _ | exact hg | exact ho | (rewrite [jk_row_ne _ _ (by omega)]; first | exact jk_row_same _ _ _ | exact hg | exact ho | (rewrite [jk_row_ne _ _ (by omega)]; first | exact jk_row_same _ _ _ | exact hg | exact ho | (rewrite [jk_row_ne _ _ (by omega)]; first | exact jk_row_same _ _ _ | exact hg | exact ho | (rewrite [jk_row_ne _ _ (by omega)]; first | exact hg | exact ho | rfl))))) rfl rfl rfl jw_1860 dX13_usableShare_15 rfl ?_
    refine jk_aload_n (q := 19) dX13_usableShare_18 rfl rfl ?_
    refine jk_getIR (q := 22) (k := 13) 12 12 rfl (by first | exact hm.1 | exact hm.2.1 _ _ rfl | assumption) (by first | exact jk_row_same _ _ _ | exact hg | exact ho | (rewrite [jk_row_ne _ _ (by omega)]; first | exact jk_row_same _ _ _ | exact hg | exact ho | (rewrite [jk_row_ne _ _ (by omega)]; first | exact jk_row_same _ _ _ | exact hg | exact ho | (rewrite [jk_row_ne _ _ (by omega)]; first | exact jk_row_same _ _ _ | exact hg | exact ho | (rewrite [jk_row_ne _ _ (by omega)]; first | exact hg | exact ho | rfl))))) rfl rfl jw_1860 dX13_usableShare_19 rfl ?_
    rw [jk_set_at]
    refine jk_ifT_ne (q := 41) (by decide) (by decide) dX13_usableShare_22 rfl ?_
    refine jk_fconst0 (q := 42) dX13_usableShare_41 rfl ?_
    exact jk_fret rfl dX13_usableShare_42 (by first | exact md_qv (k := 1) (v := .float FP.fconst0) (by unfold md_q_sr; rw [if_pos (by assumption)]) (by exact md_post_th (md_like_rf hz hz1)) | exact md_qv (k := 0) (v := .float (FP.fdiv (FP.i2f (Int32.ofInt (md_goods g))) (FP.i2f (Int32.ofInt (g 1))))) (by unfold md_q_sr; rw [if_neg (by assumption)]) (by exact md_post_th (md_like_rf hz hz1)))
theorem c_X13_isConsistent {G : jk_G} {n : Nat} {t : jk_T} {σ : jk_I} {ρ : jk_P} {m : Nat} {O : Int → Int} (hm : md_at t ρ m) (ho : σ m = O) (hz : md_z σ m) (hz1 : md_z10 σ m) : jk_K G yX13_isConsistent mX13_isConsistent 0 0 [.ref m] n t σ ρ (md_Q m σ O n t ρ 0 (jI 1)) jk_no := by
  refine jk_entryB (ls := [some (.ref m)]) jm_X13_isConsistent.1 rfl rfl rfl ?_
  refine jk_aload_n (q := 1) dX13_isConsistent_0 rfl rfl ?_
  refine jk_iconst (q := 2) dX13_isConsistent_1 rfl ?_
  refine jk_putIR (q := 5) (k := 13) 12 12 rfl (by first | exact hm.1 | exact hm.2.1 _ _ rfl | assumption) (by first | exact jk_row_same _ _ _ | exact ho | (rewrite [jk_row_ne _ _ (by omega)]; first | exact jk_row_same _ _ _ | exact ho | (rewrite [jk_row_ne _ _ (by omega)]; first | exact jk_row_same _ _ _ | exact ho | (rewrite [jk_row_ne _ _ (by omega)]; first | exact jk_row_same _ _ _ | exact ho | (rewrite [jk_row_ne _ _ (by omega)]; first | exact ho | rfl))))) rfl rfl rfl jw_1860 dX13_isConsistent_2 rfl ?_
  refine jk_iconst (q := 6) dX13_isConsistent_5 rfl ?_
  exact jk_zret rfl (by first | decide | omega | grind) dX13_isConsistent_6 (by exact ⟨rfl, rfl, rfl, rfl, (by exact md_post_th (md_like_rf hz hz1))⟩)
theorem c_X13_thrown {G : jk_G} {n : Nat} {t : jk_T} {σ : jk_I} {ρ : jk_P} {m : Nat} {O : Int → Int} (hm : md_at t ρ m) (ho : σ m = O) : jk_K G yX13_thrown mX13_thrown 0 0 [.ref m] n t σ ρ (jk_q (some (jI (O 12))) n t σ ρ) jk_no := by
  refine jk_entryB (ls := [some (.ref m)]) jm_X13_thrown.1 rfl rfl rfl ?_
  refine jk_aload_n (q := 1) dX13_thrown_0 rfl rfl ?_
  refine jk_getIR (q := 4) (k := 13) 12 12 rfl (by first | exact hm.1 | exact hm.2.1 _ _ rfl | assumption) (by first | exact jk_row_same _ _ _ | exact ho | (rewrite [jk_row_ne _ _ (by omega)]; first | exact jk_row_same _ _ _ | exact ho | (rewrite [jk_row_ne _ _ (by omega)]; first | exact jk_row_same _ _ _ | exact ho | (rewrite [jk_row_ne _ _ (by omega)]; first | exact jk_row_same _ _ _ | exact ho | (rewrite [jk_row_ne _ _ (by omega)]; first | exact ho | rfl))))) rfl rfl jw_1860 dX13_thrown_1 rfl ?_
  exact jk_iret rfl dX13_thrown_4 (by exact jk_qr)
theorem c_X13_part {G : jk_G} {n : Nat} {t : jk_T} {σ : jk_I} {ρ : jk_P} {m : Nat} {g O : Int → Int} {B : Int} {l x : Int} (hm : md_at t ρ m) (hg : σ (m + 2) = g) (hi : md_inv B g) (ho : σ m = O) (hz : md_z σ m) (hz1 : md_z10 σ m) (hl : jk_in l) (hx : jk_in x) (hJ : md_loops g) (hw : md_inw g) : jk_K G yX13_part mX13_part 0 0 [.ref m, jI l, jI x] n t σ ρ (md_Q m σ O n t ρ (md_q_pt g l x).1 (jI (md_q_pt g l x).2)) jk_no := by
  refine jk_entryB (ls := [some (.ref m), some (jI l), some (jI x), none]) jm_X13_part.1 rfl rfl rfl ?_
  obtain ⟨i0, i1, i2, i3, -⟩ := id hi
  refine jk_aload_n (q := 1) dX13_part_0 rfl rfl ?_
  refine jk_iload_n (q := 2) dX13_part_1 rfl rfl ?_
  refine jk_cV1p (q := 5) (c_X13_isLine hm hg hi (by assumption)) jm_X13_isLine jw_1990 rfl (by first | exact hm.1 | exact hm.2.1 _ _ rfl | assumption) rfl rfl rfl dX13_part_2 rfl ?_
  refine jk_ifB_eq (q := 16) (q2 := 8) dX13_part_5 rfl rfl (fun h1 => ?_) (fun h1 => ?_)
  · refine jk_iconst (q := 17) dX13_part_16 rfl ?_
    refine jk_goto (q := 25) dX13_part_17 rfl ?_
    refine jk_istore3 (q := 26) dX13_part_25 rfl rfl rfl ?_
    first | skip
    have hwb := md_why_bd g l
    refine jk_iload_n (q := 27) dX13_part_26 rfl rfl ?_
    refine jk_ifN_le (q := 30) (by decide) (by decide) dX13_part_27 rfl rfl ?_
    refine jk_aload_n (q := 31) dX13_part_30 rfl rfl ?_
    refine jk_iload_n (q := 32) dX13_part_31 rfl rfl ?_
    refine jk_cV1p (q := 35) (c_X13_fails (O := O) hm (by first | exact ho | exact (md_whyS_ne _ _ _ _ ⟨by omega, by omega, by omega, by omega, by omega, by omega⟩).trans ho)) jm_X13_fails jw_1937 rfl (by first | exact hm.1 | exact hm.2.1 _ _ rfl | assumption) rfl rfl rfl dX13_part_32 rfl ?_
    exact jk_iret rfl dX13_part_35 (by first | (exact md_qi (k := 1) (v := 0) (by unfold md_q_pt; simp [*]; done) (by first | exact md_post_th (md_like_rf hz hz1) | exact md_post_th (md_like_why hi hz hz1 hJ l) | exact md_post_th (md_like_lp hi hz hz1 ⟨by omega, by omega⟩ hJ9))) | (exact md_qi (k := md_why g l) (v := 0) (by unfold md_q_pt; rw [if_neg (by simp [*]), if_pos (by omega)]) (by first | exact md_post_th (md_like_rf hz hz1) | exact md_post_th (md_like_why hi hz hz1 hJ l) | exact md_post_th (md_like_lp hi hz hz1 ⟨by omega, by omega⟩ hJ9))))
  · refine jk_aload_n (q := 9) dX13_part_8 rfl rfl ?_
    refine jk_iload_n (q := 10) dX13_part_9 rfl rfl ?_
    refine jk_cV1p (q := 13) (c_X13_isLine hm hg hi (by assumption)) jm_X13_isLine jw_1990 rfl (by first | exact hm.1 | exact hm.2.1 _ _ rfl | assumption) rfl rfl rfl dX13_part_10 rfl ?_
    refine jk_ifB_ne (q := 20) (q2 := 16) dX13_part_13 rfl rfl (fun h2 => ?_) (fun h2 => ?_)
    · refine jk_aload_n (q := 21) dX13_part_20 rfl rfl ?_
      refine jk_iload_n (q := 22) dX13_part_21 rfl rfl ?_
      refine jk_cV1p (q := 25) (c_X13_whyNoLoop hm hg hi hz hz1 hJ hl) jm_X13_whyNoLoop jw_2032 rfl (by first | exact hm.1 | exact hm.2.1 _ _ rfl | assumption) rfl rfl rfl dX13_part_22 rfl ?_
      refine jk_istore3 (q := 26) dX13_part_25 rfl rfl rfl ?_
      first | skip
      have hwb := md_why_bd g l
      refine jk_iload_n (q := 27) dX13_part_26 rfl rfl ?_
      refine jk_if_le (q := 36) (q2 := 30) dX13_part_27 rfl rfl (by first | decide | omega | exact jB_01 _) (fun h3 => ?_) (fun h3 => ?_)
      · have hnw : ¬ 0 < md_why g l := (by omega)
        obtain ⟨hws, hin9, hcl9⟩ := md_why0 (σ := σ) (m := m) hnw
        rw [hws]
        have hl9 := md_inT hin9
        have hx9 := md_inT (by assumption : md_in x 0 (g 1 - 1) = true)
        obtain ⟨J, hJ9⟩ := hJ l ⟨by omega, by omega⟩ hcl9
        have hsb := md_sgn_sb g (md_T g) l
        have hsz := md_sgn_z ⟨by omega, by omega⟩ hJ9
        have hlp := md_len_pos hi hw (T := md_T g) (l := l) ⟨by omega, by omega⟩
        refine jk_aload_n (q := 37) dX13_part_36 rfl rfl ?_
        refine jk_cV0v (q := 40) (c_X13_sharesOut hm ((md_lp_ne _ _ _ _ ⟨by omega, by omega, by omega, by omega, by omega, by omega⟩).trans hg) hi (md_lp_sg σ m g l) (fun j _ => hsb j) (fun p hp => ⟨by rw [show md_lp σ m g l (m + 14) = md_T g by unfold md_lp; rw [jk_row_ne _ _ (by omega), jk_row_ne _ _ (by omega), jk_row_ne _ _ (by omega)]; exact (md_gr_at σ m g).1]; exact (md_kr_z hi 50).1 p hp, by rw [md_lp_sg]; exact hsz p hp, by rw [md_lp_ne _ _ _ _ ⟨by omega, by omega, by omega, by omega, by omega, by omega⟩]; exact (hz p hp).2.2⟩) hlp) jm_X13_sharesOut jw_2083 rfl (by first | exact hm.1 | exact hm.2.1 _ _ rfl | assumption) rfl rfl rfl dX13_part_37 rfl ?_
        refine jk_aload_n (q := 41) dX13_part_40 rfl rfl ?_
        refine jk_aload_n (q := 42) dX13_part_41 rfl rfl ?_
        refine jk_getA (q := 45) (k := 13) 18 18 rfl (by first | exact hm.1 | exact hm.2.1 _ _ rfl | assumption) (by first | exact hm.2.2 _ _ rfl | assumption) rfl rfl jw_1866 dX13_part_42 rfl ?_
        refine jk_iload_n (q := 46) dX13_part_45 rfl rfl ?_
        refine jk_ialdR (q := 47) (by first | exact hm.1 | exact hm.2.1 _ _ rfl | assumption) (by first | exact jk_row_same _ _ _ | exact hg | exact ho | exact (md_lp_sg σ m g l) | exact ((md_lp_ne _ _ _ _ ⟨by omega, by omega, by omega, by omega, by omega, by omega⟩).trans hg) | (rewrite [jk_row_ne _ _ (by omega)]; first | exact jk_row_same _ _ _ | exact hg | exact ho | exact (md_lp_sg σ m g l) | exact ((md_lp_ne _ _ _ _ ⟨by omega, by omega, by omega, by omega, by omega, by omega⟩).trans hg) | (rewrite [jk_row_ne _ _ (by omega)]; first | exact jk_row_same _ _ _ | exact hg | exact ho | exact (md_lp_sg σ m g l) | exact ((md_lp_ne _ _ _ _ ⟨by omega, by omega, by omega, by omega, by omega, by omega⟩).trans hg) | (rewrite [jk_row_ne _ _ (by omega)]; first | exact jk_row_same _ _ _ | exact hg | exact ho | exact (md_lp_sg σ m g l) | exact ((md_lp_ne _ _ _ _ ⟨by omega, by omega, by omega, by omega, by omega, by omega⟩).trans hg) | (rewrite [jk_row_ne _ _ (by omega)]; first | exact hg | exact ho | exact (md_lp_sg σ m g l) | exact ((md_lp_ne _ _ _ _ ⟨by omega, by omega, by omega, by omega, by omega, by omega⟩).trans hg) | rfl))))) (by first | decide | omega | exact jB_01 _) dX13_part_46 rfl ?_
        refine jk_cV1p (q := 50) (c_X13_done (O := O) hm (by first | exact (jk_row_ne _ _ (by omega)).trans ((md_lp_ne _ _ _ _ ⟨by omega, by omega, by omega, by omega, by omega, by omega⟩).trans ho) | exact (jk_row_ne _ _ (by omega)).trans ho)) jm_X13_done jw_1941 rfl (by first | exact hm.1 | exact hm.2.1 _ _ rfl | assumption) rfl rfl rfl dX13_part_47 rfl ?_
        exact jk_iret rfl dX13_part_50 (by first | (exfalso; omega) | (exact md_qi (k := 0) (v := (md_parts g (md_sgn g (md_T g) l)) x) (by unfold md_q_pt; rw [if_neg (by simp [*]), if_neg (by omega)]) (md_post_th (md_like_row (md_like_lp hi hz hz1 ⟨by omega, by omega⟩ hJ9) rfl (fun p hp => if_neg (by omega))))))
      · refine jk_aload_n (q := 31) dX13_part_30 rfl rfl ?_
        refine jk_iload_n (q := 32) dX13_part_31 rfl rfl ?_
        refine jk_cV1p (q := 35) (c_X13_fails (O := O) hm (by first | exact ho | exact (md_whyS_ne _ _ _ _ ⟨by omega, by omega, by omega, by omega, by omega, by omega⟩).trans ho)) jm_X13_fails jw_1937 rfl (by first | exact hm.1 | exact hm.2.1 _ _ rfl | assumption) rfl rfl rfl dX13_part_32 rfl ?_
        exact jk_iret rfl dX13_part_35 (by first | (exact md_qi (k := 1) (v := 0) (by unfold md_q_pt; simp [*]; done) (by first | exact md_post_th (md_like_rf hz hz1) | exact md_post_th (md_like_why hi hz hz1 hJ l) | exact md_post_th (md_like_lp hi hz hz1 ⟨by omega, by omega⟩ hJ9))) | (exact md_qi (k := md_why g l) (v := 0) (by unfold md_q_pt; rw [if_neg (by simp [*]), if_pos (by omega)]) (by first | exact md_post_th (md_like_rf hz hz1) | exact md_post_th (md_like_why hi hz hz1 hJ l) | exact md_post_th (md_like_lp hi hz hz1 ⟨by omega, by omega⟩ hJ9))))
    · refine jk_iconst (q := 17) dX13_part_16 rfl ?_
      refine jk_goto (q := 25) dX13_part_17 rfl ?_
      refine jk_istore3 (q := 26) dX13_part_25 rfl rfl rfl ?_
      first | skip
      have hwb := md_why_bd g l
      refine jk_iload_n (q := 27) dX13_part_26 rfl rfl ?_
      refine jk_ifN_le (q := 30) (by decide) (by decide) dX13_part_27 rfl rfl ?_
      refine jk_aload_n (q := 31) dX13_part_30 rfl rfl ?_
      refine jk_iload_n (q := 32) dX13_part_31 rfl rfl ?_
      refine jk_cV1p (q := 35) (c_X13_fails (O := O) hm (by first | exact ho | exact (md_whyS_ne _ _ _ _ ⟨by omega, by omega, by omega, by omega, by omega, by omega⟩).trans ho)) jm_X13_fails jw_1937 rfl (by first | exact hm.1 | exact hm.2.1 _ _ rfl | assumption) rfl rfl rfl dX13_part_32 rfl ?_
      exact jk_iret rfl dX13_part_35 (by first | (exact md_qi (k := 1) (v := 0) (by unfold md_q_pt; simp [*]; done) (by first | exact md_post_th (md_like_rf hz hz1) | exact md_post_th (md_like_why hi hz hz1 hJ l) | exact md_post_th (md_like_lp hi hz hz1 ⟨by omega, by omega⟩ hJ9))) | (exact md_qi (k := md_why g l) (v := 0) (by unfold md_q_pt; rw [if_neg (by simp [*]), if_pos (by omega)]) (by first | exact md_post_th (md_like_rf hz hz1) | exact md_post_th (md_like_why hi hz hz1 hJ l) | exact md_post_th (md_like_lp hi hz hz1 ⟨by omega, by omega⟩ hJ9))))
end MD18
