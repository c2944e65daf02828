section E4
theorem ln_sum2 (f h : Int → Int) : ∀ n : Nat, jk_sum (fun i => f i + h i) n = jk_sum f n + jk_sum h n
  | 0 => rfl
  | n + 1 => by
    have := ln_sum2 f h n
    show jk_sum (fun i => f i + h i) n + (f (n : Int) + h (n : Int)) = (jk_sum f n + f (n : Int)) + (jk_sum h n + h (n : Int))
    omega
theorem ln_euler {B : Int} {g : Int → Int} (hi : md_inv B g) (hw : md_inw g) : jk_sum (fun l => jB (md_clo g (md_T g) l)) (g 1).toNat = md_goods g - g 0 + jk_sum (fun p => if md_Ro g p = p then 1 else 0) (g 0).toNat := by
  have hk := (cm_T (cm_pt_of hi hw)).1
  obtain ⟨k1, -, -, -, k5⟩ := hk
  have e1 : md_goods g = jk_sum (fun l => jB (md_clo g (md_T g) l) + md_T g l) (g 1).toNat := jk_sum_cong _ (fun l h0 h1 => by
    unfold md_clo
    rcases k1 l ⟨h0, by have := hi.2.1.1; omega⟩ with h | ⟨h, hg, -⟩
    · have h : md_T g l = 0 := h
      rw [h, decide_eq_true rfl, Bool.and_true, Int.add_zero]
    · have h : md_T g l = 1 := h
      rw [h, hg]; rfl)
  have e2 : jk_sum (fun p => jB (decide (md_Ro g p = p))) (g 0).toNat = jk_sum (fun p => if md_Ro g p = p then 1 else 0) (g 0).toNat := jk_sum_cong _ (fun p h0 h1 => by
    by_cases h : md_Ro g p = p
    · rw [if_pos h, decide_eq_true h]; rfl
    · rw [if_neg h, decide_eq_false h]; rfl)
  have k5 : jk_sum (md_T g) (g 1).toNat + jk_sum (fun p => jB (decide (md_Ro g p = p))) (g 0).toNat = g 0 := k5
  rw [e1, ln_sum2]
  have e3 : jk_sum (fun l => md_T g l) (g 1).toNat = jk_sum (md_T g) (g 1).toNat := rfl
  omega
theorem cb_wc_bd {B sf q : Int} {g : Int → Int} (hi : md_inv B g) (hx : md_inx g) (hq : 0 ≤ q ∧ q < g 2) : 0 ≤ cb_wc g q sf ∧ cb_wc g q sf ≤ 100 := by
  have i2 := hi.2.2.1
  have hst := (hi.2.2.2.2.2.2.2.1 q ⟨by omega, by omega⟩).1
  unfold cb_wc
  by_cases h : 0 < g (156 + q)
  · rw [if_pos h]
    have h1 := ((hx q hq).1 0 ⟨by omega, by omega⟩).1
    have h2 := ((hx q hq).1 (g (156 + q) - 1) ⟨by omega, by omega⟩).2
    have h3 := md_sumB (fun i => cb_wt g q sf (md_Ds g q 0 + i)) (md_Ds g q (g (156 + q) - 1) - md_Ds g q 0 + 1).toNat
    unfold cb_wcF
    omega
  · rw [if_neg h]; decide
theorem c_X12_ground {G : jk_G} {n : Nat} {t : jk_T} {σ : jk_I} {ρ : jk_P} {x : Nat} {g : Int → Int} {B : Int} {p c : Int} (hz : zz_ok G) (hx : zx_ok G) (hln : ln_at t ρ x) (hr : cl_rel σ (x + 2) g) (ha : md_all B g) (hnn : cl_nn σ (x + 2)) (hsi : md_sit g) (hp : jk_in p) (hc : jk_in c) : jk_K G yX12_ground mX12_ground 6 36 [.ref x, jI p, jI c] n t σ ρ (ln_RQ x ((md_q_gr g p c).1) (jI (md_q_gr g p c).2) σ n t ρ) (ln_RX x ((md_q_gr g p c).1) (ex_3 "java/lang/IndexOutOfBoundsException" "java/lang/IllegalArgumentException" "java/util/NoSuchElementException") σ n t ρ) := by
  obtain ⟨hx0, ⟨hx1, hx2, hx3, hx4, hx5, hx6, hx7, hx8, hx9, hx10, hx11, hx12⟩, hB4, hSN, hH, hhe, hba, hch, hsc⟩ := id hln
  obtain ⟨hcc, hwa, hsh, hwy, hyc⟩ := id hch
  obtain ⟨-, -, hfo, hfw⟩ := id hwa
  obtain ⟨-, -, -, -, hs, hsf⟩ := id hfo
  have hi := ha.1
  have hw := ha.2.1
  have hxx := ha.2.2.1
  have i0 := hi.1
  have i1 := hi.2.1
  have i2 := hi.2.2.1
  have i3 := hi.2.2.2.1
  obtain ⟨q0, q1, q2, q3⟩ := hr.1
  have hf0 : ln_fr x σ σ := fun _ _ => rfl
  refine jk_entryB (ls := [some (.ref x), some (jI p), some (jI c)]) jm_X12_ground.1 rfl rfl rfl ?_
  refine jk_aload_n (q := 1) dX12_ground_0 rfl rfl ?_
  refine jk_iload_n (q := 2) dX12_ground_1 rfl rfl ?_
  refine jk_cV1g (q := 5) (c_X12_requireProfile hz hx hln hr ha hnn hsi hp) jm_X12_requireProfile jw_1076 rfl (by first | exact hx0 | exact hs.1 | exact hs.2.1 _ _ rfl | exact hfo.1 | exact hfo.2.1 _ _ rfl | exact hwa.1.1 | exact hwa.1.2.1 | exact hwa.1.2.2 | exact hsh.1.1 | exact hsh.1.2.1 | exact hhe.1.1 | exact hba.1.1 | exact hcc.1 | exact hH.1 | exact hsc.1.1 | exact hB4.1 | exact hSN.1 | assumption) rfl rfl (by decide) (by decide) rfl dX12_ground_2 rfl (fun v' n' t' σ8 ρ' hq => ?_) (fun E n' t' σ' ρ' hx9 => by
            obtain ⟨rfl, hn9, rfl, rfl, zr, rfl⟩ := hx9
            exact ln_rx (c := 1) hn9 hf0 (by unfold md_q_gr; rw [ln_e0 zr]) (by decide) rfl)
  obtain ⟨rfl, hn9, ht9, hr9, zr, hss⟩ := hq
  replace hn9 := hn9.symm; replace ht9 := ht9.symm; replace hr9 := hr9.symm; subst hn9 ht9 hr9
  simp only [Option.toList_some, Option.toList_none, List.cons_append, List.nil_append, Nat.sub_zero]
  replace hss := hss.symm
  subst hss
  have hp9 := cl_hasT zr
  obtain ⟨q, hq9⟩ : ∃ q : Nat, p = (q : Int) := ⟨p.toNat, by omega⟩
  subst hq9
  obtain ⟨r1, r2, r3⟩ := hr.2.2.2 q hp9.2
  have hqi := hi.2.2.2.2.2.2.2.1 (q : Int) ⟨by omega, by omega⟩
  have hsite := hsi (q : Int) hp9
  refine jk_aload_n (q := 6) dX12_ground_5 rfl rfl ?_
  refine jk_getA (q := 9) (k := 12) 9 9 rfl (by first | exact hx0 | exact hs.1 | exact hs.2.1 _ _ rfl | exact hfo.1 | exact hfo.2.1 _ _ rfl | exact hwa.1.1 | exact hwa.1.2.1 | exact hwa.1.2.2 | exact hsh.1.1 | exact hsh.1.2.1 | exact hhe.1.1 | exact hba.1.1 | exact hcc.1 | exact hH.1 | exact hsc.1.1 | exact hB4.1 | exact hSN.1 | assumption) (by first | assumption | exact hs.2.2.1 _ _ rfl | exact hfo.2.2.1 _ _ rfl | exact hwa.2.1.2.2.1 | exact hsh.2.1.2.1) rfl rfl jw_384 dX12_ground_6 rfl ?_
  refine jk_iload_n (q := 10) dX12_ground_9 rfl rfl ?_
  refine jk_iload_n (q := 11) dX12_ground_10 rfl rfl ?_
  refine jk_cV2p (q := 14) (c_X1_hasColumn hba hr hi hxx hnn hp9.2 hc) jm_X1_hasColumn jw_1082 rfl (by first | exact hx0 | exact hs.1 | exact hs.2.1 _ _ rfl | exact hfo.1 | exact hfo.2.1 _ _ rfl | exact hwa.1.1 | exact hwa.1.2.1 | exact hwa.1.2.2 | exact hsh.1.1 | exact hsh.1.2.1 | exact hhe.1.1 | exact hba.1.1 | exact hcc.1 | exact hH.1 | exact hsc.1.1 | exact hB4.1 | exact hSN.1 | assumption) rfl rfl rfl dX12_ground_11 rfl ?_
  refine jk_ifB_ne (q := 28) (q2 := 17) dX12_ground_14 rfl rfl (fun z1 => ?_) (fun z1 => ?_)
  · have hcol := of_decide_eq_true z1
    have hlb := ((hxx (q : Int) ⟨by omega, hp9.2⟩).1 (g (156 + (q : Int)) - 1) ⟨by omega, by omega⟩).2
    refine jk_aload_n (q := 29) dX12_ground_28 rfl rfl ?_
    refine jk_aload_n (q := 30) dX12_ground_29 rfl rfl ?_
    refine jk_getA (q := 33) (k := 12) 0 0 rfl (by first | exact hx0 | exact hs.1 | exact hs.2.1 _ _ rfl | exact hfo.1 | exact hfo.2.1 _ _ rfl | exact hwa.1.1 | exact hwa.1.2.1 | exact hwa.1.2.2 | exact hsh.1.1 | exact hsh.1.2.1 | exact hhe.1.1 | exact hba.1.1 | exact hcc.1 | exact hH.1 | exact hsc.1.1 | exact hB4.1 | exact hSN.1 | assumption) (by first | assumption | exact hs.2.2.1 _ _ rfl | exact hfo.2.2.1 _ _ rfl | exact hwa.2.1.2.2.1 | exact hsh.2.1.2.1) rfl rfl jw_375 dX12_ground_30 rfl ?_
    refine jk_getA (q := 36) (k := 9) 13 13 rfl (by first | exact hx0 | exact hs.1 | exact hs.2.1 _ _ rfl | exact hfo.1 | exact hfo.2.1 _ _ rfl | exact hwa.1.1 | exact hwa.1.2.1 | exact hwa.1.2.2 | exact hsh.1.1 | exact hsh.1.2.1 | exact hhe.1.1 | exact hba.1.1 | exact hcc.1 | exact hH.1 | exact hsc.1.1 | exact hB4.1 | exact hSN.1 | assumption) (by first | assumption | exact hs.2.2.1 _ _ rfl | exact hfo.2.2.1 _ _ rfl | exact hwa.2.1.2.2.1 | exact hsh.2.1.2.1) rfl rfl jw_110 dX12_ground_33 rfl ?_
    refine jk_iload_n (q := 37) dX12_ground_36 rfl rfl ?_
    refine jk_ialdR (q := 38) (by first | exact hx0 | exact hs.1 | exact hs.2.1 _ _ rfl | exact hfo.1 | exact hfo.2.1 _ _ rfl | exact hwa.1.1 | exact hwa.1.2.1 | exact hwa.1.2.2 | exact hsh.1.1 | exact hsh.1.2.1 | exact hhe.1.1 | exact hba.1.1 | exact hcc.1 | exact hH.1 | exact hsc.1.1 | exact hB4.1 | exact hSN.1 | assumption) (by first | exact jk_row_same _ _ _ | ((repeat rewrite [jk_row_ne _ _ (by omega)]); first | exact jk_row_same _ _ _ | rfl)) (by first | assumption | decide | omega | exact jB_01 _ | exact jB_in _ | exact ⟨by omega, by omega⟩) dX12_ground_37 rfl ?_
    rw [r1]
    refine jk_cV1g (q := 41) (c_X12_requireHeight (p := g (152 + (q : Int))) hz hx hln hr ha hnn hsi ⟨by omega, by omega⟩) jm_X12_requireHeight jw_878 rfl (by first | exact hx0 | exact hs.1 | exact hs.2.1 _ _ rfl | exact hfo.1 | exact hfo.2.1 _ _ rfl | exact hwa.1.1 | exact hwa.1.2.1 | exact hwa.1.2.2 | exact hsh.1.1 | exact hsh.1.2.1 | exact hhe.1.1 | exact hba.1.1 | exact hcc.1 | exact hH.1 | exact hsc.1.1 | exact hB4.1 | exact hSN.1 | assumption) rfl rfl (by decide) (by decide) rfl dX12_ground_38 rfl (fun v' n' t' σ1 ρ' hq => ?_) (fun E n' t' σ' ρ' hx9 => by
              obtain ⟨rfl, hn9, rfl, rfl, zh, hf9⟩ := hx9
              exact ln_rx (c := 3) hn9 hf9 (by unfold md_q_gr md_H; rw [ln_e1 zr, if_neg (by omega), if_neg (by show ¬ decide _ = false; rw [decide_eq_true hcol.2]; decide), if_neg (by rw [zh]; decide)]) (by decide) rfl)
    obtain ⟨rfl, hn9, ht9, hr9, zh, hf1, ho1⟩ := hq
    replace hn9 := hn9.symm; replace ht9 := ht9.symm; replace hr9 := hr9.symm; subst hn9 ht9 hr9
    simp only [Option.toList_some, Option.toList_none, List.cons_append, List.nil_append, Nat.sub_zero]
    have hr1 : cl_rel σ1 (x + 2) g := cl_rel_same i2.2 (fun a h1 h2 => hf1 a (Or.inl (by omega))) hr
    refine jk_aload_n (q := 42) dX12_ground_41 rfl rfl ?_
    refine jk_getA (q := 45) (k := 12) 8 8 rfl (by first | exact hx0 | exact hs.1 | exact hs.2.1 _ _ rfl | exact hfo.1 | exact hfo.2.1 _ _ rfl | exact hwa.1.1 | exact hwa.1.2.1 | exact hwa.1.2.2 | exact hsh.1.1 | exact hsh.1.2.1 | exact hhe.1.1 | exact hba.1.1 | exact hcc.1 | exact hH.1 | exact hsc.1.1 | exact hB4.1 | exact hSN.1 | assumption) (by first | assumption | exact hs.2.2.1 _ _ rfl | exact hfo.2.2.1 _ _ rfl | exact hwa.2.1.2.2.1 | exact hsh.2.1.2.1) rfl rfl jw_383 dX12_ground_42 rfl ?_
    refine jk_aload_n (q := 46) dX12_ground_45 rfl rfl ?_
    refine jk_getA (q := 49) (k := 12) 0 0 rfl (by first | exact hx0 | exact hs.1 | exact hs.2.1 _ _ rfl | exact hfo.1 | exact hfo.2.1 _ _ rfl | exact hwa.1.1 | exact hwa.1.2.1 | exact hwa.1.2.2 | exact hsh.1.1 | exact hsh.1.2.1 | exact hhe.1.1 | exact hba.1.1 | exact hcc.1 | exact hH.1 | exact hsc.1.1 | exact hB4.1 | exact hSN.1 | assumption) (by first | assumption | exact hs.2.2.1 _ _ rfl | exact hfo.2.2.1 _ _ rfl | exact hwa.2.1.2.2.1 | exact hsh.2.1.2.1) rfl rfl jw_375 dX12_ground_46 rfl ?_
    refine jk_getA (q := 52) (k := 9) 13 13 rfl (by first | exact hx0 | exact hs.1 | exact hs.2.1 _ _ rfl | exact hfo.1 | exact hfo.2.1 _ _ rfl | exact hwa.1.1 | exact hwa.1.2.1 | exact hwa.1.2.2 | exact hsh.1.1 | exact hsh.1.2.1 | exact hhe.1.1 | exact hba.1.1 | exact hcc.1 | exact hH.1 | exact hsc.1.1 | exact hB4.1 | exact hSN.1 | assumption) (by first | assumption | exact hs.2.2.1 _ _ rfl | exact hfo.2.2.1 _ _ rfl | exact hwa.2.1.2.2.1 | exact hsh.2.1.2.1) rfl rfl jw_110 dX12_ground_49 rfl ?_
    refine jk_iload_n (q := 53) dX12_ground_52 rfl rfl ?_
    refine jk_ialdR (q := 54) (by first | exact hx0 | exact hs.1 | exact hs.2.1 _ _ rfl | exact hfo.1 | exact hfo.2.1 _ _ rfl | exact hwa.1.1 | exact hwa.1.2.1 | exact hwa.1.2.2 | exact hsh.1.1 | exact hsh.1.2.1 | exact hhe.1.1 | exact hba.1.1 | exact hcc.1 | exact hH.1 | exact hsc.1.1 | exact hB4.1 | exact hSN.1 | assumption) (by first | exact jk_row_same _ _ _ | ((repeat rewrite [jk_row_ne _ _ (by omega)]); first | exact jk_row_same _ _ _ | rfl)) (by first | assumption | decide | omega | exact jB_01 _ | exact jB_in _ | exact ⟨by omega, by omega⟩) dX12_ground_53 rfl ?_
    rw [show σ1 (x + 2 + 22) (q : Int) = g (152 + (q : Int)) from (hr1.2.2.2 q hp9.2).1]
    refine jk_cV1g (q := 57) (c_X4_byWay hhe hr1 hi ho1 hw ⟨by omega, by omega⟩ zh) jm_X4_byWay jw_883 rfl (by first | exact hx0 | exact hs.1 | exact hs.2.1 _ _ rfl | exact hfo.1 | exact hfo.2.1 _ _ rfl | exact hwa.1.1 | exact hwa.1.2.1 | exact hwa.1.2.2 | exact hsh.1.1 | exact hsh.1.2.1 | exact hhe.1.1 | exact hba.1.1 | exact hcc.1 | exact hH.1 | exact hsc.1.1 | exact hB4.1 | exact hSN.1 | assumption) rfl rfl (Nat.zero_le _) (Nat.zero_le _) rfl dX12_ground_54 rfl (fun v' n' t' σ2 ρ' hq => ?_) (fun _ _ _ _ _ h => h.elim)
    obtain ⟨rfl, hn9, ht9, hr9, hp2⟩ := hq
    replace hn9 := hn9.symm; replace ht9 := ht9.symm; replace hr9 := hr9.symm; subst hn9 ht9 hr9
    simp only [Option.toList_some, Option.toList_none, List.cons_append, List.nil_append, Nat.sub_zero]
    have hf2 : ln_fr x σ σ2 := fun a h => (hp2 a (by omega)).trans (hf1 a h)
    have hr2 : cl_rel σ2 (x + 2) g := cl_rel_same i2.2 (fun a h1 h2 => hf2 a (Or.inl (by omega))) hr
    have ho2 : fo_ok σ2 (x + 512) g := fo_ok_same (fun a h1 h2 => hp2 a (by omega)) ho1
    have hnn2 : cl_nn σ2 (x + 2) := cl_nn_same (fun q hq => hf2 _ (Or.inl (by omega))) hnn
    refine jk_aload_n (q := 58) dX12_ground_57 rfl rfl ?_
    refine jk_getA (q := 61) (k := 12) 9 9 rfl (by first | exact hx0 | exact hs.1 | exact hs.2.1 _ _ rfl | exact hfo.1 | exact hfo.2.1 _ _ rfl | exact hwa.1.1 | exact hwa.1.2.1 | exact hwa.1.2.2 | exact hsh.1.1 | exact hsh.1.2.1 | exact hhe.1.1 | exact hba.1.1 | exact hcc.1 | exact hH.1 | exact hsc.1.1 | exact hB4.1 | exact hSN.1 | assumption) (by first | assumption | exact hs.2.2.1 _ _ rfl | exact hfo.2.2.1 _ _ rfl | exact hwa.2.1.2.2.1 | exact hsh.2.1.2.1) rfl rfl jw_384 dX12_ground_58 rfl ?_
    refine jk_iload_n (q := 62) dX12_ground_61 rfl rfl ?_
    refine jk_iload_n (q := 63) dX12_ground_62 rfl rfl ?_
    refine jk_cV2p (q := 66) (c_X1_offsetAt hba hr2 hi hxx hnn2 hp9.2 (by omega) ⟨hcol.2.1, by omega⟩) jm_X1_offsetAt jw_1096 rfl (by first | exact hx0 | exact hs.1 | exact hs.2.1 _ _ rfl | exact hfo.1 | exact hfo.2.1 _ _ rfl | exact hwa.1.1 | exact hwa.1.2.1 | exact hwa.1.2.2 | exact hsh.1.1 | exact hsh.1.2.1 | exact hhe.1.1 | exact hba.1.1 | exact hcc.1 | exact hH.1 | exact hsc.1.1 | exact hB4.1 | exact hSN.1 | assumption) rfl rfl rfl dX12_ground_63 rfl ?_
    refine jk_iadd (q := 67) dX12_ground_66 rfl ?_
    exact jk_iret rfl dX12_ground_67 (by exact ln_rqI hf2 (by unfold md_q_gr md_gnd md_H; rw [ln_e1 zr, if_neg (by omega), if_neg (by show ¬ decide _ = false; rw [decide_eq_true hcol.2]; decide), if_pos zh]))
  · exact jk_throwSW (jt_302_236 hx) rfl (by decide) (by decide) (by decide) (by decide) (by decide) dX12_ground_17 dX12_ground_20 dX12_ground_21 dX12_ground_24 dX12_ground_27 (fun n' hn' => ln_rx (c := 2) hn' hf0 (by
                have z9 := of_decide_eq_false z1
                unfold md_q_gr
                rw [ln_e1 zr]
                by_cases h0 : g (156 + (q : Int)) = 0
                · rw [if_pos h0]
                · rw [if_neg h0, if_pos (show md_in c (md_Ds g (q : Int) 0) (md_Ds g (q : Int) (g (156 + (q : Int)) - 1)) = false from decide_eq_false (fun h => z9 ⟨by omega, h⟩))]) (by decide) rfl)
theorem c_X12_meanLength {G : jk_G} {n : Nat} {t : jk_T} {σ : jk_I} {ρ : jk_P} {x : Nat} {g : Int → Int} {B : Int}  (hz : zz_ok G) (hx : zx_ok G) (hln : ln_at t ρ x) (hr : cl_rel σ (x + 2) g) (ha : md_all B g) (hnn : cl_nn σ (x + 2)) (hsi : md_sit g) (hfp : md_fp) : jk_K G yX12_meanLength mX12_meanLength 6 36 [.ref x] n t σ ρ (ln_RQ x ((md_q_ml g).1) ((md_q_ml g).2) σ n t ρ) (ln_RX x ((md_q_ml g).1) (ex_1 "java/lang/ArithmeticException") σ n t ρ) := by
  obtain ⟨hx0, ⟨hx1, hx2, hx3, hx4, hx5, hx6, hx7, hx8, hx9, hx10, hx11, hx12⟩, hB4, hSN, hH, hhe, hba, hch, hsc⟩ := id hln
  obtain ⟨hcc, hwa, hsh, hwy, hyc⟩ := id hch
  obtain ⟨-, -, hfo, hfw⟩ := id hwa
  obtain ⟨-, -, -, -, hs, hsf⟩ := id hfo
  have hi := ha.1
  have hw := ha.2.1
  have hxx := ha.2.2.1
  have i0 := hi.1
  have i1 := hi.2.1
  have i2 := hi.2.2.1
  have i3 := hi.2.2.2.1
  obtain ⟨q0, q1, q2, q3⟩ := hr.1
  have hf0 : ln_fr x σ σ := fun _ _ => rfl
  refine jk_entryB (ls := [some (.ref x), none]) jm_X12_meanLength.1 rfl rfl rfl ?_
  refine jk_aload_n (q := 1) dX12_meanLength_0 rfl rfl ?_
  refine jk_getA (q := 4) (k := 12) 0 0 rfl (by first | exact hx0 | exact hs.1 | exact hs.2.1 _ _ rfl | exact hfo.1 | exact hfo.2.1 _ _ rfl | exact hwa.1.1 | exact hwa.1.2.1 | exact hwa.1.2.2 | exact hsh.1.1 | exact hsh.1.2.1 | exact hhe.1.1 | exact hba.1.1 | exact hcc.1 | exact hH.1 | exact hsc.1.1 | exact hB4.1 | exact hSN.1 | assumption) (by first | assumption | exact hs.2.2.1 _ _ rfl | exact hfo.2.2.1 _ _ rfl | exact hwa.2.1.2.2.1 | exact hsh.2.1.2.1) rfl rfl jw_375 dX12_meanLength_1 rfl ?_
  refine jk_cV0p (q := 7) (c_X9_usableLines hs hr hi) jm_X9_usableLines jw_1153 rfl (by first | exact hx0 | exact hs.1 | exact hs.2.1 _ _ rfl | exact hfo.1 | exact hfo.2.1 _ _ rfl | exact hwa.1.1 | exact hwa.1.2.1 | exact hwa.1.2.2 | exact hsh.1.1 | exact hsh.1.2.1 | exact hhe.1.1 | exact hba.1.1 | exact hcc.1 | exact hH.1 | exact hsc.1.1 | exact hB4.1 | exact hSN.1 | assumption) rfl rfl rfl dX12_meanLength_4 rfl ?_
  have hgb := jk_sum_bd (f := fun l => jB (md_good g l)) (a := 0) (b := 1) (fun i => by show 0 ≤ jB _ ∧ jB _ ≤ 1; cases md_good g i <;> decide) (g 1).toNat
  have hge : jk_sum (fun l => jB (md_good g l)) (g 1).toNat = md_goods g := rfl
  refine jk_istore1 (q := 8) dX12_meanLength_7 rfl rfl rfl ?_
  refine jk_iload_n (q := 9) dX12_meanLength_8 rfl rfl ?_
  refine jk_if_ne (q := 23) (q2 := 12) dX12_meanLength_9 rfl rfl (by first | assumption | decide | omega | exact jB_01 _ | exact jB_in _ | exact ⟨by omega, by omega⟩) (fun z1 => ?_) (fun z1 => ?_)
  · refine jk_aload_n (q := 24) dX12_meanLength_23 rfl rfl ?_
    refine jk_getA (q := 27) (k := 12) 0 0 rfl (by first | exact hx0 | exact hs.1 | exact hs.2.1 _ _ rfl | exact hfo.1 | exact hfo.2.1 _ _ rfl | exact hwa.1.1 | exact hwa.1.2.1 | exact hwa.1.2.2 | exact hsh.1.1 | exact hsh.1.2.1 | exact hhe.1.1 | exact hba.1.1 | exact hcc.1 | exact hH.1 | exact hsc.1.1 | exact hB4.1 | exact hSN.1 | assumption) (by first | assumption | exact hs.2.2.1 _ _ rfl | exact hfo.2.2.1 _ _ rfl | exact hwa.2.1.2.2.1 | exact hsh.2.1.2.1) rfl rfl jw_375 dX12_meanLength_24 rfl ?_
    refine jk_cV0p (q := 30) (c_X9_usableLength hs hr hi) jm_X9_usableLength jw_1170 rfl (by first | exact hx0 | exact hs.1 | exact hs.2.1 _ _ rfl | exact hfo.1 | exact hfo.2.1 _ _ rfl | exact hwa.1.1 | exact hwa.1.2.1 | exact hwa.1.2.2 | exact hsh.1.1 | exact hsh.1.2.1 | exact hhe.1.1 | exact hba.1.1 | exact hcc.1 | exact hH.1 | exact hsc.1.1 | exact hB4.1 | exact hSN.1 | assumption) rfl rfl rfl dX12_meanLength_27 rfl ?_
    have hlb : 0 ≤ md_lsum g ∧ md_lsum g ≤ 800 := by
      have h := jk_sum_bd2 (f := fun l => if md_good g l = true then g (56 + l) else 0) (a := 0) (b := 50) (g 1).toNat (fun l h0 h1 => by have := (md_inv_ln hi (l := l) ⟨h0, by omega⟩).2.2.1; show 0 ≤ (if md_good g l = true then g (56 + l) else 0) ∧ (if md_good g l = true then g (56 + l) else 0) ≤ 50; split <;> omega)
      unfold md_lsum; omega
    have hn9 := hfp.1 (md_lsum g) (md_goods g) hlb ⟨by omega, by omega⟩
    refine jk_i2d (q := 31) dX12_meanLength_30 rfl ?_
    refine jk_iload_n (q := 32) dX12_meanLength_31 rfl rfl ?_
    refine jk_i2d (q := 33) dX12_meanLength_32 rfl ?_
    refine jk_ddiv (q := 34) (by assumption) dX12_meanLength_33 rfl ?_
    exact jk_dret rfl dX12_meanLength_34 (by exact ln_rqV hf0 (by unfold md_q_ml; rw [if_neg (by omega)]; rfl))
  · exact jk_throwSW (jt_333_335 hx) rfl (by decide) (by decide) (by decide) (by decide) (by decide) dX12_meanLength_12 dX12_meanLength_15 dX12_meanLength_16 dX12_meanLength_19 dX12_meanLength_22 (fun n' hn' => ln_rx (c := 1) hn' hf0 (by unfold md_q_ml; rw [if_pos (by omega)]) (by decide) rfl)
theorem c_X12_usableShare {G : jk_G} {n : Nat} {t : jk_T} {σ : jk_I} {ρ : jk_P} {x : Nat} {g : Int → Int} {B : Int}  (hz : zz_ok G) (hx : zx_ok G) (hln : ln_at t ρ x) (hr : cl_rel σ (x + 2) g) (ha : md_all B g) (hnn : cl_nn σ (x + 2)) (hsi : md_sit g) (hfp : md_fp) : jk_K G yX12_usableShare mX12_usableShare 6 36 [.ref x] n t σ ρ (ln_RQ x ((md_q_sr g).1) ((md_q_sr g).2) σ n t ρ) (ln_RX x ((md_q_sr g).1) (ex_1 "java/lang/ArithmeticException") σ n t ρ) := by
  obtain ⟨hx0, ⟨hx1, hx2, hx3, hx4, hx5, hx6, hx7, hx8, hx9, hx10, hx11, hx12⟩, hB4, hSN, hH, hhe, hba, hch, hsc⟩ := id hln
  obtain ⟨hcc, hwa, hsh, hwy, hyc⟩ := id hch
  obtain ⟨-, -, hfo, hfw⟩ := id hwa
  obtain ⟨-, -, -, -, hs, hsf⟩ := id hfo
  have hi := ha.1
  have hw := ha.2.1
  have hxx := ha.2.2.1
  have i0 := hi.1
  have i1 := hi.2.1
  have i2 := hi.2.2.1
  have i3 := hi.2.2.2.1
  obtain ⟨q0, q1, q2, q3⟩ := hr.1
  have hf0 : ln_fr x σ σ := fun _ _ => rfl
  refine jk_entryB (ls := [some (.ref x)]) jm_X12_usableShare.1 rfl rfl rfl ?_
  refine jk_aload_n (q := 1) dX12_usableShare_0 rfl rfl ?_
  refine jk_getA (q := 4) (k := 12) 0 0 rfl (by first | exact hx0 | exact hs.1 | exact hs.2.1 _ _ rfl | exact hfo.1 | exact hfo.2.1 _ _ rfl | exact hwa.1.1 | exact hwa.1.2.1 | exact hwa.1.2.2 | exact hsh.1.1 | exact hsh.1.2.1 | exact hhe.1.1 | exact hba.1.1 | exact hcc.1 | exact hH.1 | exact hsc.1.1 | exact hB4.1 | exact hSN.1 | assumption) (by first | assumption | exact hs.2.2.1 _ _ rfl | exact hfo.2.2.1 _ _ rfl | exact hwa.2.1.2.2.1 | exact hsh.2.1.2.1) rfl rfl jw_375 dX12_usableShare_1 rfl ?_
  refine jk_getIR (q := 7) (k := 9) 3 3 rfl (by first | exact hx0 | exact hs.1 | exact hs.2.1 _ _ rfl | exact hfo.1 | exact hfo.2.1 _ _ rfl | exact hwa.1.1 | exact hwa.1.2.1 | exact hwa.1.2.2 | exact hsh.1.1 | exact hsh.1.2.1 | exact hhe.1.1 | exact hba.1.1 | exact hcc.1 | exact hH.1 | exact hsc.1.1 | exact hB4.1 | exact hSN.1 | assumption) (by first | exact jk_row_same _ _ _ | ((repeat rewrite [jk_row_ne _ _ (by omega)]); first | exact jk_row_same _ _ _ | rfl)) rfl rfl jw_72 dX12_usableShare_4 rfl ?_
  rw [q1]
  refine jk_if_ne (q := 21) (q2 := 10) dX12_usableShare_7 rfl rfl (by first | assumption | decide | omega | exact jB_01 _ | exact jB_in _ | exact ⟨by omega, by omega⟩) (fun z1 => ?_) (fun z1 => ?_)
  · refine jk_aload_n (q := 22) dX12_usableShare_21 rfl rfl ?_
    refine jk_getA (q := 25) (k := 12) 0 0 rfl (by first | exact hx0 | exact hs.1 | exact hs.2.1 _ _ rfl | exact hfo.1 | exact hfo.2.1 _ _ rfl | exact hwa.1.1 | exact hwa.1.2.1 | exact hwa.1.2.2 | exact hsh.1.1 | exact hsh.1.2.1 | exact hhe.1.1 | exact hba.1.1 | exact hcc.1 | exact hH.1 | exact hsc.1.1 | exact hB4.1 | exact hSN.1 | assumption) (by first | assumption | exact hs.2.2.1 _ _ rfl | exact hfo.2.2.1 _ _ rfl | exact hwa.2.1.2.2.1 | exact hsh.2.1.2.1) rfl rfl jw_375 dX12_usableShare_22 rfl ?_
    refine jk_cV0p (q := 28) (c_X9_usableLines hs hr hi) jm_X9_usableLines jw_1153 rfl (by first | exact hx0 | exact hs.1 | exact hs.2.1 _ _ rfl | exact hfo.1 | exact hfo.2.1 _ _ rfl | exact hwa.1.1 | exact hwa.1.2.1 | exact hwa.1.2.2 | exact hsh.1.1 | exact hsh.1.2.1 | exact hhe.1.1 | exact hba.1.1 | exact hcc.1 | exact hH.1 | exact hsc.1.1 | exact hB4.1 | exact hSN.1 | assumption) rfl rfl rfl dX12_usableShare_25 rfl ?_
    have hgb := jk_sum_bd (f := fun l => jB (md_good g l)) (a := 0) (b := 1) (fun i => by show 0 ≤ jB _ ∧ jB _ ≤ 1; cases md_good g i <;> decide) (g 1).toNat
    have hge : jk_sum (fun l => jB (md_good g l)) (g 1).toNat = md_goods g := rfl
    have hn9 := hfp.2 (md_goods g) (g 1) ⟨by omega, by omega⟩ ⟨by omega, by omega⟩
    refine jk_i2f (q := 29) dX12_usableShare_28 rfl ?_
    refine jk_aload_n (q := 30) dX12_usableShare_29 rfl rfl ?_
    refine jk_getA (q := 33) (k := 12) 0 0 rfl (by first | exact hx0 | exact hs.1 | exact hs.2.1 _ _ rfl | exact hfo.1 | exact hfo.2.1 _ _ rfl | exact hwa.1.1 | exact hwa.1.2.1 | exact hwa.1.2.2 | exact hsh.1.1 | exact hsh.1.2.1 | exact hhe.1.1 | exact hba.1.1 | exact hcc.1 | exact hH.1 | exact hsc.1.1 | exact hB4.1 | exact hSN.1 | assumption) (by first | assumption | exact hs.2.2.1 _ _ rfl | exact hfo.2.2.1 _ _ rfl | exact hwa.2.1.2.2.1 | exact hsh.2.1.2.1) rfl rfl jw_375 dX12_usableShare_30 rfl ?_
    refine jk_getIR (q := 36) (k := 9) 3 3 rfl (by first | exact hx0 | exact hs.1 | exact hs.2.1 _ _ rfl | exact hfo.1 | exact hfo.2.1 _ _ rfl | exact hwa.1.1 | exact hwa.1.2.1 | exact hwa.1.2.2 | exact hsh.1.1 | exact hsh.1.2.1 | exact hhe.1.1 | exact hba.1.1 | exact hcc.1 | exact hH.1 | exact hsc.1.1 | exact hB4.1 | exact hSN.1 | assumption) (by first | exact jk_row_same _ _ _ | ((repeat rewrite [jk_row_ne _ _ (by omega)]); first | exact jk_row_same _ _ _ | rfl)) rfl rfl jw_72 dX12_usableShare_33 rfl ?_
    rw [q1]
    refine jk_i2f (q := 37) dX12_usableShare_36 rfl ?_
    refine jk_fdiv (q := 38) (by assumption) dX12_usableShare_37 rfl ?_
    exact jk_fret rfl dX12_usableShare_38 (by exact ln_rqV hf0 (by unfold md_q_sr; rw [if_neg (by omega)]; rfl))
  · exact jk_throwSW (jt_339_335 hx) rfl (by decide) (by decide) (by decide) (by decide) (by decide) dX12_usableShare_10 dX12_usableShare_13 dX12_usableShare_14 dX12_usableShare_17 dX12_usableShare_20 (fun n' hn' => ln_rx (c := 1) hn' hf0 (by unfold md_q_sr; rw [if_pos (by omega)]) (by decide) rfl)
theorem c_X12_heightsAgree {G : jk_G} {n : Nat} {t : jk_T} {σ : jk_I} {ρ : jk_P} {x : Nat} {g : Int → Int} {B : Int}  (hz : zz_ok G) (hx : zx_ok G) (hln : ln_at t ρ x) (hr : cl_rel σ (x + 2) g) (ha : md_all B g) (hnn : cl_nn σ (x + 2)) (hsi : md_sit g) (ho : fo_ok σ (x + 512) g) (hB : B ≤ 100000) : jk_K G yX12_heightsAgree mX12_heightsAgree 0 0 [.ref x] n t σ ρ (fun v' n' t' σ' ρ' => v' = some (jI (jB true)) ∧ n' = n ∧ t' = t ∧ ρ' = ρ ∧ ln_fr x σ σ' ∧ fo_ok σ' (x + 512) g) jk_no := by
  obtain ⟨hx0, ⟨hx1, hx2, hx3, hx4, hx5, hx6, hx7, hx8, hx9, hx10, hx11, hx12⟩, hB4, hSN, hH, hhe, hba, hch, hsc⟩ := id hln
  obtain ⟨hcc, hwa, hsh, hwy, hyc⟩ := id hch
  obtain ⟨-, -, hfo, hfw⟩ := id hwa
  obtain ⟨-, -, -, -, hs, hsf⟩ := id hfo
  have hi := ha.1
  have hw := ha.2.1
  have hxx := ha.2.2.1
  have i0 := hi.1
  have i1 := hi.2.1
  have i2 := hi.2.2.1
  have i3 := hi.2.2.2.1
  obtain ⟨q0, q1, q2, q3⟩ := hr.1
  have hf0 : ln_fr x σ σ := fun _ _ => rfl
  have ho0 := ho
  refine jk_entryB (ls := [some (.ref x), none]) jm_X12_heightsAgree.1 rfl rfl rfl ?_
  refine jk_iconst (q := 1) dX12_heightsAgree_0 rfl ?_
  refine jk_istore1 (q := 2) dX12_heightsAgree_1 rfl rfl rfl ?_
  have L2 : ∀ k2 : Nat, k2 ≤ (g 0).toNat → ∀ (σ1 : jk_I), (hf1 : ln_fr x σ σ1) → (ho1 : fo_ok σ1 (x + 512) g) → jk_J G mX12_heightsAgree 2 [some (.ref x), some (jI (k2 : Int))] [] n t σ1 ρ 0 0 (fun v' n' t' σ' ρ' => v' = some (jI (jB true)) ∧ n' = n ∧ t' = t ∧ ρ' = ρ ∧ ln_fr x σ σ' ∧ fo_ok σ' (x + 512) g) jk_no := by
    refine jk_loop _ (fun k2 hk2 ih2 => ?_)
    intro σ1 hf1 ho1
    have hr1 : cl_rel σ1 (x + 2) g := cl_rel_same i2.2 (fun a h1 h2 => hf1 a (Or.inl (by omega))) hr
    have hnn1 : cl_nn σ1 (x + 2) := cl_nn_same (fun q hq => hf1 _ (Or.inl (by omega))) hnn
    refine jk_iload_n (q := 3) dX12_heightsAgree_2 rfl rfl ?_
    refine jk_aload_n (q := 4) dX12_heightsAgree_3 rfl rfl ?_
    refine jk_getA (q := 7) (k := 12) 0 0 rfl (by first | exact hx0 | exact hs.1 | exact hs.2.1 _ _ rfl | exact hfo.1 | exact hfo.2.1 _ _ rfl | exact hwa.1.1 | exact hwa.1.2.1 | exact hwa.1.2.2 | exact hsh.1.1 | exact hsh.1.2.1 | exact hhe.1.1 | exact hba.1.1 | exact hcc.1 | exact hH.1 | exact hsc.1.1 | exact hB4.1 | exact hSN.1 | assumption) (by first | assumption | exact hs.2.2.1 _ _ rfl | exact hfo.2.2.1 _ _ rfl | exact hwa.2.1.2.2.1 | exact hsh.2.1.2.1) rfl rfl jw_375 dX12_heightsAgree_4 rfl ?_
    refine jk_getIR (q := 10) (k := 9) 0 0 rfl (by first | exact hx0 | exact hs.1 | exact hs.2.1 _ _ rfl | exact hfo.1 | exact hfo.2.1 _ _ rfl | exact hwa.1.1 | exact hwa.1.2.1 | exact hwa.1.2.2 | exact hsh.1.1 | exact hsh.1.2.1 | exact hhe.1.1 | exact hba.1.1 | exact hcc.1 | exact hH.1 | exact hsc.1.1 | exact hB4.1 | exact hSN.1 | assumption) (by first | exact jk_row_same _ _ _ | ((repeat rewrite [jk_row_ne _ _ (by omega)]); first | exact jk_row_same _ _ _ | rfl)) rfl rfl jw_58 dX12_heightsAgree_7 rfl ?_
    rw [(cl_rel_same i2.2 (fun a h1 h2 => hf1 a (Or.inl (by omega))) hr).1.1]
    refine jk_icmp_ge (q := 51) (q2 := 13) dX12_heightsAgree_10 rfl rfl (by first | assumption | decide | omega | exact jB_01 _ | exact jB_in _ | exact ⟨by omega, by omega⟩) (by first | assumption | decide | omega | exact jB_01 _ | exact jB_in _ | exact ⟨by omega, by omega⟩) (fun z1 => ?_) (fun z1 => ?_)
    · refine jk_iconst (q := 52) dX12_heightsAgree_51 rfl ?_
      exact jk_zret rfl (by first | assumption | decide | omega | exact jB_01 _ | exact jB_in _ | exact ⟨by omega, by omega⟩) dX12_heightsAgree_52 (by exact ⟨rfl, rfl, rfl, rfl, hf1, ho1⟩)
    · refine jk_aload_n (q := 14) dX12_heightsAgree_13 rfl rfl ?_
      refine jk_getA (q := 17) (k := 12) 8 8 rfl (by first | exact hx0 | exact hs.1 | exact hs.2.1 _ _ rfl | exact hfo.1 | exact hfo.2.1 _ _ rfl | exact hwa.1.1 | exact hwa.1.2.1 | exact hwa.1.2.2 | exact hsh.1.1 | exact hsh.1.2.1 | exact hhe.1.1 | exact hba.1.1 | exact hcc.1 | exact hH.1 | exact hsc.1.1 | exact hB4.1 | exact hSN.1 | assumption) (by first | assumption | exact hs.2.2.1 _ _ rfl | exact hfo.2.2.1 _ _ rfl | exact hwa.2.1.2.2.1 | exact hsh.2.1.2.1) rfl rfl jw_383 dX12_heightsAgree_14 rfl ?_
      refine jk_iload_n (q := 18) dX12_heightsAgree_17 rfl rfl ?_
      refine jk_cV1p (q := 21) (c_X4_exists (p := (k2 : Int)) hhe hr1 hi ho1 ⟨by omega, by omega⟩) jm_X4_exists jw_866 rfl (by first | exact hx0 | exact hs.1 | exact hs.2.1 _ _ rfl | exact hfo.1 | exact hfo.2.1 _ _ rfl | exact hwa.1.1 | exact hwa.1.2.1 | exact hwa.1.2.2 | exact hsh.1.1 | exact hsh.1.2.1 | exact hhe.1.1 | exact hba.1.1 | exact hcc.1 | exact hH.1 | exact hsc.1.1 | exact hB4.1 | exact hSN.1 | assumption) rfl rfl rfl dX12_heightsAgree_18 rfl ?_
      refine jk_ifB_eq (q := 45) (q2 := 24) dX12_heightsAgree_21 rfl rfl (fun z2 => ?_) (fun z2 => ?_)
      · refine jk_iinc1 (q := 48) dX12_heightsAgree_45 rfl rfl rfl ?_
        refine jk_goto (q := 2) dX12_heightsAgree_48 rfl ?_
        first
        | exact jk_convw (ih2 (by omega) _ hf4 ho4) (jk_wkS rfl (jk_wkS rfl jk_wk0))
        | exact jk_convw (ih2 (by omega) _ hf3 ho3) (jk_wkS rfl (jk_wkS rfl jk_wk0))
        | exact jk_convw (ih2 (by omega) _ hf2 ho2) (jk_wkS rfl (jk_wkS rfl jk_wk0))
        | exact jk_convw (ih2 (by omega) _ hf1 ho1) (jk_wkS rfl (jk_wkS rfl jk_wk0))
      · have hhb := md_HT_bd2 hi hB (p := (k2 : Int)) ⟨by omega, by omega⟩ (by assumption)
        refine jk_aload_n (q := 25) dX12_heightsAgree_24 rfl rfl ?_
        refine jk_getA (q := 28) (k := 12) 8 8 rfl (by first | exact hx0 | exact hs.1 | exact hs.2.1 _ _ rfl | exact hfo.1 | exact hfo.2.1 _ _ rfl | exact hwa.1.1 | exact hwa.1.2.1 | exact hwa.1.2.2 | exact hsh.1.1 | exact hsh.1.2.1 | exact hhe.1.1 | exact hba.1.1 | exact hcc.1 | exact hH.1 | exact hsc.1.1 | exact hB4.1 | exact hSN.1 | assumption) (by first | assumption | exact hs.2.2.1 _ _ rfl | exact hfo.2.2.1 _ _ rfl | exact hwa.2.1.2.2.1 | exact hsh.2.1.2.1) rfl rfl jw_383 dX12_heightsAgree_25 rfl ?_
        refine jk_iload_n (q := 29) dX12_heightsAgree_28 rfl rfl ?_
        refine jk_cV1g (q := 32) (c_X4_byWay hhe hr1 hi ho1 hw ⟨by omega, by omega⟩ (by assumption)) jm_X4_byWay jw_883 rfl (by first | exact hx0 | exact hs.1 | exact hs.2.1 _ _ rfl | exact hfo.1 | exact hfo.2.1 _ _ rfl | exact hwa.1.1 | exact hwa.1.2.1 | exact hwa.1.2.2 | exact hsh.1.1 | exact hsh.1.2.1 | exact hhe.1.1 | exact hba.1.1 | exact hcc.1 | exact hH.1 | exact hsc.1.1 | exact hB4.1 | exact hSN.1 | assumption) rfl rfl (Nat.zero_le _) (Nat.zero_le _) rfl dX12_heightsAgree_29 rfl (fun v' n' t' σ2 ρ' hq => ?_) (fun _ _ _ _ _ h => h.elim)
        obtain ⟨rfl, hn9, ht9, hr9, hp2⟩ := hq
        replace hn9 := hn9.symm; replace ht9 := ht9.symm; replace hr9 := hr9.symm; subst hn9 ht9 hr9
        simp only [Option.toList_some, Option.toList_none, List.cons_append, List.nil_append, Nat.sub_zero]
        have hf2 : ln_fr x σ σ2 := fun a h => (hp2 a (by omega)).trans (hf1 a h)
        have hr2 : cl_rel σ2 (x + 2) g := cl_rel_same i2.2 (fun a h1 h2 => hf2 a (Or.inl (by omega))) hr
        have ho2 : fo_ok σ2 (x + 512) g := fo_ok_same (fun a h1 h2 => hp2 a (by omega)) ho1
        refine jk_aload_n (q := 33) dX12_heightsAgree_32 rfl rfl ?_
        refine jk_getA (q := 36) (k := 12) 8 8 rfl (by first | exact hx0 | exact hs.1 | exact hs.2.1 _ _ rfl | exact hfo.1 | exact hfo.2.1 _ _ rfl | exact hwa.1.1 | exact hwa.1.2.1 | exact hwa.1.2.2 | exact hsh.1.1 | exact hsh.1.2.1 | exact hhe.1.1 | exact hba.1.1 | exact hcc.1 | exact hH.1 | exact hsc.1.1 | exact hB4.1 | exact hSN.1 | assumption) (by first | assumption | exact hs.2.2.1 _ _ rfl | exact hfo.2.2.1 _ _ rfl | exact hwa.2.1.2.2.1 | exact hsh.2.1.2.1) rfl rfl jw_383 dX12_heightsAgree_33 rfl ?_
        refine jk_iload_n (q := 37) dX12_heightsAgree_36 rfl rfl ?_
        refine jk_cV1g (q := 40) (c_X4_byRounds hhe hr2 hi ho2 hw ⟨by omega, by omega⟩ (by assumption)) jm_X4_byRounds jw_900 rfl (by first | exact hx0 | exact hs.1 | exact hs.2.1 _ _ rfl | exact hfo.1 | exact hfo.2.1 _ _ rfl | exact hwa.1.1 | exact hwa.1.2.1 | exact hwa.1.2.2 | exact hsh.1.1 | exact hsh.1.2.1 | exact hhe.1.1 | exact hba.1.1 | exact hcc.1 | exact hH.1 | exact hsc.1.1 | exact hB4.1 | exact hSN.1 | assumption) rfl rfl (Nat.zero_le _) (Nat.zero_le _) rfl dX12_heightsAgree_37 rfl (fun v' n' t' σ3 ρ' hq => ?_) (fun _ _ _ _ _ h => h.elim)
        obtain ⟨rfl, hn9, ht9, hr9, hp3⟩ := hq
        replace hn9 := hn9.symm; replace ht9 := ht9.symm; replace hr9 := hr9.symm; subst hn9 ht9 hr9
        simp only [Option.toList_some, Option.toList_none, List.cons_append, List.nil_append, Nat.sub_zero]
        have hf3 : ln_fr x σ σ3 := fun a h => (hp3 a (by omega)).trans (hf2 a h)
        have hr3 : cl_rel σ3 (x + 2) g := cl_rel_same i2.2 (fun a h1 h2 => hf3 a (Or.inl (by omega))) hr
        have ho3 : fo_ok σ3 (x + 512) g := fo_ok_same (fun a h1 h2 => hp3 a (by omega)) ho2
        refine jk_icmp_eq (q := 45) (q2 := 43) dX12_heightsAgree_40 rfl rfl (by first | assumption | decide | omega | exact jB_01 _ | exact jB_in _ | exact ⟨by omega, by omega⟩) (by first | assumption | decide | omega | exact jB_01 _ | exact jB_in _ | exact ⟨by omega, by omega⟩) (fun z3 => ?_) (fun z3 => ?_)
        · refine jk_iinc1 (q := 48) dX12_heightsAgree_45 rfl rfl rfl ?_
          refine jk_goto (q := 2) dX12_heightsAgree_48 rfl ?_
          first
          | exact jk_convw (ih2 (by omega) _ hf4 ho4) (jk_wkS rfl (jk_wkS rfl jk_wk0))
          | exact jk_convw (ih2 (by omega) _ hf3 ho3) (jk_wkS rfl (jk_wkS rfl jk_wk0))
          | exact jk_convw (ih2 (by omega) _ hf2 ho2) (jk_wkS rfl (jk_wkS rfl jk_wk0))
          | exact jk_convw (ih2 (by omega) _ hf1 ho1) (jk_wkS rfl (jk_wkS rfl jk_wk0))
        · refine jk_iconst (q := 44) dX12_heightsAgree_43 rfl ?_
          exact jk_zret rfl (by first | assumption | decide | omega | exact jB_01 _ | exact jB_in _ | exact ⟨by omega, by omega⟩) dX12_heightsAgree_44 (by exact absurd rfl (by assumption))
  exact jk_convw (L2 0 (Nat.zero_le _) σ hf0 ho0) (jk_wkS rfl (jk_wkS rfl jk_wk0))
theorem c_X12_misclosuresAgree {G : jk_G} {n : Nat} {t : jk_T} {σ : jk_I} {ρ : jk_P} {x : Nat} {g : Int → Int} {B : Int}  (hz : zz_ok G) (hx : zx_ok G) (hln : ln_at t ρ x) (hr : cl_rel σ (x + 2) g) (ha : md_all B g) (hnn : cl_nn σ (x + 2)) (hsi : md_sit g) (ho : fo_ok σ (x + 512) g) (hB : B ≤ 100000) : jk_K G yX12_misclosuresAgree mX12_misclosuresAgree 0 0 [.ref x] n t σ ρ (fun v' n' t' σ' ρ' => v' = some (jI (jB true)) ∧ n' = n ∧ t' = t ∧ ρ' = ρ ∧ ln_fr x σ σ' ∧ fo_ok σ' (x + 512) g) jk_no := by
  obtain ⟨hx0, ⟨hx1, hx2, hx3, hx4, hx5, hx6, hx7, hx8, hx9, hx10, hx11, hx12⟩, hB4, hSN, hH, hhe, hba, hch, hsc⟩ := id hln
  obtain ⟨hcc, hwa, hsh, hwy, hyc⟩ := id hch
  obtain ⟨-, -, hfo, hfw⟩ := id hwa
  obtain ⟨-, -, -, -, hs, hsf⟩ := id hfo
  have hi := ha.1
  have hw := ha.2.1
  have hxx := ha.2.2.1
  have i0 := hi.1
  have i1 := hi.2.1
  have i2 := hi.2.2.1
  have i3 := hi.2.2.2.1
  obtain ⟨q0, q1, q2, q3⟩ := hr.1
  have hf0 : ln_fr x σ σ := fun _ _ => rfl
  have ho0 := ho
  refine jk_entryB (ls := [some (.ref x), none]) jm_X12_misclosuresAgree.1 rfl rfl rfl ?_
  refine jk_iconst (q := 1) dX12_misclosuresAgree_0 rfl ?_
  refine jk_istore1 (q := 2) dX12_misclosuresAgree_1 rfl rfl rfl ?_
  have L2 : ∀ k2 : Nat, k2 ≤ (g 1).toNat → ∀ (σ1 : jk_I), (hf1 : ln_fr x σ σ1) → (ho1 : fo_ok σ1 (x + 512) g) → jk_J G mX12_misclosuresAgree 2 [some (.ref x), some (jI (k2 : Int))] [] n t σ1 ρ 0 0 (fun v' n' t' σ' ρ' => v' = some (jI (jB true)) ∧ n' = n ∧ t' = t ∧ ρ' = ρ ∧ ln_fr x σ σ' ∧ fo_ok σ' (x + 512) g) jk_no := by
    refine jk_loop _ (fun k2 hk2 ih2 => ?_)
    intro σ1 hf1 ho1
    have hr1 : cl_rel σ1 (x + 2) g := cl_rel_same i2.2 (fun a h1 h2 => hf1 a (Or.inl (by omega))) hr
    have hnn1 : cl_nn σ1 (x + 2) := cl_nn_same (fun q hq => hf1 _ (Or.inl (by omega))) hnn
    refine jk_iload_n (q := 3) dX12_misclosuresAgree_2 rfl rfl ?_
    refine jk_aload_n (q := 4) dX12_misclosuresAgree_3 rfl rfl ?_
    refine jk_getA (q := 7) (k := 12) 0 0 rfl (by first | exact hx0 | exact hs.1 | exact hs.2.1 _ _ rfl | exact hfo.1 | exact hfo.2.1 _ _ rfl | exact hwa.1.1 | exact hwa.1.2.1 | exact hwa.1.2.2 | exact hsh.1.1 | exact hsh.1.2.1 | exact hhe.1.1 | exact hba.1.1 | exact hcc.1 | exact hH.1 | exact hsc.1.1 | exact hB4.1 | exact hSN.1 | assumption) (by first | assumption | exact hs.2.2.1 _ _ rfl | exact hfo.2.2.1 _ _ rfl | exact hwa.2.1.2.2.1 | exact hsh.2.1.2.1) rfl rfl jw_375 dX12_misclosuresAgree_4 rfl ?_
    refine jk_getIR (q := 10) (k := 9) 3 3 rfl (by first | exact hx0 | exact hs.1 | exact hs.2.1 _ _ rfl | exact hfo.1 | exact hfo.2.1 _ _ rfl | exact hwa.1.1 | exact hwa.1.2.1 | exact hwa.1.2.2 | exact hsh.1.1 | exact hsh.1.2.1 | exact hhe.1.1 | exact hba.1.1 | exact hcc.1 | exact hH.1 | exact hsc.1.1 | exact hB4.1 | exact hSN.1 | assumption) (by first | exact jk_row_same _ _ _ | ((repeat rewrite [jk_row_ne _ _ (by omega)]); first | exact jk_row_same _ _ _ | rfl)) rfl rfl jw_72 dX12_misclosuresAgree_7 rfl ?_
    rw [(cl_rel_same i2.2 (fun a h1 h2 => hf1 a (Or.inl (by omega))) hr).1.2.1]
    refine jk_icmp_ge (q := 58) (q2 := 13) dX12_misclosuresAgree_10 rfl rfl (by first | assumption | decide | omega | exact jB_01 _ | exact jB_in _ | exact ⟨by omega, by omega⟩) (by first | assumption | decide | omega | exact jB_01 _ | exact jB_in _ | exact ⟨by omega, by omega⟩) (fun z1 => ?_) (fun z1 => ?_)
    · refine jk_iconst (q := 59) dX12_misclosuresAgree_58 rfl ?_
      exact jk_zret rfl (by first | assumption | decide | omega | exact jB_01 _ | exact jB_in _ | exact ⟨by omega, by omega⟩) dX12_misclosuresAgree_59 (by exact ⟨rfl, rfl, rfl, rfl, hf1, ho1⟩)
    · refine jk_aload_n (q := 14) dX12_misclosuresAgree_13 rfl rfl ?_
      refine jk_getA (q := 17) (k := 12) 5 5 rfl (by first | exact hx0 | exact hs.1 | exact hs.2.1 _ _ rfl | exact hfo.1 | exact hfo.2.1 _ _ rfl | exact hwa.1.1 | exact hwa.1.2.1 | exact hwa.1.2.2 | exact hsh.1.1 | exact hsh.1.2.1 | exact hhe.1.1 | exact hba.1.1 | exact hcc.1 | exact hH.1 | exact hsc.1.1 | exact hB4.1 | exact hSN.1 | assumption) (by first | assumption | exact hs.2.2.1 _ _ rfl | exact hfo.2.2.1 _ _ rfl | exact hwa.2.1.2.2.1 | exact hsh.2.1.2.1) rfl rfl jw_380 dX12_misclosuresAgree_14 rfl ?_
      refine jk_iload_n (q := 18) dX12_misclosuresAgree_17 rfl rfl ?_
      refine jk_cV1p (q := 21) (c_X3_closesLoop (l := (k2 : Int)) hfo hr1 hi ho1 ⟨by omega, by omega⟩) jm_X3_closesLoop jw_1043 rfl (by first | exact hx0 | exact hs.1 | exact hs.2.1 _ _ rfl | exact hfo.1 | exact hfo.2.1 _ _ rfl | exact hwa.1.1 | exact hwa.1.2.1 | exact hwa.1.2.2 | exact hsh.1.1 | exact hsh.1.2.1 | exact hhe.1.1 | exact hba.1.1 | exact hcc.1 | exact hH.1 | exact hsc.1.1 | exact hB4.1 | exact hSN.1 | assumption) rfl rfl rfl dX12_misclosuresAgree_18 rfl ?_
      refine jk_ifB_eq (q := 52) (q2 := 24) dX12_misclosuresAgree_21 rfl rfl (fun z2 => ?_) (fun z2 => ?_)
      · refine jk_iinc1 (q := 55) dX12_misclosuresAgree_52 rfl rfl rfl ?_
        refine jk_goto (q := 2) dX12_misclosuresAgree_55 rfl ?_
        first
        | exact jk_convw (ih2 (by omega) _ hf4 ho4) (jk_wkS rfl (jk_wkS rfl jk_wk0))
        | exact jk_convw (ih2 (by omega) _ hf3 ho3) (jk_wkS rfl (jk_wkS rfl jk_wk0))
        | exact jk_convw (ih2 (by omega) _ hf2 ho2) (jk_wkS rfl (jk_wkS rfl jk_wk0))
        | exact jk_convw (ih2 (by omega) _ hf1 ho1) (jk_wkS rfl (jk_wkS rfl jk_wk0))
      · refine jk_aload_n (q := 25) dX12_misclosuresAgree_24 rfl rfl ?_
        refine jk_getA (q := 28) (k := 12) 6 6 rfl (by first | exact hx0 | exact hs.1 | exact hs.2.1 _ _ rfl | exact hfo.1 | exact hfo.2.1 _ _ rfl | exact hwa.1.1 | exact hwa.1.2.1 | exact hwa.1.2.2 | exact hsh.1.1 | exact hsh.1.2.1 | exact hhe.1.1 | exact hba.1.1 | exact hcc.1 | exact hH.1 | exact hsc.1.1 | exact hB4.1 | exact hSN.1 | assumption) (by first | assumption | exact hs.2.2.1 _ _ rfl | exact hfo.2.2.1 _ _ rfl | exact hwa.2.1.2.2.1 | exact hsh.2.1.2.1) rfl rfl jw_381 dX12_misclosuresAgree_25 rfl ?_
        refine jk_iload_n (q := 29) dX12_misclosuresAgree_28 rfl rfl ?_
        refine jk_cV1g (q := 32) (c_X11_traceLoop hwa hr1 hi ho1 hw ⟨by omega, by omega⟩ (by assumption)) jm_X11_traceLoop jw_1044 rfl (by first | exact hx0 | exact hs.1 | exact hs.2.1 _ _ rfl | exact hfo.1 | exact hfo.2.1 _ _ rfl | exact hwa.1.1 | exact hwa.1.2.1 | exact hwa.1.2.2 | exact hsh.1.1 | exact hsh.1.2.1 | exact hhe.1.1 | exact hba.1.1 | exact hcc.1 | exact hH.1 | exact hsc.1.1 | exact hB4.1 | exact hSN.1 | assumption) rfl rfl (Nat.zero_le _) (Nat.zero_le _) rfl dX12_misclosuresAgree_29 rfl (fun v' n' t' σ2 ρ' hq => ?_) (fun _ _ _ _ _ h => h.elim)
        obtain ⟨rfl, hn9, ht9, hr9, hp2, c9, hsq⟩ := hq
        replace hn9 := hn9.symm; replace ht9 := ht9.symm; replace hr9 := hr9.symm; subst hn9 ht9 hr9
        simp only [Option.toList_some, Option.toList_none, List.cons_append, List.nil_append, Nat.sub_zero]
        have hf2 : ln_fr x σ σ2 := fun a h => (hp2 a (by omega) (by omega) (by omega)).trans (hf1 a h)
        have hr2 : cl_rel σ2 (x + 2) g := cl_rel_same i2.2 (fun a h1 h2 => hf2 a (Or.inl (by omega))) hr
        have ho2 : fo_ok σ2 (x + 512) g := fo_ok_same (fun a h1 h2 => hp2 a (by omega) (by omega) (by omega)) ho1
        have heb := md_err_bd hi (S := md_sgn g (md_T g) (k2 : Int)) (fun k _ => md_sgn_sb g (md_T g) (k2 : Int) k)
        refine jk_aload_n (q := 33) dX12_misclosuresAgree_32 rfl rfl ?_
        refine jk_getA (q := 36) (k := 12) 6 6 rfl (by first | exact hx0 | exact hs.1 | exact hs.2.1 _ _ rfl | exact hfo.1 | exact hfo.2.1 _ _ rfl | exact hwa.1.1 | exact hwa.1.2.1 | exact hwa.1.2.2 | exact hsh.1.1 | exact hsh.1.2.1 | exact hhe.1.1 | exact hba.1.1 | exact hcc.1 | exact hH.1 | exact hsc.1.1 | exact hB4.1 | exact hSN.1 | assumption) (by first | assumption | exact hs.2.2.1 _ _ rfl | exact hfo.2.2.1 _ _ rfl | exact hwa.2.1.2.2.1 | exact hsh.2.1.2.1) rfl rfl jw_381 dX12_misclosuresAgree_33 rfl ?_
        refine jk_cV0p (q := 39) (c_X11_rise hwa hr2 hi hsq.1 hsq.2.1 (fun i hi9 => (hsq.2.2.1 i hi9).1)) jm_X11_rise jw_1054 rfl (by first | exact hx0 | exact hs.1 | exact hs.2.1 _ _ rfl | exact hfo.1 | exact hfo.2.1 _ _ rfl | exact hwa.1.1 | exact hwa.1.2.1 | exact hwa.1.2.2 | exact hsh.1.1 | exact hsh.1.2.1 | exact hhe.1.1 | exact hba.1.1 | exact hcc.1 | exact hH.1 | exact hsc.1.1 | exact hB4.1 | exact hSN.1 | assumption) rfl rfl rfl dX12_misclosuresAgree_36 rfl ?_
        rw [(cs_rise hsq i1.1).1]
        refine jk_aload_n (q := 40) dX12_misclosuresAgree_39 rfl rfl ?_
        refine jk_getA (q := 43) (k := 12) 8 8 rfl (by first | exact hx0 | exact hs.1 | exact hs.2.1 _ _ rfl | exact hfo.1 | exact hfo.2.1 _ _ rfl | exact hwa.1.1 | exact hwa.1.2.1 | exact hwa.1.2.2 | exact hsh.1.1 | exact hsh.1.2.1 | exact hhe.1.1 | exact hba.1.1 | exact hcc.1 | exact hH.1 | exact hsc.1.1 | exact hB4.1 | exact hSN.1 | assumption) (by first | assumption | exact hs.2.2.1 _ _ rfl | exact hfo.2.2.1 _ _ rfl | exact hwa.2.1.2.2.1 | exact hsh.2.1.2.1) rfl rfl jw_383 dX12_misclosuresAgree_40 rfl ?_
        refine jk_iload_n (q := 44) dX12_misclosuresAgree_43 rfl rfl ?_
        refine jk_cV1g (q := 47) (c_X4_gapByLevels hhe hr2 hi ho2 hw ⟨by omega, by omega⟩ (by assumption)) jm_X4_gapByLevels jw_1059 rfl (by first | exact hx0 | exact hs.1 | exact hs.2.1 _ _ rfl | exact hfo.1 | exact hfo.2.1 _ _ rfl | exact hwa.1.1 | exact hwa.1.2.1 | exact hwa.1.2.2 | exact hsh.1.1 | exact hsh.1.2.1 | exact hhe.1.1 | exact hba.1.1 | exact hcc.1 | exact hH.1 | exact hsc.1.1 | exact hB4.1 | exact hSN.1 | assumption) rfl rfl (Nat.zero_le _) (Nat.zero_le _) rfl dX12_misclosuresAgree_44 rfl (fun v' n' t' σ3 ρ' hq => ?_) (fun _ _ _ _ _ h => h.elim)
        obtain ⟨rfl, hn9, ht9, hr9, hp3⟩ := hq
        replace hn9 := hn9.symm; replace ht9 := ht9.symm; replace hr9 := hr9.symm; subst hn9 ht9 hr9
        simp only [Option.toList_some, Option.toList_none, List.cons_append, List.nil_append, Nat.sub_zero]
        have hf3 : ln_fr x σ σ3 := fun a h => (hp3 a (by omega)).trans (hf2 a h)
        have hr3 : cl_rel σ3 (x + 2) g := cl_rel_same i2.2 (fun a h1 h2 => hf3 a (Or.inl (by omega))) hr
        have ho3 : fo_ok σ3 (x + 512) g := fo_ok_same (fun a h1 h2 => hp3 a (by omega)) ho2
        refine jk_icmp_eq (q := 52) (q2 := 50) dX12_misclosuresAgree_47 rfl rfl (by first | assumption | decide | omega | exact jB_01 _ | exact jB_in _ | exact ⟨by omega, by omega⟩) (by first | assumption | decide | omega | exact jB_01 _ | exact jB_in _ | exact ⟨by omega, by omega⟩) (fun z3 => ?_) (fun z3 => ?_)
        · refine jk_iinc1 (q := 55) dX12_misclosuresAgree_52 rfl rfl rfl ?_
          refine jk_goto (q := 2) dX12_misclosuresAgree_55 rfl ?_
          first
          | exact jk_convw (ih2 (by omega) _ hf4 ho4) (jk_wkS rfl (jk_wkS rfl jk_wk0))
          | exact jk_convw (ih2 (by omega) _ hf3 ho3) (jk_wkS rfl (jk_wkS rfl jk_wk0))
          | exact jk_convw (ih2 (by omega) _ hf2 ho2) (jk_wkS rfl (jk_wkS rfl jk_wk0))
          | exact jk_convw (ih2 (by omega) _ hf1 ho1) (jk_wkS rfl (jk_wkS rfl jk_wk0))
        · refine jk_iconst (q := 51) dX12_misclosuresAgree_50 rfl ?_
          exact jk_zret rfl (by first | assumption | decide | omega | exact jB_01 _ | exact jB_in _ | exact ⟨by omega, by omega⟩) dX12_misclosuresAgree_51 (by exact absurd rfl (by assumption))
  exact jk_convw (L2 0 (Nat.zero_le _) σ hf0 ho0) (jk_wkS rfl (jk_wkS rfl jk_wk0))
theorem c_X12_wetColumnsAgree {G : jk_G} {n : Nat} {t : jk_T} {σ : jk_I} {ρ : jk_P} {x : Nat} {g : Int → Int} {B : Int}  (hz : zz_ok G) (hx : zx_ok G) (hln : ln_at t ρ x) (hr : cl_rel σ (x + 2) g) (ha : md_all B g) (hnn : cl_nn σ (x + 2)) (hsi : md_sit g) (ho : fo_ok σ (x + 512) g) (hB : B ≤ 100000) : jk_K G yX12_wetColumnsAgree mX12_wetColumnsAgree 0 0 [.ref x] n t σ ρ (fun v' n' t' σ' ρ' => v' = some (jI (jB true)) ∧ n' = n ∧ t' = t ∧ ρ' = ρ ∧ ln_fr x σ σ' ∧ fo_ok σ' (x + 512) g) jk_no := by
  obtain ⟨hx0, ⟨hx1, hx2, hx3, hx4, hx5, hx6, hx7, hx8, hx9, hx10, hx11, hx12⟩, hB4, hSN, hH, hhe, hba, hch, hsc⟩ := id hln
  obtain ⟨hcc, hwa, hsh, hwy, hyc⟩ := id hch
  obtain ⟨-, -, hfo, hfw⟩ := id hwa
  obtain ⟨-, -, -, -, hs, hsf⟩ := id hfo
  have hi := ha.1
  have hw := ha.2.1
  have hxx := ha.2.2.1
  have i0 := hi.1
  have i1 := hi.2.1
  have i2 := hi.2.2.1
  have i3 := hi.2.2.2.1
  obtain ⟨q0, q1, q2, q3⟩ := hr.1
  have hf0 : ln_fr x σ σ := fun _ _ => rfl
  have ho0 := ho
  refine jk_entryB (ls := [some (.ref x), none, none]) jm_X12_wetColumnsAgree.1 rfl rfl rfl ?_
  refine jk_iconst (q := 1) dX12_wetColumnsAgree_0 rfl ?_
  refine jk_istore1 (q := 2) dX12_wetColumnsAgree_1 rfl rfl rfl ?_
  have L2 : ∀ k2 : Nat, k2 ≤ (g 2).toNat → ∀ (σ1 : jk_I), (hf1 : ln_fr x σ σ1) → (ho1 : fo_ok σ1 (x + 512) g) → jk_J G mX12_wetColumnsAgree 2 [some (.ref x), some (jI (k2 : Int)), none] [] n t σ1 ρ 0 0 (fun v' n' t' σ' ρ' => v' = some (jI (jB true)) ∧ n' = n ∧ t' = t ∧ ρ' = ρ ∧ ln_fr x σ σ' ∧ fo_ok σ' (x + 512) g) jk_no := by
    refine jk_loop _ (fun k2 hk2 ih2 => ?_)
    intro σ1 hf1 ho1
    have hr1 : cl_rel σ1 (x + 2) g := cl_rel_same i2.2 (fun a h1 h2 => hf1 a (Or.inl (by omega))) hr
    have hnn1 : cl_nn σ1 (x + 2) := cl_nn_same (fun q hq => hf1 _ (Or.inl (by omega))) hnn
    refine jk_iload_n (q := 3) dX12_wetColumnsAgree_2 rfl rfl ?_
    refine jk_aload_n (q := 4) dX12_wetColumnsAgree_3 rfl rfl ?_
    refine jk_getA (q := 7) (k := 12) 0 0 rfl (by first | exact hx0 | exact hs.1 | exact hs.2.1 _ _ rfl | exact hfo.1 | exact hfo.2.1 _ _ rfl | exact hwa.1.1 | exact hwa.1.2.1 | exact hwa.1.2.2 | exact hsh.1.1 | exact hsh.1.2.1 | exact hhe.1.1 | exact hba.1.1 | exact hcc.1 | exact hH.1 | exact hsc.1.1 | exact hB4.1 | exact hSN.1 | assumption) (by first | assumption | exact hs.2.2.1 _ _ rfl | exact hfo.2.2.1 _ _ rfl | exact hwa.2.1.2.2.1 | exact hsh.2.1.2.1) rfl rfl jw_375 dX12_wetColumnsAgree_4 rfl ?_
    refine jk_getIR (q := 10) (k := 9) 12 12 rfl (by first | exact hx0 | exact hs.1 | exact hs.2.1 _ _ rfl | exact hfo.1 | exact hfo.2.1 _ _ rfl | exact hwa.1.1 | exact hwa.1.2.1 | exact hwa.1.2.2 | exact hsh.1.1 | exact hsh.1.2.1 | exact hhe.1.1 | exact hba.1.1 | exact hcc.1 | exact hH.1 | exact hsc.1.1 | exact hB4.1 | exact hSN.1 | assumption) (by first | exact jk_row_same _ _ _ | ((repeat rewrite [jk_row_ne _ _ (by omega)]); first | exact jk_row_same _ _ _ | rfl)) rfl rfl jw_107 dX12_wetColumnsAgree_7 rfl ?_
    rw [(cl_rel_same i2.2 (fun a h1 h2 => hf1 a (Or.inl (by omega))) hr).1.2.2.1]
    refine jk_icmp_ge (q := 67) (q2 := 13) dX12_wetColumnsAgree_10 rfl rfl (by first | assumption | decide | omega | exact jB_01 _ | exact jB_in _ | exact ⟨by omega, by omega⟩) (by first | assumption | decide | omega | exact jB_01 _ | exact jB_in _ | exact ⟨by omega, by omega⟩) (fun z1 => ?_) (fun z1 => ?_)
    · refine jk_iconst (q := 68) dX12_wetColumnsAgree_67 rfl ?_
      exact jk_zret rfl (by first | assumption | decide | omega | exact jB_01 _ | exact jB_in _ | exact ⟨by omega, by omega⟩) dX12_wetColumnsAgree_68 (by exact ⟨rfl, rfl, rfl, rfl, hf1, ho1⟩)
    · have hqi := hi.2.2.2.2.2.2.2.1 (k2 : Int) ⟨by omega, by omega⟩
      have hsite := hsi (k2 : Int) ⟨by omega, by omega⟩
      refine jk_aload_n (q := 14) dX12_wetColumnsAgree_13 rfl rfl ?_
      refine jk_getA (q := 17) (k := 12) 8 8 rfl (by first | exact hx0 | exact hs.1 | exact hs.2.1 _ _ rfl | exact hfo.1 | exact hfo.2.1 _ _ rfl | exact hwa.1.1 | exact hwa.1.2.1 | exact hwa.1.2.2 | exact hsh.1.1 | exact hsh.1.2.1 | exact hhe.1.1 | exact hba.1.1 | exact hcc.1 | exact hH.1 | exact hsc.1.1 | exact hB4.1 | exact hSN.1 | assumption) (by first | assumption | exact hs.2.2.1 _ _ rfl | exact hfo.2.2.1 _ _ rfl | exact hwa.2.1.2.2.1 | exact hsh.2.1.2.1) rfl rfl jw_383 dX12_wetColumnsAgree_14 rfl ?_
      refine jk_aload_n (q := 18) dX12_wetColumnsAgree_17 rfl rfl ?_
      refine jk_getA (q := 21) (k := 12) 0 0 rfl (by first | exact hx0 | exact hs.1 | exact hs.2.1 _ _ rfl | exact hfo.1 | exact hfo.2.1 _ _ rfl | exact hwa.1.1 | exact hwa.1.2.1 | exact hwa.1.2.2 | exact hsh.1.1 | exact hsh.1.2.1 | exact hhe.1.1 | exact hba.1.1 | exact hcc.1 | exact hH.1 | exact hsc.1.1 | exact hB4.1 | exact hSN.1 | assumption) (by first | assumption | exact hs.2.2.1 _ _ rfl | exact hfo.2.2.1 _ _ rfl | exact hwa.2.1.2.2.1 | exact hsh.2.1.2.1) rfl rfl jw_375 dX12_wetColumnsAgree_18 rfl ?_
      refine jk_getA (q := 24) (k := 9) 13 13 rfl (by first | exact hx0 | exact hs.1 | exact hs.2.1 _ _ rfl | exact hfo.1 | exact hfo.2.1 _ _ rfl | exact hwa.1.1 | exact hwa.1.2.1 | exact hwa.1.2.2 | exact hsh.1.1 | exact hsh.1.2.1 | exact hhe.1.1 | exact hba.1.1 | exact hcc.1 | exact hH.1 | exact hsc.1.1 | exact hB4.1 | exact hSN.1 | assumption) (by first | assumption | exact hs.2.2.1 _ _ rfl | exact hfo.2.2.1 _ _ rfl | exact hwa.2.1.2.2.1 | exact hsh.2.1.2.1) rfl rfl jw_110 dX12_wetColumnsAgree_21 rfl ?_
      refine jk_iload_n (q := 25) dX12_wetColumnsAgree_24 rfl rfl ?_
      refine jk_ialdR (q := 26) (by first | exact hx0 | exact hs.1 | exact hs.2.1 _ _ rfl | exact hfo.1 | exact hfo.2.1 _ _ rfl | exact hwa.1.1 | exact hwa.1.2.1 | exact hwa.1.2.2 | exact hsh.1.1 | exact hsh.1.2.1 | exact hhe.1.1 | exact hba.1.1 | exact hcc.1 | exact hH.1 | exact hsc.1.1 | exact hB4.1 | exact hSN.1 | assumption) (by first | exact jk_row_same _ _ _ | ((repeat rewrite [jk_row_ne _ _ (by omega)]); first | exact jk_row_same _ _ _ | rfl)) (by first | assumption | decide | omega | exact jB_01 _ | exact jB_in _ | exact ⟨by omega, by omega⟩) dX12_wetColumnsAgree_25 rfl ?_
      rw [(hr1.2.2.2 k2 (by omega)).1]
      refine jk_cV1p (q := 29) (c_X4_exists (p := g (152 + (k2 : Int))) hhe hr1 hi ho1 ⟨by omega, by omega⟩) jm_X4_exists jw_866 rfl (by first | exact hx0 | exact hs.1 | exact hs.2.1 _ _ rfl | exact hfo.1 | exact hfo.2.1 _ _ rfl | exact hwa.1.1 | exact hwa.1.2.1 | exact hwa.1.2.2 | exact hsh.1.1 | exact hsh.1.2.1 | exact hhe.1.1 | exact hba.1.1 | exact hcc.1 | exact hH.1 | exact hsc.1.1 | exact hB4.1 | exact hSN.1 | assumption) rfl rfl rfl dX12_wetColumnsAgree_26 rfl ?_
      refine jk_ifB_eq (q := 61) (q2 := 32) dX12_wetColumnsAgree_29 rfl rfl (fun z2 => ?_) (fun z2 => ?_)
      · refine jk_iinc1 (q := 64) dX12_wetColumnsAgree_61 rfl rfl rfl ?_
        refine jk_goto (q := 2) dX12_wetColumnsAgree_64 rfl ?_
        first
        | exact jk_convw (ih2 (by omega) _ hf4 ho4) (jk_wkS rfl (jk_wkS rfl (jk_wkN jk_wk0)))
        | exact jk_convw (ih2 (by omega) _ hf3 ho3) (jk_wkS rfl (jk_wkS rfl (jk_wkN jk_wk0)))
        | exact jk_convw (ih2 (by omega) _ hf2 ho2) (jk_wkS rfl (jk_wkS rfl (jk_wkN jk_wk0)))
        | exact jk_convw (ih2 (by omega) _ hf1 ho1) (jk_wkS rfl (jk_wkS rfl (jk_wkN jk_wk0)))
      · refine jk_aload_n (q := 33) dX12_wetColumnsAgree_32 rfl rfl ?_
        refine jk_iload_n (q := 34) dX12_wetColumnsAgree_33 rfl rfl ?_
        refine jk_cV1g (q := 37) (c_X12_surfaceAt (q := k2) hz hx hln hr1 ha hnn1 hsi ho1 (by omega) (by assumption)) jm_X12_surfaceAt jw_1107 rfl (by first | exact hx0 | exact hs.1 | exact hs.2.1 _ _ rfl | exact hfo.1 | exact hfo.2.1 _ _ rfl | exact hwa.1.1 | exact hwa.1.2.1 | exact hwa.1.2.2 | exact hsh.1.1 | exact hsh.1.2.1 | exact hhe.1.1 | exact hba.1.1 | exact hcc.1 | exact hH.1 | exact hsc.1.1 | exact hB4.1 | exact hSN.1 | assumption) rfl rfl (Nat.zero_le _) (Nat.zero_le _) rfl dX12_wetColumnsAgree_34 rfl (fun v' n' t' σ2 ρ' hq => ?_) (fun _ _ _ _ _ h => h.elim)
        obtain ⟨rfl, hn9, ht9, hr9, hf2a, ho2⟩ := hq
        replace hn9 := hn9.symm; replace ht9 := ht9.symm; replace hr9 := hr9.symm; subst hn9 ht9 hr9
        simp only [Option.toList_some, Option.toList_none, List.cons_append, List.nil_append, Nat.sub_zero]
        have hf2 : ln_fr x σ σ2 := fun a h => (hf2a a h).trans (hf1 a h)
        have hr2 : cl_rel σ2 (x + 2) g := cl_rel_same i2.2 (fun a h1 h2 => hf2 a (Or.inl (by omega))) hr
        have hnn2 : cl_nn σ2 (x + 2) := cl_nn_same (fun q hq => hf2 _ (Or.inl (by omega))) hnn
        have hhb := md_HT_bd2 hi hB (p := g (152 + (k2 : Int))) ⟨by omega, by omega⟩ (by assumption)
        refine jk_istore2 (q := 38) dX12_wetColumnsAgree_37 rfl rfl rfl ?_
        refine jk_aload_n (q := 39) dX12_wetColumnsAgree_38 rfl rfl ?_
        refine jk_getA (q := 42) (k := 12) 9 9 rfl (by first | exact hx0 | exact hs.1 | exact hs.2.1 _ _ rfl | exact hfo.1 | exact hfo.2.1 _ _ rfl | exact hwa.1.1 | exact hwa.1.2.1 | exact hwa.1.2.2 | exact hsh.1.1 | exact hsh.1.2.1 | exact hhe.1.1 | exact hba.1.1 | exact hcc.1 | exact hH.1 | exact hsc.1.1 | exact hB4.1 | exact hSN.1 | assumption) (by first | assumption | exact hs.2.2.1 _ _ rfl | exact hfo.2.2.1 _ _ rfl | exact hwa.2.1.2.2.1 | exact hsh.2.1.2.1) rfl rfl jw_384 dX12_wetColumnsAgree_39 rfl ?_
        refine jk_iload_n (q := 43) dX12_wetColumnsAgree_42 rfl rfl ?_
        refine jk_iload_n (q := 44) dX12_wetColumnsAgree_43 rfl rfl ?_
        have hwb := cb_wc_bd (g := g) (q := (k2 : Int)) (sf := g 3 - md_HT g (g (152 + (k2 : Int)))) hi hxx ⟨by omega, by omega⟩
        refine jk_cV2p (q := 47) (c_X1_wetByColumns hba hr2 hi hxx hnn2 (by omega) ⟨by omega, by omega⟩) jm_X1_wetByColumns jw_1111 rfl (by first | exact hx0 | exact hs.1 | exact hs.2.1 _ _ rfl | exact hfo.1 | exact hfo.2.1 _ _ rfl | exact hwa.1.1 | exact hwa.1.2.1 | exact hwa.1.2.2 | exact hsh.1.1 | exact hsh.1.2.1 | exact hhe.1.1 | exact hba.1.1 | exact hcc.1 | exact hH.1 | exact hsc.1.1 | exact hB4.1 | exact hSN.1 | assumption) rfl rfl rfl dX12_wetColumnsAgree_44 rfl ?_
        refine jk_aload_n (q := 48) dX12_wetColumnsAgree_47 rfl rfl ?_
        refine jk_getA (q := 51) (k := 12) 9 9 rfl (by first | exact hx0 | exact hs.1 | exact hs.2.1 _ _ rfl | exact hfo.1 | exact hfo.2.1 _ _ rfl | exact hwa.1.1 | exact hwa.1.2.1 | exact hwa.1.2.2 | exact hsh.1.1 | exact hsh.1.2.1 | exact hhe.1.1 | exact hba.1.1 | exact hcc.1 | exact hH.1 | exact hsc.1.1 | exact hB4.1 | exact hSN.1 | assumption) (by first | assumption | exact hs.2.2.1 _ _ rfl | exact hfo.2.2.1 _ _ rfl | exact hwa.2.1.2.2.1 | exact hsh.2.1.2.1) rfl rfl jw_384 dX12_wetColumnsAgree_48 rfl ?_
        refine jk_iload_n (q := 52) dX12_wetColumnsAgree_51 rfl rfl ?_
        refine jk_iload_n (q := 53) dX12_wetColumnsAgree_52 rfl rfl ?_
        refine jk_cV2p (q := 56) (c_X1_wetBySegments hba hr2 hi hxx hnn2 (by omega) ⟨by omega, by omega⟩) jm_X1_wetBySegments jw_1120 rfl (by first | exact hx0 | exact hs.1 | exact hs.2.1 _ _ rfl | exact hfo.1 | exact hfo.2.1 _ _ rfl | exact hwa.1.1 | exact hwa.1.2.1 | exact hwa.1.2.2 | exact hsh.1.1 | exact hsh.1.2.1 | exact hhe.1.1 | exact hba.1.1 | exact hcc.1 | exact hH.1 | exact hsc.1.1 | exact hB4.1 | exact hSN.1 | assumption) rfl rfl rfl dX12_wetColumnsAgree_53 rfl ?_
        refine jk_icmp_eq (q := 61) (q2 := 59) dX12_wetColumnsAgree_56 rfl rfl (by first | assumption | decide | omega | exact jB_01 _ | exact jB_in _ | exact ⟨by omega, by omega⟩) (by first | assumption | decide | omega | exact jB_01 _ | exact jB_in _ | exact ⟨by omega, by omega⟩) (fun z3 => ?_) (fun z3 => ?_)
        · refine jk_iinc1 (q := 64) dX12_wetColumnsAgree_61 rfl rfl rfl ?_
          refine jk_goto (q := 2) dX12_wetColumnsAgree_64 rfl ?_
          first
          | exact jk_convw (ih2 (by omega) _ hf4 ho4) (jk_wkS rfl (jk_wkS rfl (jk_wkN jk_wk0)))
          | exact jk_convw (ih2 (by omega) _ hf3 ho3) (jk_wkS rfl (jk_wkS rfl (jk_wkN jk_wk0)))
          | exact jk_convw (ih2 (by omega) _ hf2 ho2) (jk_wkS rfl (jk_wkS rfl (jk_wkN jk_wk0)))
          | exact jk_convw (ih2 (by omega) _ hf1 ho1) (jk_wkS rfl (jk_wkS rfl (jk_wkN jk_wk0)))
        · refine jk_iconst (q := 60) dX12_wetColumnsAgree_59 rfl ?_
          exact jk_zret rfl (by first | assumption | decide | omega | exact jB_01 _ | exact jB_in _ | exact ⟨by omega, by omega⟩) dX12_wetColumnsAgree_60 (by exact absurd rfl (by assumption))
  exact jk_convw (L2 0 (Nat.zero_le _) σ hf0 ho0) (jk_wkS rfl (jk_wkS rfl (jk_wkN jk_wk0)))
end E4
