section MD2
theorem c_X13_quotient {G : jk_G} {n : Nat} {t : jk_T} {σ : jk_I} {ρ : jk_P} {v : Int} (hv : -2000000000 ≤ v ∧ v ≤ 2000000000) : jk_K G yX13_quotient mX13_quotient 0 0 [jI v, jI 2] n t σ ρ (jk_q (some (jI (v / 2))) n t σ ρ) jk_no := by
  refine jk_entryB (ls := [some (jI v), some (jI 2)]) jm_X13_quotient.1 rfl rfl rfl ?_
  refine jk_iload_n (q := 1) dX13_quotient_0 rfl rfl ?_
  refine jk_if_lt (q := 10) (q2 := 4) dX13_quotient_1 rfl rfl (by first | decide | omega | exact jB_01 _) (fun h1 => ?_) (fun h1 => ?_)
  · refine jk_iload_n (q := 11) dX13_quotient_10 rfl rfl ?_
    refine jk_ineg (q := 12) dX13_quotient_11 rfl ?_
    refine jk_iload_n (q := 13) dX13_quotient_12 rfl rfl ?_
    refine jk_iadd (q := 14) dX13_quotient_13 rfl ?_
    refine jk_iconst (q := 15) dX13_quotient_14 rfl ?_
    refine jk_isub (q := 16) dX13_quotient_15 rfl ?_
    refine jk_iload_n (q := 17) dX13_quotient_16 rfl rfl ?_
    refine jk_idivP (q := 18) dX13_quotient_17 rfl (by first | decide | omega | exact jB_01 _) ?_
    refine jk_ineg (q := 19) dX13_quotient_18 rfl ?_
    exact jk_iret rfl dX13_quotient_19 (by refine jk_qI ?_; omega)
  · refine jk_iload_n (q := 5) dX13_quotient_4 rfl rfl ?_
    refine jk_iload_n (q := 6) dX13_quotient_5 rfl rfl ?_
    refine jk_idivP (q := 7) dX13_quotient_6 rfl (by first | decide | omega | exact jB_01 _) ?_
    refine jk_goto (q := 19) dX13_quotient_7 rfl ?_
    exact jk_iret rfl dX13_quotient_19 (by refine jk_qI ?_; omega)
def md_lev (g : Int → Int) (l : Int) : Int := if g (88 + l) = 0 then g (72 + l) else (g (72 + l) - g (104 + l)) / 2
def md_cor (g : Int → Int) (l : Int) : Int := md_lev g l + g (136 + l)
theorem md_lev_bd {B : Int} {g : Int → Int} {l : Int} (h : md_lnf B g l) : -9999 ≤ md_lev g l ∧ md_lev g l ≤ 9999 := by
  obtain ⟨l1, l2, l3, l4, l5, l6, l7, l8⟩ := h
  unfold md_lev; split <;> omega
theorem c_X13_levelled {G : jk_G} {n : Nat} {t : jk_T} {σ : jk_I} {ρ : jk_P} {m : Nat} {g : Int → Int} {B : Int} {l : Int} (hm : md_at t ρ m) (hg : σ (m + 2) = g) (hi : md_inv B g) (hl : 0 ≤ l ∧ l < 16) : jk_K G yX13_levelled mX13_levelled 0 0 [.ref m, jI l] n t σ ρ (jk_q (some (jI (md_lev g l))) n t σ ρ) jk_no := by
  refine jk_entryB (ls := [some (.ref m), some (jI l)]) jm_X13_levelled.1 rfl rfl rfl ?_
  obtain ⟨l1, l2, l3, l4, l5, l6, l7, l8⟩ := md_inv_ln hi hl
  have hB := hi.2.2.2.2.2.2
  refine jk_aload_n (q := 1) dX13_levelled_0 rfl rfl ?_
  refine jk_getA (q := 4) (k := 13) 0 0 rfl (by first | exact hm.1 | exact hm.2.1 _ _ rfl | assumption) (by first | exact hm.2.2 _ _ rfl | assumption) rfl rfl jw_1848 dX13_levelled_1 rfl ?_
  refine jk_bipush (q := 6) (y := 88) dX13_levelled_4 rfl (by decide) ?_
  refine jk_iload_n (q := 7) dX13_levelled_6 rfl rfl ?_
  refine jk_iadd (q := 8) dX13_levelled_7 rfl ?_
  refine jk_ialdR (q := 9) (by first | exact hm.1 | exact hm.2.1 _ _ rfl | assumption) (by first | exact jk_row_same _ _ _ | exact hg | (rewrite [jk_row_ne _ _ (by omega)]; first | exact jk_row_same _ _ _ | exact hg | (rewrite [jk_row_ne _ _ (by omega)]; first | exact jk_row_same _ _ _ | exact hg | (rewrite [jk_row_ne _ _ (by omega)]; first | exact jk_row_same _ _ _ | exact hg | (rewrite [jk_row_ne _ _ (by omega)]; first | exact hg | rfl))))) (by first | decide | omega | exact jB_01 _) dX13_levelled_8 rfl ?_
  refine jk_if_ne (q := 24) (q2 := 12) dX13_levelled_9 rfl rfl (by first | decide | omega | exact jB_01 _) (fun h1 => ?_) (fun h1 => ?_)
  · refine jk_aload_n (q := 25) dX13_levelled_24 rfl rfl ?_
    refine jk_getA (q := 28) (k := 13) 0 0 rfl (by first | exact hm.1 | exact hm.2.1 _ _ rfl | assumption) (by first | exact hm.2.2 _ _ rfl | assumption) rfl rfl jw_1848 dX13_levelled_25 rfl ?_
    refine jk_bipush (q := 30) (y := 72) dX13_levelled_28 rfl (by decide) ?_
    refine jk_iload_n (q := 31) dX13_levelled_30 rfl rfl ?_
    refine jk_iadd (q := 32) dX13_levelled_31 rfl ?_
    refine jk_ialdR (q := 33) (by first | exact hm.1 | exact hm.2.1 _ _ rfl | assumption) (by first | exact jk_row_same _ _ _ | exact hg | (rewrite [jk_row_ne _ _ (by omega)]; first | exact jk_row_same _ _ _ | exact hg | (rewrite [jk_row_ne _ _ (by omega)]; first | exact jk_row_same _ _ _ | exact hg | (rewrite [jk_row_ne _ _ (by omega)]; first | exact jk_row_same _ _ _ | exact hg | (rewrite [jk_row_ne _ _ (by omega)]; first | exact hg | rfl))))) (by first | decide | omega | exact jB_01 _) dX13_levelled_32 rfl ?_
    refine jk_aload_n (q := 34) dX13_levelled_33 rfl rfl ?_
    refine jk_getA (q := 37) (k := 13) 0 0 rfl (by first | exact hm.1 | exact hm.2.1 _ _ rfl | assumption) (by first | exact hm.2.2 _ _ rfl | assumption) rfl rfl jw_1848 dX13_levelled_34 rfl ?_
    refine jk_bipush (q := 39) (y := 104) dX13_levelled_37 rfl (by decide) ?_
    refine jk_iload_n (q := 40) dX13_levelled_39 rfl rfl ?_
    refine jk_iadd (q := 41) dX13_levelled_40 rfl ?_
    refine jk_ialdR (q := 42) (by first | exact hm.1 | exact hm.2.1 _ _ rfl | assumption) (by first | exact jk_row_same _ _ _ | exact hg | (rewrite [jk_row_ne _ _ (by omega)]; first | exact jk_row_same _ _ _ | exact hg | (rewrite [jk_row_ne _ _ (by omega)]; first | exact jk_row_same _ _ _ | exact hg | (rewrite [jk_row_ne _ _ (by omega)]; first | exact jk_row_same _ _ _ | exact hg | (rewrite [jk_row_ne _ _ (by omega)]; first | exact hg | rfl))))) (by first | decide | omega | exact jB_01 _) dX13_levelled_41 rfl ?_
    refine jk_isub (q := 43) dX13_levelled_42 rfl ?_
    refine jk_iconst (q := 44) dX13_levelled_43 rfl ?_
    refine jk_cS2p (q := 47) (c_X13_quotient (by omega)) jm_X13_quotient jw_2060 rfl rfl rfl dX13_levelled_44 rfl ?_
    exact jk_iret rfl dX13_levelled_47 (by refine jk_qI ?_; unfold md_lev; grind)
  · refine jk_aload_n (q := 13) dX13_levelled_12 rfl rfl ?_
    refine jk_getA (q := 16) (k := 13) 0 0 rfl (by first | exact hm.1 | exact hm.2.1 _ _ rfl | assumption) (by first | exact hm.2.2 _ _ rfl | assumption) rfl rfl jw_1848 dX13_levelled_13 rfl ?_
    refine jk_bipush (q := 18) (y := 72) dX13_levelled_16 rfl (by decide) ?_
    refine jk_iload_n (q := 19) dX13_levelled_18 rfl rfl ?_
    refine jk_iadd (q := 20) dX13_levelled_19 rfl ?_
    refine jk_ialdR (q := 21) (by first | exact hm.1 | exact hm.2.1 _ _ rfl | assumption) (by first | exact jk_row_same _ _ _ | exact hg | (rewrite [jk_row_ne _ _ (by omega)]; first | exact jk_row_same _ _ _ | exact hg | (rewrite [jk_row_ne _ _ (by omega)]; first | exact jk_row_same _ _ _ | exact hg | (rewrite [jk_row_ne _ _ (by omega)]; first | exact jk_row_same _ _ _ | exact hg | (rewrite [jk_row_ne _ _ (by omega)]; first | exact hg | rfl))))) (by first | decide | omega | exact jB_01 _) dX13_levelled_20 rfl ?_
    refine jk_goto (q := 47) dX13_levelled_21 rfl ?_
    exact jk_iret rfl dX13_levelled_47 (by refine jk_qI ?_; unfold md_lev; grind)
theorem c_X13_corrected {G : jk_G} {n : Nat} {t : jk_T} {σ : jk_I} {ρ : jk_P} {m : Nat} {g : Int → Int} {B : Int} {l : Int} (hm : md_at t ρ m) (hg : σ (m + 2) = g) (hi : md_inv B g) (hl : 0 ≤ l ∧ l < 16) : jk_K G yX13_corrected mX13_corrected 0 0 [.ref m, jI l] n t σ ρ (jk_q (some (jI (md_cor g l))) n t σ ρ) jk_no := by
  refine jk_entryB (ls := [some (.ref m), some (jI l)]) jm_X13_corrected.1 rfl rfl rfl ?_
  refine jk_aload_n (q := 1) dX13_corrected_0 rfl rfl ?_
  refine jk_iload_n (q := 2) dX13_corrected_1 rfl rfl ?_
  refine jk_cV1p (q := 5) (c_X13_levelled hm hg hi hl) jm_X13_levelled jw_2056 rfl (by first | exact hm.1 | exact hm.2.1 _ _ rfl | assumption) rfl rfl rfl dX13_corrected_2 rfl ?_
  refine jk_aload_n (q := 6) dX13_corrected_5 rfl rfl ?_
  refine jk_getA (q := 9) (k := 13) 0 0 rfl (by first | exact hm.1 | exact hm.2.1 _ _ rfl | assumption) (by first | exact hm.2.2 _ _ rfl | assumption) rfl rfl jw_1848 dX13_corrected_6 rfl ?_
  refine jk_sipush (q := 12) (y := 136) dX13_corrected_9 rfl (by decide) ?_
  refine jk_iload_n (q := 13) dX13_corrected_12 rfl rfl ?_
  refine jk_iadd (q := 14) dX13_corrected_13 rfl ?_
  refine jk_ialdR (q := 15) (by first | exact hm.1 | exact hm.2.1 _ _ rfl | assumption) (by first | exact jk_row_same _ _ _ | exact hg | (rewrite [jk_row_ne _ _ (by omega)]; first | exact jk_row_same _ _ _ | exact hg | (rewrite [jk_row_ne _ _ (by omega)]; first | exact jk_row_same _ _ _ | exact hg | (rewrite [jk_row_ne _ _ (by omega)]; first | exact jk_row_same _ _ _ | exact hg | (rewrite [jk_row_ne _ _ (by omega)]; first | exact hg | rfl))))) (by first | decide | omega | exact jB_01 _) dX13_corrected_14 rfl ?_
  refine jk_iadd (q := 16) dX13_corrected_15 rfl ?_
  exact jk_iret rfl dX13_corrected_16 (by exact jk_qr)
def md_goods (g : Int → Int) : Int := jk_sum (fun l => jB (md_good g l)) (g 1).toNat
theorem c_X13_goodOnes {G : jk_G} {n : Nat} {t : jk_T} {σ : jk_I} {ρ : jk_P} {m : Nat} {g : Int → Int} {B : Int} (hm : md_at t ρ m) (hg : σ (m + 2) = g) (hi : md_inv B g) : jk_K G yX13_goodOnes mX13_goodOnes 0 0 [.ref m] n t σ ρ (jk_q (some (jI (md_goods g))) n t σ ρ) jk_no := by
  refine jk_entryB (ls := [some (.ref m), none, none]) jm_X13_goodOnes.1 rfl rfl rfl ?_
  obtain ⟨i0, i1, -⟩ := id hi
  have hs := jk_sum_bd (f := fun l => jB (md_good g l)) (a := 0) (b := 1) (fun i => by rcases jB_01 (md_good g i) with h | h <;> rw [h] <;> decide)
  refine jk_iconst (q := 1) dX13_goodOnes_0 rfl ?_
  refine jk_istore1 (q := 2) dX13_goodOnes_1 rfl rfl rfl ?_
  refine jk_iconst (q := 3) dX13_goodOnes_2 rfl ?_
  refine jk_istore2 (q := 4) dX13_goodOnes_3 rfl rfl rfl ?_
  have L4 : ∀ k4 : Nat, k4 ≤ (g 1).toNat → jk_J G mX13_goodOnes 4 [some (.ref m), some (jI (jk_sum (fun l => jB (md_good g l)) k4)), some (jI (k4 : Int))] [] n t σ ρ 0 0 (jk_q (some (jI (md_goods g))) n t σ ρ) jk_no := by
    refine jk_loop _ (fun k4 hk4 ih4 => ?_)
    refine jk_iload_n (q := 5) dX13_goodOnes_4 rfl rfl ?_
    refine jk_aload_n (q := 6) dX13_goodOnes_5 rfl rfl ?_
    refine jk_getA (q := 9) (k := 13) 0 0 rfl (by first | exact hm.1 | exact hm.2.1 _ _ rfl | assumption) (by first | exact hm.2.2 _ _ rfl | assumption) rfl rfl jw_1848 dX13_goodOnes_6 rfl ?_
    refine jk_iconst (q := 10) dX13_goodOnes_9 rfl ?_
    refine jk_ialdR (q := 11) (by first | exact hm.1 | exact hm.2.1 _ _ rfl | assumption) (by first | exact jk_row_same _ _ _ | exact hg | (rewrite [jk_row_ne _ _ (by omega)]; first | exact jk_row_same _ _ _ | exact hg | (rewrite [jk_row_ne _ _ (by omega)]; first | exact jk_row_same _ _ _ | exact hg | (rewrite [jk_row_ne _ _ (by omega)]; first | exact jk_row_same _ _ _ | exact hg | (rewrite [jk_row_ne _ _ (by omega)]; first | exact hg | rfl))))) (by first | decide | omega | exact jB_01 _) dX13_goodOnes_10 rfl ?_
    refine jk_icmp_ge (q := 36) (q2 := 14) dX13_goodOnes_11 rfl rfl (by first | decide | omega | exact jB_01 _) (by first | decide | omega | exact jB_01 _) (fun h1 => ?_) (fun h1 => ?_)
    · refine jk_iload_n (q := 37) dX13_goodOnes_36 rfl rfl ?_
      exact jk_iret rfl dX13_goodOnes_37 (by refine jk_qI ?_; unfold md_goods; congr 1; omega)
    · refine jk_iload_n (q := 15) dX13_goodOnes_14 rfl rfl ?_
      refine jk_aload_n (q := 16) dX13_goodOnes_15 rfl rfl ?_
      refine jk_iload_n (q := 17) dX13_goodOnes_16 rfl rfl ?_
      refine jk_cV1p (q := 20) (c_X13_isGood hm hg hi ⟨by omega, by omega⟩) jm_X13_isGood jw_2010 rfl (by first | exact hm.1 | exact hm.2.1 _ _ rfl | assumption) rfl rfl rfl dX13_goodOnes_17 rfl ?_
      refine jk_ifB_eq (q := 27) (q2 := 23) dX13_goodOnes_20 rfl rfl (fun h2 => ?_) (fun h2 => ?_)
      · refine jk_iconst (q := 28) dX13_goodOnes_27 rfl ?_
        refine jk_iadd (q := 29) dX13_goodOnes_28 rfl ?_
        refine jk_istore1 (q := 30) dX13_goodOnes_29 rfl rfl rfl ?_
        refine jk_iinc2 (q := 33) dX13_goodOnes_30 rfl rfl rfl ?_
        refine jk_goto (q := 4) dX13_goodOnes_33 rfl ?_
        refine jk_convl (ih4 (by omega)) (jk_loc rfl (jk_loc (jk_li ?_) rfl))
        simp [jk_sum, *, jB_t, jB_f]
      · refine jk_iconst (q := 24) dX13_goodOnes_23 rfl ?_
        refine jk_goto (q := 28) dX13_goodOnes_24 rfl ?_
        refine jk_iadd (q := 29) dX13_goodOnes_28 rfl ?_
        refine jk_istore1 (q := 30) dX13_goodOnes_29 rfl rfl rfl ?_
        refine jk_iinc2 (q := 33) dX13_goodOnes_30 rfl rfl rfl ?_
        refine jk_goto (q := 4) dX13_goodOnes_33 rfl ?_
        refine jk_convl (ih4 (by omega)) (jk_loc rfl (jk_loc (jk_li ?_) rfl))
        simp [jk_sum, *, jB_t, jB_f]
  exact L4 0 (Nat.zero_le _)
def md_uni (root : Int → Int) (c : Int) (a b : Int) : Int → Int := fun p => if 0 ≤ p ∧ p < c ∧ root p = (if root a < root b then root b else root a) then (if root a < root b then root a else root b) else root p
theorem md_uni_0 {r : Int → Int} {lo hi : Int} : (fun p => if 0 ≤ p ∧ p < ((0 : Nat) : Int) ∧ r p = hi then lo else r p) = r := by
  funext p; rw [if_neg (by omega)]
theorem md_uni_step {r : Int → Int} {k : Nat} {lo hi x : Int} (hx : x = if r k = hi then lo else r k) : jk_set (fun p => if 0 ≤ p ∧ p < (k : Int) ∧ r p = hi then lo else r p) (k : Int) x = (fun p => if 0 ≤ p ∧ p < ((k + 1 : Nat) : Int) ∧ r p = hi then lo else r p) := by
  subst hx
  funext p
  simp only [jk_set]
  by_cases hp : p = (k : Int)
  · subst hp; simp; grind
  · rw [if_neg hp]; grind
theorem c_X13_unites {G : jk_G} {n : Nat} {t : jk_T} {σ : jk_I} {ρ : jk_P} {m : Nat} {g : Int → Int} {B : Int} {r : Int → Int} {a b : Int} (hm : md_at t ρ m) (hg : σ (m + 2) = g) (hi : md_inv B g) (hr : σ (m + 16) = r) (hrb : ∀ p, 0 ≤ p ∧ p < 10 → 0 ≤ r p ∧ r p < 10) (ha : 0 ≤ a ∧ a < 10) (hb : 0 ≤ b ∧ b < 10) : jk_K G yX13_unites mX13_unites 0 0 [.ref m, jI a, jI b] n t σ ρ (jk_q none n t (jk_row σ (m + 16) (md_uni r (g 0) a b)) ρ) jk_no := by
  refine jk_entryB (ls := [some (.ref m), some (jI a), some (jI b), none, none, none]) jm_X13_unites.1 rfl rfl rfl ?_
  obtain ⟨i0, i1, -⟩ := id hi
  have ra := hrb a ha
  have rb := hrb b hb
  refine jk_aload_n (q := 1) dX13_unites_0 rfl rfl ?_
  refine jk_getA (q := 4) (k := 13) 14 14 rfl (by first | exact hm.1 | exact hm.2.1 _ _ rfl | assumption) (by first | exact hm.2.2 _ _ rfl | assumption) rfl rfl jw_1862 dX13_unites_1 rfl ?_
  refine jk_iload_n (q := 5) dX13_unites_4 rfl rfl ?_
  refine jk_ialdR (q := 6) (by first | exact hm.1 | exact hm.2.1 _ _ rfl | assumption) (by first | exact jk_row_same _ _ _ | exact hg | exact hr | (rewrite [jk_row_ne _ _ (by omega)]; first | exact jk_row_same _ _ _ | exact hg | exact hr | (rewrite [jk_row_ne _ _ (by omega)]; first | exact jk_row_same _ _ _ | exact hg | exact hr | (rewrite [jk_row_ne _ _ (by omega)]; first | exact jk_row_same _ _ _ | exact hg | exact hr | (rewrite [jk_row_ne _ _ (by omega)]; first | exact hg | exact hr | rfl))))) (by first | decide | omega | grind) dX13_unites_5 rfl ?_
  refine jk_aload_n (q := 7) dX13_unites_6 rfl rfl ?_
  refine jk_getA (q := 10) (k := 13) 14 14 rfl (by first | exact hm.1 | exact hm.2.1 _ _ rfl | assumption) (by first | exact hm.2.2 _ _ rfl | assumption) rfl rfl jw_1862 dX13_unites_7 rfl ?_
  refine jk_iload_n (q := 11) dX13_unites_10 rfl rfl ?_
  refine jk_ialdR (q := 12) (by first | exact hm.1 | exact hm.2.1 _ _ rfl | assumption) (by first | exact jk_row_same _ _ _ | exact hg | exact hr | (rewrite [jk_row_ne _ _ (by omega)]; first | exact jk_row_same _ _ _ | exact hg | exact hr | (rewrite [jk_row_ne _ _ (by omega)]; first | exact jk_row_same _ _ _ | exact hg | exact hr | (rewrite [jk_row_ne _ _ (by omega)]; first | exact jk_row_same _ _ _ | exact hg | exact hr | (rewrite [jk_row_ne _ _ (by omega)]; first | exact hg | exact hr | rfl))))) (by first | decide | omega | grind) dX13_unites_11 rfl ?_
  refine jk_icmp_ge (q := 24) (q2 := 15) dX13_unites_12 rfl rfl (by first | decide | omega | grind) (by first | decide | omega | grind) (fun h1 => ?_) (fun h1 => ?_)
  · refine jk_aload_n (q := 25) dX13_unites_24 rfl rfl ?_
    refine jk_getA (q := 28) (k := 13) 14 14 rfl (by first | exact hm.1 | exact hm.2.1 _ _ rfl | assumption) (by first | exact hm.2.2 _ _ rfl | assumption) rfl rfl jw_1862 dX13_unites_25 rfl ?_
    refine jk_iload_n (q := 29) dX13_unites_28 rfl rfl ?_
    refine jk_ialdR (q := 30) (by first | exact hm.1 | exact hm.2.1 _ _ rfl | assumption) (by first | exact jk_row_same _ _ _ | exact hg | exact hr | (rewrite [jk_row_ne _ _ (by omega)]; first | exact jk_row_same _ _ _ | exact hg | exact hr | (rewrite [jk_row_ne _ _ (by omega)]; first | exact jk_row_same _ _ _ | exact hg | exact hr | (rewrite [jk_row_ne _ _ (by omega)]; first | exact jk_row_same _ _ _ | exact hg | exact hr | (rewrite [jk_row_ne _ _ (by omega)]; first | exact hg | exact hr | rfl))))) (by first | decide | omega | grind) dX13_unites_29 rfl ?_
    refine jk_istore3 (q := 31) dX13_unites_30 rfl rfl rfl ?_
    refine jk_aload_n (q := 32) dX13_unites_31 rfl rfl ?_
    refine jk_getA (q := 35) (k := 13) 14 14 rfl (by first | exact hm.1 | exact hm.2.1 _ _ rfl | assumption) (by first | exact hm.2.2 _ _ rfl | assumption) rfl rfl jw_1862 dX13_unites_32 rfl ?_
    refine jk_iload_n (q := 36) dX13_unites_35 rfl rfl ?_
    refine jk_ialdR (q := 37) (by first | exact hm.1 | exact hm.2.1 _ _ rfl | assumption) (by first | exact jk_row_same _ _ _ | exact hg | exact hr | (rewrite [jk_row_ne _ _ (by omega)]; first | exact jk_row_same _ _ _ | exact hg | exact hr | (rewrite [jk_row_ne _ _ (by omega)]; first | exact jk_row_same _ _ _ | exact hg | exact hr | (rewrite [jk_row_ne _ _ (by omega)]; first | exact jk_row_same _ _ _ | exact hg | exact hr | (rewrite [jk_row_ne _ _ (by omega)]; first | exact hg | exact hr | rfl))))) (by first | decide | omega | grind) dX13_unites_36 rfl ?_
    refine jk_aload_n (q := 38) dX13_unites_37 rfl rfl ?_
    refine jk_getA (q := 41) (k := 13) 14 14 rfl (by first | exact hm.1 | exact hm.2.1 _ _ rfl | assumption) (by first | exact hm.2.2 _ _ rfl | assumption) rfl rfl jw_1862 dX13_unites_38 rfl ?_
    refine jk_iload_n (q := 42) dX13_unites_41 rfl rfl ?_
    refine jk_ialdR (q := 43) (by first | exact hm.1 | exact hm.2.1 _ _ rfl | assumption) (by first | exact jk_row_same _ _ _ | exact hg | exact hr | (rewrite [jk_row_ne _ _ (by omega)]; first | exact jk_row_same _ _ _ | exact hg | exact hr | (rewrite [jk_row_ne _ _ (by omega)]; first | exact jk_row_same _ _ _ | exact hg | exact hr | (rewrite [jk_row_ne _ _ (by omega)]; first | exact jk_row_same _ _ _ | exact hg | exact hr | (rewrite [jk_row_ne _ _ (by omega)]; first | exact hg | exact hr | rfl))))) (by first | decide | omega | grind) dX13_unites_42 rfl ?_
    refine jk_iadd (q := 44) dX13_unites_43 rfl ?_
    refine jk_iload_n (q := 45) dX13_unites_44 rfl rfl ?_
    refine jk_isub (q := 46) dX13_unites_45 rfl ?_
    refine jk_istore4 (q := 48) dX13_unites_46 rfl rfl rfl ?_
    refine jk_iconst (q := 49) dX13_unites_48 rfl ?_
    refine jk_istore5 (q := 51) dX13_unites_49 rfl rfl rfl ?_
    have L51 : ∀ k51 : Nat, k51 ≤ (g 0).toNat → ∀ (σ1 : jk_I), (hs1 : σ1 = jk_row σ (m + 16) (fun p => if 0 ≤ p ∧ p < (k51 : Int) ∧ r p = if r a < r b then r b else r a then if r a < r b then r a else r b else r p)) → jk_J G mX13_unites 51 [some (.ref m), some (jI a), some (jI b), some (jI (if r a < r b then r a else r b)), some (jI (if r a < r b then r b else r a)), some (jI (k51 : Int))] [] n t σ1 ρ 0 0 (jk_q none n t (jk_row σ (m + 16) (md_uni r (g 0) a b)) ρ) jk_no := by
      refine jk_loop _ (fun k51 hk51 ih51 => ?_)
      intro σ1 hs1
      have hg1 : σ1 (m + 2) = g := by rw [hs1, jk_row_ne _ _ (by omega)]; exact hg
      have hr1 : σ1 (m + 16) = (fun p => if 0 ≤ p ∧ p < (k51 : Int) ∧ r p = if r a < r b then r b else r a then if r a < r b then r a else r b else r p) := by rw [hs1, jk_row_same]
      refine jk_iload (q := 53) dX13_unites_51 rfl rfl ?_
      refine jk_aload_n (q := 54) dX13_unites_53 rfl rfl ?_
      refine jk_getA (q := 57) (k := 13) 0 0 rfl (by first | exact hm.1 | exact hm.2.1 _ _ rfl | assumption) (by first | exact hm.2.2 _ _ rfl | assumption) rfl rfl jw_1848 dX13_unites_54 rfl ?_
      refine jk_iconst (q := 58) dX13_unites_57 rfl ?_
      refine jk_ialdR (q := 59) (by first | exact hm.1 | exact hm.2.1 _ _ rfl | assumption) (by first | exact jk_row_same _ _ _ | exact hg1 | exact hr1 | (rewrite [jk_row_ne _ _ (by omega)]; first | exact jk_row_same _ _ _ | exact hg1 | exact hr1 | (rewrite [jk_row_ne _ _ (by omega)]; first | exact jk_row_same _ _ _ | exact hg1 | exact hr1 | (rewrite [jk_row_ne _ _ (by omega)]; first | exact jk_row_same _ _ _ | exact hg1 | exact hr1 | (rewrite [jk_row_ne _ _ (by omega)]; first | exact hg1 | exact hr1 | rfl))))) (by first | decide | omega | grind) dX13_unites_58 rfl ?_
      refine jk_icmp_ge (q := 98) (q2 := 62) dX13_unites_59 rfl rfl (by first | decide | omega | grind) (by first | decide | omega | grind) (fun h2 => ?_) (fun h2 => ?_)
      · exact jk_ret rfl dX13_unites_98 (by refine ⟨rfl, rfl, rfl, ?_, rfl⟩; rw [hs1, show (k51 : Int) = g 0 by omega]; rfl)
      · refine jk_aload_n (q := 63) dX13_unites_62 rfl rfl ?_
        refine jk_getA (q := 66) (k := 13) 14 14 rfl (by first | exact hm.1 | exact hm.2.1 _ _ rfl | assumption) (by first | exact hm.2.2 _ _ rfl | assumption) rfl rfl jw_1862 dX13_unites_63 rfl ?_
        refine jk_iload (q := 68) dX13_unites_66 rfl rfl ?_
        refine jk_aload_n (q := 69) dX13_unites_68 rfl rfl ?_
        refine jk_getA (q := 72) (k := 13) 14 14 rfl (by first | exact hm.1 | exact hm.2.1 _ _ rfl | assumption) (by first | exact hm.2.2 _ _ rfl | assumption) rfl rfl jw_1862 dX13_unites_69 rfl ?_
        refine jk_iload (q := 74) dX13_unites_72 rfl rfl ?_
        refine jk_ialdR (q := 75) (by first | exact hm.1 | exact hm.2.1 _ _ rfl | assumption) (by first | exact jk_row_same _ _ _ | exact hg1 | exact hr1 | (rewrite [jk_row_ne _ _ (by omega)]; first | exact jk_row_same _ _ _ | exact hg1 | exact hr1 | (rewrite [jk_row_ne _ _ (by omega)]; first | exact jk_row_same _ _ _ | exact hg1 | exact hr1 | (rewrite [jk_row_ne _ _ (by omega)]; first | exact jk_row_same _ _ _ | exact hg1 | exact hr1 | (rewrite [jk_row_ne _ _ (by omega)]; first | exact hg1 | exact hr1 | rfl))))) (by first | decide | omega | grind) dX13_unites_74 rfl ?_
        refine jk_iload (q := 77) dX13_unites_75 rfl rfl ?_
        refine jk_icmp_ne (q := 84) (q2 := 80) dX13_unites_77 rfl rfl (by first | decide | omega | grind) (by first | decide | omega | grind) (fun h3 => ?_) (fun h3 => ?_)
        · refine jk_aload_n (q := 85) dX13_unites_84 rfl rfl ?_
          refine jk_getA (q := 88) (k := 13) 14 14 rfl (by first | exact hm.1 | exact hm.2.1 _ _ rfl | assumption) (by first | exact hm.2.2 _ _ rfl | assumption) rfl rfl jw_1862 dX13_unites_85 rfl ?_
          refine jk_iload (q := 90) dX13_unites_88 rfl rfl ?_
          refine jk_ialdR (q := 91) (by first | exact hm.1 | exact hm.2.1 _ _ rfl | assumption) (by first | exact jk_row_same _ _ _ | exact hg1 | exact hr1 | (rewrite [jk_row_ne _ _ (by omega)]; first | exact jk_row_same _ _ _ | exact hg1 | exact hr1 | (rewrite [jk_row_ne _ _ (by omega)]; first | exact jk_row_same _ _ _ | exact hg1 | exact hr1 | (rewrite [jk_row_ne _ _ (by omega)]; first | exact jk_row_same _ _ _ | exact hg1 | exact hr1 | (rewrite [jk_row_ne _ _ (by omega)]; first | exact hg1 | exact hr1 | rfl))))) (by first | decide | omega | grind) dX13_unites_90 rfl ?_
          refine jk_iastR (q := 92) (by first | exact hm.1 | exact hm.2.1 _ _ rfl | assumption) (by first | exact jk_row_same _ _ _ | exact hg1 | exact hr1 | (rewrite [jk_row_ne _ _ (by omega)]; first | exact jk_row_same _ _ _ | exact hg1 | exact hr1 | (rewrite [jk_row_ne _ _ (by omega)]; first | exact jk_row_same _ _ _ | exact hg1 | exact hr1 | (rewrite [jk_row_ne _ _ (by omega)]; first | exact jk_row_same _ _ _ | exact hg1 | exact hr1 | (rewrite [jk_row_ne _ _ (by omega)]; first | exact hg1 | exact hr1 | rfl))))) (by first | decide | omega | grind) dX13_unites_91 rfl ?_
          refine jk_iinc5 (q := 95) dX13_unites_92 rfl rfl rfl ?_
          refine jk_goto (q := 51) dX13_unites_95 rfl ?_
          refine jk_conv (ih51 (by omega) _ rfl) rfl ?_
          rw [hs1, jk_row_row, md_uni_step]
          grind
        · refine jk_iload_n (q := 81) dX13_unites_80 rfl rfl ?_
          refine jk_goto (q := 91) dX13_unites_81 rfl ?_
          refine jk_iastR (q := 92) (by first | exact hm.1 | exact hm.2.1 _ _ rfl | assumption) (by first | exact jk_row_same _ _ _ | exact hg1 | exact hr1 | (rewrite [jk_row_ne _ _ (by omega)]; first | exact jk_row_same _ _ _ | exact hg1 | exact hr1 | (rewrite [jk_row_ne _ _ (by omega)]; first | exact jk_row_same _ _ _ | exact hg1 | exact hr1 | (rewrite [jk_row_ne _ _ (by omega)]; first | exact jk_row_same _ _ _ | exact hg1 | exact hr1 | (rewrite [jk_row_ne _ _ (by omega)]; first | exact hg1 | exact hr1 | rfl))))) (by first | decide | omega | grind) dX13_unites_91 rfl ?_
          refine jk_iinc5 (q := 95) dX13_unites_92 rfl rfl rfl ?_
          refine jk_goto (q := 51) dX13_unites_95 rfl ?_
          refine jk_conv (ih51 (by omega) _ rfl) rfl ?_
          rw [hs1, jk_row_row, md_uni_step]
          grind
    refine jk_convl (L51 0 (Nat.zero_le _) σ (by rw [md_uni_0, ← hr, jk_row_self])) (jk_loc rfl (jk_loc rfl (jk_loc rfl (jk_loc (jk_li ?_) (jk_loc (jk_li ?_) rfl))))) <;> (split <;> omega)
  · refine jk_aload_n (q := 16) dX13_unites_15 rfl rfl ?_
    refine jk_getA (q := 19) (k := 13) 14 14 rfl (by first | exact hm.1 | exact hm.2.1 _ _ rfl | assumption) (by first | exact hm.2.2 _ _ rfl | assumption) rfl rfl jw_1862 dX13_unites_16 rfl ?_
    refine jk_iload_n (q := 20) dX13_unites_19 rfl rfl ?_
    refine jk_ialdR (q := 21) (by first | exact hm.1 | exact hm.2.1 _ _ rfl | assumption) (by first | exact jk_row_same _ _ _ | exact hg | exact hr | (rewrite [jk_row_ne _ _ (by omega)]; first | exact jk_row_same _ _ _ | exact hg | exact hr | (rewrite [jk_row_ne _ _ (by omega)]; first | exact jk_row_same _ _ _ | exact hg | exact hr | (rewrite [jk_row_ne _ _ (by omega)]; first | exact jk_row_same _ _ _ | exact hg | exact hr | (rewrite [jk_row_ne _ _ (by omega)]; first | exact hg | exact hr | rfl))))) (by first | decide | omega | grind) dX13_unites_20 rfl ?_
    refine jk_goto (q := 30) dX13_unites_21 rfl ?_
    refine jk_istore3 (q := 31) dX13_unites_30 rfl rfl rfl ?_
    refine jk_aload_n (q := 32) dX13_unites_31 rfl rfl ?_
    refine jk_getA (q := 35) (k := 13) 14 14 rfl (by first | exact hm.1 | exact hm.2.1 _ _ rfl | assumption) (by first | exact hm.2.2 _ _ rfl | assumption) rfl rfl jw_1862 dX13_unites_32 rfl ?_
    refine jk_iload_n (q := 36) dX13_unites_35 rfl rfl ?_
    refine jk_ialdR (q := 37) (by first | exact hm.1 | exact hm.2.1 _ _ rfl | assumption) (by first | exact jk_row_same _ _ _ | exact hg | exact hr | (rewrite [jk_row_ne _ _ (by omega)]; first | exact jk_row_same _ _ _ | exact hg | exact hr | (rewrite [jk_row_ne _ _ (by omega)]; first | exact jk_row_same _ _ _ | exact hg | exact hr | (rewrite [jk_row_ne _ _ (by omega)]; first | exact jk_row_same _ _ _ | exact hg | exact hr | (rewrite [jk_row_ne _ _ (by omega)]; first | exact hg | exact hr | rfl))))) (by first | decide | omega | grind) dX13_unites_36 rfl ?_
    refine jk_aload_n (q := 38) dX13_unites_37 rfl rfl ?_
    refine jk_getA (q := 41) (k := 13) 14 14 rfl (by first | exact hm.1 | exact hm.2.1 _ _ rfl | assumption) (by first | exact hm.2.2 _ _ rfl | assumption) rfl rfl jw_1862 dX13_unites_38 rfl ?_
    refine jk_iload_n (q := 42) dX13_unites_41 rfl rfl ?_
    refine jk_ialdR (q := 43) (by first | exact hm.1 | exact hm.2.1 _ _ rfl | assumption) (by first | exact jk_row_same _ _ _ | exact hg | exact hr | (rewrite [jk_row_ne _ _ (by omega)]; first | exact jk_row_same _ _ _ | exact hg | exact hr | (rewrite [jk_row_ne _ _ (by omega)]; first | exact jk_row_same _ _ _ | exact hg | exact hr | (rewrite [jk_row_ne _ _ (by omega)]; first | exact jk_row_same _ _ _ | exact hg | exact hr | (rewrite [jk_row_ne _ _ (by omega)]; first | exact hg | exact hr | rfl))))) (by first | decide | omega | grind) dX13_unites_42 rfl ?_
    refine jk_iadd (q := 44) dX13_unites_43 rfl ?_
    refine jk_iload_n (q := 45) dX13_unites_44 rfl rfl ?_
    refine jk_isub (q := 46) dX13_unites_45 rfl ?_
    refine jk_istore4 (q := 48) dX13_unites_46 rfl rfl rfl ?_
    refine jk_iconst (q := 49) dX13_unites_48 rfl ?_
    refine jk_istore5 (q := 51) dX13_unites_49 rfl rfl rfl ?_
    have L51 : ∀ k51 : Nat, k51 ≤ (g 0).toNat → ∀ (σ1 : jk_I), (hs1 : σ1 = jk_row σ (m + 16) (fun p => if 0 ≤ p ∧ p < (k51 : Int) ∧ r p = if r a < r b then r b else r a then if r a < r b then r a else r b else r p)) → jk_J G mX13_unites 51 [some (.ref m), some (jI a), some (jI b), some (jI (if r a < r b then r a else r b)), some (jI (if r a < r b then r b else r a)), some (jI (k51 : Int))] [] n t σ1 ρ 0 0 (jk_q none n t (jk_row σ (m + 16) (md_uni r (g 0) a b)) ρ) jk_no := by
      refine jk_loop _ (fun k51 hk51 ih51 => ?_)
      intro σ1 hs1
      have hg1 : σ1 (m + 2) = g := by rw [hs1, jk_row_ne _ _ (by omega)]; exact hg
      have hr1 : σ1 (m + 16) = (fun p => if 0 ≤ p ∧ p < (k51 : Int) ∧ r p = if r a < r b then r b else r a then if r a < r b then r a else r b else r p) := by rw [hs1, jk_row_same]
      refine jk_iload (q := 53) dX13_unites_51 rfl rfl ?_
      refine jk_aload_n (q := 54) dX13_unites_53 rfl rfl ?_
      refine jk_getA (q := 57) (k := 13) 0 0 rfl (by first | exact hm.1 | exact hm.2.1 _ _ rfl | assumption) (by first | exact hm.2.2 _ _ rfl | assumption) rfl rfl jw_1848 dX13_unites_54 rfl ?_
      refine jk_iconst (q := 58) dX13_unites_57 rfl ?_
      refine jk_ialdR (q := 59) (by first | exact hm.1 | exact hm.2.1 _ _ rfl | assumption) (by first | exact jk_row_same _ _ _ | exact hg1 | exact hr1 | (rewrite [jk_row_ne _ _ (by omega)]; first | exact jk_row_same _ _ _ | exact hg1 | exact hr1 | (rewrite [jk_row_ne _ _ (by omega)]; first | exact jk_row_same _ _ _ | exact hg1 | exact hr1 | (rewrite [jk_row_ne _ _ (by omega)]; first | exact jk_row_same _ _ _ | exact hg1 | exact hr1 | (rewrite [jk_row_ne _ _ (by omega)]; first | exact hg1 | exact hr1 | rfl))))) (by first | decide | omega | grind) dX13_unites_58 rfl ?_
      refine jk_icmp_ge (q := 98) (q2 := 62) dX13_unites_59 rfl rfl (by first | decide | omega | grind) (by first | decide | omega | grind) (fun h4 => ?_) (fun h4 => ?_)
      · exact jk_ret rfl dX13_unites_98 (by refine ⟨rfl, rfl, rfl, ?_, rfl⟩; rw [hs1, show (k51 : Int) = g 0 by omega]; rfl)
      · refine jk_aload_n (q := 63) dX13_unites_62 rfl rfl ?_
        refine jk_getA (q := 66) (k := 13) 14 14 rfl (by first | exact hm.1 | exact hm.2.1 _ _ rfl | assumption) (by first | exact hm.2.2 _ _ rfl | assumption) rfl rfl jw_1862 dX13_unites_63 rfl ?_
        refine jk_iload (q := 68) dX13_unites_66 rfl rfl ?_
        refine jk_aload_n (q := 69) dX13_unites_68 rfl rfl ?_
        refine jk_getA (q := 72) (k := 13) 14 14 rfl (by first | exact hm.1 | exact hm.2.1 _ _ rfl | assumption) (by first | exact hm.2.2 _ _ rfl | assumption) rfl rfl jw_1862 dX13_unites_69 rfl ?_
        refine jk_iload (q := 74) dX13_unites_72 rfl rfl ?_
        refine jk_ialdR (q := 75) (by first | exact hm.1 | exact hm.2.1 _ _ rfl | assumption) (by first | exact jk_row_same _ _ _ | exact hg1 | exact hr1 | (rewrite [jk_row_ne _ _ (by omega)]; first | exact jk_row_same _ _ _ | exact hg1 | exact hr1 | (rewrite [jk_row_ne _ _ (by omega)]; first | exact jk_row_same _ _ _ | exact hg1 | exact hr1 | (rewrite [jk_row_ne _ _ (by omega)]; first | exact jk_row_same _ _ _ | exact hg1 | exact hr1 | (rewrite [jk_row_ne _ _ (by omega)]; first | exact hg1 | exact hr1 | rfl))))) (by first | decide | omega | grind) dX13_unites_74 rfl ?_
        refine jk_iload (q := 77) dX13_unites_75 rfl rfl ?_
        refine jk_icmp_ne (q := 84) (q2 := 80) dX13_unites_77 rfl rfl (by first | decide | omega | grind) (by first | decide | omega | grind) (fun h5 => ?_) (fun h5 => ?_)
        · refine jk_aload_n (q := 85) dX13_unites_84 rfl rfl ?_
          refine jk_getA (q := 88) (k := 13) 14 14 rfl (by first | exact hm.1 | exact hm.2.1 _ _ rfl | assumption) (by first | exact hm.2.2 _ _ rfl | assumption) rfl rfl jw_1862 dX13_unites_85 rfl ?_
          refine jk_iload (q := 90) dX13_unites_88 rfl rfl ?_
          refine jk_ialdR (q := 91) (by first | exact hm.1 | exact hm.2.1 _ _ rfl | assumption) (by first | exact jk_row_same _ _ _ | exact hg1 | exact hr1 | (rewrite [jk_row_ne _ _ (by omega)]; first | exact jk_row_same _ _ _ | exact hg1 | exact hr1 | (rewrite [jk_row_ne _ _ (by omega)]; first | exact jk_row_same _ _ _ | exact hg1 | exact hr1 | (rewrite [jk_row_ne _ _ (by omega)]; first | exact jk_row_same _ _ _ | exact hg1 | exact hr1 | (rewrite [jk_row_ne _ _ (by omega)]; first | exact hg1 | exact hr1 | rfl))))) (by first | decide | omega | grind) dX13_unites_90 rfl ?_
          refine jk_iastR (q := 92) (by first | exact hm.1 | exact hm.2.1 _ _ rfl | assumption) (by first | exact jk_row_same _ _ _ | exact hg1 | exact hr1 | (rewrite [jk_row_ne _ _ (by omega)]; first | exact jk_row_same _ _ _ | exact hg1 | exact hr1 | (rewrite [jk_row_ne _ _ (by omega)]; first | exact jk_row_same _ _ _ | exact hg1 | exact hr1 | (rewrite [jk_row_ne _ _ (by omega)]; first | exact jk_row_same _ _ _ | exact hg1 | exact hr1 | (rewrite [jk_row_ne _ _ (by omega)]; first | exact hg1 | exact hr1 | rfl))))) (by first | decide | omega | grind) dX13_unites_91 rfl ?_
          refine jk_iinc5 (q := 95) dX13_unites_92 rfl rfl rfl ?_
          refine jk_goto (q := 51) dX13_unites_95 rfl ?_
          refine jk_conv (ih51 (by omega) _ rfl) rfl ?_
          rw [hs1, jk_row_row, md_uni_step]
          grind
        · refine jk_iload_n (q := 81) dX13_unites_80 rfl rfl ?_
          refine jk_goto (q := 91) dX13_unites_81 rfl ?_
          refine jk_iastR (q := 92) (by first | exact hm.1 | exact hm.2.1 _ _ rfl | assumption) (by first | exact jk_row_same _ _ _ | exact hg1 | exact hr1 | (rewrite [jk_row_ne _ _ (by omega)]; first | exact jk_row_same _ _ _ | exact hg1 | exact hr1 | (rewrite [jk_row_ne _ _ (by omega)]; first | exact jk_row_same _ _ _ | exact hg1 | exact hr1 | (rewrite [jk_row_ne _ _ (by omega)]; first | exact jk_row_same _ _ _ | exact hg1 | exact hr1 | (rewrite [jk_row_ne _ _ (by omega)]; first | exact hg1 | exact hr1 | rfl))))) (by first | decide | omega | grind) dX13_unites_91 rfl ?_
          refine jk_iinc5 (q := 95) dX13_unites_92 rfl rfl rfl ?_
          refine jk_goto (q := 51) dX13_unites_95 rfl ?_
          refine jk_conv (ih51 (by omega) _ rfl) rfl ?_
          rw [hs1, jk_row_row, md_uni_step]
          grind
    refine jk_convl (L51 0 (Nat.zero_le _) σ (by rw [md_uni_0, ← hr, jk_row_self])) (jk_loc rfl (jk_loc rfl (jk_loc rfl (jk_loc (jk_li ?_) (jk_loc (jk_li ?_) rfl))))) <;> (split <;> omega)
end MD2
