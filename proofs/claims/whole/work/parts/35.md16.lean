section MD16
def md_Ds (g : Int → Int) (q s : Int) : Int := g (160 + 10 * q + s)
/-- distances grow -/
def md_inx (g : Int → Int) : Prop := ∀ q, 0 ≤ q ∧ q < g 2 → (∀ s, 0 ≤ s ∧ s < g (156 + q) → 0 ≤ md_Ds g q s ∧ md_Ds g q s ≤ 99) ∧ ∀ s, 0 ≤ s ∧ s + 1 < g (156 + q) → md_Ds g q s < md_Ds g q (s + 1)
def md_ws (g : Int → Int) (q c : Int) : Nat → Nat → Nat
  | 0, s => s
  | f + 1, s => if (s : Int) < g (156 + q) - 1 ∧ md_Ds g q ((s : Int) + 1) ≤ c then md_ws g q c f (s + 1) else s
def md_stn (g : Int → Int) (q c : Int) : Int := (md_ws g q c 10 0 : Nat)
def md_off (g : Int → Int) (q c : Int) : Int :=
  if md_stn g q c = g (156 + q) - 1 then g (200 + 10 * q + md_stn g q c) else
  g (200 + 10 * q + md_stn g q c) + ((g (200 + 10 * q + md_stn g q c + 1) - g (200 + 10 * q + md_stn g q c)) * (c - md_Ds g q (md_stn g q c))) / (md_Ds g q (md_stn g q c + 1) - md_Ds g q (md_stn g q c))
theorem md_ws_bd {g : Int → Int} {q c : Int} : ∀ (f s : Nat), (s : Int) ≤ g (156 + q) - 1 → (md_ws g q c f s : Int) ≤ g (156 + q) - 1
  | 0, s, h => h
  | f + 1, s, h => by
    unfold md_ws
    split
    · rename_i h1; exact md_ws_bd f (s + 1) (by omega)
    · exact h
theorem md_quo {v b : Int} (hb : 0 < b) : -((-v + b - 1) / b) = v / b := by
  have h1 := Int.mul_ediv_add_emod v b
  have h2 := Int.emod_nonneg v (show b ≠ 0 by omega)
  have h3 := Int.emod_lt_of_pos v hb
  have e : -v + b - 1 = (b - 1 - v % b) + b * (-(v / b)) := by
    rw [Int.mul_neg]; omega
  rw [e, Int.add_mul_ediv_left _ _ (show b ≠ 0 by omega), Int.ediv_eq_zero_of_lt (by omega) (by omega)]
  omega
theorem md_quo_bd {v b C : Int} (hb : 0 < b) (h : -C ≤ v ∧ v ≤ C) : -C ≤ v / b ∧ v / b ≤ C := by
  have hC : 0 ≤ C := by omega
  constructor
  · apply Int.le_ediv_of_mul_le hb
    have : -C * b ≤ -C * 1 := Int.mul_le_mul_of_nonpos_left (by omega) (by omega)
    omega
  · have h1 : v / b ≤ C / b := Int.ediv_le_ediv hb h.2
    have h2 : C / b ≤ C := Int.ediv_le_self b hC
    omega
theorem c_X13_quotientG {G : jk_G} {n : Nat} {t : jk_T} {σ : jk_I} {ρ : jk_P} {v b : Int} (hv : -1000000000 ≤ v ∧ v ≤ 1000000000) (hb : 0 < b ∧ b ≤ 1000000000) : jk_K G yX13_quotient mX13_quotient 0 0 [jI v, jI b] n t σ ρ (jk_q (some (jI (v / b))) n t σ ρ) jk_no := by
  refine jk_entryB (ls := [some (jI v), some (jI b)]) jm_X13_quotient.1 rfl rfl rfl ?_
  refine jk_iload_n (q := 1) dX13_quotient_0 rfl rfl ?_
  refine jk_if_lt (q := 10) (q2 := 4) dX13_quotient_1 rfl rfl (by first | decide | omega | exact jB_01 _) (fun h1 => ?_) (fun h1 => ?_)
  · refine jk_iload_n (q := 11) dX13_quotient_10 rfl rfl ?_
    refine jk_ineg (q := 12) dX13_quotient_11 rfl ?_
    refine jk_iload_n (q := 13) dX13_quotient_12 rfl rfl ?_
    refine jk_iadd (q := 14) dX13_quotient_13 rfl ?_
    refine jk_iconst (q := 15) dX13_quotient_14 rfl ?_
    refine jk_isub (q := 16) dX13_quotient_15 rfl ?_
    refine jk_iload_n (q := 17) dX13_quotient_16 rfl rfl ?_
    refine jk_idivP (q := 18) dX13_quotient_17 rfl (by first | decide | omega | exact jB_01 _) ?_
    refine jk_ineg (q := 19) dX13_quotient_18 rfl ?_
    exact jk_iret rfl dX13_quotient_19 (by refine jk_qI ?_; first | rfl | exact md_quo hb.1)
  · refine jk_iload_n (q := 5) dX13_quotient_4 rfl rfl ?_
    refine jk_iload_n (q := 6) dX13_quotient_5 rfl rfl ?_
    refine jk_idivP (q := 7) dX13_quotient_6 rfl (by first | decide | omega | exact jB_01 _) ?_
    refine jk_goto (q := 19) dX13_quotient_7 rfl ?_
    exact jk_iret rfl dX13_quotient_19 (by refine jk_qI ?_; first | rfl | exact md_quo hb.1)
theorem c_X13_firstColumn {G : jk_G} {n : Nat} {t : jk_T} {σ : jk_I} {ρ : jk_P} {m : Nat} {g : Int → Int} {q : Int} (hm : md_at t ρ m) (hg : σ (m + 2) = g) (hq : 0 ≤ q ∧ q < 4) (hst : 1 ≤ g (156 + q) ∧ g (156 + q) ≤ 10) : jk_K G yX13_firstColumn mX13_firstColumn 0 0 [.ref m, jI q] n t σ ρ (jk_q (some (jI (md_Ds g q 0))) n t σ ρ) jk_no := by
  refine jk_entryB (ls := [some (.ref m), some (jI q)]) jm_X13_firstColumn.1 rfl rfl rfl ?_
  refine jk_aload_n (q := 1) dX13_firstColumn_0 rfl rfl ?_
  refine jk_iload_n (q := 2) dX13_firstColumn_1 rfl rfl ?_
  refine jk_iconst (q := 3) dX13_firstColumn_2 rfl ?_
  refine jk_cV2p (q := 6) (c_X13_distanceOf hm hg hq (by decide)) jm_X13_distanceOf jw_2119 rfl (by first | exact hm.1 | exact hm.2.1 _ _ rfl | assumption) rfl rfl rfl dX13_firstColumn_3 rfl ?_
  exact jk_iret rfl dX13_firstColumn_6 (by exact jk_qr)
theorem c_X13_lastColumn {G : jk_G} {n : Nat} {t : jk_T} {σ : jk_I} {ρ : jk_P} {m : Nat} {g : Int → Int} {q : Int} (hm : md_at t ρ m) (hg : σ (m + 2) = g) (hq : 0 ≤ q ∧ q < 4) (hst : 1 ≤ g (156 + q) ∧ g (156 + q) ≤ 10) : jk_K G yX13_lastColumn mX13_lastColumn 0 0 [.ref m, jI q] n t σ ρ (jk_q (some (jI (md_Ds g q (g (156 + q) - 1)))) n t σ ρ) jk_no := by
  refine jk_entryB (ls := [some (.ref m), some (jI q)]) jm_X13_lastColumn.1 rfl rfl rfl ?_
  refine jk_aload_n (q := 1) dX13_lastColumn_0 rfl rfl ?_
  refine jk_iload_n (q := 2) dX13_lastColumn_1 rfl rfl ?_
  refine jk_aload_n (q := 3) dX13_lastColumn_2 rfl rfl ?_
  refine jk_getA (q := 6) (k := 13) 0 0 rfl (by first | exact hm.1 | exact hm.2.1 _ _ rfl | assumption) (by first | exact hm.2.2 _ _ rfl | assumption) rfl rfl jw_1848 dX13_lastColumn_3 rfl ?_
  refine jk_sipush (q := 9) (y := 156) dX13_lastColumn_6 rfl (by decide) ?_
  refine jk_iload_n (q := 10) dX13_lastColumn_9 rfl rfl ?_
  refine jk_iadd (q := 11) dX13_lastColumn_10 rfl ?_
  refine jk_ialdR (q := 12) (by first | exact hm.1 | exact hm.2.1 _ _ rfl | assumption) (by first | exact jk_row_same _ _ _ | exact hg | (rewrite [jk_row_ne _ _ (by omega)]; first | exact jk_row_same _ _ _ | exact hg | (rewrite [jk_row_ne _ _ (by omega)]; first | exact jk_row_same _ _ _ | exact hg | (rewrite [jk_row_ne _ _ (by omega)]; first | exact jk_row_same _ _ _ | exact hg | (rewrite [jk_row_ne _ _ (by omega)]; first | exact hg | rfl))))) (by first | decide | omega | exact jB_01 _) dX13_lastColumn_11 rfl ?_
  refine jk_iconst (q := 13) dX13_lastColumn_12 rfl ?_
  refine jk_isub (q := 14) dX13_lastColumn_13 rfl ?_
  refine jk_cV2p (q := 17) (c_X13_distanceOf hm hg hq ⟨by omega, by omega⟩) jm_X13_distanceOf jw_2119 rfl (by first | exact hm.1 | exact hm.2.1 _ _ rfl | assumption) rfl rfl rfl dX13_lastColumn_14 rfl ?_
  exact jk_iret rfl dX13_lastColumn_17 (by exact jk_qr)
theorem md_mulbd {x y X Y : Int} (hx : -X ≤ x ∧ x ≤ X) (hy : -Y ≤ y ∧ y ≤ Y) : -(X * Y) ≤ x * y ∧ x * y ≤ X * Y := by
  have hX : 0 ≤ X := by omega
  have hY : 0 ≤ Y := by omega
  have key : ∀ a b : Int, 0 ≤ a → a ≤ X → 0 ≤ b → b ≤ Y → 0 ≤ a * b ∧ a * b ≤ X * Y := fun a b h1 h2 h3 h4 => ⟨Int.mul_nonneg h1 h3, Int.mul_le_mul h2 h4 h3 hX⟩
  have hXY := Int.mul_nonneg hX hY
  rcases Int.le_total 0 x with h1 | h1 <;> rcases Int.le_total 0 y with h2 | h2
  · have := key x y h1 hx.2 h2 hy.2; omega
  · have := key x (-y) h1 hx.2 (by omega) (by omega); rw [Int.mul_neg] at this; omega
  · have := key (-x) y (by omega) (by omega) h2 hy.2; rw [Int.neg_mul] at this; omega
  · have := key (-x) (-y) (by omega) (by omega) (by omega) (by omega); rw [Int.neg_mul_neg] at this; omega
theorem c_X13_offsetAt {G : jk_G} {n : Nat} {t : jk_T} {σ : jk_I} {ρ : jk_P} {m : Nat} {g : Int → Int} {B : Int} {q c : Int} (hm : md_at t ρ m) (hg : σ (m + 2) = g) (hi : md_inv B g) (hq : 0 ≤ q ∧ q < 4) (hst : 1 ≤ g (156 + q) ∧ g (156 + q) ≤ 10) (hx : md_inx g) (hq2 : q < g 2) (hc : 0 ≤ c ∧ c ≤ 99) : jk_K G yX13_offsetAt mX13_offsetAt 0 0 [.ref m, jI q, jI c] n t σ ρ (jk_q (some (jI (md_off g q c))) n t σ ρ) jk_no := by
  refine jk_entryB (ls := [some (.ref m), some (jI q), some (jI c), none, none, none]) jm_X13_offsetAt.1 rfl rfl rfl ?_
  have hrg := hi.2.2.2.2.2.2.2.2
  obtain ⟨hx1, hx2⟩ := hx q ⟨hq.1, hq2⟩
  refine jk_iconst (q := 1) dX13_offsetAt_0 rfl ?_
  refine jk_istore3 (q := 2) dX13_offsetAt_1 rfl rfl rfl ?_
  have L2 : ∀ k2 : Nat, k2 ≤ 9 → (hw : md_ws g q c (10 - k2) k2 = md_ws g q c 10 0) → (hk9 : (k2 : Int) ≤ g (156 + q) - 1) → jk_J G mX13_offsetAt 2 [some (.ref m), some (jI q), some (jI c), some (jI (k2 : Int)), none, none] [] n t σ ρ 0 0 (jk_q (some (jI (md_off g q c))) n t σ ρ) jk_no := by
    refine jk_loop _ (fun k2 hk2 ih2 => ?_)
    intro  hw hk9
    refine jk_iload_n (q := 3) dX13_offsetAt_2 rfl rfl ?_
    refine jk_aload_n (q := 4) dX13_offsetAt_3 rfl rfl ?_
    refine jk_getA (q := 7) (k := 13) 0 0 rfl (by first | exact hm.1 | exact hm.2.1 _ _ rfl | assumption) (by first | exact hm.2.2 _ _ rfl | assumption) rfl rfl jw_1848 dX13_offsetAt_4 rfl ?_
    refine jk_sipush (q := 10) (y := 156) dX13_offsetAt_7 rfl (by decide) ?_
    refine jk_iload_n (q := 11) dX13_offsetAt_10 rfl rfl ?_
    refine jk_iadd (q := 12) dX13_offsetAt_11 rfl ?_
    refine jk_ialdR (q := 13) (by first | exact hm.1 | exact hm.2.1 _ _ rfl | assumption) (by first | exact jk_row_same _ _ _ | exact hg | (rewrite [jk_row_ne _ _ (by omega)]; first | exact jk_row_same _ _ _ | exact hg | (rewrite [jk_row_ne _ _ (by omega)]; first | exact jk_row_same _ _ _ | exact hg | (rewrite [jk_row_ne _ _ (by omega)]; first | exact jk_row_same _ _ _ | exact hg | (rewrite [jk_row_ne _ _ (by omega)]; first | exact hg | rfl))))) (by first | decide | omega | exact jB_01 _) dX13_offsetAt_12 rfl ?_
    refine jk_iconst (q := 14) dX13_offsetAt_13 rfl ?_
    refine jk_isub (q := 15) dX13_offsetAt_14 rfl ?_
    refine jk_icmp_ge (q := 36) (q2 := 18) dX13_offsetAt_15 rfl rfl (by first | decide | omega | exact jB_01 _) (by first | decide | omega | exact jB_01 _) (fun h1 => ?_) (fun h1 => ?_)
    · have hsk : md_stn g q c = (k2 : Int) := by
        unfold md_stn
        rw [← hw]
        unfold md_ws
        match h9 : 10 - k2 with
        | 0 => rfl
        | f + 1 => simp only []; rw [if_neg (by omega)]
      refine jk_sipush (q := 39) (y := 200) dX13_offsetAt_36 rfl (by decide) ?_
      refine jk_bipush (q := 41) (y := 10) dX13_offsetAt_39 rfl (by decide) ?_
      refine jk_iload_n (q := 42) dX13_offsetAt_41 rfl rfl ?_
      refine jk_imul (q := 43) dX13_offsetAt_42 rfl ?_
      refine jk_iadd (q := 44) dX13_offsetAt_43 rfl ?_
      refine jk_iload_n (q := 45) dX13_offsetAt_44 rfl rfl ?_
      refine jk_iadd (q := 46) dX13_offsetAt_45 rfl ?_
      refine jk_istore4 (q := 48) dX13_offsetAt_46 rfl rfl rfl ?_
      refine jk_iload_n (q := 49) dX13_offsetAt_48 rfl rfl ?_
      refine jk_aload_n (q := 50) dX13_offsetAt_49 rfl rfl ?_
      refine jk_getA (q := 53) (k := 13) 0 0 rfl (by first | exact hm.1 | exact hm.2.1 _ _ rfl | assumption) (by first | exact hm.2.2 _ _ rfl | assumption) rfl rfl jw_1848 dX13_offsetAt_50 rfl ?_
      refine jk_sipush (q := 56) (y := 156) dX13_offsetAt_53 rfl (by decide) ?_
      refine jk_iload_n (q := 57) dX13_offsetAt_56 rfl rfl ?_
      refine jk_iadd (q := 58) dX13_offsetAt_57 rfl ?_
      refine jk_ialdR (q := 59) (by first | exact hm.1 | exact hm.2.1 _ _ rfl | assumption) (by first | exact jk_row_same _ _ _ | exact hg | (rewrite [jk_row_ne _ _ (by omega)]; first | exact jk_row_same _ _ _ | exact hg | (rewrite [jk_row_ne _ _ (by omega)]; first | exact jk_row_same _ _ _ | exact hg | (rewrite [jk_row_ne _ _ (by omega)]; first | exact jk_row_same _ _ _ | exact hg | (rewrite [jk_row_ne _ _ (by omega)]; first | exact hg | rfl))))) (by first | decide | omega | exact jB_01 _) dX13_offsetAt_58 rfl ?_
      refine jk_iconst (q := 60) dX13_offsetAt_59 rfl ?_
      refine jk_isub (q := 61) dX13_offsetAt_60 rfl ?_
      refine jk_icmp_ne (q := 72) (q2 := 64) dX13_offsetAt_61 rfl rfl (by first | decide | omega | exact jB_01 _) (by first | decide | omega | exact jB_01 _) (fun h2 => ?_) (fun h2 => ?_)
      · refine jk_aload_n (q := 73) dX13_offsetAt_72 rfl rfl ?_
        refine jk_iload_n (q := 74) dX13_offsetAt_73 rfl rfl ?_
        refine jk_iload_n (q := 75) dX13_offsetAt_74 rfl rfl ?_
        refine jk_iconst (q := 76) dX13_offsetAt_75 rfl ?_
        refine jk_iadd (q := 77) dX13_offsetAt_76 rfl ?_
        refine jk_cV2p (q := 80) (c_X13_distanceOf hm hg hq ⟨by omega, by omega⟩) jm_X13_distanceOf jw_2119 rfl (by first | exact hm.1 | exact hm.2.1 _ _ rfl | assumption) rfl rfl rfl dX13_offsetAt_77 rfl ?_
        refine jk_aload_n (q := 81) dX13_offsetAt_80 rfl rfl ?_
        refine jk_iload_n (q := 82) dX13_offsetAt_81 rfl rfl ?_
        refine jk_iload_n (q := 83) dX13_offsetAt_82 rfl rfl ?_
        refine jk_cV2p (q := 86) (c_X13_distanceOf hm hg hq ⟨by omega, by omega⟩) jm_X13_distanceOf jw_2119 rfl (by first | exact hm.1 | exact hm.2.1 _ _ rfl | assumption) rfl rfl rfl dX13_offsetAt_83 rfl ?_
        refine jk_isub (q := 87) dX13_offsetAt_86 rfl ?_
        refine jk_istore5 (q := 89) dX13_offsetAt_87 rfl rfl rfl ?_
        have ha := hx1 (k2 : Int) ⟨by omega, by omega⟩
        have hb := hx1 ((k2 : Int) + 1) ⟨by omega, by omega⟩
        have hab := hx2 (k2 : Int) ⟨by omega, by omega⟩
        have hr1 := hrg (200 + 10 * q + (k2 : Int)) ⟨by omega, by omega⟩
        have hr2 := hrg (200 + 10 * q + (k2 : Int) + 1) ⟨by omega, by omega⟩
        rw [show g (160 + 10 * q + ((k2 : Int) + 1)) = md_Ds g q ((k2 : Int) + 1) from rfl, show g (160 + 10 * q + (k2 : Int)) = md_Ds g q (k2 : Int) from rfl]
        refine jk_aload_n (q := 90) dX13_offsetAt_89 rfl rfl ?_
        refine jk_getA (q := 93) (k := 13) 0 0 rfl (by first | exact hm.1 | exact hm.2.1 _ _ rfl | assumption) (by first | exact hm.2.2 _ _ rfl | assumption) rfl rfl jw_1848 dX13_offsetAt_90 rfl ?_
        refine jk_iload (q := 95) dX13_offsetAt_93 rfl rfl ?_
        refine jk_ialdR (q := 96) (by first | exact hm.1 | exact hm.2.1 _ _ rfl | assumption) (by first | exact jk_row_same _ _ _ | exact hg | (rewrite [jk_row_ne _ _ (by omega)]; first | exact jk_row_same _ _ _ | exact hg | (rewrite [jk_row_ne _ _ (by omega)]; first | exact jk_row_same _ _ _ | exact hg | (rewrite [jk_row_ne _ _ (by omega)]; first | exact jk_row_same _ _ _ | exact hg | (rewrite [jk_row_ne _ _ (by omega)]; first | exact hg | rfl))))) (by first | decide | omega | exact jB_01 _) dX13_offsetAt_95 rfl ?_
        refine jk_aload_n (q := 97) dX13_offsetAt_96 rfl rfl ?_
        refine jk_getA (q := 100) (k := 13) 0 0 rfl (by first | exact hm.1 | exact hm.2.1 _ _ rfl | assumption) (by first | exact hm.2.2 _ _ rfl | assumption) rfl rfl jw_1848 dX13_offsetAt_97 rfl ?_
        refine jk_iload (q := 102) dX13_offsetAt_100 rfl rfl ?_
        refine jk_iconst (q := 103) dX13_offsetAt_102 rfl ?_
        refine jk_iadd (q := 104) dX13_offsetAt_103 rfl ?_
        refine jk_ialdR (q := 105) (by first | exact hm.1 | exact hm.2.1 _ _ rfl | assumption) (by first | exact jk_row_same _ _ _ | exact hg | (rewrite [jk_row_ne _ _ (by omega)]; first | exact jk_row_same _ _ _ | exact hg | (rewrite [jk_row_ne _ _ (by omega)]; first | exact jk_row_same _ _ _ | exact hg | (rewrite [jk_row_ne _ _ (by omega)]; first | exact jk_row_same _ _ _ | exact hg | (rewrite [jk_row_ne _ _ (by omega)]; first | exact hg | rfl))))) (by first | decide | omega | exact jB_01 _) dX13_offsetAt_104 rfl ?_
        refine jk_aload_n (q := 106) dX13_offsetAt_105 rfl rfl ?_
        refine jk_getA (q := 109) (k := 13) 0 0 rfl (by first | exact hm.1 | exact hm.2.1 _ _ rfl | assumption) (by first | exact hm.2.2 _ _ rfl | assumption) rfl rfl jw_1848 dX13_offsetAt_106 rfl ?_
        refine jk_iload (q := 111) dX13_offsetAt_109 rfl rfl ?_
        refine jk_ialdR (q := 112) (by first | exact hm.1 | exact hm.2.1 _ _ rfl | assumption) (by first | exact jk_row_same _ _ _ | exact hg | (rewrite [jk_row_ne _ _ (by omega)]; first | exact jk_row_same _ _ _ | exact hg | (rewrite [jk_row_ne _ _ (by omega)]; first | exact jk_row_same _ _ _ | exact hg | (rewrite [jk_row_ne _ _ (by omega)]; first | exact jk_row_same _ _ _ | exact hg | (rewrite [jk_row_ne _ _ (by omega)]; first | exact hg | rfl))))) (by first | decide | omega | exact jB_01 _) dX13_offsetAt_111 rfl ?_
        refine jk_isub (q := 113) dX13_offsetAt_112 rfl ?_
        refine jk_iload_n (q := 114) dX13_offsetAt_113 rfl rfl ?_
        refine jk_aload_n (q := 115) dX13_offsetAt_114 rfl rfl ?_
        refine jk_iload_n (q := 116) dX13_offsetAt_115 rfl rfl ?_
        refine jk_iload_n (q := 117) dX13_offsetAt_116 rfl rfl ?_
        refine jk_cV2p (q := 120) (c_X13_distanceOf hm hg hq ⟨by omega, by omega⟩) jm_X13_distanceOf jw_2119 rfl (by first | exact hm.1 | exact hm.2.1 _ _ rfl | assumption) rfl rfl rfl dX13_offsetAt_117 rfl ?_
        refine jk_isub (q := 121) dX13_offsetAt_120 rfl ?_
        refine jk_imul (q := 122) dX13_offsetAt_121 rfl ?_
        rw [show g (160 + 10 * q + (k2 : Int)) = md_Ds g q (k2 : Int) from rfl]
        have hpr := md_mulbd (x := g (200 + 10 * q + (k2 : Int) + 1) - g (200 + 10 * q + (k2 : Int))) (y := c - md_Ds g q (k2 : Int)) (X := 1998) (Y := 99) ⟨by omega, by omega⟩ ⟨by omega, by omega⟩
        refine jk_iload (q := 124) dX13_offsetAt_122 rfl rfl ?_
        refine jk_cS2p (q := 127) (c_X13_quotientG ⟨by omega, by omega⟩ ⟨by omega, by omega⟩) jm_X13_quotient jw_2060 rfl rfl rfl dX13_offsetAt_124 rfl ?_
        refine jk_iadd (q := 128) dX13_offsetAt_127 rfl ?_
        exact jk_iret rfl dX13_offsetAt_128 (by refine jk_qI ?_; unfold md_off; rw [hsk]; first | (exfalso; omega) | rw [if_pos (by omega)] | rw [if_neg (by omega)])
      · refine jk_aload_n (q := 65) dX13_offsetAt_64 rfl rfl ?_
        refine jk_getA (q := 68) (k := 13) 0 0 rfl (by first | exact hm.1 | exact hm.2.1 _ _ rfl | assumption) (by first | exact hm.2.2 _ _ rfl | assumption) rfl rfl jw_1848 dX13_offsetAt_65 rfl ?_
        refine jk_iload (q := 70) dX13_offsetAt_68 rfl rfl ?_
        refine jk_ialdR (q := 71) (by first | exact hm.1 | exact hm.2.1 _ _ rfl | assumption) (by first | exact jk_row_same _ _ _ | exact hg | (rewrite [jk_row_ne _ _ (by omega)]; first | exact jk_row_same _ _ _ | exact hg | (rewrite [jk_row_ne _ _ (by omega)]; first | exact jk_row_same _ _ _ | exact hg | (rewrite [jk_row_ne _ _ (by omega)]; first | exact jk_row_same _ _ _ | exact hg | (rewrite [jk_row_ne _ _ (by omega)]; first | exact hg | rfl))))) (by first | decide | omega | exact jB_01 _) dX13_offsetAt_70 rfl ?_
        exact jk_iret rfl dX13_offsetAt_71 (by refine jk_qI ?_; unfold md_off; rw [hsk]; first | (exfalso; omega) | rw [if_pos (by omega)] | rw [if_neg (by omega)])
    · refine jk_aload_n (q := 19) dX13_offsetAt_18 rfl rfl ?_
      refine jk_iload_n (q := 20) dX13_offsetAt_19 rfl rfl ?_
      refine jk_iload_n (q := 21) dX13_offsetAt_20 rfl rfl ?_
      refine jk_iconst (q := 22) dX13_offsetAt_21 rfl ?_
      refine jk_iadd (q := 23) dX13_offsetAt_22 rfl ?_
      refine jk_cV2p (q := 26) (c_X13_distanceOf hm hg hq ⟨by omega, by omega⟩) jm_X13_distanceOf jw_2119 rfl (by first | exact hm.1 | exact hm.2.1 _ _ rfl | assumption) rfl rfl rfl dX13_offsetAt_23 rfl ?_
      rw [show g (160 + 10 * q + ((k2 : Int) + 1)) = md_Ds g q ((k2 : Int) + 1) from rfl]
      have hxk := hx1 ((k2 : Int) + 1) ⟨by omega, by omega⟩
      refine jk_iload_n (q := 27) dX13_offsetAt_26 rfl rfl ?_
      refine jk_icmp_gt (q := 36) (q2 := 30) dX13_offsetAt_27 rfl rfl (by first | decide | omega | exact jB_01 _) (by first | decide | omega | exact jB_01 _) (fun h3 => ?_) (fun h3 => ?_)
      · have hsk : md_stn g q c = (k2 : Int) := by
          unfold md_stn
          rw [← hw]
          unfold md_ws
          match h9 : 10 - k2 with
          | 0 => rfl
          | f + 1 => simp only []; rw [if_neg (by omega)]
        refine jk_sipush (q := 39) (y := 200) dX13_offsetAt_36 rfl (by decide) ?_
        refine jk_bipush (q := 41) (y := 10) dX13_offsetAt_39 rfl (by decide) ?_
        refine jk_iload_n (q := 42) dX13_offsetAt_41 rfl rfl ?_
        refine jk_imul (q := 43) dX13_offsetAt_42 rfl ?_
        refine jk_iadd (q := 44) dX13_offsetAt_43 rfl ?_
        refine jk_iload_n (q := 45) dX13_offsetAt_44 rfl rfl ?_
        refine jk_iadd (q := 46) dX13_offsetAt_45 rfl ?_
        refine jk_istore4 (q := 48) dX13_offsetAt_46 rfl rfl rfl ?_
        refine jk_iload_n (q := 49) dX13_offsetAt_48 rfl rfl ?_
        refine jk_aload_n (q := 50) dX13_offsetAt_49 rfl rfl ?_
        refine jk_getA (q := 53) (k := 13) 0 0 rfl (by first | exact hm.1 | exact hm.2.1 _ _ rfl | assumption) (by first | exact hm.2.2 _ _ rfl | assumption) rfl rfl jw_1848 dX13_offsetAt_50 rfl ?_
        refine jk_sipush (q := 56) (y := 156) dX13_offsetAt_53 rfl (by decide) ?_
        refine jk_iload_n (q := 57) dX13_offsetAt_56 rfl rfl ?_
        refine jk_iadd (q := 58) dX13_offsetAt_57 rfl ?_
        refine jk_ialdR (q := 59) (by first | exact hm.1 | exact hm.2.1 _ _ rfl | assumption) (by first | exact jk_row_same _ _ _ | exact hg | (rewrite [jk_row_ne _ _ (by omega)]; first | exact jk_row_same _ _ _ | exact hg | (rewrite [jk_row_ne _ _ (by omega)]; first | exact jk_row_same _ _ _ | exact hg | (rewrite [jk_row_ne _ _ (by omega)]; first | exact jk_row_same _ _ _ | exact hg | (rewrite [jk_row_ne _ _ (by omega)]; first | exact hg | rfl))))) (by first | decide | omega | exact jB_01 _) dX13_offsetAt_58 rfl ?_
        refine jk_iconst (q := 60) dX13_offsetAt_59 rfl ?_
        refine jk_isub (q := 61) dX13_offsetAt_60 rfl ?_
        refine jk_icmp_ne (q := 72) (q2 := 64) dX13_offsetAt_61 rfl rfl (by first | decide | omega | exact jB_01 _) (by first | decide | omega | exact jB_01 _) (fun h4 => ?_) (fun h4 => ?_)
        · refine jk_aload_n (q := 73) dX13_offsetAt_72 rfl rfl ?_
          refine jk_iload_n (q := 74) dX13_offsetAt_73 rfl rfl ?_
          refine jk_iload_n (q := 75) dX13_offsetAt_74 rfl rfl ?_
          refine jk_iconst (q := 76) dX13_offsetAt_75 rfl ?_
          refine jk_iadd (q := 77) dX13_offsetAt_76 rfl ?_
          refine jk_cV2p (q := 80) (c_X13_distanceOf hm hg hq ⟨by omega, by omega⟩) jm_X13_distanceOf jw_2119 rfl (by first | exact hm.1 | exact hm.2.1 _ _ rfl | assumption) rfl rfl rfl dX13_offsetAt_77 rfl ?_
          refine jk_aload_n (q := 81) dX13_offsetAt_80 rfl rfl ?_
          refine jk_iload_n (q := 82) dX13_offsetAt_81 rfl rfl ?_
          refine jk_iload_n (q := 83) dX13_offsetAt_82 rfl rfl ?_
          refine jk_cV2p (q := 86) (c_X13_distanceOf hm hg hq ⟨by omega, by omega⟩) jm_X13_distanceOf jw_2119 rfl (by first | exact hm.1 | exact hm.2.1 _ _ rfl | assumption) rfl rfl rfl dX13_offsetAt_83 rfl ?_
          refine jk_isub (q := 87) dX13_offsetAt_86 rfl ?_
          refine jk_istore5 (q := 89) dX13_offsetAt_87 rfl rfl rfl ?_
          have ha := hx1 (k2 : Int) ⟨by omega, by omega⟩
          have hb := hx1 ((k2 : Int) + 1) ⟨by omega, by omega⟩
          have hab := hx2 (k2 : Int) ⟨by omega, by omega⟩
          have hr1 := hrg (200 + 10 * q + (k2 : Int)) ⟨by omega, by omega⟩
          have hr2 := hrg (200 + 10 * q + (k2 : Int) + 1) ⟨by omega, by omega⟩
          rw [show g (160 + 10 * q + ((k2 : Int) + 1)) = md_Ds g q ((k2 : Int) + 1) from rfl, show g (160 + 10 * q + (k2 : Int)) = md_Ds g q (k2 : Int) from rfl]
          refine jk_aload_n (q := 90) dX13_offsetAt_89 rfl rfl ?_
          refine jk_getA (q := 93) (k := 13) 0 0 rfl (by first | exact hm.1 | exact hm.2.1 _ _ rfl | assumption) (by first | exact hm.2.2 _ _ rfl | assumption) rfl rfl jw_1848 dX13_offsetAt_90 rfl ?_
          refine jk_iload (q := 95) dX13_offsetAt_93 rfl rfl ?_
          refine jk_ialdR (q := 96) (by first | exact hm.1 | exact hm.2.1 _ _ rfl | assumption) (by first | exact jk_row_same _ _ _ | exact hg | (rewrite [jk_row_ne _ _ (by omega)]; first | exact jk_row_same _ _ _ | exact hg | (rewrite [jk_row_ne _ _ (by omega)]; first | exact jk_row_same _ _ _ | exact hg | (rewrite [jk_row_ne _ _ (by omega)]; first | exact jk_row_same _ _ _ | exact hg | (rewrite [jk_row_ne _ _ (by omega)]; first | exact hg | rfl))))) (by first | decide | omega | exact jB_01 _) dX13_offsetAt_95 rfl ?_
          refine jk_aload_n (q := 97) dX13_offsetAt_96 rfl rfl ?_
          refine jk_getA (q := 100) (k := 13) 0 0 rfl (by first | exact hm.1 | exact hm.2.1 _ _ rfl | assumption) (by first | exact hm.2.2 _ _ rfl | assumption) rfl rfl jw_1848 dX13_offsetAt_97 rfl ?_
          refine jk_iload (q := 102) dX13_offsetAt_100 rfl rfl ?_
          refine jk_iconst (q := 103) dX13_offsetAt_102 rfl ?_
          refine jk_iadd (q := 104) dX13_offsetAt_103 rfl ?_
          refine jk_ialdR (q := 105) (by first | exact hm.1 | exact hm.2.1 _ _ rfl | assumption) (by first | exact jk_row_same _ _ _ | exact hg | (rewrite [jk_row_ne _ _ (by omega)]; first | exact jk_row_same _ _ _ | exact hg | (rewrite [jk_row_ne _ _ (by omega)]; first | exact jk_row_same _ _ _ | exact hg | (rewrite [jk_row_ne _ _ (by omega)]; first | exact jk_row_same _ _ _ | exact hg | (rewrite [jk_row_ne _ _ (by omega)]; first | exact hg | rfl))))) (by first | decide | omega | exact jB_01 _) dX13_offsetAt_104 rfl ?_
          refine jk_aload_n (q := 106) dX13_offsetAt_105 rfl rfl ?_
          refine jk_getA (q := 109) (k := 13) 0 0 rfl (by first | exact hm.1 | exact hm.2.1 _ _ rfl | assumption) (by first | exact hm.2.2 _ _ rfl | assumption) rfl rfl jw_1848 dX13_offsetAt_106 rfl ?_
          refine jk_iload (q := 111) dX13_offsetAt_109 rfl rfl ?_
          refine jk_ialdR (q := 112) (by first | exact hm.1 | exact hm.2.1 _ _ rfl | assumption) (by first | exact jk_row_same _ _ _ | exact hg | (rewrite [jk_row_ne _ _ (by omega)]; first | exact jk_row_same _ _ _ | exact hg | (rewrite [jk_row_ne _ _ (by omega)]; first | exact jk_row_same _ _ _ | exact hg | (rewrite [jk_row_ne _ _ (by omega)]; first | exact jk_row_same _ _ _ | exact hg | (rewrite [jk_row_ne _ _ (by omega)]; first | exact hg | rfl))))) (by first | decide | omega | exact jB_01 _) dX13_offsetAt_111 rfl ?_
          refine jk_isub (q := 113) dX13_offsetAt_112 rfl ?_
          refine jk_iload_n (q := 114) dX13_offsetAt_113 rfl rfl ?_
          refine jk_aload_n (q := 115) dX13_offsetAt_114 rfl rfl ?_
          refine jk_iload_n (q := 116) dX13_offsetAt_115 rfl rfl ?_
          refine jk_iload_n (q := 117) dX13_offsetAt_116 rfl rfl ?_
          refine jk_cV2p (q := 120) (c_X13_distanceOf hm hg hq ⟨by omega, by omega⟩) jm_X13_distanceOf jw_2119 rfl (by first | exact hm.1 | exact hm.2.1 _ _ rfl | assumption) rfl rfl rfl dX13_offsetAt_117 rfl ?_
          refine jk_isub (q := 121) dX13_offsetAt_120 rfl ?_
          refine jk_imul (q := 122) dX13_offsetAt_121 rfl ?_
          rw [show g (160 + 10 * q + (k2 : Int)) = md_Ds g q (k2 : Int) from rfl]
          have hpr := md_mulbd (x := g (200 + 10 * q + (k2 : Int) + 1) - g (200 + 10 * q + (k2 : Int))) (y := c - md_Ds g q (k2 : Int)) (X := 1998) (Y := 99) ⟨by omega, by omega⟩ ⟨by omega, by omega⟩
          refine jk_iload (q := 124) dX13_offsetAt_122 rfl rfl ?_
          refine jk_cS2p (q := 127) (c_X13_quotientG ⟨by omega, by omega⟩ ⟨by omega, by omega⟩) jm_X13_quotient jw_2060 rfl rfl rfl dX13_offsetAt_124 rfl ?_
          refine jk_iadd (q := 128) dX13_offsetAt_127 rfl ?_
          exact jk_iret rfl dX13_offsetAt_128 (by refine jk_qI ?_; unfold md_off; rw [hsk]; first | (exfalso; omega) | rw [if_pos (by omega)] | rw [if_neg (by omega)])
        · refine jk_aload_n (q := 65) dX13_offsetAt_64 rfl rfl ?_
          refine jk_getA (q := 68) (k := 13) 0 0 rfl (by first | exact hm.1 | exact hm.2.1 _ _ rfl | assumption) (by first | exact hm.2.2 _ _ rfl | assumption) rfl rfl jw_1848 dX13_offsetAt_65 rfl ?_
          refine jk_iload (q := 70) dX13_offsetAt_68 rfl rfl ?_
          refine jk_ialdR (q := 71) (by first | exact hm.1 | exact hm.2.1 _ _ rfl | assumption) (by first | exact jk_row_same _ _ _ | exact hg | (rewrite [jk_row_ne _ _ (by omega)]; first | exact jk_row_same _ _ _ | exact hg | (rewrite [jk_row_ne _ _ (by omega)]; first | exact jk_row_same _ _ _ | exact hg | (rewrite [jk_row_ne _ _ (by omega)]; first | exact jk_row_same _ _ _ | exact hg | (rewrite [jk_row_ne _ _ (by omega)]; first | exact hg | rfl))))) (by first | decide | omega | exact jB_01 _) dX13_offsetAt_70 rfl ?_
          exact jk_iret rfl dX13_offsetAt_71 (by refine jk_qI ?_; unfold md_off; rw [hsk]; first | (exfalso; omega) | rw [if_pos (by omega)] | rw [if_neg (by omega)])
      · refine jk_iinc3 (q := 33) dX13_offsetAt_30 rfl rfl rfl ?_
        refine jk_goto (q := 2) dX13_offsetAt_33 rfl ?_
        refine ih2 (by omega) ?_ (by omega)
        rw [← hw, show 10 - k2 = (10 - (k2 + 1)) + 1 by omega]
        conv => rhs; unfold md_ws
        rw [if_pos ⟨by omega, by omega⟩]
  exact L2 0 (Nat.zero_le _) rfl (by show (0 : Int) ≤ _; omega)
theorem md_stn_bd {g : Int → Int} {q c : Int} (hst : 1 ≤ g (156 + q)) : 0 ≤ md_stn g q c ∧ md_stn g q c ≤ g (156 + q) - 1 := by
  have := md_ws_bd (g := g) (q := q) (c := c) 10 0 (by show (0 : Int) ≤ _; omega)
  unfold md_stn; omega
theorem md_off_bd {B : Int} {g : Int → Int} (hi : md_inv B g) {q c : Int} (hq : 0 ≤ q ∧ q < 4) (hst : 1 ≤ g (156 + q) ∧ g (156 + q) ≤ 10) (hx : md_inx g) (hq2 : q < g 2) (hc : 0 ≤ c ∧ c ≤ 99) : -198801 ≤ md_off g q c ∧ md_off g q c ≤ 198801 := by
  have hrg := hi.2.2.2.2.2.2.2.2
  obtain ⟨hx1, hx2⟩ := hx q ⟨hq.1, hq2⟩
  have hs := md_stn_bd (c := c) hst.1
  unfold md_off
  generalize md_stn g q c = s at hs ⊢
  have r1 := hrg (200 + 10 * q + s) ⟨by omega, by omega⟩
  split
  · omega
  · have ha := hx1 s ⟨by omega, by omega⟩
    have hb := hx1 (s + 1) ⟨by omega, by omega⟩
    have hab := hx2 s ⟨by omega, by omega⟩
    have r2 := hrg (200 + 10 * q + s + 1) ⟨by omega, by omega⟩
    have hpr := md_mulbd (x := g (200 + 10 * q + s + 1) - g (200 + 10 * q + s)) (y := c - md_Ds g q s) (X := 1998) (Y := 99) ⟨by omega, by omega⟩ ⟨by omega, by omega⟩
    have hqb := md_quo_bd (v := (g (200 + 10 * q + s + 1) - g (200 + 10 * q + s)) * (c - md_Ds g q s)) (b := md_Ds g q (s + 1) - md_Ds g q s) (C := 1998 * 99) (by omega) ⟨by omega, by omega⟩
    omega
def md_gnd (g : Int → Int) (q c : Int) : Int := md_HT g (g (152 + q)) + md_off g q c
def md_wet (g : Int → Int) (q c : Int) : Bool := decide (md_gnd g q c < g 3)
def md_q_gr (g : Int → Int) (q c : Int) : Int × Int := if md_in q 0 (g 2 - 1) = false then (1, 0) else if g (156 + q) = 0 then (2, 0) else if md_in c (md_Ds g q 0) (md_Ds g q (g (156 + q) - 1)) = false then (2, 0) else if md_H g (g (152 + q)) = true then (0, md_gnd g q c) else (3, 0)
def md_wng (g : Int → Int) (q : Int) : Int := if md_in q 0 (g 2 - 1) = false then 1 else if md_H g (g (152 + q)) = true then 0 else 2
def md_wngS (σ : jk_I) (m : Nat) (g : Int → Int) (q : Int) : jk_I := if md_in q 0 (g 2 - 1) = false then σ else md_gr σ m g
def md_wetI (g : Int → Int) (q c : Int) : Bool := md_in c (md_Ds g q 0) (md_Ds g q (g (156 + q) - 1)) && md_wet g q c
def md_q_wc (g : Int → Int) (q : Int) : Int × Int := if 0 < md_wng g q then (md_wng g q, 0) else (0, if 0 < g (156 + q) then jk_sum (fun c => jB (md_wetI g q c)) 100 else 0)
def md_sho (g : Int → Int) (q c : Int) : Bool := decide (md_Ds g q 0 < c ∧ c ≤ md_Ds g q (g (156 + q) - 1)) && (md_wet g q c != md_wet g q (c - 1))
def md_q_sh (g : Int → Int) (q : Int) : Int × Int := if 0 < md_wng g q then (md_wng g q, 0) else (0, if 0 < g (156 + q) then jk_sum (fun c => jB (md_sho g q (c + 1))) 99 else 0)
def md_low (g : Int → Int) (q b : Int) : Nat → Int
  | 0 => b
  | k + 1 => if md_off g q (b + 1 + (k : Int)) < md_off g q (md_low g q b k) then b + 1 + (k : Int) else md_low g q b k
def md_q_lw (g : Int → Int) (q : Int) : Int × Int := if md_in q 0 (g 2 - 1) = false then (1, 0) else if g (156 + q) = 0 then (2, 0) else (0, md_low g q (md_Ds g q 0) (md_Ds g q (g (156 + q) - 1) - md_Ds g q 0).toNat)
theorem c_X13_groundAt {G : jk_G} {n : Nat} {t : jk_T} {σ : jk_I} {ρ : jk_P} {m : Nat} {g : Int → Int} {B : Int} {q c : Int} (hm : md_at t ρ m) (hg : σ (m + 2) = g) (hi : md_inv B g) (hq : 0 ≤ q ∧ q < 4) (hst : 1 ≤ g (156 + q) ∧ g (156 + q) ≤ 10) (hx : md_inx g) (hq2 : q < g 2) (hc : 0 ≤ c ∧ c ≤ 99) (hr : σ (m + 16) = md_Ro g) (hv : σ (m + 18) = (md_fin g).2) (hh : md_hi g (md_Ro g) (g (152 + q)) = true) : jk_K G yX13_groundAt mX13_groundAt 0 0 [.ref m, jI q, jI c] n t σ ρ (jk_q (some (jI (md_gnd g q c))) n t σ ρ) jk_no := by
  refine jk_entryB (ls := [some (.ref m), some (jI q), some (jI c)]) jm_X13_groundAt.1 rfl rfl rfl ?_
  obtain ⟨s1, s2⟩ := hi.2.2.2.2.2.2.2.1 q hq
  refine jk_aload_n (q := 1) dX13_groundAt_0 rfl rfl ?_
  refine jk_aload_n (q := 2) dX13_groundAt_1 rfl rfl ?_
  refine jk_getA (q := 5) (k := 13) 0 0 rfl (by first | exact hm.1 | exact hm.2.1 _ _ rfl | assumption) (by first | exact hm.2.2 _ _ rfl | assumption) rfl rfl jw_1848 dX13_groundAt_2 rfl ?_
  refine jk_sipush (q := 8) (y := 152) dX13_groundAt_5 rfl (by decide) ?_
  refine jk_iload_n (q := 9) dX13_groundAt_8 rfl rfl ?_
  refine jk_iadd (q := 10) dX13_groundAt_9 rfl ?_
  refine jk_ialdR (q := 11) (by first | exact hm.1 | exact hm.2.1 _ _ rfl | assumption) (by first | exact jk_row_same _ _ _ | exact hg | exact hr | exact hv | (rewrite [jk_row_ne _ _ (by omega)]; first | exact jk_row_same _ _ _ | exact hg | exact hr | exact hv | (rewrite [jk_row_ne _ _ (by omega)]; first | exact jk_row_same _ _ _ | exact hg | exact hr | exact hv | (rewrite [jk_row_ne _ _ (by omega)]; first | exact jk_row_same _ _ _ | exact hg | exact hr | exact hv | (rewrite [jk_row_ne _ _ (by omega)]; first | exact hg | exact hr | exact hv | rfl))))) (by first | decide | omega | exact jB_01 _) dX13_groundAt_10 rfl ?_
  refine jk_cV1p (q := 14) (c_X13_heightOf (r := md_Ro g) (V := (md_fin g).2) hm hg hi hr (md_kr_tr hi 50).2 hv s2 (md_hi_t hh)) jm_X13_heightOf jw_2155 rfl (by first | exact hm.1 | exact hm.2.1 _ _ rfl | assumption) rfl rfl rfl dX13_groundAt_11 rfl ?_
  refine jk_aload_n (q := 15) dX13_groundAt_14 rfl rfl ?_
  refine jk_iload_n (q := 16) dX13_groundAt_15 rfl rfl ?_
  refine jk_iload_n (q := 17) dX13_groundAt_16 rfl rfl ?_
  refine jk_cV2p (q := 20) (c_X13_offsetAt hm hg hi hq hst hx hq2 hc) jm_X13_offsetAt jw_2310 rfl (by first | exact hm.1 | exact hm.2.1 _ _ rfl | assumption) rfl rfl rfl dX13_groundAt_17 rfl ?_
  refine jk_iadd (q := 21) dX13_groundAt_20 rfl ?_
  exact jk_iret rfl dX13_groundAt_21 (by exact jk_qr)
theorem c_X13_isWet {G : jk_G} {n : Nat} {t : jk_T} {σ : jk_I} {ρ : jk_P} {m : Nat} {g : Int → Int} {B : Int} {q c : Int} (hm : md_at t ρ m) (hg : σ (m + 2) = g) (hi : md_inv B g) (hq : 0 ≤ q ∧ q < 4) (hst : 1 ≤ g (156 + q) ∧ g (156 + q) ≤ 10) (hx : md_inx g) (hq2 : q < g 2) (hc : 0 ≤ c ∧ c ≤ 99) (hr : σ (m + 16) = md_Ro g) (hv : σ (m + 18) = (md_fin g).2) (hh : md_hi g (md_Ro g) (g (152 + q)) = true) : jk_K G yX13_isWet mX13_isWet 0 0 [.ref m, jI q, jI c] n t σ ρ (jk_q (some (jI (jB (md_wet g q c)))) n t σ ρ) jk_no := by
  refine jk_entryB (ls := [some (.ref m), some (jI q), some (jI c)]) jm_X13_isWet.1 rfl rfl rfl ?_
  obtain ⟨s1, s2⟩ := hi.2.2.2.2.2.2.2.1 q hq
  have hb1 := md_HT_bd hi s2 hh
  have hb2 := md_off_bd hi hq hst hx hq2 hc
  have hb3 : -30000000 ≤ md_gnd g q c ∧ md_gnd g q c ≤ 30000000 := by unfold md_gnd; omega
  obtain ⟨i0, i1, i2, i3, -⟩ := id hi
  refine jk_aload_n (q := 1) dX13_isWet_0 rfl rfl ?_
  refine jk_iload_n (q := 2) dX13_isWet_1 rfl rfl ?_
  refine jk_iload_n (q := 3) dX13_isWet_2 rfl rfl ?_
  refine jk_cV2p (q := 6) (c_X13_groundAt hm hg hi hq hst hx hq2 hc hr hv hh) jm_X13_groundAt jw_2306 rfl (by first | exact hm.1 | exact hm.2.1 _ _ rfl | assumption) rfl rfl rfl dX13_isWet_3 rfl ?_
  refine jk_aload_n (q := 7) dX13_isWet_6 rfl rfl ?_
  refine jk_getA (q := 10) (k := 13) 0 0 rfl (by first | exact hm.1 | exact hm.2.1 _ _ rfl | assumption) (by first | exact hm.2.2 _ _ rfl | assumption) rfl rfl jw_1848 dX13_isWet_7 rfl ?_
  refine jk_iconst (q := 11) dX13_isWet_10 rfl ?_
  refine jk_ialdR (q := 12) (by first | exact hm.1 | exact hm.2.1 _ _ rfl | assumption) (by first | exact jk_row_same _ _ _ | exact hg | exact hr | exact hv | (rewrite [jk_row_ne _ _ (by omega)]; first | exact jk_row_same _ _ _ | exact hg | exact hr | exact hv | (rewrite [jk_row_ne _ _ (by omega)]; first | exact jk_row_same _ _ _ | exact hg | exact hr | exact hv | (rewrite [jk_row_ne _ _ (by omega)]; first | exact jk_row_same _ _ _ | exact hg | exact hr | exact hv | (rewrite [jk_row_ne _ _ (by omega)]; first | exact hg | exact hr | exact hv | rfl))))) (by first | decide | omega | exact jB_01 _) dX13_isWet_11 rfl ?_
  refine jk_icmp_ge (q := 19) (q2 := 15) dX13_isWet_12 rfl rfl (by first | decide | omega | exact jB_01 _) (by first | decide | omega | exact jB_01 _) (fun h1 => ?_) (fun h1 => ?_)
  · refine jk_iconst (q := 20) dX13_isWet_19 rfl ?_
    exact jk_zret rfl (by first | decide | omega | exact jB_01 _) dX13_isWet_20 (by first | (refine jk_qT ?_; exact decide_eq_true (by omega)) | (refine jk_qF ?_; exact decide_eq_false (by omega)))
  · refine jk_iconst (q := 16) dX13_isWet_15 rfl ?_
    refine jk_goto (q := 20) dX13_isWet_16 rfl ?_
    exact jk_zret rfl (by first | decide | omega | exact jB_01 _) dX13_isWet_20 (by first | (refine jk_qT ?_; exact decide_eq_true (by omega)) | (refine jk_qF ?_; exact decide_eq_false (by omega)))
end MD16
