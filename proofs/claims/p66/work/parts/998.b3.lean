section B3
theorem ds_loop {G : jk_G} {n : Nat} {t : jk_T} {σ : jk_I} {ρ : jk_P} {A s : Int} (hA : 0 ≤ A ∧ A < 100000000) (hs : s = 0 ∨ s = 1) : jk_J G mJ6_stringSize_0f7a4 16 [some (jI (-A)), some (jI s), some (jI (-10)), some (jI 1)] [] n t σ ρ 0 0 (jk_q (some (jI ((dg_n A : Nat) + s))) n t σ ρ) jk_no := by
  have hn8 := dg_n_le A
  have L16 : ∀ k16 : Nat, k16 ≤ 8 → (hk : k16 + 1 ≤ dg_n A) → jk_J G mJ6_stringSize_0f7a4 16 [some (jI (-A)), some (jI s), some (jI (-(md_p10 (k16 + 1)))), some (jI ((k16 : Int) + 1))] [] n t σ ρ 0 0 (jk_q (some (jI ((dg_n A : Nat) + s))) n t σ ρ) jk_no := by
    refine jk_loop _ (fun k16 hk16 ih16 => ?_)
    intro  hk
    have hp9 := md_p10_pos (k16 + 1)
    have hp8 := md_p10_mono (show k16 + 1 ≤ 9 by omega)
    have hp7 : md_p10 9 = 1000000000 := rfl
    refine jk_iload_n (q := 17) dJ6_stringSize_0f7a4_16 rfl rfl ?_
    refine jk_bipush (q := 19) (y := 10) dJ6_stringSize_0f7a4_17 rfl (by decide) ?_
    refine jk_icmp_ge (q := 42) (q2 := 22) dJ6_stringSize_0f7a4_19 rfl rfl (by first | assumption | decide | omega | exact jB_01 _ | exact jB_in _ | exact ⟨by omega, by omega⟩) (by first | assumption | decide | omega | exact jB_01 _ | exact jB_in _ | exact ⟨by omega, by omega⟩) (fun z1 => ?_) (fun z1 => ?_)
    · exfalso; omega
    · refine jk_iload_n (q := 23) dJ6_stringSize_0f7a4_22 rfl rfl ?_
      refine jk_iload_n (q := 24) dJ6_stringSize_0f7a4_23 rfl rfl ?_
      refine jk_icmp_le (q := 31) (q2 := 27) dJ6_stringSize_0f7a4_24 rfl rfl (by first | assumption | decide | omega | exact jB_01 _ | exact jB_in _ | exact ⟨by omega, by omega⟩) (by first | assumption | decide | omega | exact jB_01 _ | exact jB_in _ | exact ⟨by omega, by omega⟩) (fun z2 => ?_) (fun z2 => ?_)
      · have hge : md_p10 (k16 + 1) ≤ A := by omega
        have hnx : k16 + 1 < dg_n A := by
          rcases Nat.lt_or_ge (k16 + 1) (dg_n A) with h | h
          · exact h
          · have h1 := dg_n_lt hA.2
            have h2 := md_p10_mono h
            omega
        refine jk_bipush (q := 33) (y := 10) dJ6_stringSize_0f7a4_31 rfl (by decide) ?_
        refine jk_iload_n (q := 34) dJ6_stringSize_0f7a4_33 rfl rfl ?_
        refine jk_imul (q := 35) dJ6_stringSize_0f7a4_34 rfl ?_
        refine jk_istore2 (q := 36) dJ6_stringSize_0f7a4_35 rfl rfl rfl ?_
        refine jk_iinc3 (q := 39) dJ6_stringSize_0f7a4_36 rfl rfl rfl ?_
        refine jk_goto (q := 16) dJ6_stringSize_0f7a4_39 rfl ?_
        refine jk_convl (ih16 (by omega) (by omega)) (jk_loc rfl (jk_loc rfl (jk_loc (jk_li ?_) (jk_loc (jk_li ?_) rfl))))
        · show -(10 * md_p10 (k16 + 1)) = 10 * -(md_p10 (k16 + 1)); omega
        · omega
      · have hlt : A < md_p10 (k16 + 1) := by omega
        refine jk_iload_n (q := 28) dJ6_stringSize_0f7a4_27 rfl rfl ?_
        refine jk_iload_n (q := 29) dJ6_stringSize_0f7a4_28 rfl rfl ?_
        refine jk_iadd (q := 30) dJ6_stringSize_0f7a4_29 rfl ?_
        exact jk_iret rfl dJ6_stringSize_0f7a4_30 (by rw [show dg_n A = k16 + 1 from dg_n_eq (by omega) hA.2 hlt (fun h => dg_n_gt (by omega) (by omega))]; refine jk_qI ?_; omega)
  exact L16 0 (by decide) hn8.1
theorem c_J6_stringSize_0f7a4 {G : jk_G} {n : Nat} {t : jk_T} {σ : jk_I} {ρ : jk_P} {v : Int} (hv : -100000000 < v ∧ v < 100000000) : jk_K G yJ6_stringSize_0f7a4 mJ6_stringSize_0f7a4 0 0 [jI v] n t σ ρ (jk_q (some (jI ((md_dgs v).length : Nat))) n t σ ρ) jk_no := by
  have hlen := dg_len v
  have habs : (md_abs v) = if v < 0 then -v else v := rfl
  refine jk_entryB (ls := [some (jI v), none, none, none]) jm_J6_stringSize_0f7a4.1 rfl rfl rfl ?_
  refine jk_iconst (q := 1) dJ6_stringSize_0f7a4_0 rfl ?_
  refine jk_istore1 (q := 2) dJ6_stringSize_0f7a4_1 rfl rfl rfl ?_
  refine jk_iload_n (q := 3) dJ6_stringSize_0f7a4_2 rfl rfl ?_
  refine jk_if_lt (q := 11) (q2 := 6) dJ6_stringSize_0f7a4_3 rfl rfl (by first | assumption | decide | omega | exact jB_01 _ | exact jB_in _ | exact ⟨by omega, by omega⟩) (fun z1 => ?_) (fun z1 => ?_)
  · refine jk_bipush (q := 13) (y := -10) dJ6_stringSize_0f7a4_11 rfl (by decide) ?_
    refine jk_istore2 (q := 14) dJ6_stringSize_0f7a4_13 rfl rfl rfl ?_
    refine jk_iconst (q := 15) dJ6_stringSize_0f7a4_14 rfl ?_
    refine jk_istore3 (q := 16) dJ6_stringSize_0f7a4_15 rfl rfl rfl ?_
    have e9 : (md_abs v) = -v := by rw [habs, if_pos (by omega)]
    rw [if_pos (by omega)] at hlen
    rw [show (((md_dgs v).length : Nat) : Int) = (dg_n (md_abs v) : Nat) + (1 : Int) by omega]
    exact jk_convl (ds_loop (A := (md_abs v)) (s := 1) (by omega) (by decide)) (jk_loc (jk_li (by omega)) rfl)
  · refine jk_iconst (q := 7) dJ6_stringSize_0f7a4_6 rfl ?_
    refine jk_istore1 (q := 8) dJ6_stringSize_0f7a4_7 rfl rfl rfl ?_
    refine jk_iload_n (q := 9) dJ6_stringSize_0f7a4_8 rfl rfl ?_
    refine jk_ineg (q := 10) dJ6_stringSize_0f7a4_9 rfl ?_
    refine jk_istore0 (q := 11) dJ6_stringSize_0f7a4_10 rfl rfl ?_
    refine jk_bipush (q := 13) (y := -10) dJ6_stringSize_0f7a4_11 rfl (by decide) ?_
    refine jk_istore2 (q := 14) dJ6_stringSize_0f7a4_13 rfl rfl rfl ?_
    refine jk_iconst (q := 15) dJ6_stringSize_0f7a4_14 rfl ?_
    refine jk_istore3 (q := 16) dJ6_stringSize_0f7a4_15 rfl rfl rfl ?_
    have e9 : (md_abs v) = v := by rw [habs, if_neg (by omega)]
    rw [if_neg (by omega)] at hlen
    rw [show (((md_dgs v).length : Nat) : Int) = (dg_n (md_abs v) : Nat) + (0 : Int) by omega]
    exact jk_convl (ds_loop (A := (md_abs v)) (s := 0) (by omega) (by decide)) (jk_loc (jk_li (by omega)) rfl)
def dg_fin (A x s : Int) (r : Int → Int) : Int → Int := if s = 1 then jk_set (dg_row A x (dg_n A) r) (x - (dg_n A : Nat) - 1) 45 else dg_row A x (dg_n A) r
theorem dg_out_fin (v x : Int) (r : Int → Int) : dg_out v x r = dg_fin (md_abs v) x (if v < 0 then 1 else 0) r := by
  unfold dg_out dg_fin
  by_cases h : v < 0
  · rw [if_pos h, if_pos h, if_pos rfl]
  · rw [if_neg h, if_neg h, if_neg (by decide)]
theorem gc_loop {G : jk_G} {n : Nat} {t : jk_T} {σ : jk_I} {ρ : jk_P} {A s x : Int} {v K : Nat} {r : Int → Int} (hz : zz_ok G) (hv : t v = some (.inl (.byte, K))) (hK : K ≤ 65536) (hA : 0 ≤ A ∧ A < 100000000) (hs : s = 0 ∨ s = 1) (hx : ((dg_n A : Nat) : Int) + s ≤ x ∧ x ≤ (K : Int)) (hr : σ v = r) : jk_J G mJ6_getChars_ba4f3 22 [some (jI (-A)), some (jI x), some (.ref v), none, none, some (jI x), some (jI s)] [] n t σ ρ 0 0 (jk_q (some (jI (x - (dg_n A : Nat) - s))) n t (jk_row σ v (dg_fin A x s r)) ρ) jk_no := by
  have hn8 := dg_n_le A
  have L22 : ∀ k22 : Nat, k22 ≤ 4 → (hk : 2 * k22 < dg_n A) → jk_J G mJ6_getChars_ba4f3 22 [some (jI (-(A / md_p10 (2 * k22)))), some (jI x), some (.ref v), none, none, some (jI (x - 2 * (k22 : Int))), some (jI s)] [] n t (jk_row σ v (dg_row A x (2 * k22) r)) ρ 0 0 (jk_q (some (jI (x - (dg_n A : Nat) - s))) n t (jk_row σ v (dg_fin A x s r)) ρ) jk_no := by
    refine jk_loop _ (fun k22 hk22 ih22 => ?_)
    intro  hk
    have hB0 : 0 ≤ A / md_p10 (2 * k22) := Int.ediv_nonneg hA.1 (by have := md_p10_pos (2 * k22); omega)
    have hB1 : A / md_p10 (2 * k22) < 100000000 := by have := Int.ediv_le_self (md_p10 (2 * k22)) hA.1; omega
    refine jk_iload_n (q := 23) dJ6_getChars_ba4f3_22 rfl rfl ?_
    refine jk_bipush (q := 25) (y := -100) dJ6_getChars_ba4f3_23 rfl (by decide) ?_
    refine jk_icmp_gt (q := 72) (q2 := 28) dJ6_getChars_ba4f3_25 rfl rfl (by first | assumption | decide | omega | exact ⟨by omega, by omega⟩) (by first | assumption | decide | omega | exact ⟨by omega, by omega⟩) (fun z1 => ?_) (fun z1 => ?_)
    · have hB99 : A / md_p10 (2 * k22) < 100 := by omega
      refine jk_aload_n (q := 73) dJ6_getChars_ba4f3_72 rfl rfl ?_
      refine jk_iinc5 (q := 76) dJ6_getChars_ba4f3_73 rfl rfl rfl ?_
      refine jk_iload (q := 78) dJ6_getChars_ba4f3_76 rfl rfl ?_
      refine jk_gets (q := 81) (a := 61) (zz_d1 hz) jw_1343 dJ6_getChars_ba4f3_78 rfl ?_
      refine jk_iload_n (q := 82) dJ6_getChars_ba4f3_81 rfl rfl ?_
      refine jk_ineg (q := 83) dJ6_getChars_ba4f3_82 rfl ?_
      refine jk_tabb (q := 84) (zz_d1t hz) (by first | decide | omega) (by first | assumption | decide | omega | exact ⟨by omega, by omega⟩) dJ6_getChars_ba4f3_83 rfl ?_
      rw [show -(-(A / md_p10 (2 * k22))) = A / md_p10 (2 * k22) by omega, show (((A / md_p10 (2 * k22)).toNat : Nat) : Int) = A / md_p10 (2 * k22) by omega]
      refine jk_bastR (q := 85) (by exact hv) (by exact jk_row_same _ _ _) (by first | assumption | decide | omega | exact ⟨by omega, by omega⟩) (by first | assumption | decide | omega | exact ⟨by omega, by omega⟩) dJ6_getChars_ba4f3_84 rfl ?_
      rw [jk_row_row]
      rw [show x - 2 * (k22 : Int) + -1 = x - ((2 * k22 : Nat) : Int) - 1 by omega, dg_rowS]
      refine jk_iload_n (q := 86) dJ6_getChars_ba4f3_85 rfl rfl ?_
      refine jk_bipush (q := 88) (y := -9) dJ6_getChars_ba4f3_86 rfl (by decide) ?_
      refine jk_icmp_ge (q := 104) (q2 := 91) dJ6_getChars_ba4f3_88 rfl rfl (by first | assumption | decide | omega | exact ⟨by omega, by omega⟩) (by first | assumption | decide | omega | exact ⟨by omega, by omega⟩) (fun z2 => ?_) (fun z2 => ?_)
      · try rw [show x - ((2 * k22 : Nat) : Int) - 1 + -1 = x - ((2 * k22 + 1 : Nat) : Int) - 1 by omega, dg_rowS]
        refine jk_iload (q := 106) dJ6_getChars_ba4f3_104 rfl rfl ?_
        refine jk_if_eq (q := 118) (q2 := 109) dJ6_getChars_ba4f3_106 rfl rfl (by first | assumption | decide | omega | exact ⟨by omega, by omega⟩) (fun z3 => ?_) (fun z3 => ?_)
        · refine jk_iload (q := 120) dJ6_getChars_ba4f3_118 rfl rfl ?_
          exact jk_iret rfl dJ6_getChars_ba4f3_120 (by first | (have hN : dg_n A = 2 * k22 + 1 := dg_n_eq (by omega) hA.2 (dg_lt (c := 1) (by show _ < (10 : Int); omega)) (fun h => dg_n_gt (by omega) (by omega)); unfold dg_fin; rw [hN]; first | (rw [if_neg (by omega)]; exact jk_qP (jk_li (by omega)) rfl) | (rw [if_pos (by omega)]; exact jk_qP (jk_li (by omega)) (by first | rw [show x - ((2 * k22 : Nat) : Int) - 1 + -1 = x - ((2 * k22 + 1 : Nat) : Int) - 1 by omega] | rw [show x - ((2 * k22 + 1 : Nat) : Int) - 1 + -1 = x - ((2 * k22 + 2 : Nat) : Int) - 1 by omega]))) | (unfold dg_fin; rw [hN]; first | (rw [if_neg (by omega)]; exact jk_qP (jk_li (by omega)) rfl) | (rw [if_pos (by omega)]; exact jk_qP (jk_li (by omega)) (by first | rw [show x - ((2 * k22 : Nat) : Int) - 1 + -1 = x - ((2 * k22 + 1 : Nat) : Int) - 1 by omega] | rw [show x - ((2 * k22 + 1 : Nat) : Int) - 1 + -1 = x - ((2 * k22 + 2 : Nat) : Int) - 1 by omega]))))
        · refine jk_aload_n (q := 110) dJ6_getChars_ba4f3_109 rfl rfl ?_
          refine jk_iinc5 (q := 113) dJ6_getChars_ba4f3_110 rfl rfl rfl ?_
          refine jk_iload (q := 115) dJ6_getChars_ba4f3_113 rfl rfl ?_
          refine jk_bipush (q := 117) (y := 45) dJ6_getChars_ba4f3_115 rfl (by decide) ?_
          refine jk_bastR (q := 118) (by exact hv) (by exact jk_row_same _ _ _) (by first | assumption | decide | omega | exact ⟨by omega, by omega⟩) (by first | assumption | decide | omega | exact ⟨by omega, by omega⟩) dJ6_getChars_ba4f3_117 rfl ?_
          rw [jk_row_row]
          refine jk_iload (q := 120) dJ6_getChars_ba4f3_118 rfl rfl ?_
          exact jk_iret rfl dJ6_getChars_ba4f3_120 (by first | (have hN : dg_n A = 2 * k22 + 1 := dg_n_eq (by omega) hA.2 (dg_lt (c := 1) (by show _ < (10 : Int); omega)) (fun h => dg_n_gt (by omega) (by omega)); unfold dg_fin; rw [hN]; first | (rw [if_neg (by omega)]; exact jk_qP (jk_li (by omega)) rfl) | (rw [if_pos (by omega)]; exact jk_qP (jk_li (by omega)) (by first | rw [show x - ((2 * k22 : Nat) : Int) - 1 + -1 = x - ((2 * k22 + 1 : Nat) : Int) - 1 by omega] | rw [show x - ((2 * k22 + 1 : Nat) : Int) - 1 + -1 = x - ((2 * k22 + 2 : Nat) : Int) - 1 by omega]))) | (unfold dg_fin; rw [hN]; first | (rw [if_neg (by omega)]; exact jk_qP (jk_li (by omega)) rfl) | (rw [if_pos (by omega)]; exact jk_qP (jk_li (by omega)) (by first | rw [show x - ((2 * k22 : Nat) : Int) - 1 + -1 = x - ((2 * k22 + 1 : Nat) : Int) - 1 by omega] | rw [show x - ((2 * k22 + 1 : Nat) : Int) - 1 + -1 = x - ((2 * k22 + 2 : Nat) : Int) - 1 by omega]))))
      · have hB10 : 10 ≤ A / md_p10 (2 * k22) := by omega
        have hN : dg_n A = 2 * k22 + 2 := dg_n_eq (by omega) hA.2 (dg_lt (c := 2) (by show _ < (100 : Int); omega)) (fun _ => by rw [show 2 * k22 + 2 - 1 = 2 * k22 + 1 by omega]; exact dg_ge (by rw [← dg_div]; omega))
        refine jk_aload_n (q := 92) dJ6_getChars_ba4f3_91 rfl rfl ?_
        refine jk_iinc5 (q := 95) dJ6_getChars_ba4f3_92 rfl rfl rfl ?_
        refine jk_iload (q := 97) dJ6_getChars_ba4f3_95 rfl rfl ?_
        refine jk_gets (q := 100) (a := 62) (zz_d10 hz) jw_1345 dJ6_getChars_ba4f3_97 rfl ?_
        refine jk_iload_n (q := 101) dJ6_getChars_ba4f3_100 rfl rfl ?_
        refine jk_ineg (q := 102) dJ6_getChars_ba4f3_101 rfl ?_
        refine jk_tabb (q := 103) (zz_d10t hz) (by first | decide | omega) (by first | assumption | decide | omega | exact ⟨by omega, by omega⟩) dJ6_getChars_ba4f3_102 rfl ?_
        rw [show -(-(A / md_p10 (2 * k22))) = A / md_p10 (2 * k22) by omega, show 48 + (((A / md_p10 (2 * k22)).toNat : Nat) : Int) / 10 = 48 + A / md_p10 (2 * k22 + 1) % 10 by (rw [← dg_div]; omega)]
        refine jk_bastR (q := 104) (by exact hv) (by exact jk_row_same _ _ _) (by first | assumption | decide | omega | exact ⟨by omega, by omega⟩) (by first | assumption | decide | omega | exact ⟨by omega, by omega⟩) dJ6_getChars_ba4f3_103 rfl ?_
        rw [jk_row_row]
        try rw [show x - ((2 * k22 : Nat) : Int) - 1 + -1 = x - ((2 * k22 + 1 : Nat) : Int) - 1 by omega, dg_rowS]
        refine jk_iload (q := 106) dJ6_getChars_ba4f3_104 rfl rfl ?_
        refine jk_if_eq (q := 118) (q2 := 109) dJ6_getChars_ba4f3_106 rfl rfl (by first | assumption | decide | omega | exact ⟨by omega, by omega⟩) (fun z4 => ?_) (fun z4 => ?_)
        · refine jk_iload (q := 120) dJ6_getChars_ba4f3_118 rfl rfl ?_
          exact jk_iret rfl dJ6_getChars_ba4f3_120 (by first | (have hN : dg_n A = 2 * k22 + 1 := dg_n_eq (by omega) hA.2 (dg_lt (c := 1) (by show _ < (10 : Int); omega)) (fun h => dg_n_gt (by omega) (by omega)); unfold dg_fin; rw [hN]; first | (rw [if_neg (by omega)]; exact jk_qP (jk_li (by omega)) rfl) | (rw [if_pos (by omega)]; exact jk_qP (jk_li (by omega)) (by first | rw [show x - ((2 * k22 : Nat) : Int) - 1 + -1 = x - ((2 * k22 + 1 : Nat) : Int) - 1 by omega] | rw [show x - ((2 * k22 + 1 : Nat) : Int) - 1 + -1 = x - ((2 * k22 + 2 : Nat) : Int) - 1 by omega]))) | (unfold dg_fin; rw [hN]; first | (rw [if_neg (by omega)]; exact jk_qP (jk_li (by omega)) rfl) | (rw [if_pos (by omega)]; exact jk_qP (jk_li (by omega)) (by first | rw [show x - ((2 * k22 : Nat) : Int) - 1 + -1 = x - ((2 * k22 + 1 : Nat) : Int) - 1 by omega] | rw [show x - ((2 * k22 + 1 : Nat) : Int) - 1 + -1 = x - ((2 * k22 + 2 : Nat) : Int) - 1 by omega]))))
        · refine jk_aload_n (q := 110) dJ6_getChars_ba4f3_109 rfl rfl ?_
          refine jk_iinc5 (q := 113) dJ6_getChars_ba4f3_110 rfl rfl rfl ?_
          refine jk_iload (q := 115) dJ6_getChars_ba4f3_113 rfl rfl ?_
          refine jk_bipush (q := 117) (y := 45) dJ6_getChars_ba4f3_115 rfl (by decide) ?_
          refine jk_bastR (q := 118) (by exact hv) (by exact jk_row_same _ _ _) (by first | assumption | decide | omega | exact ⟨by omega, by omega⟩) (by first | assumption | decide | omega | exact ⟨by omega, by omega⟩) dJ6_getChars_ba4f3_117 rfl ?_
          rw [jk_row_row]
          refine jk_iload (q := 120) dJ6_getChars_ba4f3_118 rfl rfl ?_
          exact jk_iret rfl dJ6_getChars_ba4f3_120 (by first | (have hN : dg_n A = 2 * k22 + 1 := dg_n_eq (by omega) hA.2 (dg_lt (c := 1) (by show _ < (10 : Int); omega)) (fun h => dg_n_gt (by omega) (by omega)); unfold dg_fin; rw [hN]; first | (rw [if_neg (by omega)]; exact jk_qP (jk_li (by omega)) rfl) | (rw [if_pos (by omega)]; exact jk_qP (jk_li (by omega)) (by first | rw [show x - ((2 * k22 : Nat) : Int) - 1 + -1 = x - ((2 * k22 + 1 : Nat) : Int) - 1 by omega] | rw [show x - ((2 * k22 + 1 : Nat) : Int) - 1 + -1 = x - ((2 * k22 + 2 : Nat) : Int) - 1 by omega]))) | (unfold dg_fin; rw [hN]; first | (rw [if_neg (by omega)]; exact jk_qP (jk_li (by omega)) rfl) | (rw [if_pos (by omega)]; exact jk_qP (jk_li (by omega)) (by first | rw [show x - ((2 * k22 : Nat) : Int) - 1 + -1 = x - ((2 * k22 + 1 : Nat) : Int) - 1 by omega] | rw [show x - ((2 * k22 + 1 : Nat) : Int) - 1 + -1 = x - ((2 * k22 + 2 : Nat) : Int) - 1 by omega]))))
    · have hBx : 100 ≤ A / md_p10 (2 * k22) := by omega
      have hk2 : 2 * k22 + 2 < dg_n A := by
        rcases Nat.lt_or_ge (2 * k22 + 2) (dg_n A) with h | h
        · exact h
        · have h1 := dg_n_lt hA.2
          have h2 := md_p10_mono h
          have h3 : md_p10 (2 * k22 + 2) ≤ A := dg_ge (by rw [← dg_div2]; omega)
          omega
      refine jk_iload_n (q := 29) dJ6_getChars_ba4f3_28 rfl rfl ?_
      refine jk_bipush (q := 31) (y := 100) dJ6_getChars_ba4f3_29 rfl (by decide) ?_
      refine jk_idiv (q := 32) dJ6_getChars_ba4f3_31 rfl (by first | assumption | decide | omega | exact ⟨by omega, by omega⟩) (by first | assumption | decide | omega | exact ⟨by omega, by omega⟩) (by first | assumption | decide | omega | exact ⟨by omega, by omega⟩) ?_
      rw [(cb_fdn (x := -(A / md_p10 (2 * k22))) (y := 100) (by omega) (by decide)).1, Int.neg_neg]
      refine jk_istore3 (q := 33) dJ6_getChars_ba4f3_32 rfl rfl rfl ?_
      refine jk_iload_n (q := 34) dJ6_getChars_ba4f3_33 rfl rfl ?_
      refine jk_bipush (q := 36) (y := 100) dJ6_getChars_ba4f3_34 rfl (by decide) ?_
      refine jk_imul (q := 37) dJ6_getChars_ba4f3_36 rfl ?_
      refine jk_iload_n (q := 38) dJ6_getChars_ba4f3_37 rfl rfl ?_
      refine jk_isub (q := 39) dJ6_getChars_ba4f3_38 rfl ?_
      rw [show -(A / md_p10 (2 * k22) / 100) * 100 - -(A / md_p10 (2 * k22)) = A / md_p10 (2 * k22) - 100 * (A / md_p10 (2 * k22) / 100) by omega]
      refine jk_istore4 (q := 41) dJ6_getChars_ba4f3_39 rfl rfl rfl ?_
      refine jk_iload_n (q := 42) dJ6_getChars_ba4f3_41 rfl rfl ?_
      refine jk_istore0 (q := 43) dJ6_getChars_ba4f3_42 rfl rfl ?_
      refine jk_aload_n (q := 44) dJ6_getChars_ba4f3_43 rfl rfl ?_
      refine jk_iinc5 (q := 47) dJ6_getChars_ba4f3_44 rfl rfl rfl ?_
      refine jk_iload (q := 49) dJ6_getChars_ba4f3_47 rfl rfl ?_
      refine jk_gets (q := 52) (a := 61) (zz_d1 hz) jw_1343 dJ6_getChars_ba4f3_49 rfl ?_
      refine jk_iload (q := 54) dJ6_getChars_ba4f3_52 rfl rfl ?_
      refine jk_tabb (q := 55) (zz_d1t hz) (by first | decide | omega) (by first | assumption | decide | omega | exact ⟨by omega, by omega⟩) dJ6_getChars_ba4f3_54 rfl ?_
      rw [show (((A / md_p10 (2 * k22) - 100 * (A / md_p10 (2 * k22) / 100)).toNat : Nat) : Int) = A / md_p10 (2 * k22) - 100 * (A / md_p10 (2 * k22) / 100) by omega, dg_ones _ (by omega)]
      refine jk_bastR (q := 56) (by exact hv) (by exact jk_row_same _ _ _) (by first | assumption | decide | omega | exact ⟨by omega, by omega⟩) (by first | assumption | decide | omega | exact ⟨by omega, by omega⟩) dJ6_getChars_ba4f3_55 rfl ?_
      rw [jk_row_row]
      rw [show x - 2 * (k22 : Int) + -1 = x - ((2 * k22 : Nat) : Int) - 1 by omega, dg_rowS]
      refine jk_aload_n (q := 57) dJ6_getChars_ba4f3_56 rfl rfl ?_
      refine jk_iinc5 (q := 60) dJ6_getChars_ba4f3_57 rfl rfl rfl ?_
      refine jk_iload (q := 62) dJ6_getChars_ba4f3_60 rfl rfl ?_
      refine jk_gets (q := 65) (a := 62) (zz_d10 hz) jw_1345 dJ6_getChars_ba4f3_62 rfl ?_
      refine jk_iload (q := 67) dJ6_getChars_ba4f3_65 rfl rfl ?_
      refine jk_tabb (q := 68) (zz_d10t hz) (by first | decide | omega) (by first | assumption | decide | omega | exact ⟨by omega, by omega⟩) dJ6_getChars_ba4f3_67 rfl ?_
      rw [show (((A / md_p10 (2 * k22) - 100 * (A / md_p10 (2 * k22) / 100)).toNat : Nat) : Int) = A / md_p10 (2 * k22) - 100 * (A / md_p10 (2 * k22) / 100) by omega, dg_tens _ (by omega), dg_div]
      refine jk_bastR (q := 69) (by exact hv) (by exact jk_row_same _ _ _) (by first | assumption | decide | omega | exact ⟨by omega, by omega⟩) (by first | assumption | decide | omega | exact ⟨by omega, by omega⟩) dJ6_getChars_ba4f3_68 rfl ?_
      rw [jk_row_row]
      rw [show x - ((2 * k22 : Nat) : Int) - 1 + -1 = x - ((2 * k22 + 1 : Nat) : Int) - 1 by omega, dg_rowS]
      refine jk_goto (q := 22) dJ6_getChars_ba4f3_69 rfl ?_
      refine jk_convw (jk_conv (ih22 (by omega) (by omega)) rfl ?_) (jk_wkS (jk_li ?_) (jk_wkS rfl (jk_wkS rfl (jk_wkN (jk_wkN (jk_wkS (jk_li ?_) (jk_wkS rfl jk_wk0)))))))
      · rw [show 2 * (k22 + 1) = 2 * k22 + 1 + 1 by omega]
      · rw [dg_div2, show 2 * (k22 + 1) = 2 * k22 + 2 by omega]
      · omega
  refine jk_convw (jk_conv (L22 0 (Nat.zero_le _) (by omega)) rfl ?_) (jk_wkS (jk_li ?_) (jk_wkS rfl (jk_wkS rfl (jk_wkN (jk_wkN (jk_wkS (jk_li ?_) (jk_wkS rfl jk_wk0)))))))
  · rw [show 2 * 0 = 0 from rfl, dg_row0, jk_row_id hr]
  · show -(A / 1) = -A; rw [Int.ediv_one]
  · show x - 2 * 0 = x; omega
theorem c_J6_getChars_ba4f3 {G : jk_G} {n : Nat} {t : jk_T} {σ : jk_I} {ρ : jk_P} {v x : Int} {w K : Nat} {r : Int → Int} (hz : zz_ok G) (hv : t w = some (.inl (.byte, K))) (hK : K ≤ 65536) (hvb : -100000000 < v ∧ v < 100000000) (hx : (((md_dgs v).length : Nat) : Int) ≤ x ∧ x ≤ (K : Int)) (hr : σ w = r) : jk_K G yJ6_getChars_ba4f3 mJ6_getChars_ba4f3 0 0 [jI v, jI x, .ref w] n t σ ρ (jk_q (some (jI (x - ((md_dgs v).length : Nat)))) n t (jk_row σ w (dg_out v x r)) ρ) jk_no := by
  have hlen := dg_len v
  have habs : (md_abs v) = if v < 0 then -v else v := rfl
  refine jk_entryB (ls := [some (jI v), some (jI x), some (.ref w), none, none, none, none]) jm_J6_getChars_ba4f3.1 rfl rfl rfl ?_
  refine jk_iload_n (q := 1) dJ6_getChars_ba4f3_0 rfl rfl ?_
  refine jk_istore5 (q := 3) dJ6_getChars_ba4f3_1 rfl rfl rfl ?_
  refine jk_iload_n (q := 4) dJ6_getChars_ba4f3_3 rfl rfl ?_
  refine jk_if_ge (q := 11) (q2 := 7) dJ6_getChars_ba4f3_4 rfl rfl (by first | assumption | decide | omega | exact jB_01 _ | exact jB_in _ | exact ⟨by omega, by omega⟩) (fun z1 => ?_) (fun z1 => ?_)
  · refine jk_iconst (q := 12) dJ6_getChars_ba4f3_11 rfl ?_
    refine jk_istore6 (q := 14) dJ6_getChars_ba4f3_12 rfl rfl rfl ?_
    refine jk_iload (q := 16) dJ6_getChars_ba4f3_14 rfl rfl ?_
    refine jk_ifN_ne (q := 19) (by decide) (by decide) dJ6_getChars_ba4f3_16 rfl rfl ?_
    refine jk_iload_n (q := 20) dJ6_getChars_ba4f3_19 rfl rfl ?_
    refine jk_ineg (q := 21) dJ6_getChars_ba4f3_20 rfl ?_
    refine jk_istore0 (q := 22) dJ6_getChars_ba4f3_21 rfl rfl ?_
    have e9 : (md_abs v) = v := by rw [habs, if_neg (by omega)]
    rw [if_neg (by omega)] at hlen
    rw [dg_out_fin, if_neg (by omega), show x - (((md_dgs v).length : Nat) : Int) = x - (dg_n (md_abs v) : Nat) - (0 : Int) by omega]
    exact jk_convw (gc_loop (A := (md_abs v)) (s := 0) hz hv hK (by omega) (by decide) (by omega) hr) (jk_wkS (jk_li (by omega)) (jk_wkS rfl (jk_wkS rfl (jk_wkN (jk_wkN (jk_wkS rfl (jk_wkS rfl jk_wk0)))))))
  · refine jk_iconst (q := 8) dJ6_getChars_ba4f3_7 rfl ?_
    refine jk_goto (q := 12) dJ6_getChars_ba4f3_8 rfl ?_
    refine jk_istore6 (q := 14) dJ6_getChars_ba4f3_12 rfl rfl rfl ?_
    refine jk_iload (q := 16) dJ6_getChars_ba4f3_14 rfl rfl ?_
    refine jk_ifT_ne (q := 22) (by decide) (by decide) dJ6_getChars_ba4f3_16 rfl ?_
    have e9 : (md_abs v) = -v := by rw [habs, if_pos (by omega)]
    rw [if_pos (by omega)] at hlen
    rw [dg_out_fin, if_pos (by omega), show x - (((md_dgs v).length : Nat) : Int) = x - (dg_n (md_abs v) : Nat) - (1 : Int) by omega]
    exact jk_convw (gc_loop (A := (md_abs v)) (s := 1) hz hv hK (by omega) (by decide) (by omega) hr) (jk_wkS (jk_li (by omega)) (jk_wkS rfl (jk_wkS rfl (jk_wkN (jk_wkN (jk_wkS rfl (jk_wkS rfl jk_wk0)))))))
theorem bd_appN {t : jk_T} {ρ : jk_P} {σ : jk_I} {b v K : Nat} {L : List Int} {x : Int} (h : bd_is t ρ σ b v K L) (hK : L.length + (md_dgs x).length ≤ K) : bd_is t ρ (jk_row (jk_row σ v (dg_out x ((L.length : Int) + ((md_dgs x).length : Nat)) (σ v))) b (jk_set (σ b) 3 ((L.length : Int) + ((md_dgs x).length : Nat)))) b v K (L ++ md_dgs x) := by
  obtain ⟨⟨h1, h2, h3, h4, h5, h6⟩, hK2, h7, h8, h9, h10⟩ := h
  have ev : (jk_row (jk_row σ v (dg_out x ((L.length : Int) + ((md_dgs x).length : Nat)) (σ v))) b (jk_set (σ b) 3 ((L.length : Int) + ((md_dgs x).length : Nat)))) v = dg_out x ((L.length : Int) + ((md_dgs x).length : Nat)) (σ v) := by rw [jk_row_ne _ _ (by omega), jk_row_same]
  refine ⟨⟨h1, h2, h3, by rw [jk_row_same, jk_set_ne _ _ (by decide)]; exact h4, h5, h6⟩, hK2, by rw [jk_row_same, jk_set_at, List.length_append]; omega, by rw [List.length_append]; exact hK, fun j hj => ?_, fun i hi => ?_⟩
  · rw [ev]; exact dg_out_bd (h9 j hj)
  · rw [List.length_append] at hi
    rw [ev]
    by_cases e : i < L.length
    · rw [dg_out_ne (by omega), h10 i e, List.getD_eq_getElem?_getD, List.getD_eq_getElem?_getD, List.getElem?_append_left e]
    · obtain ⟨j, rfl⟩ : ∃ j, i = L.length + j := ⟨i - L.length, by omega⟩
      have h11 := dg_out_get (v := x) (x := (L.length : Int) + ((md_dgs x).length : Nat)) (r := σ v) (i := j) (by omega)
      rw [show (L.length : Int) + ((md_dgs x).length : Nat) - ((md_dgs x).length : Nat) + (j : Int) = ((L.length + j : Nat) : Int) by omega] at h11
      rw [h11, List.getD_eq_getElem?_getD, List.getD_eq_getElem?_getD, List.getElem?_append_right (by omega), show L.length + j - L.length = j by omega]
theorem c_J5_append_c97b9 {G : jk_G} {n : Nat} {t : jk_T} {σ : jk_I} {ρ : jk_P} {b v K : Nat} {L : List Int}{x : Int} (hbd : bd_is t ρ σ b v K L) (hz : zz_ok G) (hzp : zp_ok G) (hb : b < n) (hv : v < n) (hx : -100000000 < x ∧ x < 100000000) (hl : L.length + (md_dgs x).length ≤ 34) : jk_K G yJ5_append_c97b9 mJ5_append_c97b9 1 34 [.ref b, jI x] n t σ ρ (bd_Q (some (.ref b)) b v n t σ ρ (L ++ md_dgs x) 0) jk_no := by
  obtain ⟨⟨hu1, hu2, hu3, hu4, hu5, hu6⟩, hK2, hct, hLK, hby, hel⟩ := id hbd
  refine jk_entryB (ls := [some (.ref b), some (jI x), none, none]) jm_J5_append_c97b9.1 rfl rfl rfl ?_
  refine jk_aload_n (q := 1) dJ5_append_c97b9_0 rfl rfl ?_
  refine jk_getIR (q := 4) (k := 14) 3 3 rfl (by first | exact hu1 | exact hu2 | assumption) (by first | exact jk_row_ne _ _ (by omega) | rfl) rfl rfl jw_364 dJ5_append_c97b9_1 rfl ?_
  rw [hct]
  refine jk_istore2 (q := 5) dJ5_append_c97b9_4 rfl rfl rfl ?_
  refine jk_iload_n (q := 6) dJ5_append_c97b9_5 rfl rfl ?_
  refine jk_iload_n (q := 7) dJ5_append_c97b9_6 rfl rfl ?_
  refine jk_cS1p (q := 10) (c_J6_stringSize_0f7a4 hx) jm_J6_stringSize_0f7a4 jw_1337 rfl rfl rfl dJ5_append_c97b9_7 rfl ?_
  refine jk_iadd (q := 11) dJ5_append_c97b9_10 rfl ?_
  refine jk_istore3 (q := 12) dJ5_append_c97b9_11 rfl rfl rfl ?_
  refine jk_aload_n (q := 13) dJ5_append_c97b9_12 rfl rfl ?_
  refine jk_iload_n (q := 14) dJ5_append_c97b9_13 rfl rfl ?_
  refine jk_callVS (q := 17) (k := 14) (As := [jI (((L.length : Int) + (((md_dgs x).length : Nat) : Int)))]) (fun s args hZ _ => (hzp s args hZ).1) (c_J5_ensureCapacityInternal_d00df (m := ((L.length : Int) + (((md_dgs x).length : Nat) : Int))) hbd hzp hb hv ⟨by omega, by omega⟩) jm_J5_ensureCapacityInternal_d00df.1 jm_J5_ensureCapacityInternal_d00df.2 jw_1225 (by first | exact hu1 | exact hu2 | assumption) rfl rfl rfl (by decide) (by decide) rfl dJ5_append_c97b9_14 rfl (fun v' n' t' σ' ρ' hq => ?_) (fun _ _ _ _ _ h => h.elim)
  obtain ⟨rfl, w, K1, hbd1, hmK, hfr⟩ := hq
  simp only [Option.toList_some, Option.toList_none, List.cons_append, List.nil_append]
  obtain ⟨⟨hu1, hu2, hu3, hu4, hu5, hu6⟩, hK2, hct, hLK, hby, hel⟩ := id hbd1
  refine jk_aload_n (q := 18) dJ5_append_c97b9_17 rfl rfl ?_
  refine jk_callVS (q := 21) (k := 14) (As := []) (fun s args _ h => h _ jw_1259) (c_J5_isLatin1_aae02 hz hbd1) jm_J5_isLatin1_aae02.1 jm_J5_isLatin1_aae02.2 jw_1256 (by first | exact hu1 | exact hu2 | assumption) rfl rfl rfl (Nat.zero_le _) (Nat.zero_le _) rfl dJ5_append_c97b9_18 rfl (fun v' n' t' σ' ρ' hq => ?_) (fun _ _ _ _ _ h => h.elim)
  obtain ⟨rfl, hn9, ht9, hs9, hr9⟩ := hq
  replace hn9 := hn9.symm; replace ht9 := ht9.symm; replace hs9 := hs9.symm; replace hr9 := hr9.symm; subst hn9 ht9 hs9 hr9
  simp only [Option.toList_some, Option.toList_none, List.cons_append, List.nil_append, Nat.sub_zero]
  refine jk_ifB_eq (q := 37) (q2 := 24) dJ5_append_c97b9_21 rfl rfl (fun z1 => ?_) (fun z1 => ?_)
  · exact absurd ‹_› (by decide)
  · refine jk_iload_n (q := 25) dJ5_append_c97b9_24 rfl rfl ?_
    refine jk_iload_n (q := 26) dJ5_append_c97b9_25 rfl rfl ?_
    refine jk_aload_n (q := 27) dJ5_append_c97b9_26 rfl rfl ?_
    refine jk_getA (q := 30) (k := 14) 0 0 rfl (by first | exact hu1 | exact hu2 | assumption) (by exact hu3) rfl rfl jw_360 dJ5_append_c97b9_27 rfl ?_
    refine jk_cS3p (q := 33) (c_J6_getChars_ba4f3 (x := ((L.length : Int) + (((md_dgs x).length : Nat) : Int))) hz hu2 hu5 hx ⟨by omega, by omega⟩ rfl) jm_J6_getChars_ba4f3 jw_1340 rfl rfl rfl dJ5_append_c97b9_30 rfl ?_
    refine jk_pop (q := 34) dJ5_append_c97b9_33 rfl rfl ?_
    refine jk_goto (q := 48) dJ5_append_c97b9_34 rfl ?_
    refine jk_aload_n (q := 49) dJ5_append_c97b9_48 rfl rfl ?_
    refine jk_iload_n (q := 50) dJ5_append_c97b9_49 rfl rfl ?_
    refine jk_putIR (q := 53) (k := 14) 3 3 rfl (by first | exact hu1 | exact hu2 | assumption) (by first | exact jk_row_ne _ _ (by omega) | rfl) rfl rfl rfl jw_364 dJ5_append_c97b9_50 rfl ?_
    refine jk_aload_n (q := 54) dJ5_append_c97b9_53 rfl rfl ?_
    exact jk_aret rfl (by first | exact Or.inl ⟨_, rfl⟩ | exact Or.inr ⟨_, rfl⟩) dJ5_append_c97b9_54 (by exact ⟨rfl, w, K1, bd_appN hbd1 (by omega), Nat.zero_le _, bd_frW hfr (fun a h1 h2 => by rw [jk_row_ne _ _ h1, jk_row_ne _ _ h2])⟩)
theorem c_J4_append_bf812 {G : jk_G} {n : Nat} {t : jk_T} {σ : jk_I} {ρ : jk_P} {b v K : Nat} {L : List Int}{x : Int} (hbd : bd_is t ρ σ b v K L) (hz : zz_ok G) (hzp : zp_ok G) (hb : b < n) (hv : v < n) (hx : -100000000 < x ∧ x < 100000000) (hl : L.length + (md_dgs x).length ≤ 34) : jk_K G yJ4_append_bf812 mJ4_append_bf812 1 34 [.ref b, jI x] n t σ ρ (bd_Q (some (.ref b)) b v n t σ ρ (L ++ md_dgs x) 0) jk_no := by
  obtain ⟨⟨hu1, hu2, hu3, hu4, hu5, hu6⟩, hK2, hct, hLK, hby, hel⟩ := id hbd
  refine jk_entryB (ls := [some (.ref b), some (jI x)]) jm_J4_append_bf812.1 rfl rfl rfl ?_
  refine jk_aload_n (q := 1) dJ4_append_bf812_0 rfl rfl ?_
  refine jk_iload_n (q := 2) dJ4_append_bf812_1 rfl rfl ?_
  refine jk_callSU (q := 5) (k := 14) (As := [jI x]) (c_J5_append_c97b9 hbd hz hzp hb hv hx hl) jm_J5_append_c97b9.1 (by decide) jm_J5_append_c97b9.2 jw_1754 jw_373 jw_1334 (by first | exact hu1 | exact hu2 | assumption) rfl rfl rfl (by decide) (by decide) rfl dJ4_append_bf812_2 rfl (fun v' n' t' σ' ρ' hq => ?_) (fun _ _ _ _ _ h => h.elim)
  obtain ⟨rfl, hq⟩ := hq
  simp only [Option.toList_some, Option.toList_none, List.cons_append, List.nil_append]
  refine jk_pop (q := 6) dJ4_append_bf812_5 rfl rfl ?_
  refine jk_aload_n (q := 7) dJ4_append_bf812_6 rfl rfl ?_
  exact jk_aret rfl (by first | exact Or.inl ⟨_, rfl⟩ | exact Or.inr ⟨_, rfl⟩) dJ4_append_bf812_7 (by exact ⟨rfl, hq⟩)
end B3
