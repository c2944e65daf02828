section PJ9
theorem st_new : st_ok 0 (fun _ => 0) := ⟨md_all_new, md_sit_new⟩
theorem pX_new {x n : Nat} {t : jk_T} {σ0 σ : jk_I} {ρ : jk_P} (h1 : ln_new2 x σ0 t σ ρ) (h0 : σ0 x = fun _ => 0) (hx : 64 ≤ x) (hn : x + 582 ≤ n) : pX x (x + 580) 16 bz_S0 0 0 (fun _ => 0) (fun _ => 0) (-1) (-1) [] n t σ ρ := by
  obtain ⟨⟨g1, g2, g3, g4, g5, g6, g7⟩, g8, g9⟩ := h1
  have z : ∀ a, x + 2 ≤ a → a < x + 512 → a ≠ x + 142 → a % 2 = x % 2 → σ a = fun _ => 0 := g5
  have ex : σ x = jk_set (jk_set (fun _ => 0) 13 (-1)) 14 (-1) := by rw [g4, h0]
  have nn : ∀ s, (s = x + 2 ∨ s = x + 48 ∨ s = x + 94) → cl_nn σ s := fun s hs q hq => by
    rw [z _ (by omega) (by omega) (by omega) (by omega)]
    exact ⟨by decide, by decide⟩
  refine ⟨⟨⟨g1, ?_, nn _ (Or.inl rfl), ?_⟩, ⟨st_new, by decide, fun j hj => absurd hj (Nat.not_lt_zero j)⟩⟩, ⟨hx, hn, Or.inl rfl, by omega⟩, ⟨nn _ (Or.inr (Or.inl rfl)), nn _ (Or.inr (Or.inr rfl))⟩, ?_, ⟨by rw [ex]; rfl, by rw [ex]; rfl, by rw [ex]; rfl, by rw [g6]⟩, fun h => absurd h (by decide), g7, fun i hi m hm => ?_, fun j _ => (by decide : (0 : Int) ≤ 0 ∧ (0 : Int) < 65536), ⟨by decide, by decide⟩, by decide, by decide⟩
  · refine ⟨?_, fun p hp => absurd hp (by show ¬ (0 ≤ p ∧ p < 0); omega), fun p hp => absurd hp (by show ¬ (0 ≤ p ∧ p < 0); omega), fun q hq => absurd hq (by show ¬ ((q : Int) < 0); omega)⟩
    rw [z (x + 2) (by omega) (by omega) (by omega) (by omega)]; exact ⟨rfl, rfl, rfl, rfl⟩
  · exact hs_rel_0 (by rw [z _ (by omega) (by omega) (by omega) (by omega)]) (by rw [z _ (by omega) (by omega) (by omega) (by omega)]) (fun a h1 h2 h3 => z a (by omega) (by omega) (by omega) (by omega))
  · exact ⟨g2, Or.inl rfl, g3, by decide, fun j hj => by rw [g8]; show (0 : Int) ≤ 0 ∧ (0 : Int) < 128; decide, fun i hi => absurd hi (Nat.not_lt_zero i)⟩
  · rw [g9 i hi]; show (-99999 : Int) ≤ 0 ∧ (0 : Int) ≤ 99999; decide
/-- what build leaves: a new network at n, all else as it was -/
def bu_Q (S : ps_S) (B : Int) (σ : jk_I) (n : Nat) (t : jk_T) (ρ : jk_P) : jk_Q := fun v' n' t' σ' ρ' => v' = some (.ref n) ∧ n ≤ n' ∧ pX n (n + 580) 16 S B 0 (fun _ => 0) (fun _ => 0) (-1) (-1) [] n' t' σ' ρ' ∧ ∀ a, a < n → t' a = t a ∧ σ' a = σ a ∧ ρ' a = ρ a
set_option maxHeartbeats 4000000 in
theorem c_build {G : jk_G} {n : Nat} {t : jk_T} {σ : jk_I} {ρ : jk_P} {L : Nat} {f : Nat → Int} (hz : zz_ok G) (hx : zx_ok G) (hzn : zn_ok G) (hzn2 : zn2_ok G) (hq : zq_ok G L f) (hn : 64 ≤ n) : jk_K G yL_build mL_build 3000 25000 [.ref 63] n t σ ρ (bu_Q (bz (fA L f)) 12000 σ n t ρ) jk_no := by
  refine jk_entryB (ls := [some (.ref 63), none, none, none, none, none, none, none, none, none]) jm_L_build.1 rfl rfl rfl ?_
  refine jk_new (q := 3) (k := 12) jw_38 jw_39 jw_1 (by decide) (by decide) dL_build_0 rfl ?_
  refine jk_dup (q := 4) dL_build_3 rfl rfl ?_
  refine jk_cI0g (q := 7) (c_X12_init2 (x := n) hz (if_pos rfl) rfl) jm_X12_init jw_40 rfl rfl (by decide) (by decide) rfl dL_build_4 rfl (fun v' n' t' σ' ρ' h9 => ?_) (fun _ _ _ _ _ h => h.elim)
  obtain ⟨rfl, rfl, hfr, hnew⟩ := h9
  simp only [Option.toList_none, List.nil_append]
  have hcl : (jk_cl 12).2.2.1 = 15 := rfl
  have hX := pX_new (n := n + 582) hnew (by funext j; unfold jk_zr; rw [if_pos rfl]) hn (Nat.le_refl _)
  have hat0 := hX.1.1
  have hok0 := hX.1.2
  have hfc0 : ln_fc n σ' σ' := fun _ _ _ => rfl
  have hpts : 4 ≤ bz_pts (fA L f) ∧ bz_pts (fA L f) ≤ 7 := by
    have := jk_and3 (fA L f 0)
    unfold bz_pts; omega
  refine jk_astore1 (q := 8) dL_build_7 rfl rfl rfl ?_
  refine jk_aload_n (q := 9) dL_build_8 rfl rfl ?_
  refine jk_iconst (q := 10) dL_build_9 rfl ?_
  refine jk_cS2p (q := 13) (c_at hq ⟨by decide, by decide⟩) jm_L_at jw_1593 rfl rfl rfl dL_build_10 rfl ?_
  refine jk_istore2 (q := 14) dL_build_13 rfl rfl rfl ?_
  refine jk_iconst (q := 15) dL_build_14 rfl ?_
  refine jk_iload_n (q := 16) dL_build_15 rfl rfl ?_
  refine jk_iconst (q := 17) dL_build_16 rfl ?_
  refine jk_iandZ (q := 18) dL_build_17 rfl ?_
  refine jk_iadd (q := 19) dL_build_18 rfl ?_
  refine jk_istore3 (q := 20) dL_build_19 rfl rfl rfl ?_
  refine jk_iconst (q := 21) dL_build_20 rfl ?_
  refine jk_istore4 (q := 23) dL_build_21 rfl rfl rfl ?_
  refine jk_convw (bl_a (z := fA L f 0) (pts := bz_pts (fA L f)) (S0 := bz_S0) (C := 2500) (E := 15600) hz hx hzn hzn2 hpts (by decide) hat0 hok0 (fun n1 σ1 rc1 rs1 hm1 hat1 hok1 hfc1 hrc1 hrs1 => ?_) 0 (Nat.zero_le _) _ _ _ _ (Nat.le_refl _) hat0 (pc_ok_up hok0 (by decide) (by decide)) hfc0 (by omega) (by omega)) ((jk_wkS rfl (jk_wkS rfl (jk_wkS rfl (jk_wkS rfl (jk_wkS rfl (jk_wkN (jk_wkN (jk_wkN (jk_wkN (jk_wkN jk_wk0)))))))))))
  refine jk_iconst (q := 45) dL_build_44 rfl ?_
  refine jk_istore4 (q := 47) dL_build_45 rfl rfl rfl ?_
  have hok1' := pc_ok_up hok1 (B2 := 595) (by omega) (by decide)
  refine jk_convw (bl_f (z := fA L f 0) (pts := bz_pts (fA L f)) (S0 := bz_a bz_S0 (bz_pts (fA L f)).toNat) (C := 2490) (E := 15500) hz hx hzn hzn2 hpts (by decide) hat1 hok1' (fun n2 σ2 rc2 rs2 hm2 hat2 hok2 hfc2 hrc2 hrs2 => ?_) 0 (Nat.zero_le _) _ _ _ _ (Nat.le_refl _) hat1 (pc_ok_up hok1' (by decide) (by decide)) (fun _ _ _ => rfl) (by omega) (by omega)) ((jk_wkS rfl (jk_wkS rfl (jk_wkS rfl (jk_wkS rfl (jk_wkS rfl (jk_wkN (jk_wkN (jk_wkN (jk_wkN (jk_wkN jk_wk0)))))))))))
  have hfc2' := ln_fc_t hfc1 hfc2
  refine jk_aload_n (q := 104) dL_build_103 rfl rfl ?_
  refine jk_bipush (q := 106) (y := 7) dL_build_104 rfl (by decide) ?_
  refine jk_iload_n (q := 107) dL_build_106 rfl rfl ?_
  refine jk_bipush (q := 109) (y := 20) dL_build_107 rfl (by decide) ?_
  refine jk_ishrZ (q := 110) dL_build_109 rfl ?_
  refine jk_bipush (q := 112) (y := 7) dL_build_110 rfl (by decide) ?_
  refine jk_iandZ (q := 113) dL_build_112 rfl ?_
  refine jk_iload_n (q := 114) dL_build_113 rfl rfl ?_
  refine jk_iremZ (q := 115) dL_build_114 rfl (jk_and_in _ _) ⟨by omega, by omega⟩ (by omega) ?_
  refine jk_iconst (q := 116) dL_build_115 rfl ?_
  refine jk_iconst (q := 117) dL_build_116 rfl ?_
  refine jc_act_7 (q := 120) hz hx hzn hzn2 hat2 hok2 jw_1614 rfl rfl (by omega) (by omega) rfl dL_build_117 rfl (fun n3 σ3 hm3 hat3 hg3 => ?_)
  have hok3 := pc_ok_doA hat3 hok2 (by decide)
  have hfc3 := ln_fc_t hfc2' hg3
  refine jk_pop (q := 121) dL_build_120 rfl rfl ?_
  refine jk_iconst (q := 122) dL_build_121 rfl ?_
  refine jk_istore4 (q := 124) dL_build_122 rfl rfl rfl ?_
  refine jk_convw (bl_s (z := fA L f 0) (pts := bz_pts (fA L f)) (S0 := bz_p (fA L f 0) (bz_pts (fA L f)) (bz_f (fA L f 0) (bz_pts (fA L f)) (bz_a bz_S0 (bz_pts (fA L f)).toNat) 2)) (C := 2480) (E := 15400) hz hx hzn hzn2 hpts (by decide) hat3 hok3 (fun n4 σ4 rc4 rs4 hm4 hat4 hok4 hfc4 hrc4 hrs4 => ?_) 0 (Nat.zero_le _) _ _ _ _ (Nat.le_refl _) hat3 (pc_ok_up hok3 (by decide) (by decide)) (fun _ _ _ => rfl) (by omega) (by omega)) ((jk_wkS rfl (jk_wkS rfl (jk_wkS rfl (jk_wkS rfl (jk_wkS rfl (jk_wkN (jk_wkN (jk_wkN (jk_wkN (jk_wkN jk_wk0)))))))))))
  have hfc4' := ln_fc_t hfc3 hfc4
  refine jk_iconst (q := 173) dL_build_172 rfl ?_
  refine jk_istore4 (q := 175) dL_build_173 rfl rfl rfl ?_
  refine jk_convw (bl_l (f := f) (L := L) (z := fA L f 0) (pts := bz_pts (fA L f)) (S0 := bz_A (fA L f)) (C := 0) (E := 0) hz hx hzn hzn2 hq hpts (by decide) hat4 hok4 (fun n5 σ5 rc5 rs5 hm5 hat5 hok5 hfc5 hrc5 hrs5 => ?_) 0 (Nat.zero_le _) _ _ _ _ (Nat.le_refl _) hat4 (pc_ok_up hok4 (by decide) (by decide)) (fun _ _ _ => rfl) (by omega) (by omega)) ((jk_wkS rfl (jk_wkS rfl (jk_wkS rfl (jk_wkS rfl (jk_wkS (jk_li (by decide)) (jk_wkN (jk_wkN (jk_wkN (jk_wkN (jk_wkN jk_wk0)))))))))))
  have hfc5' := ln_fc_t hfc4' hfc5
  refine jk_aload_n (q := 594) dL_build_593 rfl rfl ?_
  obtain ⟨hX5, hF5⟩ := pX_c (n' := n5) hX (by omega) hat5 (pc_ok_up hok5 (B2 := 12000) (by decide) (by decide)) (by decide) (by decide) hfc5'
  exact jk_aret rfl (Or.inl ⟨_, rfl⟩) dL_build_594 ⟨rfl, by omega, hX5, fun a ha => ⟨(hfr a ha).1.trans (if_neg (by omega)), (hF5.2.2.2 a (by omega) (by omega) (by omega)).trans ((hfr a ha).2.1.trans (jk_zr_row _ _ (by omega))), (hfr a ha).2.2.trans (jk_zr_row _ _ (by omega))⟩⟩
end PJ9
