section CH2
theorem cm_sum_S (f : Int → Int) : ∀ J : Nat, jk_sum f (1 + J) = f 0 + jk_sum (fun i => f (i + 1)) J
  | 0 => by show 0 + f ((0 : Nat) : Int) = f 0 + 0; rw [show ((0 : Nat) : Int) = 0 from rfl]; omega
  | J + 1 => by
    show jk_sum f (1 + J) + f ((1 + J : Nat) : Int) = f 0 + (jk_sum (fun i => f (i + 1)) J + f ((J : Int) + 1))
    rw [cm_sum_S f J, show ((1 + J : Nat) : Int) = (J : Int) + 1 by omega]; omega
/-- the misclosure, by a potential -/
theorem cm_err {B : Int} {g P : Int → Int} {l : Int} (hi : md_inv B g) (hwI : md_inw g) (hl : 0 ≤ l ∧ l < g 1) (hcl : md_clo g (md_T g) l = true) (hP : cm_pot g (md_T g) (md_cor g) P) : md_err g (md_sgn g (md_T g) l) = md_cor g l + P (g (24 + l)) - P (g (40 + l)) := by
  have i1 := hi.2.1
  obtain ⟨l1, l2, -⟩ := md_inv_ln hi (l := l) ⟨by omega, by omega⟩
  have hT : md_T g l = 0 := by unfold md_clo at hcl; exact of_decide_eq_true ((Bool.and_eq_true _ _).mp hcl).2
  have hK : (md_reach g (md_T g) (g (24 + l))).1 (g (40 + l)) = 1 := by
    obtain ⟨⟨d, h1'⟩, -⟩ := md_rvd_rr (T := md_T g) hi hwI l1 10
    exact (md_clo_cnn hi hwI hl hcl _ (md_reach_cl hi hwI l1)).symm.trans h1'.1.2.1
  obtain ⟨J, hp, hok⟩ := cm_pth_ex hi hwI l1 l2 hK
  obtain ⟨σ9, h9⟩ : ∃ σ9 : jk_I, σ9 = fun a i => if a = 0 then ((1 + J : Nat) : Int) else if i = 0 then (if a = 2 then l else 1) else if a = 2 then (md_reach g (md_T g) (g (24 + l))).2 (md_wlk g (md_reach g (md_T g) (g (24 + l))).2 (g (40 + l)) (i - 1).toNat).1 else wa_sg g ((md_reach g (md_T g) (g (24 + l))).2 (md_wlk g (md_reach g (md_T g) (g (24 + l))).2 (g (40 + l)) (i - 1).toNat).1) (md_wlk g (md_reach g (md_T g) (g (24 + l))).2 (g (40 + l)) (i - 1).toNat).1 := ⟨_, rfl⟩
  have hs : ∀ i : Nat, σ9 2 ((i : Int) + 1) = (md_reach g (md_T g) (g (24 + l))).2 (md_wlk g (md_reach g (md_T g) (g (24 + l))).2 (g (40 + l)) i).1 ∧ σ9 4 ((i : Int) + 1) = wa_sg g ((md_reach g (md_T g) (g (24 + l))).2 (md_wlk g (md_reach g (md_T g) (g (24 + l))).2 (g (40 + l)) i).1) (md_wlk g (md_reach g (md_T g) (g (24 + l))).2 (g (40 + l)) i).1 := fun i => by
    rw [h9]
    have e : ((i : Int) + 1 - 1).toNat = i := by omega
    have e2 : ¬ (i : Int) + 1 = 0 := by omega
    simp only [e, e2, if_false, if_true]
    exact ⟨rfl, rfl⟩
  have hsq := wa_loop_sq (σ' := σ9) (w := 0) hi hwI hl hT hK hp hok (by rw [h9]; rfl) (by rw [h9]; exact ⟨rfl, rfl⟩) (fun i hi9 => by
    have := hs i
    rw [show ((1 + i : Nat) : Int) = (i : Int) + 1 by omega]
    exact this)
  obtain ⟨-, -, h3, h4, h5⟩ := hsq
  have hn : ((g 1).toNat : Int) = g 1 := by omega
  have hw := cm_wsum (n := (g 1).toNat) (Ln := σ9 2) (fun k x => x * md_cor g k) (1 + J) (md_sgn g (md_T g) l) (fun i hi9 => ⟨by rw [hn]; exact (h3 i hi9).1, by have := (h3 i hi9).2.2; have e : σ9 (0 + 2) (i : Int) = σ9 2 (i : Int) := rfl; rw [e] at this; omega⟩) h4 (fun k hk => h5 k (by omega))
  have e1 : md_err g (md_sgn g (md_T g) l) = jk_sum (fun k => if md_sgn g (md_T g) l k = 0 then 0 else md_sgn g (md_T g) l k * md_cor g k) (g 1).toNat := jk_sum_cong _ (fun k _ _ => by
    show md_sgn g (md_T g) l k * md_cor g k = _
    by_cases e : md_sgn g (md_T g) l k = 0
    · rw [if_pos e, e]; omega
    · rw [if_neg e])
  rw [e1, ← hw]
  have e2 : jk_sum (fun i => md_sgn g (md_T g) l (σ9 2 i) * md_cor g (σ9 2 i)) (1 + J) = jk_sum (fun i => σ9 4 i * md_cor g (σ9 2 i)) (1 + J) := jk_sum_cong _ (fun i h0 h1 => by
    have := (h3 i.toNat (by omega)).2.1
    rw [show ((i.toNat : Nat) : Int) = i by omega] at this
    have e : σ9 4 i = md_sgn g (md_T g) l (σ9 2 i) := this
    rw [e])
  have e2' : jk_sum (fun i => (fun k x => x * md_cor g k) (σ9 2 i) (md_sgn g (md_T g) l (σ9 2 i))) (1 + J) = jk_sum (fun i => md_sgn g (md_T g) l (σ9 2 i) * md_cor g (σ9 2 i)) (1 + J) := rfl
  rw [e2', e2, cm_sum_S]
  have e3 := cm_pth_rise hi hwI l1 l2 hK hp hP (Ln := fun i => σ9 2 (i + 1)) (Sg := fun i => σ9 4 (i + 1)) (fun i _ => hs i) J (Nat.le_refl _)
  have e3' : jk_sum (fun i => σ9 4 (i + 1) * md_cor g (σ9 2 (i + 1))) J = P (md_wlk g (md_reach g (md_T g) (g (24 + l))).2 (g (40 + l)) J).1 - P (g (40 + l)) := e3
  rw [e3', hp.2.1]
  have e4 : σ9 4 0 = 1 ∧ σ9 2 0 = l := by rw [h9]; exact ⟨rfl, rfl⟩
  rw [e4.1, e4.2]; omega
/-- what is known of a datum -/
theorem cm_dat {B : Int} {g : Int → Int} {p : Int} (hi : md_inv B g) (h : md_dat g (md_Ro g) p ≠ -1) : (0 ≤ md_dat g (md_Ro g) p ∧ md_dat g (md_Ro g) p < g 0) ∧ md_Ro g (md_dat g (md_Ro g) p) = md_Ro g p ∧ g (4 + md_dat g (md_Ro g) p) = 1 := by
  have hb := jk_fnd_bd (md_datP g (md_Ro g) p) (g 0).toNat
  have i0 := hi.1
  have h0 : 0 ≤ md_dat g (md_Ro g) p := by have := hb.1; unfold md_dat at h ⊢; omega
  have h1 : md_dat g (md_Ro g) p < g 0 := by have := hb.2.1; unfold md_dat at h ⊢; omega
  have h2 := of_decide_eq_true (hb.2.2 h0)
  exact ⟨⟨h0, h1⟩, h2.1, h2.2⟩
theorem cm_byd {B : Int} {g P : Int → Int} {p : Int} (hi : md_inv B g) (hwI : md_inw g) (hp : 0 ≤ p ∧ p < g 0) (h : md_dat g (md_Ro g) p ≠ -1) (hP : cm_pot g (md_T g) (md_cor g) P) : md_byd g (md_Ro g) (md_fin g).2 p = g (14 + md_dat g (md_Ro g) p) + (P p - P (md_dat g (md_Ro g) p)) := by
  obtain ⟨h1, h2, h3⟩ := cm_dat hi h
  have hl := (cm_fin_lvl hi hwI hP).2
  unfold md_byd
  rw [hl p hp, hl _ h1, h2]; omega
theorem cm_hi {g : Int → Int} {p : Int} (h : md_hi g (md_Ro g) p = true) : md_dat g (md_Ro g) p ≠ -1 := of_decide_eq_true h
theorem c_X4_carriedFromDatum {G : jk_G} {n : Nat} {t : jk_T} {σ : jk_I} {ρ : jk_P} {h f s : Nat} {g : Int → Int} {B p : Int} (hhe : he_at t ρ h f s) (hr : cl_rel σ s g) (hi : md_inv B g) (ho : fo_ok σ f g) (hwI : md_inw g) (hp : 0 ≤ p ∧ p < g 0) : jk_K G yX4_carriedFromDatum mX4_carriedFromDatum 0 0 [.ref h, jI p] n t σ ρ (he_Q h σ n t ρ (jI (if (md_dat g (md_Ro g) p) = -1 then 0 else (md_byd g (md_Ro g) (md_fin g).2 p)))) jk_no := by
  obtain ⟨⟨hh1, hh2, hh3⟩, ⟨hq1, hq2, hq3, hq4, hq5⟩, hwa, hfh⟩ := id hhe
  obtain ⟨⟨ha1, ha2, ha3⟩, ⟨hb1, hb2, hb3, hb4⟩, hf, hfw⟩ := id hwa
  obtain ⟨hf1, hf2, hf3, hf4, hs, hsf⟩ := id hf
  have i0 := hi.1
  have i1 := hi.2.1
  have i2 := hi.2.2.1.2
  obtain ⟨ho1, ho2, -⟩ := id ho
  have htr1 : ∀ l, 0 ≤ l ∧ l < 16 → md_T g l = 0 ∨ md_T g l = 1 := (md_kr_tr hi 50).1
  have htr2 : ∀ p, 0 ≤ p ∧ p < 10 → 0 ≤ md_Ro g p ∧ md_Ro g p < 10 := (md_kr_tr hi 50).2
  obtain ⟨P, hP⟩ := (cm_T (cm_pt_of hi hwI)).1.2.2.1 (md_cor g)
  have hdb := md_dat_bd (r := md_Ro g) hi p
  refine jk_entryB (ls := [some (.ref h), some (jI p), none]) jm_X4_carriedFromDatum.1 rfl rfl rfl ?_
  refine jk_aload_n (q := 1) dX4_carriedFromDatum_0 rfl rfl ?_
  refine jk_iload_n (q := 2) dX4_carriedFromDatum_1 rfl rfl ?_
  refine jk_cV1p (q := 5) (c_X4_datumOf hhe hr hi ho hp) jm_X4_datumOf jw_870 rfl (by first | exact hh1 | exact hh2 | exact hh3 | exact ha1 | exact ha2 | exact ha3 | exact hf1 | exact hs.1 | exact hf2 _ _ rfl | exact hs.2.1 _ _ rfl | assumption) rfl rfl rfl dX4_carriedFromDatum_2 rfl ?_
  refine jk_istore2 (q := 6) dX4_carriedFromDatum_5 rfl rfl rfl ?_
  refine jk_iload_n (q := 7) dX4_carriedFromDatum_6 rfl rfl ?_
  refine jk_iconst (q := 8) dX4_carriedFromDatum_7 rfl ?_
  refine jk_icmp_ne (q := 13) (q2 := 11) dX4_carriedFromDatum_8 rfl rfl (by first | assumption | decide | omega | exact jB_01 _ | exact jB_in _ | exact ⟨by omega, by omega⟩) (by first | assumption | decide | omega | exact jB_01 _ | exact jB_in _ | exact ⟨by omega, by omega⟩) (fun z1 => ?_) (fun z1 => ?_)
  · obtain ⟨hd1, hd2, hd3⟩ := cm_dat (p := p) hi (by assumption)
    refine jk_aload_n (q := 14) dX4_carriedFromDatum_13 rfl rfl ?_
    refine jk_getA (q := 17) (k := 4) 2 2 rfl (by first | exact hh1 | exact hh2 | exact hh3 | exact ha1 | exact ha2 | exact ha3 | exact hf1 | exact hs.1 | exact hf2 _ _ rfl | exact hs.2.1 _ _ rfl | assumption) (by first | exact hq1 | exact hq2 | exact hq3 | exact hq4 | exact hq5 | exact hb1 | exact hb2 | exact hb3 | exact hb4 | exact hf4 | exact hf3 _ _ rfl | exact hs.2.2.1 _ _ rfl | assumption) rfl rfl jw_265 dX4_carriedFromDatum_14 rfl ?_
    refine jk_iload_n (q := 18) dX4_carriedFromDatum_17 rfl rfl ?_
    refine jk_iload_n (q := 19) dX4_carriedFromDatum_18 rfl rfl ?_
    refine jk_cV2g (q := 22) (c_X11_trace (a := (md_dat g (md_Ro g) p)) (b := p) hwa hr hi ho hwI hd1 hp hd2) jm_X11_trace jw_891 rfl (by first | exact hh1 | exact hh2 | exact hh3 | exact ha1 | exact ha2 | exact ha3 | exact hf1 | exact hs.1 | exact hf2 _ _ rfl | exact hs.2.1 _ _ rfl | assumption) rfl rfl (Nat.zero_le _) (Nat.zero_le _) rfl dX4_carriedFromDatum_19 rfl (fun v' n' t' σ' ρ' hq => ?_) (fun _ _ _ _ _ h => h.elim)
    obtain ⟨rfl, hn9, ht9, hr9, hfrT, c, hc10, hc, hcL, hcP⟩ := hq
    replace hn9 := hn9.symm; replace ht9 := ht9.symm; replace hr9 := hr9.symm; subst hn9 ht9 hr9
    simp only [Option.toList_some, Option.toList_none, List.cons_append, List.nil_append, Nat.sub_zero]
    have hfr1 : ∀ a, a ≤ h → σ' a = σ a := fun a h9 => hfrT a (by omega) (by omega) (by omega)
    have hr1 : cl_rel σ' s g := cl_rel_same i2 (fun a h8 h9 => hfr1 a (by omega)) hr
    obtain ⟨r4, r4'⟩ := hr1.2.1 (md_dat g (md_Ro g) p) hd1
    have r5 := r4' hd3
    refine jk_aload_n (q := 23) dX4_carriedFromDatum_22 rfl rfl ?_
    refine jk_getA (q := 26) (k := 4) 0 0 rfl (by first | exact hh1 | exact hh2 | exact hh3 | exact ha1 | exact ha2 | exact ha3 | exact hf1 | exact hs.1 | exact hf2 _ _ rfl | exact hs.2.1 _ _ rfl | assumption) (by first | exact hq1 | exact hq2 | exact hq3 | exact hq4 | exact hq5 | exact hb1 | exact hb2 | exact hb3 | exact hb4 | exact hf4 | exact hf3 _ _ rfl | exact hs.2.2.1 _ _ rfl | assumption) rfl rfl jw_263 dX4_carriedFromDatum_23 rfl ?_
    refine jk_getA (q := 29) (k := 9) 2 2 rfl (by first | exact hh1 | exact hh2 | exact hh3 | exact ha1 | exact ha2 | exact ha3 | exact hf1 | exact hs.1 | exact hf2 _ _ rfl | exact hs.2.1 _ _ rfl | assumption) (by first | exact hq1 | exact hq2 | exact hq3 | exact hq4 | exact hq5 | exact hb1 | exact hb2 | exact hb3 | exact hb4 | exact hf4 | exact hf3 _ _ rfl | exact hs.2.2.1 _ _ rfl | assumption) rfl rfl jw_64 dX4_carriedFromDatum_26 rfl ?_
    refine jk_iload_n (q := 30) dX4_carriedFromDatum_29 rfl rfl ?_
    refine jk_ialdR (q := 31) (by first | exact hh1 | exact hh2 | exact hh3 | exact ha1 | exact ha2 | exact ha3 | exact hf1 | exact hs.1 | exact hf2 _ _ rfl | exact hs.2.1 _ _ rfl | assumption) (by first | exact jk_row_same _ _ _ | ((repeat rewrite [jk_row_ne _ _ (by omega)]); first | exact jk_row_same _ _ _ | rfl)) (by first | assumption | decide | omega | exact jB_01 _ | exact jB_in _ | exact ⟨by omega, by omega⟩) dX4_carriedFromDatum_30 rfl ?_
    rw [r5]
    refine jk_aload_n (q := 32) dX4_carriedFromDatum_31 rfl rfl ?_
    refine jk_getA (q := 35) (k := 4) 2 2 rfl (by first | exact hh1 | exact hh2 | exact hh3 | exact ha1 | exact ha2 | exact ha3 | exact hf1 | exact hs.1 | exact hf2 _ _ rfl | exact hs.2.1 _ _ rfl | assumption) (by first | exact hq1 | exact hq2 | exact hq3 | exact hq4 | exact hq5 | exact hb1 | exact hb2 | exact hb3 | exact hb4 | exact hf4 | exact hf3 _ _ rfl | exact hs.2.2.1 _ _ rfl | assumption) rfl rfl jw_265 dX4_carriedFromDatum_32 rfl ?_
    refine jk_cV0p (q := 38) (c_X11_rise (σ := σ') hwa hr1 hi hc (by omega) hcL) jm_X11_rise jw_895 rfl (by first | exact hh1 | exact hh2 | exact hh3 | exact ha1 | exact ha2 | exact ha3 | exact hf1 | exact hs.1 | exact hf2 _ _ rfl | exact hs.2.1 _ _ rfl | assumption) rfl rfl rfl dX4_carriedFromDatum_35 rfl ?_
    rw [hcP P hP]
    refine jk_iadd (q := 39) dX4_carriedFromDatum_38 rfl ?_
    exact jk_iret rfl dX4_carriedFromDatum_39 (by exact ⟨by rw [if_neg (by assumption), cm_byd hi hwI hp (by assumption) hP], rfl, rfl, rfl, fun a h9 => hfrT a (by omega) (by omega) (by omega)⟩)
  · refine jk_iconst (q := 12) dX4_carriedFromDatum_11 rfl ?_
    exact jk_iret rfl dX4_carriedFromDatum_12 (by exact ⟨by rw [if_pos (by assumption)], rfl, rfl, rfl, fun a _ => rfl⟩)
theorem c_X4_byWay {G : jk_G} {n : Nat} {t : jk_T} {σ : jk_I} {ρ : jk_P} {h f s : Nat} {g : Int → Int} {B p : Int} (hhe : he_at t ρ h f s) (hr : cl_rel σ s g) (hi : md_inv B g) (ho : fo_ok σ f g) (hwI : md_inw g) (hp : 0 ≤ p ∧ p < g 0) (hh : md_hi g (md_Ro g) p = true) : jk_K G yX4_byWay mX4_byWay 0 0 [.ref h, jI p] n t σ ρ (he_Q h σ n t ρ (jI (md_HT g p))) jk_no := by
  obtain ⟨⟨hh1, hh2, hh3⟩, ⟨hq1, hq2, hq3, hq4, hq5⟩, hwa, hfh⟩ := id hhe
  obtain ⟨⟨ha1, ha2, ha3⟩, ⟨hb1, hb2, hb3, hb4⟩, hf, hfw⟩ := id hwa
  obtain ⟨hf1, hf2, hf3, hf4, hs, hsf⟩ := id hf
  have i0 := hi.1
  have i1 := hi.2.1
  have i2 := hi.2.2.1.2
  obtain ⟨ho1, ho2, -⟩ := id ho
  have htr1 : ∀ l, 0 ≤ l ∧ l < 16 → md_T g l = 0 ∨ md_T g l = 1 := (md_kr_tr hi 50).1
  have htr2 : ∀ p, 0 ≤ p ∧ p < 10 → 0 ≤ md_Ro g p ∧ md_Ro g p < 10 := (md_kr_tr hi 50).2
  have p1 := (hr.2.1 p hp).1
  have p1' := (hr.2.1 p hp).2
  have p2 := (hi.2.2.2.2.1 p ⟨by omega, by omega⟩).1
  refine jk_entryB (ls := [some (.ref h), some (jI p)]) jm_X4_byWay.1 rfl rfl rfl ?_
  refine jk_aload_n (q := 1) dX4_byWay_0 rfl rfl ?_
  refine jk_getA (q := 4) (k := 4) 0 0 rfl (by first | exact hh1 | exact hh2 | exact hh3 | exact ha1 | exact ha2 | exact ha3 | exact hf1 | exact hs.1 | exact hf2 _ _ rfl | exact hs.2.1 _ _ rfl | assumption) (by first | exact hq1 | exact hq2 | exact hq3 | exact hq4 | exact hq5 | exact hb1 | exact hb2 | exact hb3 | exact hb4 | exact hf4 | exact hf3 _ _ rfl | exact hs.2.2.1 _ _ rfl | assumption) rfl rfl jw_263 dX4_byWay_1 rfl ?_
  refine jk_getA (q := 7) (k := 9) 1 1 rfl (by first | exact hh1 | exact hh2 | exact hh3 | exact ha1 | exact ha2 | exact ha3 | exact hf1 | exact hs.1 | exact hf2 _ _ rfl | exact hs.2.1 _ _ rfl | assumption) (by first | exact hq1 | exact hq2 | exact hq3 | exact hq4 | exact hq5 | exact hb1 | exact hb2 | exact hb3 | exact hb4 | exact hf4 | exact hf3 _ _ rfl | exact hs.2.2.1 _ _ rfl | assumption) rfl rfl jw_60 dX4_byWay_4 rfl ?_
  refine jk_iload_n (q := 8) dX4_byWay_7 rfl rfl ?_
  refine jk_zaldR (q := 9) (by first | exact hh1 | exact hh2 | exact hh3 | exact ha1 | exact ha2 | exact ha3 | exact hf1 | exact hs.1 | exact hf2 _ _ rfl | exact hs.2.1 _ _ rfl | assumption) (by first | exact jk_row_same _ _ _ | ((repeat rewrite [jk_row_ne _ _ (by omega)]); first | exact jk_row_same _ _ _ | rfl)) (by first | assumption | decide | omega | exact jB_01 _ | exact jB_in _ | exact ⟨by omega, by omega⟩) dX4_byWay_8 rfl ?_
  refine jk_if_eq (q := 24) (q2 := 12) dX4_byWay_9 rfl rfl (by first | assumption | decide | omega | exact jB_01 _ | exact jB_in _ | exact ⟨by omega, by omega⟩) (fun z1 => ?_) (fun z1 => ?_)
  · refine jk_aload_n (q := 25) dX4_byWay_24 rfl rfl ?_
    refine jk_iload_n (q := 26) dX4_byWay_25 rfl rfl ?_
    refine jk_cV1g (q := 29) (c_X4_carriedFromDatum hhe hr hi ho hwI hp) jm_X4_carriedFromDatum jw_887 rfl (by first | exact hh1 | exact hh2 | exact hh3 | exact ha1 | exact ha2 | exact ha3 | exact hf1 | exact hs.1 | exact hf2 _ _ rfl | exact hs.2.1 _ _ rfl | assumption) rfl rfl (Nat.zero_le _) (Nat.zero_le _) rfl dX4_byWay_26 rfl (fun v' n' t' σ' ρ' hq => ?_) (fun _ _ _ _ _ h => h.elim)
    obtain ⟨rfl, hn9, ht9, hr9, hfrT⟩ := hq
    replace hn9 := hn9.symm; replace ht9 := ht9.symm; replace hr9 := hr9.symm; subst hn9 ht9 hr9
    simp only [Option.toList_some, Option.toList_none, List.cons_append, List.nil_append, Nat.sub_zero]
    exact jk_iret rfl dX4_byWay_29 (by first | exact ⟨by unfold md_HT md_ht; rw [if_pos (by omega), p1' (by omega)], rfl, rfl, rfl, fun a _ => rfl⟩ | exact ⟨by unfold md_HT md_ht; rw [if_neg (show ¬ g (4 + p) = 1 by omega), if_neg (cm_hi hh)], rfl, rfl, rfl, hfrT⟩)
  · refine jk_aload_n (q := 13) dX4_byWay_12 rfl rfl ?_
    refine jk_getA (q := 16) (k := 4) 0 0 rfl (by first | exact hh1 | exact hh2 | exact hh3 | exact ha1 | exact ha2 | exact ha3 | exact hf1 | exact hs.1 | exact hf2 _ _ rfl | exact hs.2.1 _ _ rfl | assumption) (by first | exact hq1 | exact hq2 | exact hq3 | exact hq4 | exact hq5 | exact hb1 | exact hb2 | exact hb3 | exact hb4 | exact hf4 | exact hf3 _ _ rfl | exact hs.2.2.1 _ _ rfl | assumption) rfl rfl jw_263 dX4_byWay_13 rfl ?_
    refine jk_getA (q := 19) (k := 9) 2 2 rfl (by first | exact hh1 | exact hh2 | exact hh3 | exact ha1 | exact ha2 | exact ha3 | exact hf1 | exact hs.1 | exact hf2 _ _ rfl | exact hs.2.1 _ _ rfl | assumption) (by first | exact hq1 | exact hq2 | exact hq3 | exact hq4 | exact hq5 | exact hb1 | exact hb2 | exact hb3 | exact hb4 | exact hf4 | exact hf3 _ _ rfl | exact hs.2.2.1 _ _ rfl | assumption) rfl rfl jw_64 dX4_byWay_16 rfl ?_
    refine jk_iload_n (q := 20) dX4_byWay_19 rfl rfl ?_
    refine jk_ialdR (q := 21) (by first | exact hh1 | exact hh2 | exact hh3 | exact ha1 | exact ha2 | exact ha3 | exact hf1 | exact hs.1 | exact hf2 _ _ rfl | exact hs.2.1 _ _ rfl | assumption) (by first | exact jk_row_same _ _ _ | ((repeat rewrite [jk_row_ne _ _ (by omega)]); first | exact jk_row_same _ _ _ | rfl)) (by first | assumption | decide | omega | exact jB_01 _ | exact jB_in _ | exact ⟨by omega, by omega⟩) dX4_byWay_20 rfl ?_
    refine jk_goto (q := 29) dX4_byWay_21 rfl ?_
    exact jk_iret rfl dX4_byWay_29 (by first | exact ⟨by unfold md_HT md_ht; rw [if_pos (by omega), p1' (by omega)], rfl, rfl, rfl, fun a _ => rfl⟩ | exact ⟨by unfold md_HT md_ht; rw [if_neg (show ¬ g (4 + p) = 1 by omega), if_neg (cm_hi hh)], rfl, rfl, rfl, hfrT⟩)
theorem c_X4_byRounds {G : jk_G} {n : Nat} {t : jk_T} {σ : jk_I} {ρ : jk_P} {h f s : Nat} {g : Int → Int} {B p : Int} (hhe : he_at t ρ h f s) (hr : cl_rel σ s g) (hi : md_inv B g) (ho : fo_ok σ f g) (hwI : md_inw g) (hp : 0 ≤ p ∧ p < g 0) (hh : md_hi g (md_Ro g) p = true) : jk_K G yX4_byRounds mX4_byRounds 0 0 [.ref h, jI p] n t σ ρ (he_Q h σ n t ρ (jI (md_HT g p))) jk_no := by
  obtain ⟨⟨hh1, hh2, hh3⟩, ⟨hq1, hq2, hq3, hq4, hq5⟩, hwa, hfh⟩ := id hhe
  obtain ⟨⟨ha1, ha2, ha3⟩, ⟨hb1, hb2, hb3, hb4⟩, hf, hfw⟩ := id hwa
  obtain ⟨hf1, hf2, hf3, hf4, hs, hsf⟩ := id hf
  have i0 := hi.1
  have i1 := hi.2.1
  have i2 := hi.2.2.1.2
  obtain ⟨ho1, ho2, -⟩ := id ho
  have htr1 : ∀ l, 0 ≤ l ∧ l < 16 → md_T g l = 0 ∨ md_T g l = 1 := (md_kr_tr hi 50).1
  have htr2 : ∀ p, 0 ≤ p ∧ p < 10 → 0 ≤ md_Ro g p ∧ md_Ro g p < 10 := (md_kr_tr hi 50).2
  obtain ⟨P, hP⟩ := (cm_T (cm_pt_of hi hwI)).1.2.2.1 (md_cor g)
  have p1 := (hr.2.1 p hp).1
  have p1' := (hr.2.1 p hp).2
  have p2 := (hi.2.2.2.2.1 p ⟨by omega, by omega⟩).1
  obtain ⟨hd1, hd2, hd3⟩ := cm_dat (p := p) hi (cm_hi hh)
  have hdb := md_dat_bd (r := md_Ro g) hi p
  have r5 := (hr.2.1 (md_dat g (md_Ro g) p) hd1).2 hd3
  refine jk_entryB (ls := [some (.ref h), some (jI p), none]) jm_X4_byRounds.1 rfl rfl rfl ?_
  refine jk_aload_n (q := 1) dX4_byRounds_0 rfl rfl ?_
  refine jk_iload_n (q := 2) dX4_byRounds_1 rfl rfl ?_
  refine jk_cV1p (q := 5) (c_X4_datumOf hhe hr hi ho hp) jm_X4_datumOf jw_870 rfl (by first | exact hh1 | exact hh2 | exact hh3 | exact ha1 | exact ha2 | exact ha3 | exact hf1 | exact hs.1 | exact hf2 _ _ rfl | exact hs.2.1 _ _ rfl | assumption) rfl rfl rfl dX4_byRounds_2 rfl ?_
  refine jk_istore2 (q := 6) dX4_byRounds_5 rfl rfl rfl ?_
  refine jk_aload_n (q := 7) dX4_byRounds_6 rfl rfl ?_
  refine jk_getA (q := 10) (k := 4) 0 0 rfl (by first | exact hh1 | exact hh2 | exact hh3 | exact ha1 | exact ha2 | exact ha3 | exact hf1 | exact hs.1 | exact hf2 _ _ rfl | exact hs.2.1 _ _ rfl | assumption) (by first | exact hq1 | exact hq2 | exact hq3 | exact hq4 | exact hq5 | exact hb1 | exact hb2 | exact hb3 | exact hb4 | exact hf4 | exact hf3 _ _ rfl | exact hs.2.2.1 _ _ rfl | assumption) rfl rfl jw_263 dX4_byRounds_7 rfl ?_
  refine jk_getA (q := 13) (k := 9) 1 1 rfl (by first | exact hh1 | exact hh2 | exact hh3 | exact ha1 | exact ha2 | exact ha3 | exact hf1 | exact hs.1 | exact hf2 _ _ rfl | exact hs.2.1 _ _ rfl | assumption) (by first | exact hq1 | exact hq2 | exact hq3 | exact hq4 | exact hq5 | exact hb1 | exact hb2 | exact hb3 | exact hb4 | exact hf4 | exact hf3 _ _ rfl | exact hs.2.2.1 _ _ rfl | assumption) rfl rfl jw_60 dX4_byRounds_10 rfl ?_
  refine jk_iload_n (q := 14) dX4_byRounds_13 rfl rfl ?_
  refine jk_zaldR (q := 15) (by first | exact hh1 | exact hh2 | exact hh3 | exact ha1 | exact ha2 | exact ha3 | exact hf1 | exact hs.1 | exact hf2 _ _ rfl | exact hs.2.1 _ _ rfl | assumption) (by first | exact jk_row_same _ _ _ | ((repeat rewrite [jk_row_ne _ _ (by omega)]); first | exact jk_row_same _ _ _ | rfl)) (by first | assumption | decide | omega | exact jB_01 _ | exact jB_in _ | exact ⟨by omega, by omega⟩) dX4_byRounds_14 rfl ?_
  refine jk_if_ne (q := 23) (q2 := 18) dX4_byRounds_15 rfl rfl (by first | assumption | decide | omega | exact jB_01 _ | exact jB_in _ | exact ⟨by omega, by omega⟩) (fun z1 => ?_) (fun z1 => ?_)
  · have hone : σ (s + 2) p = 1 := (by first | omega | exact absurd (by assumption) (cm_hi hh))
    refine jk_aload_n (q := 24) dX4_byRounds_23 rfl rfl ?_
    refine jk_getA (q := 27) (k := 4) 0 0 rfl (by first | exact hh1 | exact hh2 | exact hh3 | exact ha1 | exact ha2 | exact ha3 | exact hf1 | exact hs.1 | exact hf2 _ _ rfl | exact hs.2.1 _ _ rfl | assumption) (by first | exact hq1 | exact hq2 | exact hq3 | exact hq4 | exact hq5 | exact hb1 | exact hb2 | exact hb3 | exact hb4 | exact hf4 | exact hf3 _ _ rfl | exact hs.2.2.1 _ _ rfl | assumption) rfl rfl jw_263 dX4_byRounds_24 rfl ?_
    refine jk_getA (q := 30) (k := 9) 2 2 rfl (by first | exact hh1 | exact hh2 | exact hh3 | exact ha1 | exact ha2 | exact ha3 | exact hf1 | exact hs.1 | exact hf2 _ _ rfl | exact hs.2.1 _ _ rfl | assumption) (by first | exact hq1 | exact hq2 | exact hq3 | exact hq4 | exact hq5 | exact hb1 | exact hb2 | exact hb3 | exact hb4 | exact hf4 | exact hf3 _ _ rfl | exact hs.2.2.1 _ _ rfl | assumption) rfl rfl jw_64 dX4_byRounds_27 rfl ?_
    refine jk_iload_n (q := 31) dX4_byRounds_30 rfl rfl ?_
    refine jk_ialdR (q := 32) (by first | exact hh1 | exact hh2 | exact hh3 | exact ha1 | exact ha2 | exact ha3 | exact hf1 | exact hs.1 | exact hf2 _ _ rfl | exact hs.2.1 _ _ rfl | assumption) (by first | exact jk_row_same _ _ _ | ((repeat rewrite [jk_row_ne _ _ (by omega)]); first | exact jk_row_same _ _ _ | rfl)) (by first | assumption | decide | omega | exact jB_01 _ | exact jB_in _ | exact ⟨by omega, by omega⟩) dX4_byRounds_31 rfl ?_
    exact jk_iret rfl dX4_byRounds_32 (by exact ⟨by unfold md_HT md_ht; rw [if_pos (by omega), p1' (by omega)], rfl, rfl, rfl, fun a _ => rfl⟩)
  · refine jk_iload_n (q := 19) dX4_byRounds_18 rfl rfl ?_
    refine jk_iconst (q := 20) dX4_byRounds_19 rfl ?_
    refine jk_icmp_ne (q := 33) (q2 := 23) dX4_byRounds_20 rfl rfl (by first | assumption | decide | omega | exact jB_01 _ | exact jB_in _ | exact ⟨by omega, by omega⟩) (by first | assumption | decide | omega | exact jB_01 _ | exact jB_in _ | exact ⟨by omega, by omega⟩) (fun z2 => ?_) (fun z2 => ?_)
    · refine jk_aload_n (q := 34) dX4_byRounds_33 rfl rfl ?_
      refine jk_iload_n (q := 35) dX4_byRounds_34 rfl rfl ?_
      refine jk_aload_n (q := 36) dX4_byRounds_35 rfl rfl ?_
      refine jk_getA (q := 39) (k := 4) 0 0 rfl (by first | exact hh1 | exact hh2 | exact hh3 | exact ha1 | exact ha2 | exact ha3 | exact hf1 | exact hs.1 | exact hf2 _ _ rfl | exact hs.2.1 _ _ rfl | assumption) (by first | exact hq1 | exact hq2 | exact hq3 | exact hq4 | exact hq5 | exact hb1 | exact hb2 | exact hb3 | exact hb4 | exact hf4 | exact hf3 _ _ rfl | exact hs.2.2.1 _ _ rfl | assumption) rfl rfl jw_263 dX4_byRounds_36 rfl ?_
      refine jk_getA (q := 42) (k := 9) 2 2 rfl (by first | exact hh1 | exact hh2 | exact hh3 | exact ha1 | exact ha2 | exact ha3 | exact hf1 | exact hs.1 | exact hf2 _ _ rfl | exact hs.2.1 _ _ rfl | assumption) (by first | exact hq1 | exact hq2 | exact hq3 | exact hq4 | exact hq5 | exact hb1 | exact hb2 | exact hb3 | exact hb4 | exact hf4 | exact hf3 _ _ rfl | exact hs.2.2.1 _ _ rfl | assumption) rfl rfl jw_64 dX4_byRounds_39 rfl ?_
      refine jk_iload_n (q := 43) dX4_byRounds_42 rfl rfl ?_
      refine jk_ialdR (q := 44) (by first | exact hh1 | exact hh2 | exact hh3 | exact ha1 | exact ha2 | exact ha3 | exact hf1 | exact hs.1 | exact hf2 _ _ rfl | exact hs.2.1 _ _ rfl | assumption) (by first | exact jk_row_same _ _ _ | ((repeat rewrite [jk_row_ne _ _ (by omega)]); first | exact jk_row_same _ _ _ | rfl)) (by first | assumption | decide | omega | exact jB_01 _ | exact jB_in _ | exact ⟨by omega, by omega⟩) dX4_byRounds_43 rfl ?_
      rw [r5]
      refine jk_cV2g (q := 47) (c_X4_passOn (st := (md_dat g (md_Ro g) p)) (lv := g (14 + (md_dat g (md_Ro g) p))) hhe hr hi ho hwI hd1) jm_X4_passOn jw_904 rfl (by first | exact hh1 | exact hh2 | exact hh3 | exact ha1 | exact ha2 | exact ha3 | exact hf1 | exact hs.1 | exact hf2 _ _ rfl | exact hs.2.1 _ _ rfl | assumption) rfl rfl (Nat.zero_le _) (Nat.zero_le _) rfl dX4_byRounds_44 rfl (fun v' n' t' σ' ρ' hq => ?_) (fun _ _ _ _ _ h => h.elim)
      obtain ⟨rfl, hn9, ht9, hr9, hfrT, hlv⟩ := hq
      replace hn9 := hn9.symm; replace ht9 := ht9.symm; replace hr9 := hr9.symm; subst hn9 ht9 hr9
      simp only [Option.toList_some, Option.toList_none, List.cons_append, List.nil_append, Nat.sub_zero]
      refine jk_aload_n (q := 48) dX4_byRounds_47 rfl rfl ?_
      refine jk_getA (q := 51) (k := 4) 4 4 rfl (by first | exact hh1 | exact hh2 | exact hh3 | exact ha1 | exact ha2 | exact ha3 | exact hf1 | exact hs.1 | exact hf2 _ _ rfl | exact hs.2.1 _ _ rfl | assumption) (by first | exact hq1 | exact hq2 | exact hq3 | exact hq4 | exact hq5 | exact hb1 | exact hb2 | exact hb3 | exact hb4 | exact hf4 | exact hf3 _ _ rfl | exact hs.2.2.1 _ _ rfl | assumption) rfl rfl jw_267 dX4_byRounds_48 rfl ?_
      refine jk_iload_n (q := 52) dX4_byRounds_51 rfl rfl ?_
      refine jk_ialdR (q := 53) (by first | exact hh1 | exact hh2 | exact hh3 | exact ha1 | exact ha2 | exact ha3 | exact hf1 | exact hs.1 | exact hf2 _ _ rfl | exact hs.2.1 _ _ rfl | assumption) (by first | exact jk_row_same _ _ _ | ((repeat rewrite [jk_row_ne _ _ (by omega)]); first | exact jk_row_same _ _ _ | rfl)) (by first | assumption | decide | omega | exact jB_01 _ | exact jB_in _ | exact ⟨by omega, by omega⟩) dX4_byRounds_52 rfl ?_
      exact jk_iret rfl dX4_byRounds_53 (by exact ⟨by unfold md_HT md_ht; rw [if_neg (show ¬ g (4 + p) = 1 by omega), cm_byd hi hwI hp (cm_hi hh) hP, hlv P hP p hp hd2.symm]; congr 2; omega, rfl, rfl, rfl, fun a h9 => hfrT a (by omega) (by omega)⟩)
    · have hone : σ (s + 2) p = 1 := (by first | omega | exact absurd (by assumption) (cm_hi hh))
      refine jk_aload_n (q := 24) dX4_byRounds_23 rfl rfl ?_
      refine jk_getA (q := 27) (k := 4) 0 0 rfl (by first | exact hh1 | exact hh2 | exact hh3 | exact ha1 | exact ha2 | exact ha3 | exact hf1 | exact hs.1 | exact hf2 _ _ rfl | exact hs.2.1 _ _ rfl | assumption) (by first | exact hq1 | exact hq2 | exact hq3 | exact hq4 | exact hq5 | exact hb1 | exact hb2 | exact hb3 | exact hb4 | exact hf4 | exact hf3 _ _ rfl | exact hs.2.2.1 _ _ rfl | assumption) rfl rfl jw_263 dX4_byRounds_24 rfl ?_
      refine jk_getA (q := 30) (k := 9) 2 2 rfl (by first | exact hh1 | exact hh2 | exact hh3 | exact ha1 | exact ha2 | exact ha3 | exact hf1 | exact hs.1 | exact hf2 _ _ rfl | exact hs.2.1 _ _ rfl | assumption) (by first | exact hq1 | exact hq2 | exact hq3 | exact hq4 | exact hq5 | exact hb1 | exact hb2 | exact hb3 | exact hb4 | exact hf4 | exact hf3 _ _ rfl | exact hs.2.2.1 _ _ rfl | assumption) rfl rfl jw_64 dX4_byRounds_27 rfl ?_
      refine jk_iload_n (q := 31) dX4_byRounds_30 rfl rfl ?_
      refine jk_ialdR (q := 32) (by first | exact hh1 | exact hh2 | exact hh3 | exact ha1 | exact ha2 | exact ha3 | exact hf1 | exact hs.1 | exact hf2 _ _ rfl | exact hs.2.1 _ _ rfl | assumption) (by first | exact jk_row_same _ _ _ | ((repeat rewrite [jk_row_ne _ _ (by omega)]); first | exact jk_row_same _ _ _ | rfl)) (by first | assumption | decide | omega | exact jB_01 _ | exact jB_in _ | exact ⟨by omega, by omega⟩) dX4_byRounds_31 rfl ?_
      exact jk_iret rfl dX4_byRounds_32 (by exact ⟨by unfold md_HT md_ht; rw [if_pos (by omega), p1' (by omega)], rfl, rfl, rfl, fun a _ => rfl⟩)
theorem c_X4_gapByLevels {G : jk_G} {n : Nat} {t : jk_T} {σ : jk_I} {ρ : jk_P} {h f s : Nat} {g : Int → Int} {B l : Int} (hhe : he_at t ρ h f s) (hr : cl_rel σ s g) (hi : md_inv B g) (ho : fo_ok σ f g) (hwI : md_inw g) (hl : 0 ≤ l ∧ l < g 1) (hcl : md_clo g (md_T g) l = true) : jk_K G yX4_gapByLevels mX4_gapByLevels 0 0 [.ref h, jI l] n t σ ρ (he_Q h σ n t ρ (jI (md_err g (md_sgn g (md_T g) l)))) jk_no := by
  obtain ⟨⟨hh1, hh2, hh3⟩, ⟨hq1, hq2, hq3, hq4, hq5⟩, hwa, hfh⟩ := id hhe
  obtain ⟨⟨ha1, ha2, ha3⟩, ⟨hb1, hb2, hb3, hb4⟩, hf, hfw⟩ := id hwa
  obtain ⟨hf1, hf2, hf3, hf4, hs, hsf⟩ := id hf
  have i0 := hi.1
  have i1 := hi.2.1
  have i2 := hi.2.2.1.2
  obtain ⟨ho1, ho2, -⟩ := id ho
  have htr1 : ∀ l, 0 ≤ l ∧ l < 16 → md_T g l = 0 ∨ md_T g l = 1 := (md_kr_tr hi 50).1
  have htr2 : ∀ p, 0 ≤ p ∧ p < 10 → 0 ≤ md_Ro g p ∧ md_Ro g p < 10 := (md_kr_tr hi 50).2
  obtain ⟨P, hP⟩ := (cm_T (cm_pt_of hi hwI)).1.2.2.1 (md_cor g)
  obtain ⟨l1, l2, -⟩ := md_inv_ln hi (l := l) ⟨by omega, by omega⟩
  obtain ⟨q1, q2, -⟩ := hr.2.2.1 l hl
  have w9 := hwI l hl
  have hks := (cm_T (cm_pt_of hi hwI)).1
  have hr24 : (0 ≤ md_Ro g (g (24 + l)) ∧ md_Ro g (g (24 + l)) < g 0) ∧ md_Ro g (md_Ro g (g (24 + l))) = md_Ro g (g (24 + l)) := hks.2.1 _ ⟨l1.1, w9.2.1⟩
  have hro : md_Ro g (g (24 + l)) = md_Ro g (g (40 + l)) := md_clo_cnn hi hwI hl hcl (md_Ro g) (fun x hx hT => by rcases hks.1 x hx with h9 | h9; (have h8 : md_T g x = 0 := h9; rw [h8] at hT; exact absurd hT (by decide)); exact h9.2.2)
  refine jk_entryB (ls := [some (.ref h), some (jI l), none, none]) jm_X4_gapByLevels.1 rfl rfl rfl ?_
  refine jk_aload_n (q := 1) dX4_gapByLevels_0 rfl rfl ?_
  refine jk_getA (q := 4) (k := 4) 0 0 rfl (by first | exact hh1 | exact hh2 | exact hh3 | exact ha1 | exact ha2 | exact ha3 | exact hf1 | exact hs.1 | exact hf2 _ _ rfl | exact hs.2.1 _ _ rfl | assumption) (by first | exact hq1 | exact hq2 | exact hq3 | exact hq4 | exact hq5 | exact hb1 | exact hb2 | exact hb3 | exact hb4 | exact hf4 | exact hf3 _ _ rfl | exact hs.2.2.1 _ _ rfl | assumption) rfl rfl jw_263 dX4_gapByLevels_1 rfl ?_
  refine jk_getA (q := 7) (k := 9) 4 4 rfl (by first | exact hh1 | exact hh2 | exact hh3 | exact ha1 | exact ha2 | exact ha3 | exact hf1 | exact hs.1 | exact hf2 _ _ rfl | exact hs.2.1 _ _ rfl | assumption) (by first | exact hq1 | exact hq2 | exact hq3 | exact hq4 | exact hq5 | exact hb1 | exact hb2 | exact hb3 | exact hb4 | exact hf4 | exact hf3 _ _ rfl | exact hs.2.2.1 _ _ rfl | assumption) rfl rfl jw_76 dX4_gapByLevels_4 rfl ?_
  refine jk_iload_n (q := 8) dX4_gapByLevels_7 rfl rfl ?_
  refine jk_ialdR (q := 9) (by first | exact hh1 | exact hh2 | exact hh3 | exact ha1 | exact ha2 | exact ha3 | exact hf1 | exact hs.1 | exact hf2 _ _ rfl | exact hs.2.1 _ _ rfl | assumption) (by first | exact jk_row_same _ _ _ | ((repeat rewrite [jk_row_ne _ _ (by omega)]); first | exact jk_row_same _ _ _ | rfl)) (by first | assumption | decide | omega | exact jB_01 _ | exact jB_in _ | exact ⟨by omega, by omega⟩) dX4_gapByLevels_8 rfl ?_
  rw [q1]
  refine jk_istore2 (q := 10) dX4_gapByLevels_9 rfl rfl rfl ?_
  refine jk_aload_n (q := 11) dX4_gapByLevels_10 rfl rfl ?_
  refine jk_getA (q := 14) (k := 4) 0 0 rfl (by first | exact hh1 | exact hh2 | exact hh3 | exact ha1 | exact ha2 | exact ha3 | exact hf1 | exact hs.1 | exact hf2 _ _ rfl | exact hs.2.1 _ _ rfl | assumption) (by first | exact hq1 | exact hq2 | exact hq3 | exact hq4 | exact hq5 | exact hb1 | exact hb2 | exact hb3 | exact hb4 | exact hf4 | exact hf3 _ _ rfl | exact hs.2.2.1 _ _ rfl | assumption) rfl rfl jw_263 dX4_gapByLevels_11 rfl ?_
  refine jk_getA (q := 17) (k := 9) 5 5 rfl (by first | exact hh1 | exact hh2 | exact hh3 | exact ha1 | exact ha2 | exact ha3 | exact hf1 | exact hs.1 | exact hf2 _ _ rfl | exact hs.2.1 _ _ rfl | assumption) (by first | exact hq1 | exact hq2 | exact hq3 | exact hq4 | exact hq5 | exact hb1 | exact hb2 | exact hb3 | exact hb4 | exact hf4 | exact hf3 _ _ rfl | exact hs.2.2.1 _ _ rfl | assumption) rfl rfl jw_82 dX4_gapByLevels_14 rfl ?_
  refine jk_iload_n (q := 18) dX4_gapByLevels_17 rfl rfl ?_
  refine jk_ialdR (q := 19) (by first | exact hh1 | exact hh2 | exact hh3 | exact ha1 | exact ha2 | exact ha3 | exact hf1 | exact hs.1 | exact hf2 _ _ rfl | exact hs.2.1 _ _ rfl | assumption) (by first | exact jk_row_same _ _ _ | ((repeat rewrite [jk_row_ne _ _ (by omega)]); first | exact jk_row_same _ _ _ | rfl)) (by first | assumption | decide | omega | exact jB_01 _ | exact jB_in _ | exact ⟨by omega, by omega⟩) dX4_gapByLevels_18 rfl ?_
  rw [q2]
  refine jk_istore3 (q := 20) dX4_gapByLevels_19 rfl rfl rfl ?_
  refine jk_aload_n (q := 21) dX4_gapByLevels_20 rfl rfl ?_
  refine jk_aload_n (q := 22) dX4_gapByLevels_21 rfl rfl ?_
  refine jk_getA (q := 25) (k := 4) 1 1 rfl (by first | exact hh1 | exact hh2 | exact hh3 | exact ha1 | exact ha2 | exact ha3 | exact hf1 | exact hs.1 | exact hf2 _ _ rfl | exact hs.2.1 _ _ rfl | assumption) (by first | exact hq1 | exact hq2 | exact hq3 | exact hq4 | exact hq5 | exact hb1 | exact hb2 | exact hb3 | exact hb4 | exact hf4 | exact hf3 _ _ rfl | exact hs.2.2.1 _ _ rfl | assumption) rfl rfl jw_264 dX4_gapByLevels_22 rfl ?_
  refine jk_getA (q := 28) (k := 3) 5 5 rfl (by first | exact hh1 | exact hh2 | exact hh3 | exact ha1 | exact ha2 | exact ha3 | exact hf1 | exact hs.1 | exact hf2 _ _ rfl | exact hs.2.1 _ _ rfl | assumption) (by first | exact hq1 | exact hq2 | exact hq3 | exact hq4 | exact hq5 | exact hb1 | exact hb2 | exact hb3 | exact hb4 | exact hf4 | exact hf3 _ _ rfl | exact hs.2.2.1 _ _ rfl | assumption) rfl rfl jw_198 dX4_gapByLevels_25 rfl ?_
  refine jk_iload_n (q := 29) dX4_gapByLevels_28 rfl rfl ?_
  refine jk_ialdR (q := 30) (by first | exact hh1 | exact hh2 | exact hh3 | exact ha1 | exact ha2 | exact ha3 | exact hf1 | exact hs.1 | exact hf2 _ _ rfl | exact hs.2.1 _ _ rfl | assumption) (by first | exact jk_row_same _ _ _ | ((repeat rewrite [jk_row_ne _ _ (by omega)]); first | exact jk_row_same _ _ _ | rfl)) (by first | assumption | decide | omega | exact jB_01 _ | exact jB_in _ | exact ⟨by omega, by omega⟩) dX4_gapByLevels_29 rfl ?_
  rw [ho2 _ ⟨by omega, by omega⟩]
  refine jk_iconst (q := 31) dX4_gapByLevels_30 rfl ?_
  refine jk_cV2g (q := 34) (c_X4_passOn (st := md_Ro g (g (24 + l))) (lv := 0) hhe hr hi ho hwI hr24.1) jm_X4_passOn jw_904 rfl (by first | exact hh1 | exact hh2 | exact hh3 | exact ha1 | exact ha2 | exact ha3 | exact hf1 | exact hs.1 | exact hf2 _ _ rfl | exact hs.2.1 _ _ rfl | assumption) rfl rfl (Nat.zero_le _) (Nat.zero_le _) rfl dX4_gapByLevels_31 rfl (fun v' n' t' σ' ρ' hq => ?_) (fun _ _ _ _ _ h => h.elim)
  obtain ⟨rfl, hn9, ht9, hr9, hfrT, hlv⟩ := hq
  replace hn9 := hn9.symm; replace ht9 := ht9.symm; replace hr9 := hr9.symm; subst hn9 ht9 hr9
  simp only [Option.toList_some, Option.toList_none, List.cons_append, List.nil_append, Nat.sub_zero]
  have hr1 : cl_rel σ' s g := cl_rel_same i2 (fun a h8 h9 => hfrT a (by omega) (by omega)) hr
  refine jk_aload_n (q := 35) dX4_gapByLevels_34 rfl rfl ?_
  refine jk_getA (q := 38) (k := 4) 0 0 rfl (by first | exact hh1 | exact hh2 | exact hh3 | exact ha1 | exact ha2 | exact ha3 | exact hf1 | exact hs.1 | exact hf2 _ _ rfl | exact hs.2.1 _ _ rfl | assumption) (by first | exact hq1 | exact hq2 | exact hq3 | exact hq4 | exact hq5 | exact hb1 | exact hb2 | exact hb3 | exact hb4 | exact hf4 | exact hf3 _ _ rfl | exact hs.2.2.1 _ _ rfl | assumption) rfl rfl jw_263 dX4_gapByLevels_35 rfl ?_
  refine jk_iload_n (q := 39) dX4_gapByLevels_38 rfl rfl ?_
  refine jk_cV1p (q := 42) (c_X9_corrected hs hr1 hi hl) jm_X9_corrected jw_912 rfl (by first | exact hh1 | exact hh2 | exact hh3 | exact ha1 | exact ha2 | exact ha3 | exact hf1 | exact hs.1 | exact hf2 _ _ rfl | exact hs.2.1 _ _ rfl | assumption) rfl rfl rfl dX4_gapByLevels_39 rfl ?_
  refine jk_aload_n (q := 43) dX4_gapByLevels_42 rfl rfl ?_
  refine jk_getA (q := 46) (k := 4) 4 4 rfl (by first | exact hh1 | exact hh2 | exact hh3 | exact ha1 | exact ha2 | exact ha3 | exact hf1 | exact hs.1 | exact hf2 _ _ rfl | exact hs.2.1 _ _ rfl | assumption) (by first | exact hq1 | exact hq2 | exact hq3 | exact hq4 | exact hq5 | exact hb1 | exact hb2 | exact hb3 | exact hb4 | exact hf4 | exact hf3 _ _ rfl | exact hs.2.2.1 _ _ rfl | assumption) rfl rfl jw_267 dX4_gapByLevels_43 rfl ?_
  refine jk_iload_n (q := 47) dX4_gapByLevels_46 rfl rfl ?_
  refine jk_ialdR (q := 48) (by first | exact hh1 | exact hh2 | exact hh3 | exact ha1 | exact ha2 | exact ha3 | exact hf1 | exact hs.1 | exact hf2 _ _ rfl | exact hs.2.1 _ _ rfl | assumption) (by first | exact jk_row_same _ _ _ | ((repeat rewrite [jk_row_ne _ _ (by omega)]); first | exact jk_row_same _ _ _ | rfl)) (by first | assumption | decide | omega | exact jB_01 _ | exact jB_in _ | exact ⟨by omega, by omega⟩) dX4_gapByLevels_47 rfl ?_
  refine jk_aload_n (q := 49) dX4_gapByLevels_48 rfl rfl ?_
  refine jk_getA (q := 52) (k := 4) 4 4 rfl (by first | exact hh1 | exact hh2 | exact hh3 | exact ha1 | exact ha2 | exact ha3 | exact hf1 | exact hs.1 | exact hf2 _ _ rfl | exact hs.2.1 _ _ rfl | assumption) (by first | exact hq1 | exact hq2 | exact hq3 | exact hq4 | exact hq5 | exact hb1 | exact hb2 | exact hb3 | exact hb4 | exact hf4 | exact hf3 _ _ rfl | exact hs.2.2.1 _ _ rfl | assumption) rfl rfl jw_267 dX4_gapByLevels_49 rfl ?_
  refine jk_iload_n (q := 53) dX4_gapByLevels_52 rfl rfl ?_
  refine jk_ialdR (q := 54) (by first | exact hh1 | exact hh2 | exact hh3 | exact ha1 | exact ha2 | exact ha3 | exact hf1 | exact hs.1 | exact hf2 _ _ rfl | exact hs.2.1 _ _ rfl | assumption) (by first | exact jk_row_same _ _ _ | ((repeat rewrite [jk_row_ne _ _ (by omega)]); first | exact jk_row_same _ _ _ | rfl)) (by first | assumption | decide | omega | exact jB_01 _ | exact jB_in _ | exact ⟨by omega, by omega⟩) dX4_gapByLevels_53 rfl ?_
  refine jk_isub (q := 55) dX4_gapByLevels_54 rfl ?_
  refine jk_isub (q := 56) dX4_gapByLevels_55 rfl ?_
  exact jk_iret rfl dX4_gapByLevels_56 (by exact ⟨by rw [cm_err hi hwI hl hcl hP, hlv P hP _ ⟨l1.1, w9.2.1⟩ hr24.2.symm, hlv P hP _ ⟨l2.1, w9.2.2.1⟩ (hro.symm.trans hr24.2.symm)]; congr 2; omega, rfl, rfl, rfl, fun a h9 => hfrT a (by omega) (by omega)⟩)
theorem c_X4_benchmarksAheadOf {G : jk_G} {n : Nat} {t : jk_T} {σ : jk_I} {ρ : jk_P} {h f s : Nat} {g : Int → Int} {B p : Int} (hhe : he_at t ρ h f s) (hr : cl_rel σ s g) (hi : md_inv B g) (ho : fo_ok σ f g) (hwI : md_inw g) (hp : 0 ≤ p ∧ p < g 0) (hh : md_hi g (md_Ro g) p = true) : jk_K G yX4_benchmarksAheadOf mX4_benchmarksAheadOf 0 0 [.ref h, jI p] n t σ ρ (he_Q h σ n t ρ (jI (md_hcnt g p))) jk_no := by
  obtain ⟨⟨hh1, hh2, hh3⟩, ⟨hq1, hq2, hq3, hq4, hq5⟩, hwa, hfh⟩ := id hhe
  obtain ⟨⟨ha1, ha2, ha3⟩, ⟨hb1, hb2, hb3, hb4⟩, hf, hfw⟩ := id hwa
  obtain ⟨hf1, hf2, hf3, hf4, hs, hsf⟩ := id hf
  have i0 := hi.1
  have i1 := hi.2.1
  have i2 := hi.2.2.1.2
  obtain ⟨ho1, ho2, -⟩ := id ho
  have htr1 : ∀ l, 0 ≤ l ∧ l < 16 → md_T g l = 0 ∨ md_T g l = 1 := (md_kr_tr hi 50).1
  have htr2 : ∀ p, 0 ≤ p ∧ p < 10 → 0 ≤ md_Ro g p ∧ md_Ro g p < 10 := (md_kr_tr hi 50).2
  have hbd := md_HT_bd hi (p := p) ⟨by omega, by omega⟩ hh
  refine jk_entryB (ls := [some (.ref h), some (jI p), none, none, none, none]) jm_X4_benchmarksAheadOf.1 rfl rfl rfl ?_
  refine jk_aload_n (q := 1) dX4_benchmarksAheadOf_0 rfl rfl ?_
  refine jk_iload_n (q := 2) dX4_benchmarksAheadOf_1 rfl rfl ?_
  refine jk_cV1g (q := 5) (c_X4_byWay hhe hr hi ho hwI hp hh) jm_X4_byWay jw_938 rfl (by first | exact hh1 | exact hh2 | exact hh3 | exact ha1 | exact ha2 | exact ha3 | exact hf1 | exact hs.1 | exact hf2 _ _ rfl | exact hs.2.1 _ _ rfl | assumption) rfl rfl (Nat.zero_le _) (Nat.zero_le _) rfl dX4_benchmarksAheadOf_2 rfl (fun v' n' t' σ' ρ' hq => ?_) (fun _ _ _ _ _ h => h.elim)
  obtain ⟨rfl, hn9, ht9, hr9, hfrT⟩ := hq
  replace hn9 := hn9.symm; replace ht9 := ht9.symm; replace hr9 := hr9.symm; subst hn9 ht9 hr9
  simp only [Option.toList_some, Option.toList_none, List.cons_append, List.nil_append, Nat.sub_zero]
  refine jk_istore2 (q := 6) dX4_benchmarksAheadOf_5 rfl rfl rfl ?_
  refine jk_iconst (q := 7) dX4_benchmarksAheadOf_6 rfl ?_
  refine jk_istore3 (q := 8) dX4_benchmarksAheadOf_7 rfl rfl rfl ?_
  refine jk_iconst (q := 9) dX4_benchmarksAheadOf_8 rfl ?_
  refine jk_istore4 (q := 11) dX4_benchmarksAheadOf_9 rfl rfl rfl ?_
  have L11 : ∀ k11 : Nat, k11 ≤ (g 0).toNat → ∀ (σ1 : jk_I), (hfr1 : ∀ a, a ≤ h ∨ h + 10 < a → σ1 a = σ a) → jk_J G mX4_benchmarksAheadOf 11 [some (.ref h), some (jI p), some (jI (md_HT g p)), some (jI (jk_sum (fun x => jB (md_hi g (md_Ro g) x && md_abv g x p)) k11)), some (jI (k11 : Int)), none] [] n t σ1 ρ 0 0 (he_Q h σ n t ρ (jI (md_hcnt g p))) jk_no := by
    refine jk_loop _ (fun k11 hk11 ih11 => ?_)
    intro σ1 hfr1
    have hr1 : cl_rel σ1 s g := cl_rel_same i2 (fun a h8 h9 => hfr1 a (by omega)) hr
    have ho9 : fo_ok σ1 f g := wa_ok_same (fun a h8 h9 => hfr1 a (by omega)) ho
    refine jk_iload (q := 13) dX4_benchmarksAheadOf_11 rfl rfl ?_
    refine jk_aload_n (q := 14) dX4_benchmarksAheadOf_13 rfl rfl ?_
    refine jk_getA (q := 17) (k := 4) 0 0 rfl (by first | exact hh1 | exact hh2 | exact hh3 | exact ha1 | exact ha2 | exact ha3 | exact hf1 | exact hs.1 | exact hf2 _ _ rfl | exact hs.2.1 _ _ rfl | assumption) (by first | exact hq1 | exact hq2 | exact hq3 | exact hq4 | exact hq5 | exact hb1 | exact hb2 | exact hb3 | exact hb4 | exact hf4 | exact hf3 _ _ rfl | exact hs.2.2.1 _ _ rfl | assumption) rfl rfl jw_263 dX4_benchmarksAheadOf_14 rfl ?_
    refine jk_getIR (q := 20) (k := 9) 0 0 rfl (by first | exact hh1 | exact hh2 | exact hh3 | exact ha1 | exact ha2 | exact ha3 | exact hf1 | exact hs.1 | exact hf2 _ _ rfl | exact hs.2.1 _ _ rfl | assumption) (by first | exact jk_row_same _ _ _ | ((repeat rewrite [jk_row_ne _ _ (by omega)]); first | exact jk_row_same _ _ _ | rfl)) rfl rfl jw_54 dX4_benchmarksAheadOf_17 rfl ?_
    rw [hr1.1.1]
    refine jk_icmp_ge (q := 72) (q2 := 23) dX4_benchmarksAheadOf_20 rfl rfl (by first | assumption | decide | omega | exact jB_01 _ | exact jB_in _ | exact ⟨by omega, by omega⟩) (by first | assumption | decide | omega | exact jB_01 _ | exact jB_in _ | exact ⟨by omega, by omega⟩) (fun z1 => ?_) (fun z1 => ?_)
    · refine jk_iload_n (q := 73) dX4_benchmarksAheadOf_72 rfl rfl ?_
      exact jk_iret rfl dX4_benchmarksAheadOf_73 (by exact ⟨by unfold md_hcnt; rw [show (g 0).toNat = k11 by omega], rfl, rfl, rfl, hfr1⟩)
    · refine jk_aload_n (q := 24) dX4_benchmarksAheadOf_23 rfl rfl ?_
      refine jk_iload (q := 26) dX4_benchmarksAheadOf_24 rfl rfl ?_
      refine jk_cV1p (q := 29) (c_X4_exists hhe hr1 hi ho9 ⟨by omega, by omega⟩) jm_X4_exists jw_933 rfl (by first | exact hh1 | exact hh2 | exact hh3 | exact ha1 | exact ha2 | exact ha3 | exact hf1 | exact hs.1 | exact hf2 _ _ rfl | exact hs.2.1 _ _ rfl | assumption) rfl rfl rfl dX4_benchmarksAheadOf_26 rfl ?_
      refine jk_ifB_eq (q := 66) (q2 := 32) dX4_benchmarksAheadOf_29 rfl rfl (fun z2 => ?_) (fun z2 => ?_)
      · refine jk_iinc4 (q := 69) dX4_benchmarksAheadOf_66 rfl rfl rfl ?_
        refine jk_goto (q := 11) dX4_benchmarksAheadOf_69 rfl ?_
        refine jk_convw (ih11 (by omega) σ1 hfr1) (jk_wkS rfl (jk_wkS rfl (jk_wkS rfl (jk_wkS (jk_li ?_) (jk_wkS rfl (jk_wkN jk_wk0))))))
        show jk_sum (fun x => jB (md_hi g (md_Ro g) x && md_abv g x p)) k11 + jB (md_hi g (md_Ro g) (k11 : Int) && md_abv g (k11 : Int) p) = _
        rw [show md_hi g (md_Ro g) (k11 : Int) = false by assumption]
        show jk_sum (fun x => jB (md_hi g (md_Ro g) x && md_abv g x p)) k11 + 0 = _
        omega
      · refine jk_aload_n (q := 33) dX4_benchmarksAheadOf_32 rfl rfl ?_
        refine jk_iload (q := 35) dX4_benchmarksAheadOf_33 rfl rfl ?_
        refine jk_cV1g (q := 38) (c_X4_byWay hhe hr1 hi ho9 hwI ⟨by omega, by omega⟩ (by assumption)) jm_X4_byWay jw_938 rfl (by first | exact hh1 | exact hh2 | exact hh3 | exact ha1 | exact ha2 | exact ha3 | exact hf1 | exact hs.1 | exact hf2 _ _ rfl | exact hs.2.1 _ _ rfl | assumption) rfl rfl (Nat.zero_le _) (Nat.zero_le _) rfl dX4_benchmarksAheadOf_35 rfl (fun v' n' t' σ' ρ' hq => ?_) (fun _ _ _ _ _ h => h.elim)
        obtain ⟨rfl, hn9, ht9, hr9, hfrU⟩ := hq
        replace hn9 := hn9.symm; replace ht9 := ht9.symm; replace hr9 := hr9.symm; subst hn9 ht9 hr9
        simp only [Option.toList_some, Option.toList_none, List.cons_append, List.nil_append, Nat.sub_zero]
        have hbx := md_HT_bd hi (p := (k11 : Int)) ⟨by omega, by omega⟩ (by assumption)
        refine jk_istore5 (q := 40) dX4_benchmarksAheadOf_38 rfl rfl rfl ?_
        refine jk_iload_n (q := 41) dX4_benchmarksAheadOf_40 rfl rfl ?_
        refine jk_iload (q := 43) dX4_benchmarksAheadOf_41 rfl rfl ?_
        refine jk_iload_n (q := 44) dX4_benchmarksAheadOf_43 rfl rfl ?_
        refine jk_icmp_gt (q := 59) (q2 := 47) dX4_benchmarksAheadOf_44 rfl rfl (by first | assumption | decide | omega | exact jB_01 _ | exact jB_in _ | exact ⟨by omega, by omega⟩) (by first | assumption | decide | omega | exact jB_01 _ | exact jB_in _ | exact ⟨by omega, by omega⟩) (fun z3 => ?_) (fun z3 => ?_)
        · refine jk_iconst (q := 60) dX4_benchmarksAheadOf_59 rfl ?_
          refine jk_goto (q := 64) dX4_benchmarksAheadOf_60 rfl ?_
          refine jk_iadd (q := 65) dX4_benchmarksAheadOf_64 rfl ?_
          refine jk_istore3 (q := 66) dX4_benchmarksAheadOf_65 rfl rfl rfl ?_
          refine jk_iinc4 (q := 69) dX4_benchmarksAheadOf_66 rfl rfl rfl ?_
          refine jk_goto (q := 11) dX4_benchmarksAheadOf_69 rfl ?_
          refine jk_convw (ih11 (by omega) _ (fun a h9 => (hfrU a h9).trans (hfr1 a h9))) (jk_wkS rfl (jk_wkS rfl (jk_wkS rfl (jk_wkS (jk_li ?_) (jk_wkS rfl (jk_wkN jk_wk0))))))
          show jk_sum (fun x => jB (md_hi g (md_Ro g) x && md_abv g x p)) k11 + jB (md_hi g (md_Ro g) (k11 : Int) && md_abv g (k11 : Int) p) = _
          rw [show md_hi g (md_Ro g) (k11 : Int) = true by assumption]
          unfold md_abv
          first | (rw [decide_eq_true (show 0 < md_HT g (k11 : Int) - md_HT g p ∨ (md_HT g (k11 : Int) - md_HT g p = 0 ∧ (k11 : Int) < p) by omega)]; rfl) | (rw [decide_eq_false (show ¬ (0 < md_HT g (k11 : Int) - md_HT g p ∨ (md_HT g (k11 : Int) - md_HT g p = 0 ∧ (k11 : Int) < p)) by omega)]; rfl)
        · refine jk_iload (q := 49) dX4_benchmarksAheadOf_47 rfl rfl ?_
          refine jk_iload_n (q := 50) dX4_benchmarksAheadOf_49 rfl rfl ?_
          refine jk_icmp_ne (q := 63) (q2 := 53) dX4_benchmarksAheadOf_50 rfl rfl (by first | assumption | decide | omega | exact jB_01 _ | exact jB_in _ | exact ⟨by omega, by omega⟩) (by first | assumption | decide | omega | exact jB_01 _ | exact jB_in _ | exact ⟨by omega, by omega⟩) (fun z4 => ?_) (fun z4 => ?_)
          · refine jk_iconst (q := 64) dX4_benchmarksAheadOf_63 rfl ?_
            refine jk_iadd (q := 65) dX4_benchmarksAheadOf_64 rfl ?_
            refine jk_istore3 (q := 66) dX4_benchmarksAheadOf_65 rfl rfl rfl ?_
            refine jk_iinc4 (q := 69) dX4_benchmarksAheadOf_66 rfl rfl rfl ?_
            refine jk_goto (q := 11) dX4_benchmarksAheadOf_69 rfl ?_
            refine jk_convw (ih11 (by omega) _ (fun a h9 => (hfrU a h9).trans (hfr1 a h9))) (jk_wkS rfl (jk_wkS rfl (jk_wkS rfl (jk_wkS (jk_li ?_) (jk_wkS rfl (jk_wkN jk_wk0))))))
            show jk_sum (fun x => jB (md_hi g (md_Ro g) x && md_abv g x p)) k11 + jB (md_hi g (md_Ro g) (k11 : Int) && md_abv g (k11 : Int) p) = _
            rw [show md_hi g (md_Ro g) (k11 : Int) = true by assumption]
            unfold md_abv
            first | (rw [decide_eq_true (show 0 < md_HT g (k11 : Int) - md_HT g p ∨ (md_HT g (k11 : Int) - md_HT g p = 0 ∧ (k11 : Int) < p) by omega)]; rfl) | (rw [decide_eq_false (show ¬ (0 < md_HT g (k11 : Int) - md_HT g p ∨ (md_HT g (k11 : Int) - md_HT g p = 0 ∧ (k11 : Int) < p)) by omega)]; rfl)
          · refine jk_iload (q := 55) dX4_benchmarksAheadOf_53 rfl rfl ?_
            refine jk_iload_n (q := 56) dX4_benchmarksAheadOf_55 rfl rfl ?_
            refine jk_icmp_ge (q := 63) (q2 := 59) dX4_benchmarksAheadOf_56 rfl rfl (by first | assumption | decide | omega | exact jB_01 _ | exact jB_in _ | exact ⟨by omega, by omega⟩) (by first | assumption | decide | omega | exact jB_01 _ | exact jB_in _ | exact ⟨by omega, by omega⟩) (fun z5 => ?_) (fun z5 => ?_)
            · refine jk_iconst (q := 64) dX4_benchmarksAheadOf_63 rfl ?_
              refine jk_iadd (q := 65) dX4_benchmarksAheadOf_64 rfl ?_
              refine jk_istore3 (q := 66) dX4_benchmarksAheadOf_65 rfl rfl rfl ?_
              refine jk_iinc4 (q := 69) dX4_benchmarksAheadOf_66 rfl rfl rfl ?_
              refine jk_goto (q := 11) dX4_benchmarksAheadOf_69 rfl ?_
              refine jk_convw (ih11 (by omega) _ (fun a h9 => (hfrU a h9).trans (hfr1 a h9))) (jk_wkS rfl (jk_wkS rfl (jk_wkS rfl (jk_wkS (jk_li ?_) (jk_wkS rfl (jk_wkN jk_wk0))))))
              show jk_sum (fun x => jB (md_hi g (md_Ro g) x && md_abv g x p)) k11 + jB (md_hi g (md_Ro g) (k11 : Int) && md_abv g (k11 : Int) p) = _
              rw [show md_hi g (md_Ro g) (k11 : Int) = true by assumption]
              unfold md_abv
              first | (rw [decide_eq_true (show 0 < md_HT g (k11 : Int) - md_HT g p ∨ (md_HT g (k11 : Int) - md_HT g p = 0 ∧ (k11 : Int) < p) by omega)]; rfl) | (rw [decide_eq_false (show ¬ (0 < md_HT g (k11 : Int) - md_HT g p ∨ (md_HT g (k11 : Int) - md_HT g p = 0 ∧ (k11 : Int) < p)) by omega)]; rfl)
            · refine jk_iconst (q := 60) dX4_benchmarksAheadOf_59 rfl ?_
              refine jk_goto (q := 64) dX4_benchmarksAheadOf_60 rfl ?_
              refine jk_iadd (q := 65) dX4_benchmarksAheadOf_64 rfl ?_
              refine jk_istore3 (q := 66) dX4_benchmarksAheadOf_65 rfl rfl rfl ?_
              refine jk_iinc4 (q := 69) dX4_benchmarksAheadOf_66 rfl rfl rfl ?_
              refine jk_goto (q := 11) dX4_benchmarksAheadOf_69 rfl ?_
              refine jk_convw (ih11 (by omega) _ (fun a h9 => (hfrU a h9).trans (hfr1 a h9))) (jk_wkS rfl (jk_wkS rfl (jk_wkS rfl (jk_wkS (jk_li ?_) (jk_wkS rfl (jk_wkN jk_wk0))))))
              show jk_sum (fun x => jB (md_hi g (md_Ro g) x && md_abv g x p)) k11 + jB (md_hi g (md_Ro g) (k11 : Int) && md_abv g (k11 : Int) p) = _
              rw [show md_hi g (md_Ro g) (k11 : Int) = true by assumption]
              unfold md_abv
              first | (rw [decide_eq_true (show 0 < md_HT g (k11 : Int) - md_HT g p ∨ (md_HT g (k11 : Int) - md_HT g p = 0 ∧ (k11 : Int) < p) by omega)]; rfl) | (rw [decide_eq_false (show ¬ (0 < md_HT g (k11 : Int) - md_HT g p ∨ (md_HT g (k11 : Int) - md_HT g p = 0 ∧ (k11 : Int) < p)) by omega)]; rfl)
  exact jk_convw (L11 0 (Nat.zero_le _) σ' hfrT) (jk_wkS rfl (jk_wkS rfl (jk_wkS rfl (jk_wkS rfl (jk_wkS rfl (jk_wkN jk_wk0))))))
theorem c_X4_atRank {G : jk_G} {n : Nat} {t : jk_T} {σ : jk_I} {ρ : jk_P} {h f s : Nat} {g : Int → Int} {B r : Int} (hhe : he_at t ρ h f s) (hr : cl_rel σ s g) (hi : md_inv B g) (ho : fo_ok σ f g) (hwI : md_inw g) (hri : jk_in r) : jk_K G yX4_atRank mX4_atRank 0 0 [.ref h, jI r] n t σ ρ (he_Q h σ n t ρ (jI (jk_fnd (md_bhP g r) (g 0).toNat))) jk_no := by
  obtain ⟨⟨hh1, hh2, hh3⟩, ⟨hq1, hq2, hq3, hq4, hq5⟩, hwa, hfh⟩ := id hhe
  obtain ⟨⟨ha1, ha2, ha3⟩, ⟨hb1, hb2, hb3, hb4⟩, hf, hfw⟩ := id hwa
  obtain ⟨hf1, hf2, hf3, hf4, hs, hsf⟩ := id hf
  have i0 := hi.1
  have i1 := hi.2.1
  have i2 := hi.2.2.1.2
  obtain ⟨ho1, ho2, -⟩ := id ho
  have htr1 : ∀ l, 0 ≤ l ∧ l < 16 → md_T g l = 0 ∨ md_T g l = 1 := (md_kr_tr hi 50).1
  have htr2 : ∀ p, 0 ≤ p ∧ p < 10 → 0 ≤ md_Ro g p ∧ md_Ro g p < 10 := (md_kr_tr hi 50).2
  refine jk_entryB (ls := [some (.ref h), some (jI r), none]) jm_X4_atRank.1 rfl rfl rfl ?_
  refine jk_iconst (q := 1) dX4_atRank_0 rfl ?_
  refine jk_istore2 (q := 2) dX4_atRank_1 rfl rfl rfl ?_
  have L2 : ∀ k2 : Nat, k2 ≤ (g 0).toNat → ∀ (σ1 : jk_I), (hfr1 : ∀ a, a ≤ h ∨ h + 10 < a → σ1 a = σ a) → (hfd : jk_fnd (md_bhP g r) k2 = -1) → jk_J G mX4_atRank 2 [some (.ref h), some (jI r), some (jI (k2 : Int))] [] n t σ1 ρ 0 0 (he_Q h σ n t ρ (jI (jk_fnd (md_bhP g r) (g 0).toNat))) jk_no := by
    refine jk_loop _ (fun k2 hk2 ih2 => ?_)
    intro σ1 hfr1 hfd
    have hr1 : cl_rel σ1 s g := cl_rel_same i2 (fun a h8 h9 => hfr1 a (by omega)) hr
    have ho9 : fo_ok σ1 f g := wa_ok_same (fun a h8 h9 => hfr1 a (by omega)) ho
    refine jk_iload_n (q := 3) dX4_atRank_2 rfl rfl ?_
    refine jk_aload_n (q := 4) dX4_atRank_3 rfl rfl ?_
    refine jk_getA (q := 7) (k := 4) 0 0 rfl (by first | exact hh1 | exact hh2 | exact hh3 | exact ha1 | exact ha2 | exact ha3 | exact hf1 | exact hs.1 | exact hf2 _ _ rfl | exact hs.2.1 _ _ rfl | assumption) (by first | exact hq1 | exact hq2 | exact hq3 | exact hq4 | exact hq5 | exact hb1 | exact hb2 | exact hb3 | exact hb4 | exact hf4 | exact hf3 _ _ rfl | exact hs.2.2.1 _ _ rfl | assumption) rfl rfl jw_263 dX4_atRank_4 rfl ?_
    refine jk_getIR (q := 10) (k := 9) 0 0 rfl (by first | exact hh1 | exact hh2 | exact hh3 | exact ha1 | exact ha2 | exact ha3 | exact hf1 | exact hs.1 | exact hf2 _ _ rfl | exact hs.2.1 _ _ rfl | assumption) (by first | exact jk_row_same _ _ _ | ((repeat rewrite [jk_row_ne _ _ (by omega)]); first | exact jk_row_same _ _ _ | rfl)) rfl rfl jw_54 dX4_atRank_7 rfl ?_
    rw [hr1.1.1]
    refine jk_icmp_ge (q := 38) (q2 := 13) dX4_atRank_10 rfl rfl (by first | assumption | decide | omega | exact jB_01 _ | exact jB_in _ | exact ⟨by omega, by omega⟩) (by first | assumption | decide | omega | exact jB_01 _ | exact jB_in _ | exact ⟨by omega, by omega⟩) (fun z1 => ?_) (fun z1 => ?_)
    · refine jk_iconst (q := 39) dX4_atRank_38 rfl ?_
      exact jk_iret rfl dX4_atRank_39 (by exact ⟨by rw [show (g 0).toNat = k2 by omega, hfd], rfl, rfl, rfl, hfr1⟩)
    · refine jk_aload_n (q := 14) dX4_atRank_13 rfl rfl ?_
      refine jk_iload_n (q := 15) dX4_atRank_14 rfl rfl ?_
      refine jk_cV1p (q := 18) (c_X4_exists hhe hr1 hi ho9 ⟨by omega, by omega⟩) jm_X4_exists jw_933 rfl (by first | exact hh1 | exact hh2 | exact hh3 | exact ha1 | exact ha2 | exact ha3 | exact hf1 | exact hs.1 | exact hf2 _ _ rfl | exact hs.2.1 _ _ rfl | assumption) rfl rfl rfl dX4_atRank_15 rfl ?_
      refine jk_ifB_eq (q := 32) (q2 := 21) dX4_atRank_18 rfl rfl (fun z2 => ?_) (fun z2 => ?_)
      · refine jk_iinc2 (q := 35) dX4_atRank_32 rfl rfl rfl ?_
        refine jk_goto (q := 2) dX4_atRank_35 rfl ?_
        exact jk_convw (ih2 (by omega) σ1 hfr1 (jk_fnd_S hfd (by unfold md_bhP; rw [show md_hi g (md_Ro g) (k2 : Int) = false by assumption]; rfl))) (jk_wkS rfl (jk_wkS rfl (jk_wkS rfl jk_wk0)))
      · refine jk_aload_n (q := 22) dX4_atRank_21 rfl rfl ?_
        refine jk_iload_n (q := 23) dX4_atRank_22 rfl rfl ?_
        refine jk_cV1g (q := 26) (c_X4_benchmarksAheadOf hhe hr1 hi ho9 hwI ⟨by omega, by omega⟩ (by assumption)) jm_X4_benchmarksAheadOf jw_934 rfl (by first | exact hh1 | exact hh2 | exact hh3 | exact ha1 | exact ha2 | exact ha3 | exact hf1 | exact hs.1 | exact hf2 _ _ rfl | exact hs.2.1 _ _ rfl | assumption) rfl rfl (Nat.zero_le _) (Nat.zero_le _) rfl dX4_atRank_23 rfl (fun v' n' t' σ' ρ' hq => ?_) (fun _ _ _ _ _ h => h.elim)
        obtain ⟨rfl, hn9, ht9, hr9, hfrU⟩ := hq
        replace hn9 := hn9.symm; replace ht9 := ht9.symm; replace hr9 := hr9.symm; subst hn9 ht9 hr9
        simp only [Option.toList_some, Option.toList_none, List.cons_append, List.nil_append, Nat.sub_zero]
        have hcb := jk_sum_bd (f := fun x => jB (md_hi g (md_Ro g) x && md_abv g x (k2 : Int))) (a := 0) (b := 1) (fun i => by show 0 ≤ jB _ ∧ jB _ ≤ 1; cases (md_hi g (md_Ro g) i && md_abv g i (k2 : Int)) <;> decide) (g 0).toNat
        have hcb2 : 0 ≤ md_hcnt g (k2 : Int) ∧ md_hcnt g (k2 : Int) ≤ 16 := (by unfold md_hcnt; omega)
        refine jk_iload_n (q := 27) dX4_atRank_26 rfl rfl ?_
        refine jk_icmp_ne (q := 32) (q2 := 30) dX4_atRank_27 rfl rfl (by first | assumption | decide | omega | exact jB_01 _ | exact jB_in _ | exact ⟨by omega, by omega⟩) (by first | assumption | decide | omega | exact jB_01 _ | exact jB_in _ | exact ⟨by omega, by omega⟩) (fun z3 => ?_) (fun z3 => ?_)
        · refine jk_iinc2 (q := 35) dX4_atRank_32 rfl rfl rfl ?_
          refine jk_goto (q := 2) dX4_atRank_35 rfl ?_
          exact jk_convw (ih2 (by omega) _ (fun a h9 => (hfrU a h9).trans (hfr1 a h9)) (jk_fnd_S hfd (by unfold md_bhP; rw [decide_eq_false (show ¬ md_hcnt g (k2 : Int) = r by assumption), Bool.and_false]))) (jk_wkS rfl (jk_wkS rfl (jk_wkS rfl jk_wk0)))
        · refine jk_iload_n (q := 31) dX4_atRank_30 rfl rfl ?_
          exact jk_iret rfl dX4_atRank_31 (by exact ⟨by rw [jk_fnd_hit (k := k2) hfd (by unfold md_bhP; rw [show md_hi g (md_Ro g) (k2 : Int) = true by assumption, decide_eq_true (by assumption)]; rfl) _ (by omega)], rfl, rfl, rfl, fun a h9 => (hfrU a h9).trans (hfr1 a h9)⟩)
  exact jk_convw (L2 0 (Nat.zero_le _) σ (fun a _ => rfl) rfl) (jk_wkS rfl (jk_wkS rfl (jk_wkS rfl jk_wk0)))
end CH2
