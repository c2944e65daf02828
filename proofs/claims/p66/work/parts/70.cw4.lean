section CW4
def wa_LQ (w : Nat) (S : Int → Int) (n1 : Int) (σ : jk_I) (n : Nat) (t : jk_T) (ρ : jk_P) : jk_Q := fun v' n' t' σ' ρ' => v' = none ∧ n' = n ∧ t' = t ∧ ρ' = ρ ∧ (∀ a, a ≠ w → a ≠ w + 2 → a ≠ w + 4 → σ' a = σ a) ∧ ∃ c, wa_sq σ' w c S n1
def wa_TQ (w : Nat) (g : Int → Int) (a b : Int) (σ : jk_I) (n : Nat) (t : jk_T) (ρ : jk_P) : jk_Q := fun v' n' t' σ' ρ' => v' = none ∧ n' = n ∧ t' = t ∧ ρ' = ρ ∧ (∀ a, a ≠ w → a ≠ w + 2 → a ≠ w + 4 → σ' a = σ a) ∧ ∃ c : Nat, c ≤ 10 ∧ σ' w 4 = (c : Int) ∧ (∀ i : Nat, i < c → 0 ≤ σ' (w + 2) (i : Int) ∧ σ' (w + 2) (i : Int) < g 1) ∧ ∀ P, cm_pot g (md_T g) (md_cor g) P → jk_sum (fun i => σ' (w + 4) i * md_cor g (σ' (w + 2) i)) c = P b - P a
theorem wa_loop_sq {B : Int} {g : Int → Int} {l : Int} {J : Nat} {σ' : jk_I} {w : Nat} (hi : md_inv B g) (hwI : md_inw g) (hl : 0 ≤ l ∧ l < g 1) (hT : md_T g l = 0) (hK : (md_reach g (md_T g) (g (24 + l))).1 (g (40 + l)) = 1) (hp : cm_pth g (g (24 + l)) (g (40 + l)) J) (hok : md_ok g (md_reach g (md_T g) (g (24 + l))).2 (g (40 + l)) (g (24 + l)) J) (h4 : σ' w 4 = ((1 + J : Nat) : Int)) (h0 : σ' (w + 2) 0 = l ∧ σ' (w + 4) 0 = 1) (hpt : wa_pt σ' w 1 g (md_reach g (md_T g) (g (24 + l))).2 (g (40 + l)) J) : wa_sq σ' w (1 + J) (md_sgn g (md_T g) l) (g 1) := by
  have i0 := hi.1
  have i1 := hi.2.1
  obtain ⟨a1, a2, -⟩ := md_inv_ln hi (l := l) ⟨by omega, by omega⟩
  have hS := cm_pth_S hi hwI a1 a2 hK hp J (Nat.le_refl _)
  obtain ⟨d, -, hat⟩ := cm_pth_at hi hwI a1 a2 hK hp
  have hne := cm_pth_ne hi hwI a1 a2 hK hp
  have hne0 : ∀ i : Nat, i < J → (md_reach g (md_T g) (g (24 + l))).2 (md_wlk g (md_reach g (md_T g) (g (24 + l))).2 (g (40 + l)) i).1 ≠ l := fun i hi9 q => by
    have := (hat i hi9).2.1
    rw [q, hT] at this; exact absurd this (by decide)
  have eS : md_sgn g (md_T g) l = jk_set (md_wlk g (md_reach g (md_T g) (g (24 + l))).2 (g (40 + l)) J).2 l 1 := by
    unfold md_sgn
    have := md_cw_eq hok J 0 (10 - J) (by omega)
    rw [show J + (10 - J) = 10 by have := hp.1; omega] at this
    have e9 : md_wlk g (md_reach g (md_T g) (g (24 + l))).2 (g (40 + l)) 0 = (g (40 + l), fun _ => 0) := rfl
    rw [e9] at this
    rw [this]
  have h0' : σ' (w + 2) ((0 : Nat) : Int) = l ∧ σ' (w + 4) ((0 : Nat) : Int) = 1 := h0
  have hs : ∀ i : Nat, i < J → σ' (w + 2) ((i + 1 : Nat) : Int) = (md_reach g (md_T g) (g (24 + l))).2 (md_wlk g (md_reach g (md_T g) (g (24 + l))).2 (g (40 + l)) i).1 ∧ σ' (w + 4) ((i + 1 : Nat) : Int) = wa_sg g ((md_reach g (md_T g) (g (24 + l))).2 (md_wlk g (md_reach g (md_T g) (g (24 + l))).2 (g (40 + l)) i).1) (md_wlk g (md_reach g (md_T g) (g (24 + l))).2 (g (40 + l)) i).1 := fun i hi9 => by
    have := hpt i hi9
    rw [show 1 + i = i + 1 by omega] at this
    exact this
  rw [eS]
  refine ⟨h4, by have := hp.1; omega, fun i hi9 => ?_, fun i j hij hj => ?_, fun k hk hk0 => ?_⟩
  · cases i with
    | zero => rw [h0'.1, h0'.2, jk_set_at]; exact ⟨hl, rfl, Or.inl rfl⟩
    | succ i =>
      obtain ⟨e1, e2⟩ := hs i (by omega)
      rw [e1, e2, jk_set_ne _ _ (hne0 i (by omega)), hS.1 i (by omega)]
      exact ⟨(hat i (by omega)).1, rfl, wa_sg_pm _ _ _⟩
  · cases j with
    | zero => exact absurd hij (Nat.not_lt_zero i)
    | succ j =>
      rw [(hs j (by omega)).1]
      cases i with
      | zero => rw [h0'.1]; exact fun q => hne0 j (by omega) q.symm
      | succ i => rw [(hs i (by omega)).1]; exact hne i j (by omega) (by omega)
  · by_cases e : k = l
    · exact ⟨0, by omega, by rw [e]; exact h0'.1⟩
    · rw [jk_set_ne _ _ e] at hk0
      obtain ⟨i, hi9, e9⟩ := hS.2 k hk0
      exact ⟨i + 1, by omega, by rw [(hs i hi9).1]; exact e9⟩
theorem c_X11_traceLoop {G : jk_G} {n : Nat} {t : jk_T} {σ : jk_I} {ρ : jk_P} {w f s : Nat} {g : Int → Int} {B l : Int} (hwa : wa_at t ρ w f s) (hr : cl_rel σ s g) (hi : md_inv B g) (ho : fo_ok σ f g) (hwI : md_inw g) (hl : 0 ≤ l ∧ l < g 1) (hcl : md_clo g (md_T g) l = true) : jk_K G yX11_traceLoop mX11_traceLoop 0 0 [.ref w, jI l] n t σ ρ (wa_LQ w (md_sgn g (md_T g) l) (g 1) σ n t ρ) jk_no := by
  obtain ⟨⟨ha1, ha2, ha3⟩, ⟨hb1, hb2, hb3, hb4⟩, hf, hfw⟩ := id hwa
  obtain ⟨hf1, hf2, hf3, hf4, hs, hsf⟩ := id hf
  have i0 := hi.1
  have i1 := hi.2.1
  have i2 := hi.2.2.1.2
  obtain ⟨l1, l2, -⟩ := md_inv_ln hi (l := l) ⟨by omega, by omega⟩
  obtain ⟨q1, q2, -⟩ := hr.2.2.1 l hl
  have hT : md_T g l = 0 := by unfold md_clo at hcl; exact of_decide_eq_true ((Bool.and_eq_true _ _).mp hcl).2
  have hK : (md_reach g (md_T g) (g (24 + l))).1 (g (40 + l)) = 1 := by
    obtain ⟨⟨d, h1'⟩, -⟩ := md_rvd_rr (T := md_T g) hi hwI l1 10
    exact (md_clo_cnn hi hwI hl hcl _ (md_reach_cl hi hwI l1)).symm.trans h1'.1.2.1
  obtain ⟨J, hp, hok⟩ := cm_pth_ex hi hwI l1 l2 hK
  have hne9 := (hwI l hl).2.2.2
  have hlrb : l ≠ (md_reach g (md_T g) (g (24 + l))).2 (g (40 + l)) := fun q => by
    obtain ⟨dd, hpar⟩ := cm_par hi hwI l1
    have := ((hpar _ l2 hK).2 (fun z => hne9 z.symm)).2.1
    rw [← q, hT] at this; exact absurd this (by decide)
  refine jk_entryB (ls := [some (.ref w), some (jI l)]) jm_X11_traceLoop.1 rfl rfl rfl ?_
  refine jk_aload_n (q := 1) dX11_traceLoop_0 rfl rfl ?_
  refine jk_iconst (q := 2) dX11_traceLoop_1 rfl ?_
  refine jk_putIR (q := 5) (k := 11) 4 4 rfl (by first | exact ha1 | exact ha2 | exact ha3 | exact hf1 | exact hs.1 | exact hf2 _ _ rfl | exact hs.2.1 _ _ rfl | assumption) (by first | exact jk_row_same _ _ _ | ((repeat rewrite [jk_row_ne _ _ (by omega)]); first | exact jk_row_same _ _ _ | rfl)) rfl rfl rfl jw_224 dX11_traceLoop_2 rfl ?_
  refine jk_aload_n (q := 6) dX11_traceLoop_5 rfl rfl ?_
  refine jk_iload_n (q := 7) dX11_traceLoop_6 rfl rfl ?_
  refine jk_aload_n (q := 8) dX11_traceLoop_7 rfl rfl ?_
  refine jk_getA (q := 11) (k := 11) 0 0 rfl (by first | exact ha1 | exact ha2 | exact ha3 | exact hf1 | exact hs.1 | exact hf2 _ _ rfl | exact hs.2.1 _ _ rfl | assumption) (by first | exact hb1 | exact hb2 | exact hb3 | exact hb4 | exact hf4 | exact hf3 _ _ rfl | exact hs.2.2.1 _ _ rfl | assumption) rfl rfl jw_218 dX11_traceLoop_8 rfl ?_
  refine jk_getA (q := 14) (k := 9) 4 4 rfl (by first | exact ha1 | exact ha2 | exact ha3 | exact hf1 | exact hs.1 | exact hf2 _ _ rfl | exact hs.2.1 _ _ rfl | assumption) (by first | exact hb1 | exact hb2 | exact hb3 | exact hb4 | exact hf4 | exact hf3 _ _ rfl | exact hs.2.2.1 _ _ rfl | assumption) rfl rfl jw_74 dX11_traceLoop_11 rfl ?_
  refine jk_iload_n (q := 15) dX11_traceLoop_14 rfl rfl ?_
  refine jk_ialdR (q := 16) (by first | exact ha1 | exact ha2 | exact ha3 | exact hf1 | exact hs.1 | exact hf2 _ _ rfl | exact hs.2.1 _ _ rfl | assumption) (by first | exact jk_row_same _ _ _ | ((repeat rewrite [jk_row_ne _ _ (by omega)]); first | exact jk_row_same _ _ _ | rfl)) (by first | assumption | decide | omega | exact jB_01 _ | exact jB_in _ | exact ⟨by omega, by omega⟩) dX11_traceLoop_15 rfl ?_
  rw [q1]
  refine jk_cV2p (q := 19) (c_X11_add (l := l) (p := g (24 + l)) (c := 0) hwa (cl_rel_same i2 (fun a h8 h9 => by rw [jk_row_ne _ _ (by omega)]) hr) hi (by rw [jk_row_same, jk_set_at]) ⟨by omega, by omega⟩ hl ⟨by omega, by omega⟩) jm_X11_add jw_539 rfl (by first | exact ha1 | exact ha2 | exact ha3 | exact hf1 | exact hs.1 | exact hf2 _ _ rfl | exact hs.2.1 _ _ rfl | assumption) rfl rfl rfl dX11_traceLoop_16 rfl ?_
  refine jk_pop (q := 20) dX11_traceLoop_19 rfl rfl ?_
  obtain ⟨σ2, hs2⟩ : ∃ σ2, σ2 = wa_up (jk_row σ w (jk_set (σ w) 4 0)) w g 0 l (g (24 + l)) := ⟨_, rfl⟩
  rw [← hs2]
  have hat := wa_up_at (jk_row σ w (jk_set (σ w) 4 0)) w g 0 l (g (24 + l))
  rw [← hs2] at hat
  have hfr2 : ∀ a, a ≠ w → a ≠ w + 2 → a ≠ w + 4 → σ2 a = σ a := fun a a1 a2 a3 => by rw [hat.2.2.2 a a1 a2 a3, jk_row_ne _ _ a1]
  have hr2 : cl_rel σ2 s g := cl_rel_same i2 (fun a h8 h9 => hfr2 a (by omega) (by omega) (by omega)) hr
  have ho2 : fo_ok σ2 f g := wa_ok_same (fun a h8 h9 => hfr2 a (by omega) (by omega) (by omega)) ho
  obtain ⟨u1, u2, -⟩ := hr2.2.2.1 l hl
  refine jk_aload_n (q := 21) dX11_traceLoop_20 rfl rfl ?_
  refine jk_aload_n (q := 22) dX11_traceLoop_21 rfl rfl ?_
  refine jk_getA (q := 25) (k := 11) 0 0 rfl (by first | exact ha1 | exact ha2 | exact ha3 | exact hf1 | exact hs.1 | exact hf2 _ _ rfl | exact hs.2.1 _ _ rfl | assumption) (by first | exact hb1 | exact hb2 | exact hb3 | exact hb4 | exact hf4 | exact hf3 _ _ rfl | exact hs.2.2.1 _ _ rfl | assumption) rfl rfl jw_218 dX11_traceLoop_22 rfl ?_
  refine jk_getA (q := 28) (k := 9) 5 5 rfl (by first | exact ha1 | exact ha2 | exact ha3 | exact hf1 | exact hs.1 | exact hf2 _ _ rfl | exact hs.2.1 _ _ rfl | assumption) (by first | exact hb1 | exact hb2 | exact hb3 | exact hb4 | exact hf4 | exact hf3 _ _ rfl | exact hs.2.2.1 _ _ rfl | assumption) rfl rfl jw_80 dX11_traceLoop_25 rfl ?_
  refine jk_iload_n (q := 29) dX11_traceLoop_28 rfl rfl ?_
  refine jk_ialdR (q := 30) (by first | exact ha1 | exact ha2 | exact ha3 | exact hf1 | exact hs.1 | exact hf2 _ _ rfl | exact hs.2.1 _ _ rfl | assumption) (by first | exact jk_row_same _ _ _ | ((repeat rewrite [jk_row_ne _ _ (by omega)]); first | exact jk_row_same _ _ _ | rfl)) (by first | assumption | decide | omega | exact jB_01 _ | exact jB_in _ | exact ⟨by omega, by omega⟩) dX11_traceLoop_29 rfl ?_
  rw [u2]
  refine jk_aload_n (q := 31) dX11_traceLoop_30 rfl rfl ?_
  refine jk_getA (q := 34) (k := 11) 0 0 rfl (by first | exact ha1 | exact ha2 | exact ha3 | exact hf1 | exact hs.1 | exact hf2 _ _ rfl | exact hs.2.1 _ _ rfl | assumption) (by first | exact hb1 | exact hb2 | exact hb3 | exact hb4 | exact hf4 | exact hf3 _ _ rfl | exact hs.2.2.1 _ _ rfl | assumption) rfl rfl jw_218 dX11_traceLoop_31 rfl ?_
  refine jk_getA (q := 37) (k := 9) 4 4 rfl (by first | exact ha1 | exact ha2 | exact ha3 | exact hf1 | exact hs.1 | exact hf2 _ _ rfl | exact hs.2.1 _ _ rfl | assumption) (by first | exact hb1 | exact hb2 | exact hb3 | exact hb4 | exact hf4 | exact hf3 _ _ rfl | exact hs.2.2.1 _ _ rfl | assumption) rfl rfl jw_74 dX11_traceLoop_34 rfl ?_
  refine jk_iload_n (q := 38) dX11_traceLoop_37 rfl rfl ?_
  refine jk_ialdR (q := 39) (by first | exact ha1 | exact ha2 | exact ha3 | exact hf1 | exact hs.1 | exact hf2 _ _ rfl | exact hs.2.1 _ _ rfl | assumption) (by first | exact jk_row_same _ _ _ | ((repeat rewrite [jk_row_ne _ _ (by omega)]); first | exact jk_row_same _ _ _ | rfl)) (by first | assumption | decide | omega | exact jB_01 _ | exact jB_in _ | exact ⟨by omega, by omega⟩) dX11_traceLoop_38 rfl ?_
  rw [u1]
  refine jk_iconst (q := 40) dX11_traceLoop_39 rfl ?_
  have hcall : jk_K G yX11_walk (mWalk 14) 0 0 [.ref w, jI (g (40 + l)), jI (g (24 + l)), jI 0] n t σ2 ρ (wa_Q w g (md_reach g (md_T g) (g (24 + l))).2 (g (40 + l)) 1 J true σ2 n t ρ) jk_no := by
    have h := c_walk (G := G) (n := n) hwa hi hwI l1 10 σ2 1 J (g (40 + l)) true 14 (by omega) hr2 ho2 (by rw [hat.1, jk_set_at]; rfl) (by omega) l2 hK (fun _ => by rw [show ((1 : Nat) : Int) - 1 = 0 by decide, hat.2.1, jk_set_at]; exact ⟨by omega, by omega⟩) ⟨fun h9 => absurd h9 (by decide), fun _ => ⟨hp.1, hp.2.1, hp.2.2, Or.inr (Or.inr (by rw [show ((1 : Nat) : Int) - 1 = 0 by decide, hat.2.1, jk_set_at]; exact hlrb))⟩⟩
    rw [show (10 : Int) - ((10 : Nat) : Int) = 0 by decide] at h
    exact h
  refine jk_cS4g (q := 43) (hcall) (jm_walk 14) jw_543 rfl rfl (Nat.zero_le _) (Nat.zero_le _) rfl dX11_traceLoop_40 rfl (fun v' n' t' σ' ρ' hq => ?_) (fun _ _ _ _ _ h => h.elim)
  obtain ⟨rfl, hn9, ht9, hr9, hfrU, hU0, hU1⟩ := hq
  replace hn9 := hn9.symm; replace ht9 := ht9.symm; replace hr9 := hr9.symm; subst hn9 ht9 hr9
  simp only [Option.toList_some, Option.toList_none, List.cons_append, List.nil_append, Nat.sub_zero]
  refine jk_pop (q := 44) dX11_traceLoop_43 rfl rfl ?_
  obtain ⟨v1, v2⟩ := hU1 rfl
  exact jk_ret rfl dX11_traceLoop_44 (by 
      obtain ⟨v3, v4⟩ := hfrU.2 0 ⟨by omega, by omega⟩
      exact ⟨rfl, rfl, rfl, rfl, fun a a1 a2 a3 => by rw [hfrU.1 a a1 a2 a3, hfr2 a a1 a2 a3], 1 + J, wa_loop_sq hi hwI hl hT hK hp hok (by rw [v1, jk_set_at]) ⟨by rw [v3, hat.2.1, jk_set_at], by rw [v4, hat.2.2.1, jk_set_at]; unfold wa_sg; rw [if_pos rfl]⟩ v2⟩)
theorem c_X11_trace {G : jk_G} {n : Nat} {t : jk_T} {σ : jk_I} {ρ : jk_P} {w f s : Nat} {g : Int → Int} {B a b : Int} (hwa : wa_at t ρ w f s) (hr : cl_rel σ s g) (hi : md_inv B g) (ho : fo_ok σ f g) (hwI : md_inw g) (ha : 0 ≤ a ∧ a < g 0) (hb : 0 ≤ b ∧ b < g 0) (hab : md_Ro g a = md_Ro g b) : jk_K G yX11_trace mX11_trace 0 0 [.ref w, jI a, jI b] n t σ ρ (wa_TQ w g a b σ n t ρ) jk_no := by
  obtain ⟨⟨ha1, ha2, ha3⟩, ⟨hb1, hb2, hb3, hb4⟩, hf, hfw⟩ := id hwa
  obtain ⟨hf1, hf2, hf3, hf4, hs, hsf⟩ := id hf
  have i0 := hi.1
  have i1 := hi.2.1
  have i2 := hi.2.2.1.2
  have ha9 : 0 ≤ a ∧ a < 10 := ⟨ha.1, by omega⟩
  have hb9 : 0 ≤ b ∧ b < 10 := ⟨hb.1, by omega⟩
  have hK : (md_reach g (md_T g) b).1 a = 1 := by
    obtain ⟨⟨d, h1'⟩, -⟩ := md_rvd_rr (T := md_T g) hi hwI hb9 10
    exact ((cm_T (cm_pt_of hi hwI)).1.2.2.2.1 a b ha hb hab _ (md_reach_cl hi hwI hb9)).trans h1'.1.2.1
  obtain ⟨J, hp, hok⟩ := cm_pth_ex hi hwI hb9 ha9 hK
  obtain ⟨dd, -, hpa⟩ := cm_pth_at hi hwI hb9 ha9 hK hp
  refine jk_entryB (ls := [some (.ref w), some (jI a), some (jI b)]) jm_X11_trace.1 rfl rfl rfl ?_
  refine jk_aload_n (q := 1) dX11_trace_0 rfl rfl ?_
  refine jk_iconst (q := 2) dX11_trace_1 rfl ?_
  refine jk_putIR (q := 5) (k := 11) 4 4 rfl (by first | exact ha1 | exact ha2 | exact ha3 | exact hf1 | exact hs.1 | exact hf2 _ _ rfl | exact hs.2.1 _ _ rfl | assumption) (by first | exact jk_row_same _ _ _ | ((repeat rewrite [jk_row_ne _ _ (by omega)]); first | exact jk_row_same _ _ _ | rfl)) rfl rfl rfl jw_224 dX11_trace_2 rfl ?_
  refine jk_aload_n (q := 6) dX11_trace_5 rfl rfl ?_
  refine jk_iload_n (q := 7) dX11_trace_6 rfl rfl ?_
  refine jk_iload_n (q := 8) dX11_trace_7 rfl rfl ?_
  refine jk_iconst (q := 9) dX11_trace_8 rfl ?_
  have hr1 : cl_rel (jk_row σ w (jk_set (σ w) 4 0)) s g := cl_rel_same i2 (fun a h8 h9 => by rw [jk_row_ne _ _ (by omega)]) hr
  have ho1 : fo_ok (jk_row σ w (jk_set (σ w) 4 0)) f g := wa_ok_same (fun a h8 h9 => by rw [jk_row_ne _ _ (by omega)]) ho
  have hcall : jk_K G yX11_walk (mWalk 14) 0 0 [.ref w, jI a, jI b, jI 0] n t (jk_row σ w (jk_set (σ w) 4 0)) ρ (wa_Q w g (md_reach g (md_T g) b).2 a 0 J true (jk_row σ w (jk_set (σ w) 4 0)) n t ρ) jk_no := by
    have h := c_walk (G := G) (n := n) hwa hi hwI hb9 10 (jk_row σ w (jk_set (σ w) 4 0)) 0 J a true 14 (by omega) hr1 ho1 (by rw [jk_row_same, jk_set_at]; rfl) (by omega) ha9 hK (fun h9 => absurd h9 (by decide)) ⟨fun h9 => absurd h9 (by decide), fun _ => ⟨hp.1, hp.2.1, hp.2.2, Or.inr (Or.inl rfl)⟩⟩
    rw [show (10 : Int) - ((10 : Nat) : Int) = 0 by decide] at h
    exact h
  refine jk_cS4g (q := 12) (hcall) (jm_walk 14) jw_543 rfl rfl (Nat.zero_le _) (Nat.zero_le _) rfl dX11_trace_9 rfl (fun v' n' t' σ' ρ' hq => ?_) (fun _ _ _ _ _ h => h.elim)
  obtain ⟨rfl, hn9, ht9, hr9, hfrU, hU0, hU1⟩ := hq
  replace hn9 := hn9.symm; replace ht9 := ht9.symm; replace hr9 := hr9.symm; subst hn9 ht9 hr9
  simp only [Option.toList_some, Option.toList_none, List.cons_append, List.nil_append, Nat.sub_zero]
  refine jk_pop (q := 13) dX11_trace_12 rfl rfl ?_
  obtain ⟨v1, v2⟩ := hU1 rfl
  exact jk_ret rfl dX11_trace_13 (by 
      have v2' : ∀ i : Nat, i < J → _ := fun i hi9 => by have := v2 i hi9; rw [show 0 + i = i by omega] at this; exact this
      exact ⟨rfl, rfl, rfl, rfl, fun a a1 a2 a3 => by rw [hfrU.1 a a1 a2 a3, jk_row_ne _ _ a1], J, hp.1, by rw [v1, jk_set_at]; omega, fun i hi9 => by rw [(v2' i hi9).1]; exact (hpa i hi9).1, fun P hP => by rw [cm_pth_rise hi hwI hb9 ha9 hK hp hP v2' J (Nat.le_refl _), hp.2.1]⟩)
end CW4
