section CW2
abbrev mWalk (e : Nat) : jk_M := (RX11, cX11_walk, 6, (some FieldType.boolean), [], false, e)
theorem jm_walk (e : Nat) : jk_mS yX11_walk (mWalk e) 4 := jm_X11_walk
/-- outside the way, and below c in it, nothing has changed -/
def wa_fr (w c : Nat) (σ σ1 : jk_I) : Prop := (∀ a, a ≠ w → a ≠ w + 2 → a ≠ w + 4 → σ1 a = σ a) ∧ ∀ i : Int, 0 ≤ i ∧ i < (c : Int) → σ1 (w + 2) i = σ (w + 2) i ∧ σ1 (w + 4) i = σ (w + 4) i
def wa_sg (g : Int → Int) (k v : Int) : Int := if g (24 + k) = v then 1 else -1
/-- the steps of the path from v, behind the first c entries -/
def wa_pt (σ1 : jk_I) (w c : Nat) (g rb : Int → Int) (v : Int) (J : Nat) : Prop := ∀ i : Nat, i < J → σ1 (w + 2) ((c + i : Nat) : Int) = rb (md_wlk g rb v i).1 ∧ σ1 (w + 4) ((c + i : Nat) : Int) = wa_sg g (rb (md_wlk g rb v i).1) (md_wlk g rb v i).1
def wa_Q (w : Nat) (g rb : Int → Int) (v : Int) (c J : Nat) (b : Bool) (σ : jk_I) (n : Nat) (t : jk_T) (ρ : jk_P) : jk_Q := fun v' n' t' σ' ρ' => v' = some (jI (jB b)) ∧ n' = n ∧ t' = t ∧ ρ' = ρ ∧ wa_fr w c σ σ' ∧ (b = false → σ' w = σ w) ∧ (b = true → σ' w = jk_set (σ w) 4 ((c + J : Nat) : Int) ∧ wa_pt σ' w c g rb v J)
theorem wa_fr_r (w c : Nat) (σ : jk_I) : wa_fr w c σ σ := ⟨fun _ _ _ _ => rfl, fun _ _ => ⟨rfl, rfl⟩⟩
theorem wa_ok_same {σ σ1 : jk_I} {f : Nat} {g : Int → Int} (h : ∀ a, f ≤ a → a ≤ f + 8 → σ1 a = σ a) (ho : fo_ok σ f g) : fo_ok σ1 f g := by
  obtain ⟨h1, h2, N, h3, h4, h5⟩ := ho
  exact ⟨fun l hl => by rw [h (f + 6) (by omega) (by omega)]; exact h1 l hl, fun p hp => by rw [h (f + 8) (by omega) (by omega)]; exact h2 p hp, N, h3, by rw [h f (by omega) (by omega)]; exact h4, by rw [h (f + 2) (by omega) (by omega)]; exact h5⟩
theorem wa_up_at (σ : jk_I) (w : Nat) (g : Int → Int) (c l p : Int) : wa_up σ w g c l p w = jk_set (σ w) 4 (c + 1) ∧ wa_up σ w g c l p (w + 2) = jk_set (σ (w + 2)) c l ∧ wa_up σ w g c l p (w + 4) = jk_set (σ (w + 4)) c (wa_sg g l p) ∧ ∀ a, a ≠ w → a ≠ w + 2 → a ≠ w + 4 → wa_up σ w g c l p a = σ a := by
  unfold wa_up
  exact ⟨jk_row_same _ _ _, by rw [jk_row_ne _ _ (by omega), jk_row_ne _ _ (by omega), jk_row_same], by rw [jk_row_ne _ _ (by omega), jk_row_same]; rfl, fun a a1 a2 a3 => by rw [jk_row_ne _ _ a1, jk_row_ne _ _ a3, jk_row_ne _ _ a2]⟩
/-- what must hold where a walk begins: b: it will end at f0, after J steps -/
def wa_in (σ : jk_I) (w : Nat) (g rb : Int → Int) (f0 v : Int) (c J d : Nat) (b : Bool) : Prop := (b = false → v ≠ f0 ∧ 1 ≤ c ∧ σ (w + 2) ((c : Int) - 1) = rb v) ∧ (b = true → J ≤ d ∧ (md_wlk g rb v J).1 = f0 ∧ (∀ i, i < J → (md_wlk g rb v i).1 ≠ f0) ∧ (v = f0 ∨ c = 0 ∨ σ (w + 2) ((c : Int) - 1) ≠ rb v))
set_option maxHeartbeats 1000000 in
theorem c_walk {G : jk_G} {n : Nat} {t : jk_T} {ρ : jk_P} {w f s : Nat} {g : Int → Int} {B f0 : Int} (hwa : wa_at t ρ w f s) (hi : md_inv B g) (hwI : md_inw g) (hf0 : 0 ≤ f0 ∧ f0 < 10) : ∀ (d : Nat), ∀ (σ : jk_I) (c J : Nat) (v : Int) (b : Bool) (e : Nat), d + 1 ≤ e → cl_rel σ s g → fo_ok σ f g → σ w 4 = (c : Int) → c + d ≤ 11 → (0 ≤ v ∧ v < 10) → (md_reach g (md_T g) f0).1 v = 1 → (0 < (c : Int) → 0 ≤ σ (w + 2) ((c : Int) - 1) ∧ σ (w + 2) ((c : Int) - 1) < 16) → wa_in σ w g (md_reach g (md_T g) f0).2 f0 v c J d b → jk_K G yX11_walk (mWalk e) 0 0 [.ref w, jI v, jI f0, jI (10 - ((d : Nat) : Int))] n t σ ρ (wa_Q w g (md_reach g (md_T g) f0).2 v c J b σ n t ρ) jk_no := by
  obtain ⟨⟨ha1, ha2, ha3⟩, ⟨hb1, hb2, hb3, hb4⟩, hf, hfw⟩ := id hwa
  obtain ⟨hf1, hf2, hf3, hf4, hs, hsf⟩ := id hf
  have i0 := hi.1
  have i1 := hi.2.1
  have i2 := hi.2.2.1.2
  obtain ⟨dd, hpar⟩ := cm_par hi hwI hf0
  intro d
  induction d with
  | zero =>
    intro σ c J v b e he hr ho hc hcd hv hKv hLn hin
    refine jk_entryB (ls := [some (.ref w), some (jI v), some (jI f0), some (jI (10 - ((0 : Nat) : Int))), none, none]) (jm_walk e).1 rfl rfl rfl ?_
    refine jk_iload_n (q := 1) dX11_walk_0 rfl rfl ?_
    refine jk_iload_n (q := 2) dX11_walk_1 rfl rfl ?_
    refine jk_icmp_ne (q := 7) (q2 := 5) dX11_walk_2 rfl rfl (by first | assumption | decide | omega | exact jB_01 _ | exact jB_in _ | exact ⟨by omega, by omega⟩) (by first | assumption | decide | omega | exact jB_01 _ | exact jB_in _ | exact ⟨by omega, by omega⟩) (fun z1 => ?_) (fun z1 => ?_)
    · refine jk_iload_n (q := 8) dX11_walk_7 rfl rfl ?_
      refine jk_bipush (q := 10) (y := 10) dX11_walk_8 rfl (by decide) ?_
      refine jk_icmp_lt (q := 15) (q2 := 13) dX11_walk_10 rfl rfl (by first | assumption | decide | omega | exact jB_01 _ | exact jB_in _ | exact ⟨by omega, by omega⟩) (by first | assumption | decide | omega | exact jB_01 _ | exact jB_in _ | exact ⟨by omega, by omega⟩) (fun z2 => ?_) (fun z2 => ?_)
      · exact absurd (show (10 : Int) ≤ 10 - ((0 : Nat) : Int) by omega) (by omega)
      · refine jk_iconst (q := 14) dX11_walk_13 rfl ?_
        exact jk_zret rfl (by first | assumption | decide | omega | exact jB_01 _ | exact jB_in _ | exact ⟨by omega, by omega⟩) dX11_walk_14 (by 
            have hb : b = false := by
              cases hb9 : b with
              | false => rfl
              | true =>
                obtain ⟨x1, x2, x3, x4⟩ := hin.2 hb9
                have hJ : J = 0 := by omega
                subst hJ
                exact absurd x2 (by assumption)
            exact ⟨by first | (rw [hb]; done) | (rw [hb]; rfl), rfl, rfl, rfl, wa_fr_r w c σ, fun _ => rfl, fun h9 => absurd (hb.symm.trans h9) (by decide)⟩)
    · refine jk_iconst (q := 6) dX11_walk_5 rfl ?_
      exact jk_zret rfl (by first | assumption | decide | omega | exact jB_01 _ | exact jB_in _ | exact ⟨by omega, by omega⟩) dX11_walk_6 (by 
          have hb : b = true := by
            cases hb9 : b with
            | true => rfl
            | false => exact absurd (by assumption) (hin.1 hb9).1
          obtain ⟨x1, x2, x3, x4⟩ := hin.2 hb
          have hJ : J = 0 := Classical.byContradiction (fun q => x3 0 (by omega) (show v = f0 by assumption))
          subst hJ
          exact ⟨by first | (rw [hb]; done) | (rw [hb]; rfl), rfl, rfl, rfl, wa_fr_r w c σ, fun h9 => absurd (hb.symm.trans h9) (by decide), fun _ => ⟨by show σ w = jk_set (σ w) 4 (c : Int); exact (cm_set_id hc).symm, fun i hi9 => absurd hi9 (Nat.not_lt_zero i)⟩⟩)
  | succ d ih =>
    intro σ c J v b e he hr ho hc hcd hv hKv hLn hin
    obtain ⟨e2, rfl⟩ : ∃ e2, e = e2 + 1 := ⟨e - 1, by omega⟩
    refine jk_entryB (ls := [some (.ref w), some (jI v), some (jI f0), some (jI (10 - ((d + 1 : Nat) : Int))), none, none]) (jm_walk (e2 + 1)).1 rfl rfl rfl ?_
    refine jk_iload_n (q := 1) dX11_walk_0 rfl rfl ?_
    refine jk_iload_n (q := 2) dX11_walk_1 rfl rfl ?_
    refine jk_icmp_ne (q := 7) (q2 := 5) dX11_walk_2 rfl rfl (by first | assumption | decide | omega | exact jB_01 _ | exact jB_in _ | exact ⟨by omega, by omega⟩) (by first | assumption | decide | omega | exact jB_01 _ | exact jB_in _ | exact ⟨by omega, by omega⟩) (fun z1 => ?_) (fun z1 => ?_)
    · refine jk_iload_n (q := 8) dX11_walk_7 rfl rfl ?_
      refine jk_bipush (q := 10) (y := 10) dX11_walk_8 rfl (by decide) ?_
      refine jk_icmp_lt (q := 15) (q2 := 13) dX11_walk_10 rfl rfl (by first | assumption | decide | omega | exact jB_01 _ | exact jB_in _ | exact ⟨by omega, by omega⟩) (by first | assumption | decide | omega | exact jB_01 _ | exact jB_in _ | exact ⟨by omega, by omega⟩) (fun z2 => ?_) (fun z2 => ?_)
      · have hvf9 : v ≠ f0 := by assumption
        have hpv := (hpar v hv hKv).2 hvf9
        have hpar9 : ∀ {P : Prop}, P → 0 ≤ (md_reach g (md_T g) f0).2 v ∧ (md_reach g (md_T g) f0).2 v < g 1 := fun _ => hpv.1
        have hpar8 : ∀ {P : Prop}, P → md_T g ((md_reach g (md_T g) f0).2 v) = 1 ∧ (g (24 + (md_reach g (md_T g) f0).2 v) = v ∨ g (40 + (md_reach g (md_T g) f0).2 v) = v) := fun _ => ⟨hpv.2.1, hpv.2.2.1⟩
        refine jk_iconst (q := 16) dX11_walk_15 rfl ?_
        refine jk_istore4 (q := 18) dX11_walk_16 rfl rfl rfl ?_
        have L18 : ∀ k18 : Nat, k18 ≤ (g 1).toNat → ∀ (σ1 : jk_I), (hfr1 : wa_fr w c σ σ1) → (hw1 : σ1 w = σ w) → (hkb : b = true → (k18 : Int) ≤ (md_reach g (md_T g) f0).2 v) → jk_J G (mWalk (e2 + 1)) 18 [some (.ref w), some (jI v), some (jI f0), some (jI (10 - ((d + 1 : Nat) : Int))), some (jI (k18 : Int)), none] [] n t σ1 ρ 0 0 (wa_Q w g (md_reach g (md_T g) f0).2 v c J b σ n t ρ) jk_no := by
          refine jk_loop _ (fun k18 hk18 ih18 => ?_)
          intro σ1 hfr1 hw1 hkb
          have hr1 : cl_rel σ1 s g := cl_rel_same i2 (fun a h8 h9 => hfr1.1 a (by omega) (by omega) (by omega)) hr
          have ho1 : fo_ok σ1 f g := wa_ok_same (fun a h8 h9 => hfr1.1 a (by omega) (by omega) (by omega)) ho
          have hc1 : σ1 w 4 = (c : Int) := by rw [hw1]; exact hc
          refine jk_iload (q := 20) dX11_walk_18 rfl rfl ?_
          refine jk_aload_n (q := 21) dX11_walk_20 rfl rfl ?_
          refine jk_getA (q := 24) (k := 11) 0 0 rfl (by first | exact ha1 | exact ha2 | exact ha3 | exact hf1 | exact hs.1 | exact hf2 _ _ rfl | exact hs.2.1 _ _ rfl | assumption) (by first | exact hb1 | exact hb2 | exact hb3 | exact hb4 | exact hf4 | exact hf3 _ _ rfl | exact hs.2.2.1 _ _ rfl | assumption) rfl rfl jw_218 dX11_walk_21 rfl ?_
          refine jk_getIR (q := 27) (k := 9) 3 3 rfl (by first | exact ha1 | exact ha2 | exact ha3 | exact hf1 | exact hs.1 | exact hf2 _ _ rfl | exact hs.2.1 _ _ rfl | assumption) (by first | exact jk_row_same _ _ _ | ((repeat rewrite [jk_row_ne _ _ (by omega)]); first | exact jk_row_same _ _ _ | exact hw1 | rfl)) rfl rfl jw_69 dX11_walk_24 rfl ?_
          rw [hr1.1.2.1]
          refine jk_icmp_ge (q := 80) (q2 := 30) dX11_walk_27 rfl rfl (by first | assumption | decide | omega | exact jB_01 _ | exact jB_in _ | exact ⟨by omega, by omega⟩) (by first | assumption | decide | omega | exact jB_01 _ | exact jB_in _ | exact ⟨by omega, by omega⟩) (fun z3 => ?_) (fun z3 => ?_)
          · refine jk_iconst (q := 81) dX11_walk_80 rfl ?_
            exact jk_zret rfl (by first | assumption | decide | omega | exact jB_01 _ | exact jB_in _ | exact ⟨by omega, by omega⟩) dX11_walk_81 (by 
                have hb : b = false := by
                  cases hb9 : b with
                  | false => rfl
                  | true => have := hkb hb9; have := (hpar9 (hin.2 hb9)).2; omega
                exact ⟨by first | (rw [hb]; done) | (rw [hb]; rfl), rfl, rfl, rfl, hfr1, fun _ => hw1, fun h9 => absurd (hb.symm.trans h9) (by decide)⟩)
          · have hLn1 : 0 < (c : Int) → 0 ≤ σ1 (w + 2) ((c : Int) - 1) ∧ σ1 (w + 2) ((c : Int) - 1) < 16 := fun hc9 => by rw [(hfr1.2 _ ⟨by omega, by omega⟩).1]; exact hLn hc9
            refine jk_aload_n (q := 31) dX11_walk_30 rfl rfl ?_
            refine jk_iload (q := 33) dX11_walk_31 rfl rfl ?_
            refine jk_iload_n (q := 34) dX11_walk_33 rfl rfl ?_
            refine jk_cV2p (q := 37) (c_X11_leadsOn hwa hr1 hi ho1 hc1 ⟨by omega, by omega⟩ hLn1 ⟨by omega, by omega⟩ ⟨by omega, by omega⟩) jm_X11_leadsOn jw_546 rfl (by first | exact ha1 | exact ha2 | exact ha3 | exact hf1 | exact hs.1 | exact hf2 _ _ rfl | exact hs.2.1 _ _ rfl | assumption) (jk_ble (by show 0 + 1 ≤ e2 + 1; omega)) rfl rfl dX11_walk_34 rfl ?_
            refine jk_ifB_eq (q := 74) (q2 := 40) dX11_walk_37 rfl rfl (fun z4 => ?_) (fun z4 => ?_)
            · refine jk_iinc4 (q := 77) dX11_walk_74 rfl rfl rfl ?_
              refine jk_goto (q := 18) dX11_walk_77 rfl ?_
              exact jk_convw (ih18 (by omega) σ1 hfr1 hw1 (fun hb => by have := hkb hb; have hne : (k18 : Int) ≠ (md_reach g (md_T g) f0).2 v := (fun q => by have hno := of_decide_eq_false (show _ = false by assumption); obtain ⟨x1, x2, x3, x4⟩ := hin.2 hb; have hp9 := hpar8 (hin.2 hb); rw [← q] at hp9; refine hno ⟨hp9.1, fun y => ?_, by omega, hp9.2⟩; rcases x4 with x4 | x4 | x4; exact hvf9 x4; omega; exact x4 (by rw [← (hfr1.2 _ ⟨by omega, by omega⟩).1, y.2]; exact q)); omega)) (jk_wkS rfl (jk_wkS rfl (jk_wkS rfl (jk_wkS rfl (jk_wkS rfl (jk_wkN jk_wk0))))))
            · have hlead := of_decide_eq_true (show _ = true by assumption)
              obtain ⟨e1, e2', e3, e4⟩ := hlead
              obtain ⟨y1, y2, y3, y4⟩ := cm_dfs hi hwI hf0 hv hKv (k := (k18 : Int)) ⟨by omega, by omega⟩ e1 e4
              refine jk_aload_n (q := 41) dX11_walk_40 rfl rfl ?_
              refine jk_iload (q := 43) dX11_walk_41 rfl rfl ?_
              refine jk_iload_n (q := 44) dX11_walk_43 rfl rfl ?_
              refine jk_cV2p (q := 47) (c_X11_add (l := (k18 : Int)) (p := v) (c := (c : Int)) hwa hr1 hi hc1 ⟨by omega, by omega⟩ ⟨by omega, by omega⟩ ⟨by omega, by omega⟩) jm_X11_add jw_539 rfl (by first | exact ha1 | exact ha2 | exact ha3 | exact hf1 | exact hs.1 | exact hf2 _ _ rfl | exact hs.2.1 _ _ rfl | assumption) (jk_ble (by show 0 + 1 ≤ e2 + 1; omega)) rfl rfl dX11_walk_44 rfl ?_
              refine jk_istore5 (q := 49) dX11_walk_47 rfl rfl rfl ?_
              refine jk_aload_n (q := 50) dX11_walk_49 rfl rfl ?_
              refine jk_iload (q := 52) dX11_walk_50 rfl rfl ?_
              refine jk_iload_n (q := 53) dX11_walk_52 rfl rfl ?_
              refine jk_iload_n (q := 54) dX11_walk_53 rfl rfl ?_
              refine jk_iconst (q := 55) dX11_walk_54 rfl ?_
              refine jk_iadd (q := 56) dX11_walk_55 rfl ?_
              rw [show (10 : Int) - ((d + 1 : Nat) : Int) + 1 = 10 - ((d : Nat) : Int) by omega]
              have hat := wa_up_at σ1 w g (c : Int) (k18 : Int) v
              have hvf : v ≠ f0 := by assumption
              have hcall : jk_K G yX11_walk (mWalk e2) 0 0 [.ref w, jI (if g (24 + (k18 : Int)) = v then g (40 + (k18 : Int)) else g (24 + (k18 : Int))), jI f0, jI (10 - ((d : Nat) : Int))] n t (wa_up σ1 w g (c : Int) (k18 : Int) v) ρ (wa_Q w g (md_reach g (md_T g) f0).2 (if g (24 + (k18 : Int)) = v then g (40 + (k18 : Int)) else g (24 + (k18 : Int))) (c + 1) (J - 1) (decide ((k18 : Int) = (md_reach g (md_T g) f0).2 v)) (wa_up σ1 w g (c : Int) (k18 : Int) v) n t ρ) jk_no := by
                refine ih (wa_up σ1 w g (c : Int) (k18 : Int) v) (c + 1) (J - 1) _ _ e2 (by omega) (cl_rel_same i2 (fun a h8 h9 => hat.2.2.2 a (by omega) (by omega) (by omega)) hr1) (wa_ok_same (fun a h8 h9 => hat.2.2.2 a (by omega) (by omega) (by omega)) ho1) (by rw [hat.1, jk_set_at]; omega) (by omega) y1 y2 (fun hc9 => by rw [hat.2.1, show (((c + 1 : Nat) : Nat) : Int) - 1 = (c : Int) by omega, jk_set_at]; exact ⟨by omega, by omega⟩) ⟨fun hb => ?_, fun hb => ?_⟩
                · have hne := of_decide_eq_false hb
                  refine ⟨(y3 hne).2, by omega, ?_⟩
                  rw [hat.2.1, show (((c + 1 : Nat) : Nat) : Int) - 1 = (c : Int) by omega, jk_set_at]
                  exact (y3 hne).1.symm
                · have heq := of_decide_eq_true hb
                  have hbt : b = true := by
                    cases hb9 : b with
                    | true => rfl
                    | false =>
                      obtain ⟨-, w2, w3⟩ := hin.1 hb9
                      exact absurd ⟨by omega, by rw [(hfr1.2 _ ⟨by omega, by omega⟩).1, w3]; exact heq.symm⟩ e2'
                  obtain ⟨x1, x2, x3, x4⟩ := hin.2 hbt
                  obtain ⟨y5, y6⟩ := y4 heq hvf
                  have hJ : J ≠ 0 := fun q => hvf (by rw [q] at x2; exact x2)
                  refine ⟨by omega, ?_, fun i hi9 => ?_, ?_⟩
                  · rw [y5, ← md_wlk_sh, show J - 1 + 1 = J by omega]; exact x2
                  · rw [y5, ← md_wlk_sh]; exact x3 (i + 1) (by omega)
                  · rcases y6 with y6 | y6
                    · exact Or.inl y6
                    · right; right
                      rw [hat.2.1, show (((c + 1 : Nat) : Nat) : Int) - 1 = (c : Int) by omega, jk_set_at]
                      exact fun q => y6 q.symm
              refine jk_cS4g (q := 59) (hcall) (jm_walk e2) jw_543 (jk_ble (by show e2 + 1 ≤ e2 + 1; omega)) rfl (Nat.zero_le _) (Nat.zero_le _) rfl dX11_walk_56 rfl (fun v' n' t' σ' ρ' hq => ?_) (fun _ _ _ _ _ h => h.elim)
              obtain ⟨rfl, hn9, ht9, hr9, hfrU, hU0, hU1⟩ := hq
              replace hn9 := hn9.symm; replace ht9 := ht9.symm; replace hr9 := hr9.symm; subst hn9 ht9 hr9
              simp only [Option.toList_some, Option.toList_none, List.cons_append, List.nil_append, Nat.sub_zero]
              refine jk_ifB_eq (q := 64) (q2 := 62) dX11_walk_59 rfl rfl (fun z5 => ?_) (fun z5 => ?_)
              · have hnk := of_decide_eq_false (show decide ((k18 : Int) = (md_reach g (md_T g) f0).2 v) = false by assumption)
                replace hU0 := (hU0 (by assumption)).trans hat.1
                rw [hw1] at hU0
                refine jk_aload_n (q := 65) dX11_walk_64 rfl rfl ?_
                refine jk_dup (q := 66) dX11_walk_65 rfl rfl ?_
                refine jk_getIR (q := 69) (k := 11) 4 4 rfl (by first | exact ha1 | exact ha2 | exact ha3 | exact hf1 | exact hs.1 | exact hf2 _ _ rfl | exact hs.2.1 _ _ rfl | assumption) (by first | exact jk_row_same _ _ _ | ((repeat rewrite [jk_row_ne _ _ (by omega)]); first | exact jk_row_same _ _ _ | exact hw1 | rfl)) rfl rfl jw_224 dX11_walk_66 rfl ?_
                rw [hU0, jk_set_at]
                refine jk_iconst (q := 70) dX11_walk_69 rfl ?_
                refine jk_isub (q := 71) dX11_walk_70 rfl ?_
                refine jk_putIR (q := 74) (k := 11) 4 4 rfl (by first | exact ha1 | exact ha2 | exact ha3 | exact hf1 | exact hs.1 | exact hf2 _ _ rfl | exact hs.2.1 _ _ rfl | assumption) (by first | exact jk_row_same _ _ _ | ((repeat rewrite [jk_row_ne _ _ (by omega)]); first | exact jk_row_same _ _ _ | exact hw1 | rfl)) rfl rfl rfl jw_224 dX11_walk_71 rfl ?_
                refine jk_iinc4 (q := 77) dX11_walk_74 rfl rfl rfl ?_
                refine jk_goto (q := 18) dX11_walk_77 rfl ?_
                exact jk_convw (ih18 (by omega) _ ⟨fun a a1 a2 a3 => by rw [jk_row_ne _ _ a1, hfrU.1 a a1 a2 a3, hat.2.2.2 a a1 a2 a3, hfr1.1 a a1 a2 a3], fun i hi9 => by obtain ⟨v1, v2⟩ := hfrU.2 i ⟨hi9.1, by omega⟩; obtain ⟨v3, v4⟩ := hfr1.2 i hi9; rw [jk_row_ne _ _ (show w + 2 ≠ w by omega), jk_row_ne _ _ (show w + 4 ≠ w by omega), v1, v2, hat.2.1, hat.2.2.1, jk_set_ne _ _ (by omega), jk_set_ne _ _ (by omega)]; exact ⟨v3, v4⟩⟩ (by rw [jk_row_same, hU0, jk_set_set]; exact cm_set_id (by omega)) (fun hb => by have := hkb hb; omega)) (jk_wkS rfl (jk_wkS rfl (jk_wkS rfl (jk_wkS rfl (jk_wkS rfl (jk_wkN jk_wk0))))))
              · have heq := of_decide_eq_true (show decide ((k18 : Int) = (md_reach g (md_T g) f0).2 v) = true by assumption)
                have hbt : b = true := by
                  cases hb9 : b with
                  | true => rfl
                  | false =>
                    obtain ⟨-, w2, w3⟩ := hin.1 hb9
                    exact absurd ⟨by omega, by rw [(hfr1.2 _ ⟨by omega, by omega⟩).1, w3]; exact heq.symm⟩ e2'
                obtain ⟨x1, x2, x3, x4⟩ := hin.2 hbt
                obtain ⟨y5, y6⟩ := y4 heq hvf
                have hJ : J ≠ 0 := fun q => hvf (by rw [q] at x2; exact x2)
                obtain ⟨u1, u2⟩ := hU1 (by assumption)
                refine jk_iconst (q := 63) dX11_walk_62 rfl ?_
                exact jk_zret rfl (by first | assumption | decide | omega | exact jB_01 _ | exact jB_in _ | exact ⟨by omega, by omega⟩) dX11_walk_63 (by 
                    refine ⟨by first | (rw [hbt]; done) | (rw [hbt]; rfl), rfl, rfl, rfl, ⟨fun a a1 a2 a3 => by rw [hfrU.1 a a1 a2 a3, hat.2.2.2 a a1 a2 a3, hfr1.1 a a1 a2 a3], fun i hi9 => ?_⟩, fun h9 => absurd (hbt.symm.trans h9) (by decide), fun _ => ⟨by rw [u1, hat.1, hw1, jk_set_set]; congr 1; omega, fun i hi9 => ?_⟩⟩
                    · obtain ⟨v1, v2⟩ := hfrU.2 i ⟨hi9.1, by omega⟩
                      obtain ⟨v3, v4⟩ := hfr1.2 i hi9
                      rw [v1, v2, hat.2.1, hat.2.2.1, jk_set_ne _ _ (by omega), jk_set_ne _ _ (by omega)]
                      exact ⟨v3, v4⟩
                    · by_cases e0 : i = 0
                      · subst e0
                        obtain ⟨v1, v2⟩ := hfrU.2 ((c + 0 : Nat) : Int) ⟨by omega, by omega⟩
                        rw [v1, v2, hat.2.1, hat.2.2.1, show ((c + 0 : Nat) : Int) = (c : Int) by omega, jk_set_at, jk_set_at]
                        show (k18 : Int) = (md_reach g (md_T g) f0).2 v ∧ wa_sg g (k18 : Int) v = wa_sg g ((md_reach g (md_T g) f0).2 v) v
                        rw [← heq]; exact ⟨rfl, rfl⟩
                      · obtain ⟨v1, v2⟩ := u2 (i - 1) (by omega)
                        rw [y5, ← md_wlk_sh, show i - 1 + 1 = i by omega, show c + 1 + (i - 1) = c + i by omega] at v1 v2
                        exact ⟨v1, v2⟩)
        exact jk_convw (L18 0 (Nat.zero_le _) σ (wa_fr_r w c σ) rfl (fun hb => by have := (hpar9 (hin.2 hb) ).1; omega)) (jk_wkS rfl (jk_wkS rfl (jk_wkS rfl (jk_wkS rfl (jk_wkS rfl (jk_wkN jk_wk0))))))
      · refine jk_iconst (q := 14) dX11_walk_13 rfl ?_
        exact jk_zret rfl (by first | assumption | decide | omega | exact jB_01 _ | exact jB_in _ | exact ⟨by omega, by omega⟩) dX11_walk_14 (by 
            have hb : b = false := by
              cases hb9 : b with
              | false => rfl
              | true =>
                obtain ⟨x1, x2, x3, x4⟩ := hin.2 hb9
                have hJ : J = 0 := by omega
                subst hJ
                exact absurd x2 (by assumption)
            exact ⟨by first | (rw [hb]; done) | (rw [hb]; rfl), rfl, rfl, rfl, wa_fr_r w c σ, fun _ => rfl, fun h9 => absurd (hb.symm.trans h9) (by decide)⟩)
    · refine jk_iconst (q := 6) dX11_walk_5 rfl ?_
      exact jk_zret rfl (by first | assumption | decide | omega | exact jB_01 _ | exact jB_in _ | exact ⟨by omega, by omega⟩) dX11_walk_6 (by 
          have hb : b = true := by
            cases hb9 : b with
            | true => rfl
            | false => exact absurd (by assumption) (hin.1 hb9).1
          obtain ⟨x1, x2, x3, x4⟩ := hin.2 hb
          have hJ : J = 0 := Classical.byContradiction (fun q => x3 0 (by omega) (show v = f0 by assumption))
          subst hJ
          exact ⟨by first | (rw [hb]; done) | (rw [hb]; rfl), rfl, rfl, rfl, wa_fr_r w c σ, fun h9 => absurd (hb.symm.trans h9) (by decide), fun _ => ⟨by show σ w = jk_set (σ w) 4 (c : Int); exact (cm_set_id hc).symm, fun i hi9 => absurd hi9 (Nat.not_lt_zero i)⟩⟩)
end CW2
