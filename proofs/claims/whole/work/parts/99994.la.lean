section LA
theorem lr_up {x m o d k n : Nat} {t : jk_T} {σ : jk_I} {ρ : jk_P} (h : lr x m o d k n t σ ρ) : lr x m o d (k + 1) n t σ ρ := by
  obtain ⟨v, K, B, O, g, b, h, sv, Bf, L, P, Lo, hat, hb⟩ := h
  exact ⟨v, K, B, O, g, b, h, sv, Bf, L, P, Lo, hat, by push_cast; omega⟩
theorem lr_0 {x : Nat} {t1 t3 : jk_T} {σ0 σ1 σ3 : jk_I} {ρ1 ρ3 : jk_P} (h1 : ln_new2 x σ0 t1 σ1 ρ1) (h0 : σ0 x = fun _ => 0) (ha : ∀ a, a < x + 582 → t3 a = t1 a ∧ σ3 a = σ1 a ∧ ρ3 a = ρ1 a) (hm : md_at t3 ρ3 (x + 582)) (hm0 : σ3 (x + 582) = jk_set (jk_set (fun _ => 0) 8 (-1)) 9 (-1))
    (hmz : ∀ a, x + 582 < a → a < x + 612 → a % 2 = x % 2 → σ3 a = fun _ => 0) (to : t3 (x + 612) = some (.inl (.long, 1))) (td : t3 (x + 614) = some (.inl (.double, 1))) : lr x (x + 582) (x + 612) (x + 614) 0 (x + 616) t3 σ3 ρ3 := by
  obtain ⟨⟨g1, g2, g3, g4, g5, g6, g7⟩, g8, g9⟩ := h1
  have o3 : (jk_set (jk_set (fun _ => 0) 8 (-1)) 9 (-1) : Int → Int) 3 = 0 := rfl
  have o5 : (jk_set (jk_set (fun _ => 0) 8 (-1)) 9 (-1) : Int → Int) 5 = 0 := rfl
  have o7 : (jk_set (jk_set (fun _ => 0) 8 (-1)) 9 (-1) : Int → Int) 7 = 0 := rfl
  have o8 : (jk_set (jk_set (fun _ => 0) 8 (-1)) 9 (-1) : Int → Int) 8 = -1 := rfl
  have o9 : (jk_set (jk_set (fun _ => 0) 8 (-1)) 9 (-1) : Int → Int) 9 = -1 := rfl
  have o11 : (jk_set (jk_set (fun _ => 0) 8 (-1)) 9 (-1) : Int → Int) 11 = 0 := rfl
  have z : ∀ a, x + 2 ≤ a → a < x + 512 → a ≠ x + 142 → a % 2 = x % 2 → σ3 a = fun _ => 0 := fun a g1 g2 g3 g4 => (ha a (by omega)).2.1.trans (g5 a g1 g2 g3 g4)
  have ex : σ3 x = jk_set (jk_set (fun _ => 0) 13 (-1)) 14 (-1) := by rw [(ha x (by omega)).2.1, g4, h0]
  have e550 : σ3 (x + 550) = fun _ => 0 := (ha _ (by omega)).2.1.trans g6
  have nn : ∀ s, (s = x + 2 ∨ s = x + 48 ∨ s = x + 94) → cl_nn σ3 s := fun s hs q hq => by
    rw [z _ (by omega) (by omega) (by omega) (by omega)]
    exact ⟨by decide, by decide⟩
  refine ⟨x + 580, 16, 0, jk_set (jk_set (fun _ => 0) 8 (-1)) 9 (-1), fun _ => 0, fun _ => 0, fun _ => 0, fun _ => 0, fun _ => 0, fun _ => 0, fun _ => 0, [], ⟨⟨⟨by omega, by omega, by omega, by omega⟩, Or.inl rfl, by omega, to, td⟩, ⟨hm, ⟨hm0, hmz _ (by omega) (by omega) (by omega), hmz _ (by omega) (by omega) (by omega), hmz _ (by omega) (by omega) (by omega), hmz _ (by omega) (by omega) (by omega), hmz _ (by omega) (by omega) (by omega), hmz _ (by omega) (by omega) (by omega), hmz _ (by omega) (by omega) (by omega)⟩, fun p hp => ?_, fun p hp => ?_⟩, ?_, ?_⟩, by rw [o7]; decide⟩
  · rw [hmz (x + 582 + 14) (by omega) (by omega) (by omega), hmz (x + 582 + 22) (by omega) (by omega) (by omega), hmz (x + 582 + 24) (by omega) (by omega) (by omega)]; exact ⟨rfl, rfl, rfl⟩
  · rw [hmz (x + 582 + 16) (by omega) (by omega) (by omega), hmz (x + 582 + 18) (by omega) (by omega) (by omega), hmz (x + 582 + 20) (by omega) (by omega) (by omega), hmz (x + 582 + 26) (by omega) (by omega) (by omega)]; exact ⟨rfl, rfl, rfl, rfl⟩
  · refine ⟨ln_at_bd (σ := σ3) (σ' := σ3) (v := x + 580) (w := x + 580) (n := x + 582) (n' := x + 616) ⟨Or.inl rfl, by omega, by omega, fun a h => (ha a h).1, fun a h _ => (ha a h).2.2, fun _ _ _ _ => rfl⟩ (by omega) g1, ⟨?_, fun p hp => absurd hp (by show ¬ (0 ≤ p ∧ p < 0); omega), fun p hp => absurd hp (by show ¬ (0 ≤ p ∧ p < 0); omega), fun q hq => absurd hq (by show ¬ ((q : Int) < 0); omega)⟩, ⟨nn _ (Or.inl rfl), nn _ (Or.inr (Or.inl rfl)), nn _ (Or.inr (Or.inr rfl))⟩, ?_, ?_, ⟨?_, ?_, ?_, ?_⟩, fun h => ?_, (ha _ (by omega)).2.1.trans g7, fun i hi m hm => ?_⟩
    · rw [z (x + 2) (by omega) (by omega) (by omega) (by omega)]; exact ⟨rfl, rfl, rfl, rfl⟩
    · rw [o3]
      exact hs_rel_0 (by rw [z _ (by omega) (by omega) (by omega) (by omega)]) (by rw [z _ (by omega) (by omega) (by omega) (by omega)]) (fun a h1 h2 h3 => z a (by omega) (by omega) (by omega) (by omega))
    · obtain ⟨q1, q2, q3, q4, q5, q6⟩ := g2
      obtain ⟨e1, e2, e3⟩ := ha (x + 578) (by omega)
      obtain ⟨f1, f2, f3⟩ := ha (x + 580) (by omega)
      exact ⟨⟨e1.trans q1, f1.trans q2, by rw [e3]; exact q3, by rw [e2]; exact q4, q5, q6⟩, Or.inl rfl, by rw [e2]; exact g3, by decide, fun j hj => by rw [f2, g8]; show (0 : Int) ≤ 0 ∧ (0 : Int) < 128; decide, fun i hi => absurd hi (Nat.not_lt_zero i)⟩
    · rw [ex, o5]; rfl
    · rw [ex, o8]; rfl
    · rw [ex, o9]; rfl
    · rw [e550, o7]
    · rw [o5] at h; exact absurd h (by decide)
    · rw [(ha _ (by omega)).2.1, g9 i hi]; show (-99999 : Int) ≤ 0 ∧ (0 : Int) ≤ 99999; decide
  · exact ⟨by decide, ⟨md_all_new, md_sit_new⟩, fun _ _ => rfl, by rw [o3]; decide, fun j hj => by rw [o3] at hj; omega, Or.inl o5, fun _ _ => rfl, fun h => by rw [o5] at h; exact absurd h (by decide), by rw [o8]; decide, by rw [o9]; decide, by rw [o7]; decide, fun _ _ => (by decide : (0 : Int) ≤ 0 ∧ (0 : Int) < 65536), ⟨by rw [o11]; rfl, by decide⟩, fun i hi => absurd hi (Nat.not_lt_zero i), fun _ _ => (by decide : (0 : Int) ≤ 0 ∧ (0 : Int) < 65536), fun _ => (by decide : (-99999 : Int) ≤ 0 ∧ (0 : Int) ≤ 99999)⟩

theorem lw_loop {G : jk_G} {N : Nat} {f : Nat → Int} {x m o d : Nat} (hzl : zl_ok G N f) : ∀ k : Nat, k ≤ 512 → ∀ (n : Nat) (t : jk_T) (σ : jk_I) (ρ : jk_P) (rc rs : Nat), lr x m o d k n t σ ρ → 14 * (512 - k) ≤ rc → 420 * (512 - k) ≤ rs → jk_J G mL_law 28 [some (.ref 63), some (.ref x), some (.ref m), some (.ref o), some (.ref d), some (jI (5 * (k : Int))), none, none, none] [] n t σ ρ rc rs lq_Q jk_no := by
  have hN := hzl.2.2.2.2.2.1.1
  have hf := hzl.2.2.2.2.2.1.2
  have hsc := hzl.2.2.2.2.2.2
  refine jk_loop 512 (fun k hk9 ih => ?_)
  intro n t σ ρ rc rs hr h1 h2
  refine jk_iload (q := 30) dL_law_28 rfl rfl ?_
  refine jk_aload_n (q := 31) dL_law_30 rfl rfl ?_
  refine jk_tlen (q := 32) hsc dL_law_31 rfl ?_
  refine jk_iconst (q := 33) dL_law_32 rfl ?_
  refine jk_isub (q := 34) dL_law_33 rfl ?_
  refine jk_icmp_gt (q := 3465) (q2 := 37) dL_law_34 rfl rfl ⟨by omega, by omega⟩ ⟨by omega, by omega⟩ (fun z1 => ?_) (fun z1 => ?_)
  · refine jk_iconst (q := 3466) dL_law_3465 rfl ?_
    exact jk_zret rfl (by decide) dL_law_3466 rfl
  · have hc : ∀ n' t' σ' ρ', lr x m o d (k + 1) n' t' σ' ρ' → jk_J G mL_law 3459 [some (.ref 63), some (.ref x), some (.ref m), some (.ref o), some (.ref d), some (jI (5 * (k : Int))), none, none, none] [] n' t' σ' ρ' (rc - 14) (rs - 420) lq_Q jk_no := by
      intro n' t' σ' ρ' h
      refine jk_iinc5 (q := 3462) dL_law_3459 rfl rfl rfl ?_
      refine jk_goto (q := 28) dL_law_3462 rfl ?_
      refine jk_convl (ih (by omega) n' t' σ' ρ' (rc - 14) (rs - 420) h (by omega) (by omega)) ?_
      rw [show 5 * ((k + 1 : Nat) : Int) = 5 * (k : Int) + 5 by push_cast; omega]
    refine jk_aload_n (q := 38) dL_law_37 rfl rfl ?_
    refine jk_iload (q := 40) dL_law_38 rfl rfl ?_
    refine jk_tabs (q := 41) hsc (by omega) ⟨by omega, by omega⟩ dL_law_40 rfl ?_
    refine jk_bipush (q := 43) (y := 63) dL_law_41 rfl (by decide) ?_
    refine jk_iand63 (q := 44) dL_law_43 rfl (fun y hy9 => ?_)
    refine jk_caseC 0 (fun hy => ?_) (fun hy0 => ?_)
    · refine jk_tswIn (q := 312) (by decide) dL_law_44 (by decide) rfl rfl ?_
      exact lw_0 hN hsc (by omega) (by decide) (by decide) (by omega) (by omega) (lf_0 hzl hr hk9) hc
    refine jk_caseC 1 (fun hy => ?_) (fun hy1 => ?_)
    · refine jk_tswIn (q := 356) (by decide) dL_law_44 (by decide) rfl rfl ?_
      exact lw_1 hN hsc (by omega) (by decide) (by decide) (by omega) (by omega) (lf_1 hzl hr hk9) hc
    refine jk_caseC 2 (fun hy => ?_) (fun hy2 => ?_)
    · refine jk_tswIn (q := 424) (by decide) dL_law_44 (by decide) rfl rfl ?_
      exact lw_2 hN hsc (by omega) (by decide) (by decide) (by omega) (by omega) (lf_2 hzl hr hk9) hc
    refine jk_caseC 3 (fun hy => ?_) (fun hy3 => ?_)
    · refine jk_tswIn (q := 480) (by decide) dL_law_44 (by decide) rfl rfl ?_
      exact lw_3 hN hsc (by omega) (by decide) (by decide) (by omega) (by omega) (lf_3 hzl hr hk9) hc
    refine jk_caseC 4 (fun hy => ?_) (fun hy4 => ?_)
    · refine jk_tswIn (q := 572) (by decide) dL_law_44 (by decide) rfl rfl ?_
      exact lw_4 hN hsc (by omega) (by decide) (by decide) (by omega) (by omega) (lf_4 hzl hr hk9) hc
    refine jk_caseC 5 (fun hy => ?_) (fun hy5 => ?_)
    · refine jk_tswIn (q := 640) (by decide) dL_law_44 (by decide) rfl rfl ?_
      exact lw_5 hN hsc (by omega) (by decide) (by decide) (by omega) (by omega) (lf_5 hzl hr hk9) hc
    refine jk_caseC 6 (fun hy => ?_) (fun hy6 => ?_)
    · refine jk_tswIn (q := 696) (by decide) dL_law_44 (by decide) rfl rfl ?_
      exact lw_6 hN hsc (by omega) (by decide) (by decide) (by omega) (by omega) (lf_6 hzl hr hk9) hc
    refine jk_caseC 7 (fun hy => ?_) (fun hy7 => ?_)
    · refine jk_tswIn (q := 752) (by decide) dL_law_44 (by decide) rfl rfl ?_
      exact lw_7 hN hsc (by omega) (by decide) (by decide) (by omega) (by omega) (lf_7 hzl hr hk9) hc
    refine jk_caseC 8 (fun hy => ?_) (fun hy8 => ?_)
    · refine jk_tswIn (q := 808) (by decide) dL_law_44 (by decide) rfl rfl ?_
      exact lw_8 hN hsc (by omega) (by decide) (by decide) (by omega) (by omega) (lf_8 hzl hr hk9) hc
    refine jk_caseC 9 (fun hy => ?_) (fun hy9 => ?_)
    · refine jk_tswIn (q := 821) (by decide) dL_law_44 (by decide) rfl rfl ?_
      exact lw_9 hN hsc (by omega) (by decide) (by decide) (by omega) (by omega) (lf_9 hzl hr hk9) hc
    refine jk_caseC 10 (fun hy => ?_) (fun hy10 => ?_)
    · refine jk_tswIn (q := 877) (by decide) dL_law_44 (by decide) rfl rfl ?_
      exact lw_10 hN hsc (by omega) (by decide) (by decide) (by omega) (by omega) (lf_10 hzl hr hk9) hc
    refine jk_caseC 11 (fun hy => ?_) (fun hy11 => ?_)
    · refine jk_tswIn (q := 957) (by decide) dL_law_44 (by decide) rfl rfl ?_
      exact lw_11 hN hsc (by omega) (by decide) (by decide) (by omega) (by omega) (lf_11 hzl hr hk9) hc
    refine jk_caseC 12 (fun hy => ?_) (fun hy12 => ?_)
    · refine jk_tswIn (q := 1013) (by decide) dL_law_44 (by decide) rfl rfl ?_
      exact lw_12 hN hsc (by omega) (by decide) (by decide) (by omega) (by omega) (lf_12 hzl hr hk9) hc
    refine jk_caseC 13 (fun hy => ?_) (fun hy13 => ?_)
    · refine jk_tswIn (q := 1026) (by decide) dL_law_44 (by decide) rfl rfl ?_
      exact lw_13 hN hsc (by omega) (by decide) (by decide) (by omega) (by omega) (lf_13 hzl hr hk9) hc
    refine jk_caseC 14 (fun hy => ?_) (fun hy14 => ?_)
    · refine jk_tswIn (q := 1089) (by decide) dL_law_44 (by decide) rfl rfl ?_
      exact lw_14 hN hsc (by omega) (by decide) (by decide) (by omega) (by omega) (lf_14 hzl hr hk9) hc
    refine jk_caseC 15 (fun hy => ?_) (fun hy15 => ?_)
    · refine jk_tswIn (q := 1152) (by decide) dL_law_44 (by decide) rfl rfl ?_
      exact lw_15 hN hsc (by omega) (by decide) (by decide) (by omega) (by omega) (lf_15 hzl hr hk9) hc
    refine jk_caseC 16 (fun hy => ?_) (fun hy16 => ?_)
    · refine jk_tswIn (q := 1208) (by decide) dL_law_44 (by decide) rfl rfl ?_
      exact lw_16 hN hsc (by omega) (by decide) (by decide) (by omega) (by omega) (lf_16 hzl hr hk9) hc
    refine jk_caseC 17 (fun hy => ?_) (fun hy17 => ?_)
    · refine jk_tswIn (q := 1264) (by decide) dL_law_44 (by decide) rfl rfl ?_
      exact lw_17 hN hsc (by omega) (by decide) (by decide) (by omega) (by omega) (lf_17 hzl hr hk9) hc
    refine jk_caseC 18 (fun hy => ?_) (fun hy18 => ?_)
    · refine jk_tswIn (q := 1320) (by decide) dL_law_44 (by decide) rfl rfl ?_
      exact lw_18 hN hsc (by omega) (by decide) (by decide) (by omega) (by omega) (lf_18 hzl hr hk9) hc
    refine jk_caseC 19 (fun hy => ?_) (fun hy19 => ?_)
    · refine jk_tswIn (q := 1376) (by decide) dL_law_44 (by decide) rfl rfl ?_
      exact lw_19 hN hsc (by omega) (by decide) (by decide) (by omega) (by omega) (lf_19 hzl hr hk9) hc
    refine jk_caseC 20 (fun hy => ?_) (fun hy20 => ?_)
    · refine jk_tswIn (q := 1432) (by decide) dL_law_44 (by decide) rfl rfl ?_
      exact lw_20 hN hsc (by omega) (by decide) (by decide) (by omega) (by omega) (lf_20 hzl hr hk9) hc
    refine jk_caseC 21 (fun hy => ?_) (fun hy21 => ?_)
    · refine jk_tswIn (q := 1445) (by decide) dL_law_44 (by decide) rfl rfl ?_
      exact lw_21 hN hsc (by omega) (by decide) (by decide) (by omega) (by omega) (lf_21 hzl hr hk9) hc
    refine jk_caseC 22 (fun hy => ?_) (fun hy22 => ?_)
    · refine jk_tswIn (q := 1501) (by decide) dL_law_44 (by decide) rfl rfl ?_
      exact lw_22 hN hsc (by omega) (by decide) (by decide) (by omega) (by omega) (lf_22 hzl hr hk9) hc
    refine jk_caseC 23 (fun hy => ?_) (fun hy23 => ?_)
    · refine jk_tswIn (q := 1557) (by decide) dL_law_44 (by decide) rfl rfl ?_
      exact lw_23 hN hsc (by omega) (by decide) (by decide) (by omega) (by omega) (lf_23 hzl hr hk9) hc
    refine jk_caseC 24 (fun hy => ?_) (fun hy24 => ?_)
    · refine jk_tswIn (q := 1613) (by decide) dL_law_44 (by decide) rfl rfl ?_
      exact lw_24 hN hsc (by omega) (by decide) (by decide) (by omega) (by omega) (lf_24 hzl hr hk9) hc
    refine jk_caseC 25 (fun hy => ?_) (fun hy25 => ?_)
    · refine jk_tswIn (q := 1669) (by decide) dL_law_44 (by decide) rfl rfl ?_
      exact lw_25 hN hsc (by omega) (by decide) (by decide) (by omega) (by omega) (lf_25 hzl hr hk9) hc
    refine jk_caseC 26 (fun hy => ?_) (fun hy26 => ?_)
    · refine jk_tswIn (q := 1725) (by decide) dL_law_44 (by decide) rfl rfl ?_
      exact lw_26 hN hsc (by omega) (by decide) (by decide) (by omega) (by omega) (lf_26 hzl hr hk9) hc
    refine jk_caseC 27 (fun hy => ?_) (fun hy27 => ?_)
    · refine jk_tswIn (q := 1781) (by decide) dL_law_44 (by decide) rfl rfl ?_
      exact lw_27 hN hsc (by omega) (by decide) (by decide) (by omega) (by omega) (lf_27 hzl hr hk9) hc
    refine jk_caseC 28 (fun hy => ?_) (fun hy28 => ?_)
    · refine jk_tswIn (q := 1844) (by decide) dL_law_44 (by decide) rfl rfl ?_
      exact lw_28 hN hsc (by omega) (by decide) (by decide) (by omega) (by omega) (lf_28 hzl hr hk9) hc
    refine jk_caseC 29 (fun hy => ?_) (fun hy29 => ?_)
    · refine jk_tswIn (q := 1907) (by decide) dL_law_44 (by decide) rfl rfl ?_
      exact lw_29 hN hsc (by omega) (by decide) (by decide) (by omega) (by omega) (lf_29 hzl hr hk9) hc
    refine jk_caseC 30 (fun hy => ?_) (fun hy30 => ?_)
    · refine jk_tswIn (q := 1963) (by decide) dL_law_44 (by decide) rfl rfl ?_
      exact lw_30 hN hsc (by omega) (by decide) (by decide) (by omega) (by omega) (lf_30 hzl hr hk9) hc
    refine jk_caseC 31 (fun hy => ?_) (fun hy31 => ?_)
    · refine jk_tswIn (q := 2019) (by decide) dL_law_44 (by decide) rfl rfl ?_
      exact lw_31 hN hsc (by omega) (by decide) (by decide) (by omega) (by omega) (lf_31 hzl hr hk9) hc
    refine jk_caseC 32 (fun hy => ?_) (fun hy32 => ?_)
    · refine jk_tswIn (q := 2082) (by decide) dL_law_44 (by decide) rfl rfl ?_
      exact lw_32 hN hsc (by omega) (by decide) (by decide) (by omega) (by omega) (lf_32 hzl hr hk9) hc
    refine jk_caseC 33 (fun hy => ?_) (fun hy33 => ?_)
    · refine jk_tswIn (q := 2095) (by decide) dL_law_44 (by decide) rfl rfl ?_
      exact lw_33 hN hsc (by omega) (by decide) (by decide) (by omega) (by omega) (lf_33 hzl hr hk9) hc
    refine jk_caseC 34 (fun hy => ?_) (fun hy34 => ?_)
    · refine jk_tswIn (q := 2108) (by decide) dL_law_44 (by decide) rfl rfl ?_
      exact lw_34 hN hsc (by omega) (by decide) (by decide) (by omega) (by omega) (lf_34 hzl hr hk9) hc
    refine jk_caseC 35 (fun hy => ?_) (fun hy35 => ?_)
    · refine jk_tswIn (q := 2121) (by decide) dL_law_44 (by decide) rfl rfl ?_
      exact lw_35 hN hsc (by omega) (by decide) (by decide) (by omega) (by omega) (lf_35 hzl hr hk9) hc
    refine jk_caseC 36 (fun hy => ?_) (fun hy36 => ?_)
    · refine jk_tswIn (q := 2134) (by decide) dL_law_44 (by decide) rfl rfl ?_
      exact lw_36 hN hsc (by omega) (by decide) (by decide) (by omega) (by omega) (lf_36 hzl hr hk9) hc
    refine jk_caseC 37 (fun hy => ?_) (fun hy37 => ?_)
    · refine jk_tswIn (q := 2190) (by decide) dL_law_44 (by decide) rfl rfl ?_
      exact lw_37 hN hsc (by omega) (by decide) (by decide) (by omega) (by omega) (lf_37 hzl hr hk9) hc
    refine jk_caseC 38 (fun hy => ?_) (fun hy38 => ?_)
    · refine jk_tswIn (q := 2246) (by decide) dL_law_44 (by decide) rfl rfl ?_
      exact lw_38 hN hsc (by omega) (by decide) (by decide) (by omega) (by omega) (lf_38 hzl hr hk9) hc
    refine jk_caseC 39 (fun hy => ?_) (fun hy39 => ?_)
    · refine jk_tswIn (q := 2302) (by decide) dL_law_44 (by decide) rfl rfl ?_
      exact lw_39 hN hsc (by omega) (by decide) (by decide) (by omega) (by omega) (lf_39 hzl hr hk9) hc
    refine jk_caseC 40 (fun hy => ?_) (fun hy40 => ?_)
    · refine jk_tswIn (q := 2358) (by decide) dL_law_44 (by decide) rfl rfl ?_
      exact lw_40 hN hsc (by omega) (by decide) (by decide) (by omega) (by omega) (lf_40 hzl hr hk9) hc
    refine jk_caseC 41 (fun hy => ?_) (fun hy41 => ?_)
    · refine jk_tswIn (q := 2414) (by decide) dL_law_44 (by decide) rfl rfl ?_
      exact lw_41 hN hsc (by omega) (by decide) (by decide) (by omega) (by omega) (lf_41 hzl hr hk9) hc
    refine jk_caseC 42 (fun hy => ?_) (fun hy42 => ?_)
    · refine jk_tswIn (q := 2482) (by decide) dL_law_44 (by decide) rfl rfl ?_
      exact lw_42 hN hsc (by omega) (by decide) (by decide) (by omega) (by omega) (lf_42 hzl hr hk9) hc
    refine jk_caseC 43 (fun hy => ?_) (fun hy43 => ?_)
    · refine jk_tswIn (q := 2495) (by decide) dL_law_44 (by decide) rfl rfl ?_
      exact lw_43 hN hsc (by omega) (by decide) (by decide) (by omega) (by omega) (lf_43 hzl hr hk9) hc
    refine jk_caseC 44 (fun hy => ?_) (fun hy44 => ?_)
    · refine jk_tswIn (q := 2551) (by decide) dL_law_44 (by decide) rfl rfl ?_
      exact lw_44 hN hsc (by omega) (by decide) (by decide) (by omega) (by omega) (lf_44 hzl hr hk9) hc
    refine jk_caseC 45 (fun hy => ?_) (fun hy45 => ?_)
    · refine jk_tswIn (q := 2564) (by decide) dL_law_44 (by decide) rfl rfl ?_
      exact lw_45 hN hsc (by omega) (by decide) (by decide) (by omega) (by omega) (lf_45 hzl hr hk9) hc
    refine jk_caseC 46 (fun hy => ?_) (fun hy46 => ?_)
    · refine jk_tswIn (q := 2632) (by decide) dL_law_44 (by decide) rfl rfl ?_
      exact lw_46 hN hsc (by omega) (by decide) (by decide) (by omega) (by omega) (lf_46 hzl hr hk9) hc
    refine jk_caseC 47 (fun hy => ?_) (fun hy47 => ?_)
    · refine jk_tswIn (q := 2688) (by decide) dL_law_44 (by decide) rfl rfl ?_
      exact lw_47 hN hsc (by omega) (by decide) (by decide) (by omega) (by omega) (lf_47 hzl hr hk9) hc
    refine jk_caseC 48 (fun hy => ?_) (fun hy48 => ?_)
    · refine jk_tswIn (q := 2744) (by decide) dL_law_44 (by decide) rfl rfl ?_
      exact lw_48 hN hsc (by omega) (by decide) (by decide) (by omega) (by omega) (lf_48 hzl hr hk9) hc
    refine jk_caseC 49 (fun hy => ?_) (fun hy49 => ?_)
    · refine jk_tswIn (q := 2800) (by decide) dL_law_44 (by decide) rfl rfl ?_
      exact lw_49 hN hsc (by omega) (by decide) (by decide) (by omega) (by omega) (lf_49 hzl hr hk9) hc
    refine jk_caseC 50 (fun hy => ?_) (fun hy50 => ?_)
    · refine jk_tswIn (q := 2856) (by decide) dL_law_44 (by decide) rfl rfl ?_
      exact lw_50 (by decide) (by decide) (by omega) (by omega) (lf_50 hzl hr hk9) hc
    refine jk_caseC 51 (fun hy => ?_) (fun hy51 => ?_)
    · refine jk_tswIn (q := 2921) (by decide) dL_law_44 (by decide) rfl rfl ?_
      exact lw_51 (by decide) (by decide) (by omega) (by omega) (lf_51 hzl hr hk9) hc
    refine jk_caseC 52 (fun hy => ?_) (fun hy52 => ?_)
    · refine jk_tswIn (q := 2987) (by decide) dL_law_44 (by decide) rfl rfl ?_
      exact lw_52 hN hsc (by omega) (by decide) (by decide) (by omega) (by omega) (lf_52 hzl hr hk9) hc
    refine jk_caseC 53 (fun hy => ?_) (fun hy53 => ?_)
    · refine jk_tswIn (q := 3000) (by decide) dL_law_44 (by decide) rfl rfl ?_
      exact lw_53 hN hsc (by omega) (by decide) (by decide) (by omega) (by omega) (lf_53 hzl hr hk9) hc
    refine jk_caseC 54 (fun hy => ?_) (fun hy54 => ?_)
    · refine jk_tswIn (q := 3056) (by decide) dL_law_44 (by decide) rfl rfl ?_
      exact lw_54 hN hsc (by omega) (by decide) (by decide) (by omega) (by omega) (lf_54 hzl hr hk9) hc
    refine jk_caseC 55 (fun hy => ?_) (fun hy55 => ?_)
    · refine jk_tswIn (q := 3112) (by decide) dL_law_44 (by decide) rfl rfl ?_
      exact lw_55 hN hsc (by omega) (by decide) (by decide) (by omega) (by omega) (lf_55 hzl hr hk9) hc
    refine jk_caseC 56 (fun hy => ?_) (fun hy56 => ?_)
    · refine jk_tswIn (q := 3168) (by decide) dL_law_44 (by decide) rfl rfl ?_
      exact lw_56 hN hsc (by omega) (by decide) (by decide) (by omega) (by omega) (lf_56 hzl hr hk9) hc
    refine jk_caseC 57 (fun hy => ?_) (fun hy57 => ?_)
    · refine jk_tswIn (q := 3226) (by decide) dL_law_44 (by decide) rfl rfl ?_
      exact lw_57 hN hsc (by omega) (by decide) (by decide) (by omega) (by omega) (lf_57 hzl hr hk9) hc
    refine jk_caseC 58 (fun hy => ?_) (fun hy58 => ?_)
    · refine jk_tswIn (q := 3270) (by decide) dL_law_44 (by decide) rfl rfl ?_
      exact lw_58 hN hsc (by omega) (by decide) (by decide) (by omega) (by omega) (lf_58 hzl hr hk9) hc
    refine jk_caseC 59 (fun hy => ?_) (fun hy59 => ?_)
    · refine jk_tswIn (q := 3314) (by decide) dL_law_44 (by decide) rfl rfl ?_
      exact lw_59 hN hsc (by omega) (by decide) (by decide) (by omega) (by omega) (lf_59 hzl hr hk9) hc
    refine jk_caseC 60 (fun hy => ?_) (fun hy60 => ?_)
    · refine jk_tswIn (q := 3358) (by decide) dL_law_44 (by decide) rfl rfl ?_
      exact lw_60 hN hsc (by omega) (by decide) (by decide) (by omega) (by omega) (lf_60 hzl hr hk9) hc
    refine jk_caseC 61 (fun hy => ?_) (fun hy61 => ?_)
    · refine jk_tswIn (q := 3402) (by decide) dL_law_44 (by decide) rfl rfl ?_
      exact lw_61 hN hsc (by omega) (by decide) (by decide) (by omega) (by omega) (lf_61 hzl hr hk9) hc
    refine jk_caseC 62 (fun hy => ?_) (fun hy62 => ?_)
    · refine jk_tswIn (q := 3415) (by decide) dL_law_44 (by decide) rfl rfl ?_
      exact lw_62 hN hsc (by omega) (by decide) (by decide) (by omega) (by omega) (lf_62 hzl hr hk9) hc
    obtain rfl : y = 63 := by omega
    refine jk_tswD (q := 3459) [0, 1, 2, 3, 4, 5, 6, 7, 8, 9, 10, 11, 12, 13, 14, 15, 16, 17, 18, 19, 20, 21, 22, 23, 24, 25, 26, 27, 28, 29, 30, 31, 32, 33, 34, 35, 36, 37, 38, 39, 40, 41, 42, 43, 44, 45, 46, 47, 48, 49, 50, 51, 52, 53, 54, 55, 56, 57, 58, 59, 60, 61, 62] (by decide) dL_law_44 (by decide) (by decide) (by decide) rfl ?_
    exact jk_rm (hc _ _ _ _ (lr_up hr)) (by omega) (by omega)
set_option maxHeartbeats 4000000 in
theorem lw_all {G : jk_G} {N : Nat} {f : Nat → Int} (hzl : zl_ok G N f) {n : Nat} {t : jk_T} {σ : jk_I} {ρ : jk_P} {rc rs : Nat} (hn64 : 64 ≤ n) (hrc : 8000 ≤ rc) (hrs : 230000 ≤ rs) : jk_J G mL_law 0 [some (.ref 63), none, none, none, none, none, none, none, none] [] n t σ ρ rc rs lq_Q jk_no := by
  have hz := hzl.1
  have h12 : (jk_cl 12).2.2.1 = 15 := rfl
  have h13 : (jk_cl 13).2.2.1 = 23 := rfl
  refine jk_new (q := 3) (k := 12) jw_39 jw_40 jw_1 (by omega) (by omega) dL_law_0 rfl ?_
  refine jk_dup (q := 4) dL_law_3 rfl rfl ?_
  refine jk_cI0g (q := 7) (c_X12_init2 (x := n) hz (by simp [jk_tg]) rfl) jm_X12_init jw_41 rfl rfl (by omega) (by omega) rfl dL_law_4 rfl (fun v' n' t1 σ1 ρ1 hq => ?_) (fun _ _ _ _ _ h => h.elim)
  obtain ⟨rfl, hn9, g1, p1⟩ := hq
  subst hn9
  simp only [Option.toList_some, Option.toList_none, List.cons_append, List.nil_append]
  refine jk_astore1 (q := 8) dL_law_7 rfl rfl rfl ?_
  refine jk_new (q := 11) (k := 13) jw_1842 jw_1843 jw_15 (by omega) (by omega) dL_law_8 rfl ?_
  refine jk_dup (q := 12) dL_law_11 rfl rfl ?_
  refine jk_cI0g (q := 15) (c_X13_init (m := n + 582) (O := fun _ => 0) (by simp [jk_tg]) (by funext j; simp [jk_zr]) rfl) jm_X13_init jw_1844 rfl rfl (by omega) (by omega) rfl dL_law_12 rfl (fun v' n' t2 σ2 ρ2 hq => ?_) (fun _ _ _ _ _ h => h.elim)
  obtain ⟨rfl, hn9, m1, m2, m3, m4, m5⟩ := hq
  have hn8 : n + 582 + 30 = n + 612 := by omega
  rw [hn8] at hn9
  subst hn9
  simp only [Option.toList_some, Option.toList_none, List.cons_append, List.nil_append]
  refine jk_astore2 (q := 16) dL_law_15 rfl rfl rfl ?_
  refine jk_iconst (q := 17) dL_law_16 rfl ?_
  refine jk_newarr (q := 19) (atype := .long) (ty := .long) (len := 1) rfl jw_2452 rfl (by decide) (by omega) (by omega) dL_law_17 rfl ?_
  refine jk_astore3 (q := 20) dL_law_19 rfl rfl rfl ?_
  refine jk_iconst (q := 21) dL_law_20 rfl ?_
  refine jk_newarr (q := 23) (atype := .double) (ty := .double) (len := 1) rfl jw_2453 rfl (by decide) (by omega) (by omega) dL_law_21 rfl ?_
  refine jk_astore4 (q := 25) dL_law_23 rfl rfl rfl ?_
  refine jk_iconst (q := 26) dL_law_25 rfl ?_
  refine jk_istore5 (q := 28) dL_law_26 rfl rfl rfl ?_
  have e2 : n + 612 + 2 = n + 614 := by omega
  have e4 : n + 614 + 2 = n + 616 := by omega
  rw [e2, e4]
  refine jk_rm (lw_loop hzl 0 (by decide) _ _ _ _ 7168 215040 (lr_0 (t1 := t1) (σ1 := σ1) (ρ1 := ρ1) p1 (by funext j; simp [jk_zr]) (fun a ha => ⟨?_, ?_, ?_⟩) (md_at_ext m1 (fun a h1 h2 => ?_) ?_) ?_ (fun a h1 h2 h3 => ?_) ?_ ?_) (by decide) (by decide)) (by omega) (by omega)
  · simp only [jk_tg]; rw [if_neg (by omega), if_neg (by omega), m2 a (by omega)]; simp only [jk_tg]; rw [if_neg (by omega)]
  · funext j; simp only [jk_zr]; rw [if_neg (by omega), if_neg (by omega), (m3 a ha).1]; simp only [jk_zr]; rw [if_neg (by omega)]
  · funext j; simp only [jk_zr]; rw [if_neg (by omega), if_neg (by omega), (m3 a ha).2]; simp only [jk_zr]; rw [if_neg (by omega)]
  · simp only [jk_tg]; rw [if_neg (by omega), if_neg (by omega)]
  · funext j; simp only [jk_zr]; rw [if_neg (by omega), if_neg (by omega)]
  · have z0 : jk_zr σ1 (n + 582) 0 (n + 582) = fun _ => 0 := by funext j; simp [jk_zr]
    rw [← z0, ← m4]; funext j; simp only [jk_zr]; rw [if_neg (by omega), if_neg (by omega)]
  · funext j; simp only [jk_zr]; rw [if_neg (by omega), if_neg (by omega), m5 a (by omega) (by omega) (by omega)]
  · simp only [jk_tg]; rw [if_neg (by omega), if_pos trivial]
  · simp only [jk_tg]; rw [if_pos trivial]
end LA
