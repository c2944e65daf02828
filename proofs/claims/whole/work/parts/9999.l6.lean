section L6
/-- a call that was refused by both -/
theorem lr_fail {n n' : Nat} {t : jk_T} {σ σ1 : jk_I} {ρ : jk_P} {x m o d v K k : Nat} {B c w : Int} {O g b h sv Bf L P : Int → Int} {Lo : List Int} (hat : lr_at n t σ ρ x m o d v K B O g b h sv Bf L P Lo) (hb : B + 85 * O 7 ≤ 85 * (k : Int)) (hn : n ≤ n') (hf : ∀ a, (a < x + 512 ∨ x + 546 ≤ a) → a ≠ o → a ≠ d → σ1 a = σ a) (hc : c ≠ 0) : lz x m o d k c w n' t (md_th σ1 m O c) ρ := by
  have h1 := lr_cq hat hn hf
  have h2 := lr_mq (k := c) h1 (md_post_th (md_like_rf h1.2.1.2.2.1 h1.2.1.2.2.2))
  refine ⟨⟨_, h2.2.1.1, h2.2.1.2.1.1, jk_set_at _ _ _⟩, hat.1.2.2.2.1, fun h => absurd h hc, ⟨v, K, B, _, g, b, h, sv, Bf, L, P, Lo, h2, ?_⟩⟩
  rw [jk_set_ne _ _ (by decide)]; omega
theorem jk_ww {w y : Int} (h : some (jI w) = some (jI y)) : jk_w w = jk_w y := by
  have h9 := Option.some.inj h
  unfold jk_w
  rw [Value.int.inj h9]
theorem jk_w1 {w y : Int} (h : some (jI w) = some (jI y)) : jI w = jI y := Option.some.inj h
theorem md_wls_at : ∀ (l : List Int) (s : (Int → Int) × Int), (∀ i : Nat, i < l.length → (md_wls s l).1 (s.2 + (i : Int)) = l.getD i 0) ∧ ∀ j, (j < s.2 ∨ s.2 + (l.length : Int) ≤ j) → (md_wls s l).1 j = s.1 j
  | [], s => ⟨fun i hi => absurd hi (Nat.not_lt_zero i), fun _ _ => rfl⟩
  | c :: l, s => by
    obtain ⟨h1, h2⟩ := md_wls_at l (md_wr s c)
    rw [md_wls_cons]
    have e2 : (md_wr s c).2 = s.2 + 1 := rfl
    rw [e2] at h1 h2
    refine ⟨fun i hi => ?_, fun j hj => ?_⟩
    · match i, hi with
      | 0, _ =>
        rw [h2 _ (Or.inl (by omega))]
        show jk_set s.1 s.2 c (s.2 + ((0 : Nat) : Int)) = c
        rw [show s.2 + ((0 : Nat) : Int) = s.2 by omega, jk_set_at]
      | i + 1, hi =>
        have h := h1 i (Nat.lt_of_succ_lt_succ hi)
        rw [show s.2 + ((i + 1 : Nat) : Int) = s.2 + 1 + (i : Int) by push_cast; omega]
        exact h
    · have hl : ((c :: l).length : Int) = (l.length : Int) + 1 := by simp
      rw [hl] at hj
      rw [h2 j (by omega)]
      exact jk_set_ne _ _ (by omega)
theorem md_t_lt {k : Nat} {g : (FieldType × Nat) ⊕ Nat} (h : md_t k = some g) : 2 ≤ k ∧ k < 30 := by
  unfold md_t at h
  split at h <;> first | (exact ⟨by decide, by decide⟩) | cases h
theorem md_at_ext {t t' : jk_T} {ρ ρ' : jk_P} {m : Nat} (h : md_at t ρ m) (h1 : ∀ a, m ≤ a → a < m + 30 → t' a = t a) (h2 : ρ' m = ρ m) : md_at t' ρ' m := by
  obtain ⟨a1, a2, a3⟩ := h
  refine ⟨by rw [h1 m (by omega) (by omega)]; exact a1, fun k g hk => ?_, fun i k hk => by rw [h2]; exact a3 i k hk⟩
  have := md_t_lt hk
  rw [h1 _ (by omega) (by omega)]
  exact a2 k g hk
/-! TYPING -/
theorem lr_type {n : Nat} {t : jk_T} {σ σ2 : jk_I} {ρ : jk_P} {x m o d v K k : Nat} {B c : Int} {O g b h sv Bf L P : Int → Int} {Lo : List Int} (hat : lr_at n t σ ρ x m o d v K B O g b h sv Bf L P Lo) (hb : B + 85 * O 7 ≤ 85 * (k : Int)) (hc : 0 ≤ c ∧ c < 65536) (h7 : O 7 ≠ 60)
    (c1 : σ2 (x + 550) = jk_set (σ (x + 550)) 1 (O 7 + 1)) (c2 : σ2 (x + 552) = jk_set Bf (O 7) c) (m1 : σ2 m = jk_set (jk_set O 7 (O 7 + 1)) 12 0) (m2 : σ2 (m + 10) = jk_set Bf (O 7) c) (hf : ∀ a, a ≠ x + 550 → a ≠ x + 552 → a ≠ m → a ≠ m + 10 → a ≠ o → σ2 a = σ a) : lr x m o d (k + 1) n t σ2 ρ := by
  obtain ⟨⟨⟨p1, p2, p3, p4⟩, p5, p6, p7, p8⟩, hm, hx, hg⟩ := id hat
  obtain ⟨e1, e2, e3⟩ := lg_2 hg
  have h70 := hg.2.2.2.2.2.2.2.2.2.2.1
  obtain ⟨r0, ⟨r1, r2, r3, r4, r5, r6, r7, r8⟩, r9, r10⟩ := hm
  have oo : ∀ i, i ≠ 7 → i ≠ 12 → (jk_set (jk_set O 7 (O 7 + 1)) 12 0) i = O i := fun i h3 h12 => (jk_set_ne _ _ h12).trans (jk_set_ne _ _ h3)
  have o7 : (jk_set (jk_set O 7 (O 7 + 1)) 12 0) 7 = O 7 + 1 := by rw [jk_set_ne _ _ (by decide), jk_set_at]
  refine ⟨v, K, B, jk_set (jk_set O 7 (O 7 + 1)) 12 0, g, b, h, sv, jk_set Bf (O 7) c, L, P, Lo, ⟨⟨⟨p1, p2, p3, p4⟩, p5, p6, p7, p8⟩, ⟨r0, ⟨m1, ?_, ?_, ?_, ?_, m2, ?_, ?_⟩, fun p hp => ?_, fun p hp => ?_⟩, ?_, ?_⟩, by rw [o7]; push_cast; omega⟩
  · rw [hf _ (by omega) (by omega) (by omega) (by omega) (by omega)]; exact r2
  · rw [hf _ (by omega) (by omega) (by omega) (by omega) (by omega)]; exact r3
  · rw [hf _ (by omega) (by omega) (by omega) (by omega) (by omega)]; exact r4
  · rw [hf _ (by omega) (by omega) (by omega) (by omega) (by omega)]; exact r5
  · rw [hf _ (by omega) (by omega) (by omega) (by omega) (by omega)]; exact r7
  · rw [hf _ (by omega) (by omega) (by omega) (by omega) (by omega)]; exact r8
  · rw [hf (m + 14) (by omega) (by omega) (by omega) (by omega) (by omega), hf (m + 22) (by omega) (by omega) (by omega) (by omega) (by omega), hf (m + 24) (by omega) (by omega) (by omega) (by omega) (by omega)]; exact r9 p hp
  · rw [hf (m + 16) (by omega) (by omega) (by omega) (by omega) (by omega), hf (m + 18) (by omega) (by omega) (by omega) (by omega) (by omega), hf (m + 20) (by omega) (by omega) (by omega) (by omega) (by omega), hf (m + 26) (by omega) (by omega) (by omega) (by omega) (by omega)]; exact r10 p hp
  · obtain ⟨a1, a2, ⟨a3, a4, a5⟩, a6, a7, ⟨a8, a9, a10, a11⟩, a12, a13, a14⟩ := hx
    have hq : ∀ a, (a < x + 550 ∨ (x + 552 < a ∧ a < x + 582) ∨ a = v) → σ2 a = σ a := fun a ha => hf a (by omega) (by omega) (by omega) (by omega) (by omega)
    refine ⟨a1, cl_rel_same e1 (fun a h1 h2 => hq a (by omega)) a2, ⟨cl_nn_same (fun q hq9 => hq _ (by omega)) a3, cl_nn_same (fun q hq9 => hq _ (by omega)) a4, cl_nn_same (fun q hq9 => hq _ (by omega)) a5⟩, ?_, bd_same a7 (hq _ (by omega)) (hq _ (by omega)), ⟨?_, ?_, ?_, ?_⟩, fun h => ?_, c2, fun i hi => ?_⟩
    · rw [oo 3 (by decide) (by decide)]
      exact hs_rel_same (fun a h1 h2 => hq a (by omega)) (fun j hj => e3 j (by omega)) a6
    · rw [hq x (by omega), oo 5 (by decide) (by decide)]; exact a8
    · rw [hq x (by omega), oo 8 (by decide) (by decide)]; exact a9
    · rw [hq x (by omega), oo 9 (by decide) (by decide)]; exact a10
    · rw [c1, jk_set_at, o7]
    · rw [oo 5 (by decide) (by decide)] at h
      exact cl_rel_same (e2 h) (fun a h1 h2 => hq a (by omega)) (a12 h)
    · rw [hq _ (by omega)]; exact a14 i hi
  · obtain ⟨a0, a1, a2, a3, a4, a5, a6, a7, a8, a9, a10, a11, a12, a13, a14, a15⟩ := hg
    refine ⟨a0, a1, a2, by rw [oo 3 (by decide) (by decide)]; exact a3, by rw [oo 3 (by decide) (by decide)]; exact a4, by rw [oo 5 (by decide) (by decide)]; exact a5, a6, by rw [oo 5 (by decide) (by decide)]; exact a7, by rw [oo 8 (by decide) (by decide)]; exact a8, by rw [oo 9 (by decide) (by decide)]; exact a9, by rw [o7]; omega, fun j hj => ?_, by rw [oo 11 (by decide) (by decide)]; exact a12, a13, a14, a15⟩
    unfold jk_set
    split
    · exact hc
    · exact a11 j hj

theorem lf_56 {G : jk_G} {n : Nat} {t : jk_T} {σ : jk_I} {ρ : jk_P} {N : Nat} {f : Nat → Int} {x m o d k : Nat} (hzl : zl_ok G N f) (hr : lr x m o d k n t σ ρ) (hk9 : k ≤ 512) : lc_F G yL_type mL_type [(0, 9, 12, 21), (0, 9, 15, 13)] 1 6 [.ref x, jI (jk_ch (f (5 * (k : Int) + 1).toNat)), .ref o] yX13_type mX13_type [.ref m, jI (jk_ch (f (5 * (k : Int) + 1).toNat))] false x m o d k n t σ ρ := by
  obtain ⟨hz, hzx, hzv, hzp, hzn, ⟨hN, hf⟩, -⟩ := hzl
  obtain ⟨v, K, B, O, g, b, h, sv, Bf, L, P, Lo, hat, hb⟩ := hr
  obtain ⟨hx, hln, hrel, hall, hnn, hsi, hma, hmg, hmo, hmz, hmz1, hto, hJ⟩ := lr_f hat
  have hB := lr_B hat hb hk9
  have h7 := hat.2.2.2.2.2.2.2.2.2.2.2.2.2.1
  have hBf := hat.2.2.2.2.2.2.2.2.2.2.2.2.2.2.1
  have hc := jk_ch_bd (f (5 * (k : Int) + 1).toNat)
  have hpl := hat.1.1
  generalize jk_ch (f (5 * (k : Int) + 1).toNat) = c at hc ⊢
  have hsz : σ (x + 550) 1 = O 7 := hat.2.2.1.2.2.2.2.2.1.2.2.2
  have hbf : σ (x + 552) = Bf := hat.2.2.1.2.2.2.2.2.2.2.1
  refine ⟨_, w_type hzn hx (c_X12_type hz hzx hln hrel hall hnn hsi hc hsz h7) (fun v' n' t' σ' ρ' hq => ⟨⟨_, hq.2.1⟩, by rw [hq.2.2.2.1]; exact hto⟩) (fun E n' t' σ' ρ' hx9 => by rcases hx9.1 with ⟨-, h⟩ | ⟨-, -, h⟩ <;> rw [h] <;> first | exact Or.inl rfl | exact Or.inr rfl), fun v' n' t' σ' ρ' hq => ?_⟩
  rcases hq with ⟨w, σ1, ⟨⟨h1, h2⟩, h3, h4, h5, h6, h8⟩, rfl, rfl⟩ | ⟨i, hi, ⟨h1, h2, h4, h5, h6⟩, rfl⟩
  · subst h4 h5 h6
    have hm1 : lm_is t' ρ' (jk_row σ1 o (jk_set (σ1 o) 0 (jk_w w))) m O g b h sv Bf L P := lm_same hat.2.1 (fun a ha hb => by rw [jk_row_ne _ _ (by omega), h8, jk_row_ne _ _ (by omega), jk_row_ne _ _ (by omega)])
    refine ⟨0, rfl, ⟨by decide, by decide⟩, hma.1, _, c_X13_type hm1.1 hm1.2.1.1 hm1.2.1.2.2.2.2.2.1 hc h7, fun w' n2 t2 σ2 ρ2 hq2 => ?_⟩
    obtain ⟨rfl, rfl, rfl, rfl, rfl⟩ := hq2
    have e1 : md_ty O c = (0, O 7 + 1) := by unfold md_ty; rw [if_neg (by rw [h1]; decide), if_neg h2]
    have e2 : md_tyS (jk_row σ1 o (jk_set (σ1 o) 0 (jk_w w))) m O Bf c = jk_row (jk_row (jk_row σ1 o (jk_set (σ1 o) 0 (jk_w w))) (m + 10) (jk_set Bf (O 7) c)) m (jk_set (jk_set O 7 (O 7 + 1)) 12 0) := by unfold md_tyS; rw [if_neg (by rw [h1]; decide), if_neg h2]
    rw [e1, e2]
    refine ⟨O 7 + 1, rfl, (fun h => by cases h), ⟨_, hma, jk_row_same _ _ _, jk_set_at _ _ _⟩, hto, fun _ => ?_, lr_type hat hb hc h2 ?_ ?_ (jk_row_same _ _ _) ?_ (fun a g1 g2 g3 g4 g5 => ?_)⟩
    · rw [jk_row_ne _ _ (by omega), jk_row_ne _ _ (by omega), jk_row_same, jk_set_at]; exact jk_ww h3
    · rw [jk_row_ne _ _ (by omega), jk_row_ne _ _ (by omega), jk_row_ne _ _ (by omega), h8, jk_row_same]
    · rw [jk_row_ne _ _ (by omega), jk_row_ne _ _ (by omega), jk_row_ne _ _ (by omega), h8, jk_row_ne _ _ (by omega), jk_row_same, hbf]
    · rw [jk_row_ne _ _ (by omega), jk_row_same]
    · rw [jk_row_ne _ _ g3, jk_row_ne _ _ g4, jk_row_ne _ _ g5, h8, jk_row_ne _ _ g1, jk_row_ne _ _ g2]
  · subst h4 h5
    subst h6
    have hi2 : i < 2 := hi
    have hri : (md_in c 32 126 = false ∧ i = 0) ∨ (md_in c 32 126 = true ∧ O 7 = 60 ∧ i = 1) := by
      rcases (show i = 0 ∨ i = 1 by omega) with rfl | rfl
      · rcases h1 with ⟨a, -⟩ | ⟨-, -, e⟩
        · exact Or.inl ⟨a, rfl⟩
        · exact absurd e (by decide)
      · rcases h1 with ⟨-, e⟩ | ⟨a, a2, -⟩
        · exact absurd e (by decide)
        · exact Or.inr ⟨a, a2, rfl⟩
    have hS : md_tyS σ' m O Bf c = md_th σ' m O ((i : Int) + 1) := by
      unfold md_tyS
      rcases hri with ⟨a, rfl⟩ | ⟨a, a2, rfl⟩
      · rw [if_pos a]; rfl
      · rw [if_neg (by rw [a]; decide), if_pos a2]; rfl
    refine ⟨(i : Int) + 1, rfl, ⟨by omega, by omega⟩, hma.1, _, c_X13_type hma hmo hat.2.1.2.1.2.2.2.2.2.1 hc h7, fun w' n2 t2 σ2 ρ2 hq2 => ?_⟩
    obtain ⟨rfl, rfl, rfl, rfl, rfl⟩ := hq2
    rw [hS]
    exact ⟨_, rfl, (fun h => by cases h), lr_fail hat hb h2 (fun _ _ _ _ => rfl) (by omega)⟩
/-! UNDO -/
theorem lf_60 {G : jk_G} {n : Nat} {t : jk_T} {σ : jk_I} {ρ : jk_P} {N : Nat} {f : Nat → Int} {x m o d k : Nat} (hzl : zl_ok G N f) (hr : lr x m o d k n t σ ρ) (hk9 : k ≤ 512) : lc_F G yL_undo mL_undo [(0, 8, 11, 43)] 1 6 [.ref x, .ref o] yX13_undo mX13_undo [.ref m] false x m o d k n t σ ρ := by
  obtain ⟨hz, hzx, hzv, hzp, hzn, ⟨hN, hf⟩, -⟩ := hzl
  obtain ⟨v, K, B, O, g, b, h, sv, Bf, L, P, Lo, hat, hb⟩ := hr
  obtain ⟨hx, hln, hrel, hall, hnn, hsi, hma, hmg, hmo, hmz, hmz1, hto, hJ⟩ := lr_f hat
  have hB := lr_B hat hb hk9
  have hO3 := hat.2.2.2.2.2.2.1
  have hH := hat.2.2.2.2.2.2.2.1
  have hpl := hat.1.1
  have hpv := hat.1.2.1
  obtain ⟨e1, e2, e3⟩ := lg_2 hat.2.2.2
  refine ⟨_, w_undo hzn hx (c_X12_undo (c := (O 3).toNat) (Hr := lh_H h) hz hzx hln hrel hall hnn hsi hat.2.2.1.2.2.2.1 (fun j hj => (hH j (by omega)).1.1)) (fun v' n' t' σ' ρ' hq => ⟨⟨_, hq.2.1⟩, by rw [hq.2.2.2.1]; exact hto⟩) (fun E n' t' σ' ρ' hx9 => hx9.2.1), fun v' n' t' σ' ρ' hq => ?_⟩
  rcases hq with ⟨w, σ1, ⟨h1, h3, h4, h5, h6, h7, h8, h9, h10⟩, rfl, rfl⟩ | ⟨i, hi, ⟨h1, -, h2, h4, h5, h6⟩, rfl⟩
  · subst h4 h5 h6
    have hne : O 3 ≠ 0 := by omega
    have hm1 : lm_is t' ρ' (jk_row σ1 o (jk_set (σ1 o) 0 (jk_w w))) m O g b h sv Bf L P := lm_same hat.2.1 (fun a ha hb => by rw [jk_row_ne _ _ (by omega)]; exact h10 a (by omega) (by omega))
    have hfr : ∀ a, a ≠ o → (jk_row σ1 o (jk_set (σ1 o) 0 (jk_w w))) a = σ1 a := fun a ha => jk_row_ne _ _ ha
    refine ⟨0, rfl, ⟨by decide, by decide⟩, hma.1, _, c_X13_undo hm1.1 hm1.2.1.1 hm1.2.1.2.1 hall.2.2.2.1 hm1.2.1.2.2.2.1 hO3, fun w' n2 t2 σ2 ρ2 hq2 => ?_⟩
    obtain ⟨rfl, rfl, rfl, rfl, rfl⟩ := hq2
    have hw : jk_w w = jk_w (O 3 - 1) := by rw [jk_ww h3]; congr 1; omega
    generalize hσ1 : jk_row σ1 o (jk_set (σ1 o) 0 (jk_w w)) = σ9 at hm1 hfr ⊢
    have ho9 : σ9 o 0 = jk_w (O 3 - 1) := by rw [← hσ1, jk_row_same, jk_set_at, hw]
    have eg : md_unG h g O = lh_H h ((O 3).toNat - 1) := by
      funext p
      unfold md_unG md_cpy lh_H
      by_cases hp : 0 ≤ p ∧ p < 240
      · rw [if_pos (by omega), if_pos hp]; congr 1; omega
      · rw [if_neg (by omega), if_neg hp]; exact hall.2.2.2.1 p (by omega)
    have e1' : md_un O = (0, O 3 - 1) := by unfold md_un; rw [if_neg hne]
    have e2' : md_unS σ9 m O h g = jk_row (jk_row σ9 (m + 2) (lh_H h ((O 3).toNat - 1))) m (jk_set (jk_set O 3 (O 3 - 1)) 12 0) := by unfold md_unS; rw [if_neg hne, eg]
    rw [e1', e2']
    have oo : ∀ i, i ≠ 3 → i ≠ 12 → (jk_set (jk_set O 3 (O 3 - 1)) 12 0) i = O i := fun i h3 h12 => (jk_set_ne _ _ h12).trans (jk_set_ne _ _ h3)
    have o3 : (jk_set (jk_set O 3 (O 3 - 1)) 12 0) 3 = O 3 - 1 := by rw [jk_set_ne _ _ (by decide), jk_set_at]
    have hst := hH ((O 3).toNat - 1) (by omega)
    have hfr2 : ∀ a, a ≠ m → a ≠ m + 2 → a ≠ o → (jk_row (jk_row σ9 (m + 2) (lh_H h ((O 3).toNat - 1))) m (jk_set (jk_set O 3 (O 3 - 1)) 12 0)) a = σ1 a := fun a g0 g2 go => by rw [jk_row_ne _ _ g0, jk_row_ne _ _ g2]; exact hfr a go
    refine ⟨O 3 - 1, rfl, (fun h => by cases h), ⟨_, hma, jk_row_same _ _ _, jk_set_at _ _ _⟩, hto, fun _ => ?_, ⟨v, K, B, _, lh_H h ((O 3).toNat - 1), b, h, sv, Bf, L, P, Lo, ⟨hat.1, ⟨hma, ⟨jk_row_same _ _ _, ?_, ?_, ?_, ?_, ?_, ?_, ?_⟩, md_z_row (md_z_row hm1.2.2.1 _ ⟨by omega, by omega, by omega⟩) _ ⟨by omega, by omega, by omega⟩, md_z10_row (md_z10_row hm1.2.2.2 _ ⟨by omega, by omega, by omega, by omega⟩) _ ⟨by omega, by omega, by omega, by omega⟩⟩, ?_, ?_⟩, by rw [oo 7 (by decide) (by decide)]; push_cast; omega⟩⟩
    · rw [jk_row_ne _ _ (by omega), jk_row_ne _ _ (by omega)]; exact ho9
    · rw [jk_row_ne _ _ (by omega)]; exact jk_row_same _ _ _
    · rw [jk_row_ne _ _ (by omega), jk_row_ne _ _ (by omega)]; exact hm1.2.1.2.2.1
    · rw [jk_row_ne _ _ (by omega), jk_row_ne _ _ (by omega)]; exact hm1.2.1.2.2.2.1
    · rw [jk_row_ne _ _ (by omega), jk_row_ne _ _ (by omega)]; exact hm1.2.1.2.2.2.2.1
    · rw [jk_row_ne _ _ (by omega), jk_row_ne _ _ (by omega)]; exact hm1.2.1.2.2.2.2.2.1
    · rw [jk_row_ne _ _ (by omega), jk_row_ne _ _ (by omega)]; exact hm1.2.1.2.2.2.2.2.2.1
    · rw [jk_row_ne _ _ (by omega), jk_row_ne _ _ (by omega)]; exact hm1.2.1.2.2.2.2.2.2.2
    · refine lx_upd e2 (by omega) hat.2.2.1 (cl_rel_same hst.1.1.2.2.1.2 (fun a ha hb => hfr2 a (by omega) (by omega) (by omega)) h7) (cl_nn_same (fun q hq => hfr2 _ (by omega) (by omega) (by omega)) h8) ?_ ⟨oo 5 (by decide) (by decide), oo 7 (by decide) (by decide), oo 8 (by decide) (by decide), oo 9 (by decide) (by decide)⟩ (fun a ha hb hc hd => (hfr2 a (by omega) (by omega) (by omega)).trans (h10 a hb hc))
      rw [o3]
      exact hs_rel_congr (hs_rel_same (fun a ha hb => hfr2 a (by omega) (by omega) (by omega)) (fun j hj => e3 j (by omega)) h9) (by omega) (fun _ _ => rfl)
    · exact lg_upd hat.2.2.2 (Int.le_refl _) (by omega) ⟨oo 5 (by decide) (by decide), oo 7 (by decide) (by decide), oo 8 (by decide) (by decide), oo 9 (by decide) (by decide), oo 11 (by decide) (by decide)⟩ (by rw [o3]; omega) hst hat.2.2.2.2.2.1 (fun j hj => hH j (by rw [o3] at hj; omega))
  · subst h4 h5
    subst h6
    have hi2 : i < 1 := hi
    obtain rfl : i = 0 := by omega
    have h30 : O 3 = 0 := by omega
    have hS : md_unS σ' m O h g = md_th σ' m O 1 := by unfold md_unS; rw [if_pos h30]
    refine ⟨((0 : Nat) : Int) + 1, rfl, ⟨by decide, by decide⟩, hma.1, _, c_X13_undo hma hmo hmg hall.2.2.2.1 hat.2.1.2.1.2.2.2.1 hO3, fun w' n2 t2 σ2 ρ2 hq2 => ?_⟩
    obtain ⟨rfl, rfl, rfl, rfl, rfl⟩ := hq2
    rw [hS]
    exact ⟨_, rfl, (fun h => by cases h), lr_fail hat hb h2 (fun _ _ _ _ => rfl) (by decide)⟩
/-! SNAPSHOT -/
theorem lf_61 {G : jk_G} {n : Nat} {t : jk_T} {σ : jk_I} {ρ : jk_P} {N : Nat} {f : Nat → Int} {x m o d k : Nat} (hzl : zl_ok G N f) (hr : lr x m o d k n t σ ρ) (hk9 : k ≤ 512) : lc_V G yX12_save mX12_save 0 0 yX13_save mX13_save x m o d k n t σ ρ := by
  obtain ⟨hz, hzx, hzv, hzp, hzn, ⟨hN, hf⟩, -⟩ := hzl
  obtain ⟨v, K, B, O, g, b, h, sv, Bf, L, P, Lo, hat, hb⟩ := hr
  obtain ⟨hx, hln, hrel, hall, hnn, hsi, hma, hmg, hmo, hmz, hmz1, hto, hJ⟩ := lr_f hat
  have hB := lr_B hat hb hk9
  have hpl := hat.1.1
  have hpv := hat.1.2.1
  obtain ⟨e1, e2, e3⟩ := lg_2 hat.2.2.2
  have hO3 := hat.2.2.2.2.2.2.1
  have hO5 := hat.2.2.2.2.2.2.2.2.1
  have i1 := hall.1.2.1
  refine ⟨_, _, c_X12_save hz hzx hln hrel hall hnn hsi, fun _ _ _ _ _ h => h, hx, fun v' n' t' σ' ρ' hq => ?_⟩
  obtain ⟨rfl, h4, h5, h6, h7, h8, h9, h10⟩ := hq
  subst h4 h5 h6
  have hm1 : lm_is t' ρ' σ' m O g b h sv Bf L P := lm_same hat.2.1 (fun a ha hb => h10 a (by omega) (by omega))
  refine ⟨g 1, rfl, ⟨by omega, by omega⟩, hma.1, _, c_X13_save hm1.1 hm1.2.1.1 hm1.2.1.2.1 hall.2.2.2.1 hm1.2.1.2.2.2.2.1 hat.2.2.2.2.2.2.2.2.2.1, fun w n2 t2 σ2 ρ2 hq2 => ?_⟩
  obtain ⟨rfl, rfl, rfl, rfl, rfl⟩ := hq2
  unfold md_saS
  have oo : ∀ i, i ≠ 5 → i ≠ 12 → (jk_set (jk_set O 5 1) 12 0) i = O i := fun i h3 h12 => (jk_set_ne _ _ h12).trans (jk_set_ne _ _ h3)
  have o5 : (jk_set (jk_set O 5 1) 12 0) 5 = 1 := by rw [jk_set_ne _ _ (by decide), jk_set_at]
  have hfr2 : ∀ a, a ≠ m → a ≠ m + 8 → (jk_row (jk_row σ' (m + 8) g) m (jk_set (jk_set O 5 1) 12 0)) a = σ' a := fun a g0 g2 => by rw [jk_row_ne _ _ g0, jk_row_ne _ _ g2]
  refine ⟨rfl, ⟨v, K, B, _, g, b, h, g, Bf, L, P, Lo, ⟨hat.1, ⟨hma, ⟨jk_row_same _ _ _, ?_, ?_, ?_, ?_, ?_, ?_, ?_⟩, md_z_row (md_z_row hm1.2.2.1 _ ⟨by omega, by omega, by omega⟩) _ ⟨by omega, by omega, by omega⟩, md_z10_row (md_z10_row hm1.2.2.2 _ ⟨by omega, by omega, by omega, by omega⟩) _ ⟨by omega, by omega, by omega, by omega⟩⟩, ?_, ?_⟩, by rw [oo 7 (by decide) (by decide)]; push_cast; omega⟩⟩
  · rw [hfr2 _ (by omega) (by omega)]; exact hm1.2.1.2.1
  · rw [hfr2 _ (by omega) (by omega)]; exact hm1.2.1.2.2.1
  · rw [hfr2 _ (by omega) (by omega)]; exact hm1.2.1.2.2.2.1
  · rw [jk_row_ne _ _ (by omega)]; exact jk_row_same _ _ _
  · rw [hfr2 _ (by omega) (by omega)]; exact hm1.2.1.2.2.2.2.2.1
  · rw [hfr2 _ (by omega) (by omega)]; exact hm1.2.1.2.2.2.2.2.2.1
  · rw [hfr2 _ (by omega) (by omega)]; exact hm1.2.1.2.2.2.2.2.2.2
  · obtain ⟨a1, a2, ⟨a3, a4, a5⟩, a6, a7, ⟨a8, a9, a10, a11⟩, a12, a13, a14⟩ := hat.2.2.1
    have hq : ∀ a, a ≠ x → (a < x + 94 ∨ x + 138 < a) → (a < x + 582 ∨ a = v) → (jk_row (jk_row σ' (m + 8) g) m (jk_set (jk_set O 5 1) 12 0)) a = σ a := fun a g1 g2 g3 => (hfr2 a (by omega) (by omega)).trans (h10 a g1 g2)
    have hqx : (jk_row (jk_row σ' (m + 8) g) m (jk_set (jk_set O 5 1) 12 0)) x = jk_set (σ x) 3 1 := (hfr2 x (by omega) (by omega)).trans h9
    refine ⟨a1, cl_rel_same e1 (fun a h1 h2 => hq a (by omega) (by omega) (by omega)) a2, ⟨cl_nn_same (fun q hq9 => hq _ (by omega) (by omega) (by omega)) a3, cl_nn_same (fun q hq9 => hq _ (by omega) (by omega) (by omega)) a4, cl_nn_same (fun q hq9 => hfr2 _ (by omega) (by omega)) (h8 a5)⟩, ?_, bd_same a7 (hq _ (by omega) (by omega) (by omega)) (hq _ (by omega) (by omega) (by omega)), ⟨?_, ?_, ?_, ?_⟩, fun _ => cl_rel_same e1 (fun a h1 h2 => hfr2 a (by omega) (by omega)) h7, by rw [hq _ (by omega) (by omega) (by omega)]; exact a13, fun i hi => ?_⟩
    · rw [oo 3 (by decide) (by decide)]
      exact hs_rel_same (fun a h1 h2 => hq a (by omega) (by omega) (by omega)) (fun j hj => e3 j (by omega)) a6
    · rw [hqx, jk_set_at, o5]
    · rw [hqx, jk_set_ne _ _ (by decide), oo 8 (by decide) (by decide)]; exact a9
    · rw [hqx, jk_set_ne _ _ (by decide), oo 9 (by decide) (by decide)]; exact a10
    · rw [hq (x + 550) (by omega) (by omega) (by omega), oo 7 (by decide) (by decide)]; exact a11
    · rw [hq _ (by omega) (by omega) (by omega)]; exact a14 i hi
  · obtain ⟨a0, a1, a2, a3, a4, a5, a6, a7, a8, a9, a10, a11, a12, a13, a14, a15⟩ := hat.2.2.2
    exact ⟨a0, a1, a2, by rw [oo 3 (by decide) (by decide)]; exact a3, by rw [oo 3 (by decide) (by decide)]; exact a4, Or.inr o5, hall.2.2.2.1, fun _ => a1, by rw [oo 8 (by decide) (by decide)]; exact a8, by rw [oo 9 (by decide) (by decide)]; exact a9, by rw [oo 7 (by decide) (by decide)]; exact a10, a11, by rw [oo 11 (by decide) (by decide)]; exact a12, a13, a14, a15⟩
theorem lf_62 {G : jk_G} {n : Nat} {t : jk_T} {σ : jk_I} {ρ : jk_P} {N : Nat} {f : Nat → Int} {x m o d k : Nat} (hzl : zl_ok G N f) (hr : lr x m o d k n t σ ρ) (hk9 : k ≤ 512) : lc_F G yL_restore mL_restore [(0, 8, 11, 13)] 1 6 [.ref x, .ref o] yX13_restore mX13_restore [.ref m] false x m o d k n t σ ρ := by
  obtain ⟨hz, hzx, hzv, hzp, hzn, ⟨hN, hf⟩, -⟩ := hzl
  obtain ⟨v, K, B, O, g, b, h, sv, Bf, L, P, Lo, hat, hb⟩ := hr
  obtain ⟨hx, hln, hrel, hall, hnn, hsi, hma, hmg, hmo, hmz, hmz1, hto, hJ⟩ := lr_f hat
  have hB := lr_B hat hb hk9
  have hpl := hat.1.1
  have hpv := hat.1.2.1
  obtain ⟨e1, e2, e3⟩ := lg_2 hat.2.2.2
  have hO5 := hat.2.2.2.2.2.2.2.2.1
  have hszf := hat.2.2.2.2.2.2.2.2.2.1
  have hs5 : σ x 3 = O 5 := hat.2.2.1.2.2.2.2.2.1.1
  obtain ⟨sv9, B9, hi9, hs9⟩ : ∃ (sv9 : Int → Int) (B9 : Int), md_inv B9 sv9 ∧ (O 5 = 1 → sv9 = sv) := by
    rcases hO5 with h | h
    · exact ⟨_, _, md_all_new.1, fun h2 => by omega⟩
    · exact ⟨sv, B, (hat.2.2.2.2.2.2.2.2.2.2.1 h).1.1, fun _ => rfl⟩
  refine ⟨_, w_restore hzn hx (c_X12_restore (sv := sv9) hz hzx hln hrel hall hnn hsi (by rw [hs5]; exact hO5) (fun h => by rw [hs9 (by omega)]; exact hat.2.2.1.2.2.2.2.2.2.1 (by omega)) hi9 hat.2.2.1.2.2.1.2.2) (fun v' n' t' σ' ρ' hq => ⟨⟨_, hq.2.1⟩, by rw [hq.2.2.2.1]; exact hto⟩) (fun E n' t' σ' ρ' hx9 => hx9.2.1), fun v' n' t' σ' ρ' hq => ?_⟩
  rcases hq with ⟨w, σ1, ⟨h1, h3, h4, h5, h6, h7, h8, h9, h10⟩, rfl, rfl⟩ | ⟨i, hi, ⟨h1, -, h2, h4, h5, h6⟩, rfl⟩
  · subst h4 h5 h6
    have h51 : O 5 = 1 := by omega
    have hsv9 := hs9 h51
    subst hsv9
    have hst := hat.2.2.2.2.2.2.2.2.2.2.1 h51
    have hne : O 5 ≠ 0 := by omega
    have hm1 : lm_is t' ρ' (jk_row σ1 o (jk_set (σ1 o) 0 (jk_w w))) m O g b h sv9 Bf L P := lm_same hat.2.1 (fun a ha hb => by rw [jk_row_ne _ _ (by omega)]; exact h10 a (by omega) (by omega))
    have hfr : ∀ a, a ≠ o → (jk_row σ1 o (jk_set (σ1 o) 0 (jk_w w))) a = σ1 a := fun a ha => jk_row_ne _ _ ha
    refine ⟨0, rfl, ⟨by decide, by decide⟩, hma.1, _, c_X13_restore hm1.1 hm1.2.1.1 hm1.2.1.2.1 hall.2.2.2.1 hm1.2.1.2.2.2.2.1 hszf hO5, fun w' n2 t2 σ2 ρ2 hq2 => ?_⟩
    obtain ⟨rfl, rfl, rfl, rfl, rfl⟩ := hq2
    have hw : jk_w w = jk_w (sv9 1) := jk_ww h3
    generalize hσ1 : jk_row σ1 o (jk_set (σ1 o) 0 (jk_w w)) = σ9 at hm1 hfr ⊢
    have ho9 : σ9 o 0 = jk_w (sv9 1) := by rw [← hσ1, jk_row_same, jk_set_at, hw]
    have e1' : md_rs O sv9 = (0, sv9 1) := by unfold md_rs; rw [if_neg hne]
    have e2' : md_rsS σ9 m O sv9 = jk_row (jk_row σ9 (m + 2) sv9) m (jk_set (jk_set O 3 0) 12 0) := by unfold md_rsS; rw [if_neg hne]
    rw [e1', e2']
    have oo : ∀ i, i ≠ 3 → i ≠ 12 → (jk_set (jk_set O 3 0) 12 0) i = O i := fun i h3 h12 => (jk_set_ne _ _ h12).trans (jk_set_ne _ _ h3)
    have o3 : (jk_set (jk_set O 3 0) 12 0) 3 = 0 := by rw [jk_set_ne _ _ (by decide), jk_set_at]
    have hfr2 : ∀ a, a ≠ m → a ≠ m + 2 → a ≠ o → (jk_row (jk_row σ9 (m + 2) sv9) m (jk_set (jk_set O 3 0) 12 0)) a = σ1 a := fun a g0 g2 go => by rw [jk_row_ne _ _ g0, jk_row_ne _ _ g2]; exact hfr a go
    refine ⟨sv9 1, rfl, (fun h => by cases h), ⟨_, hma, jk_row_same _ _ _, jk_set_at _ _ _⟩, hto, fun _ => ?_, ⟨v, K, B, _, sv9, b, h, sv9, Bf, L, P, Lo, ⟨hat.1, ⟨hma, ⟨jk_row_same _ _ _, ?_, ?_, ?_, ?_, ?_, ?_, ?_⟩, md_z_row (md_z_row hm1.2.2.1 _ ⟨by omega, by omega, by omega⟩) _ ⟨by omega, by omega, by omega⟩, md_z10_row (md_z10_row hm1.2.2.2 _ ⟨by omega, by omega, by omega, by omega⟩) _ ⟨by omega, by omega, by omega, by omega⟩⟩, ?_, ?_⟩, by rw [oo 7 (by decide) (by decide)]; push_cast; omega⟩⟩
    · rw [jk_row_ne _ _ (by omega), jk_row_ne _ _ (by omega)]; exact ho9
    · rw [jk_row_ne _ _ (by omega)]; exact jk_row_same _ _ _
    · rw [jk_row_ne _ _ (by omega), jk_row_ne _ _ (by omega)]; exact hm1.2.1.2.2.1
    · rw [jk_row_ne _ _ (by omega), jk_row_ne _ _ (by omega)]; exact hm1.2.1.2.2.2.1
    · rw [jk_row_ne _ _ (by omega), jk_row_ne _ _ (by omega)]; exact hm1.2.1.2.2.2.2.1
    · rw [jk_row_ne _ _ (by omega), jk_row_ne _ _ (by omega)]; exact hm1.2.1.2.2.2.2.2.1
    · rw [jk_row_ne _ _ (by omega), jk_row_ne _ _ (by omega)]; exact hm1.2.1.2.2.2.2.2.2.1
    · rw [jk_row_ne _ _ (by omega), jk_row_ne _ _ (by omega)]; exact hm1.2.1.2.2.2.2.2.2.2
    · refine lx_upd e2 (by omega) hat.2.2.1 (cl_rel_same hst.1.1.2.2.1.2 (fun a ha hb => hfr2 a (by omega) (by omega) (by omega)) h7) (cl_nn_same (fun q hq => hfr2 _ (by omega) (by omega) (by omega)) h8) ?_ ⟨oo 5 (by decide) (by decide), oo 7 (by decide) (by decide), oo 8 (by decide) (by decide), oo 9 (by decide) (by decide)⟩ (fun a ha hb hc hd => (hfr2 a (by omega) (by omega) (by omega)).trans (h10 a (by omega) hb))
      rw [o3]
      obtain ⟨z0, nx, z1, z2, z3, z4, z5⟩ := hat.2.2.1.2.2.2.1
      have eh := (hfr2 (x + 140) (by omega) (by omega) (by omega)).trans h9
      exact ⟨by decide, nx, z1, by rw [eh, jk_set_ne _ _ (by decide)]; exact z2, by rw [eh, jk_set_at]; rfl, fun j hj => absurd hj (Nat.not_lt_zero j), fun i hi => cl_nn_same (fun q hq => (hfr2 _ (by omega) (by omega) (by omega)).trans (h10 _ (by omega) (by omega))) (z5 i hi)⟩
    · exact lg_upd hat.2.2.2 (Int.le_refl _) (by omega) ⟨oo 5 (by decide) (by decide), oo 7 (by decide) (by decide), oo 8 (by decide) (by decide), oo 9 (by decide) (by decide), oo 11 (by decide) (by decide)⟩ (by rw [o3]; decide) hst hat.2.2.2.2.2.1 (fun j hj => by rw [o3] at hj; omega)
  · subst h4 h5
    subst h6
    have hi2 : i < 1 := hi
    obtain rfl : i = 0 := by omega
    have h30 : O 5 = 0 := by omega
    have hS : md_rsS σ' m O sv = md_th σ' m O 1 := by unfold md_rsS; rw [if_pos h30]
    refine ⟨((0 : Nat) : Int) + 1, rfl, ⟨by decide, by decide⟩, hma.1, _, c_X13_restore hma hmo hmg hall.2.2.2.1 hat.2.1.2.1.2.2.2.2.1 hszf hO5, fun w' n2 t2 σ2 ρ2 hq2 => ?_⟩
    obtain ⟨rfl, rfl, rfl, rfl, rfl⟩ := hq2
    rw [hS]
    exact ⟨_, rfl, (fun h => by cases h), lr_fail hat hb h2 (fun _ _ _ _ => rfl) (by decide)⟩
/-! POSITIONS, TEXT -/
theorem ep_c (e : Int) : (if e = -1 then ((1, 0) : Int × Int) else (0, e)).1 = 0 ∨ (if e = -1 then ((1, 0) : Int × Int) else (0, e)).1 = 1 := by
  split
  · exact Or.inr rfl
  · exact Or.inl rfl
theorem lf_58 {G : jk_G} {n : Nat} {t : jk_T} {σ : jk_I} {ρ : jk_P} {N : Nat} {f : Nat → Int} {x m o d k : Nat} (hzl : zl_ok G N f) (hr : lr x m o d k n t σ ρ) (hk9 : k ≤ 512) : lc_F G yL_errorPosition mL_errorPosition [(0, 8, 11, 43)] 1 6 [.ref x, .ref o] yX13_errorPosition mX13_errorPosition [.ref m] false x m o d k n t σ ρ := by
  obtain ⟨hz, hzx, hzv, hzp, hzn, ⟨hN, hf⟩, -⟩ := hzl
  obtain ⟨v, K, B, O, g, b, h, sv, Bf, L, P, Lo, hat, hb⟩ := hr
  obtain ⟨hx, hln, hrel, hall, hnn, hsi, hma, hmg, hmo, hmz, hmz1, hto, hJ⟩ := lr_f hat
  have hB := lr_B hat hb hk9
  have h8 := hat.2.2.2.2.2.2.2.2.2.2.2.1
  have hc := ep_c (O 8)
  refine lc_query hat hb (c := (md_q_ep O).1) (val := (md_q_ep O).2) (w_errorPosition hzn hx (c_X12_errorPosition hz hzx hln hrel hall hnn hsi hat.2.2.1.2.2.2.2.2.1.2.1 h8) (fun v' n' t' σ' ρ' hq => ⟨⟨_, hq.2.1⟩, by rw [hq.2.2.2.1]; exact hto⟩) (fun E n' t' σ' ρ' hx9 => hx9.2.1)) (fun _ => rfl) (wq_k1 hc) (jk_in012 hc) (fun h => by cases h) (fun n' σ1 h1 => ?_)
  obtain ⟨-, -, -, q4, -, -, q7, q8, q9, q10, q11, -, q13⟩ := lr_f h1
  exact c_X13_errorPosition q7 q9 q10 q11 ⟨by omega, by omega⟩
theorem lf_59 {G : jk_G} {n : Nat} {t : jk_T} {σ : jk_I} {ρ : jk_P} {N : Nat} {f : Nat → Int} {x m o d k : Nat} (hzl : zl_ok G N f) (hr : lr x m o d k n t σ ρ) (hk9 : k ≤ 512) : lc_F G yL_failedCommand mL_failedCommand [(0, 8, 11, 43)] 1 6 [.ref x, .ref o] yX13_failedCommand mX13_failedCommand [.ref m] false x m o d k n t σ ρ := by
  obtain ⟨hz, hzx, hzv, hzp, hzn, ⟨hN, hf⟩, -⟩ := hzl
  obtain ⟨v, K, B, O, g, b, h, sv, Bf, L, P, Lo, hat, hb⟩ := hr
  obtain ⟨hx, hln, hrel, hall, hnn, hsi, hma, hmg, hmo, hmz, hmz1, hto, hJ⟩ := lr_f hat
  have hB := lr_B hat hb hk9
  have h9 := hat.2.2.2.2.2.2.2.2.2.2.2.2.1
  have hc := ep_c (O 9)
  refine lc_query hat hb (c := (md_q_fc O).1) (val := (md_q_fc O).2) (w_failedCommand hzn hx (c_X12_failedCommand hz hzx hln hrel hall hnn hsi hat.2.2.1.2.2.2.2.2.1.2.2.1 h9) (fun v' n' t' σ' ρ' hq => ⟨⟨_, hq.2.1⟩, by rw [hq.2.2.2.1]; exact hto⟩) (fun E n' t' σ' ρ' hx9 => hx9.2.1)) (fun _ => rfl) (wq_k1 hc) (jk_in012 hc) (fun h => by cases h) (fun n' σ1 h1 => ?_)
  obtain ⟨-, -, -, q4, -, -, q7, q8, q9, q10, q11, -, q13⟩ := lr_f h1
  exact c_X13_failedCommand q7 q9 q10 q11 ⟨by omega, by omega⟩
theorem lf_55 {G : jk_G} {n : Nat} {t : jk_T} {σ : jk_I} {ρ : jk_P} {N : Nat} {f : Nat → Int} {x m o d k : Nat} (hzl : zl_ok G N f) (hr : lr x m o d k n t σ ρ) (hk9 : k ≤ 512) : lc_F G yL_outputAt mL_outputAt [(0, 9, 12, 19)] 1 6 [.ref x, jI (f (5 * (k : Int) + 1).toNat), .ref o] yX13_outputAt mX13_outputAt [.ref m, jI (f (5 * (k : Int) + 1).toNat)] false x m o d k n t σ ρ := by
  obtain ⟨hz, hzx, hzv, hzp, hzn, ⟨hN, hf⟩, -⟩ := hzl
  obtain ⟨v, K, B, O, g, b, h, sv, Bf, L, P, Lo, hat, hb⟩ := hr
  obtain ⟨hx, hln, hrel, hall, hnn, hsi, hma, hmg, hmo, hmz, hmz1, hto, hJ⟩ := lr_f hat
  have hB := lr_B hat hb hk9
  obtain ⟨a11, a12⟩ := hat.2.2.2.2.2.2.2.2.2.2.2.2.2.2.2.1
  obtain ⟨a13, a14, -⟩ := hat.2.2.2.2.2.2.2.2.2.2.2.2.2.2.2.2
  have hp := hf (5 * (k : Int) + 1).toNat
  generalize f (5 * (k : Int) + 1).toNat = p at hp ⊢
  have hcc : (md_q_oa O L p).1 = if cl_has (Lo.length : Nat) p = true then 0 else 1 := by
    unfold md_q_oa
    rw [a11, cl_mi]
    cases cl_has (Lo.length : Nat) p <;> rfl
  have hc : (md_q_oa O L p).1 = 0 ∨ (md_q_oa O L p).1 = 1 := by
    rw [hcc]; split
    · exact Or.inl rfl
    · exact Or.inr rfl
  refine lc_query hat hb (c := (md_q_oa O L p).1) (val := (md_q_oa O L p).2) (val1 := Lo.getD p.toNat 0) (ex := ex_1 "java/lang/IndexOutOfBoundsException") (w_outputAt hzn hx (by rw [hcc]; exact c_X12_outputAt hz hzx hln hrel hall hnn hsi hzv hat.2.2.1.2.2.2.2.1 hp) (fun v' n' t' σ' ρ' hq => ⟨⟨_, hq.2.1⟩, by rw [hq.2.2.2.1]; exact hto⟩) (fun E n' t' σ' ρ' hx9 => hx9.2.1)) (fun h0 => ?_) (wq_k1 hc) (jk_in012 hc) (fun h => by cases h) (fun n' σ1 h1 => ?_)
  · unfold md_q_oa at h0 ⊢
    rw [a11, cl_mi] at h0 ⊢
    cases hh : cl_has (Lo.length : Nat) p with
    | false => rw [hh, if_pos rfl] at h0; exact absurd h0 (by decide)
    | true =>
      have h2 := cl_hasT hh
      have h3 := a13 p.toNat (by omega)
      rw [if_neg (by decide)]
      show Lo.getD p.toNat 0 = L p
      rw [← h3]; congr 1; omega
  · obtain ⟨-, -, -, q4, -, -, q7, q8, q9, q10, q11, -, q13⟩ := lr_f h1
    exact c_X13_outputAt q7 q9 q10 q11 h1.2.1.2.1.2.2.2.2.2.2.1 hp ⟨by omega, by omega⟩ a14
end L6
