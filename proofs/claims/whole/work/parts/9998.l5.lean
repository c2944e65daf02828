section L5
theorem hs_rel_congr {σ : jk_I} {h c c' : Nat} {Hr Hr' : Nat → Int → Int} (hr : hs_rel σ h c Hr) (hc : c' = c) (he : ∀ j, j < c → Hr' j = Hr j) : hs_rel σ h c' Hr' := by
  subst hc
  obtain ⟨h0, nx, h1, h2, h3, h4, h5⟩ := hr
  exact ⟨h0, nx, h1, h2, h3, fun j hj => by rw [he j hj]; exact h4 j hj, h5⟩
/-- the class's rows, with a new state and a new history -/
theorem lx_upd {t : jk_T} {ρ : jk_P} {σ σ' : jk_I} {x v K : Nat} {O O' g g' h h' sv Bf : Int → Int} {Lo : List Int} (hsv : O 5 = 1 → sv 2 ≤ 4) (hv : v = x + 580 ∨ x + 582 ≤ v) (hx : lx_is t ρ σ x v K O g h sv Bf Lo) (h1 : cl_rel σ' (x + 2) g') (h2 : cl_nn σ' (x + 2)) (h3 : hs_rel σ' (x + 140) (O' 3).toNat (lh_H h')) (hO : O' 5 = O 5 ∧ O' 7 = O 7 ∧ O' 8 = O 8 ∧ O' 9 = O 9)
    (hf : ∀ a, x ≤ a → (a < x + 2 ∨ x + 46 < a) → (a < x + 140 ∨ x + 546 ≤ a) → (a < x + 582 ∨ a = v) → σ' a = σ a) : lx_is t ρ σ' x v K O' g' h' sv Bf Lo := by
  obtain ⟨a1, a2, ⟨a3, a4, a5⟩, a6, a7, ⟨a8, a9, a10, a11⟩, a12, a13, a14⟩ := hx
  obtain ⟨o5, o7, o8, o9⟩ := hO
  refine ⟨a1, h1, ⟨h2, cl_nn_same (fun q hq => hf _ (by omega) (by omega) (by omega) (by omega)) a4, cl_nn_same (fun q hq => hf _ (by omega) (by omega) (by omega) (by omega)) a5⟩, h3, bd_same a7 (hf _ (by omega) (by omega) (by omega) (by omega)) (hf _ (by omega) (by omega) (by omega) (by omega)), ⟨?_, ?_, ?_, ?_⟩, fun h => ?_, ?_, fun i hi => ?_⟩
  · rw [hf x (by omega) (by omega) (by omega) (by omega), o5]; exact a8
  · rw [hf x (by omega) (by omega) (by omega) (by omega), o8]; exact a9
  · rw [hf x (by omega) (by omega) (by omega) (by omega), o9]; exact a10
  · rw [hf (x + 550) (by omega) (by omega) (by omega) (by omega), o7]; exact a11
  · rw [o5] at h
    exact cl_rel_same (hsv h) (fun a ha hb => hf a (by omega) (by omega) (by omega) (by omega)) (a12 h)
  · rw [hf (x + 552) (by omega) (by omega) (by omega) (by omega)]; exact a13
  · rw [hf _ (by omega) (by omega) (by omega) (by omega)]; exact a14 i hi
/-- the numbers, with a new state and a new history -/
theorem lg_upd {B B' : Int} {O O' g g' b b' h h' sv Bf L P : Int → Int} {Lo : List Int} (hg : lg_ok B O g b h sv Bf L P Lo) (hB : B ≤ B') (hB2 : B' ≤ 1100000) (hO : O' 5 = O 5 ∧ O' 7 = O 7 ∧ O' 8 = O 8 ∧ O' 9 = O 9 ∧ O' 11 = O 11) (h3 : 0 ≤ O' 3 ∧ O' 3 ≤ 8) (hs : st_ok B' g') (hb : md_zf 240 b') (hh : ∀ j : Nat, (j : Int) < O' 3 → st_ok B' (lh_H h' j)) : lg_ok B' O' g' b' h' sv Bf L P Lo := by
  obtain ⟨a0, a1, a2, a3, a4, a5, a6, a7, a8, a9, a10, a11, a12, a13, a14, a15⟩ := hg
  obtain ⟨o5, o7, o8, o9, o11⟩ := hO
  refine ⟨by omega, hs, hb, h3, hh, by rw [o5]; exact a5, a6, fun h => st_ok_up (a7 (by rw [← o5]; exact h)) hB hB2, by rw [o8]; exact a8, by rw [o9]; exact a9, by rw [o7]; exact a10, a11, by rw [o11]; exact a12, a13, a14, a15⟩
/-- the model's history, one state longer -/
theorem lh_at {h g : Int → Int} {c q : Int} (i : Int) (hi : (if c = 8 then 7 else c) = i) : md_h2 h c g q = if i * 240 ≤ q ∧ q < i * 240 + 240 then g (q - i * 240 + 0) else md_h1 h c q := by subst hi; rfl
theorem lh_push {h g : Int → Int} {c : Int} (hc : 0 ≤ c ∧ c ≤ 8) (hg : md_zf 240 g) : (md_c2 c).toNat = hs_pc c.toNat ∧ ∀ j, j < hs_pc c.toNat → lh_H (md_h2 h c g) j = hs_pH c.toNat (lh_H h) g j := by
  refine ⟨?_, fun j hj => ?_⟩
  · unfold md_c2 hs_pc; split <;> split <;> omega
  · funext p
    show (if 0 ≤ p ∧ p < 240 then md_h2 h c g (240 * (j : Int) + p) else 0) = _
    have hH : ∀ i : Nat, lh_H h i p = if 0 ≤ p ∧ p < 240 then h (240 * (i : Int) + p) else 0 := fun _ => rfl
    by_cases hc8 : c = 8
    · have hj8 : j < 8 := by unfold hs_pc at hj; rw [if_neg (by omega)] at hj; exact hj
      by_cases hj7 : j < 7
      · have e : hs_pH c.toNat (lh_H h) g j p = lh_H h (j + 1) p := by unfold hs_pH; rw [if_neg (show ¬ c.toNat < 8 by omega), if_pos hj7]
        rw [e, hH]
        by_cases hp : 0 ≤ p ∧ p < 240
        · rw [if_pos hp, if_pos hp, lh_at 7 (if_pos hc8), if_neg (show ¬ (7 * 240 ≤ 240 * (j : Int) + p ∧ 240 * (j : Int) + p < 7 * 240 + 240) by omega)]
          unfold md_h1
          rw [if_pos hc8]
          show (if 0 ≤ 240 * (j : Int) + p ∧ 240 * (j : Int) + p < 1680 then h (240 * (j : Int) + p + 240) else h (240 * (j : Int) + p)) = _
          rw [if_pos (by omega)]
          congr 1; push_cast; omega
        · rw [if_neg hp, if_neg hp]
      · have e : hs_pH c.toNat (lh_H h) g j p = g p := by unfold hs_pH; rw [if_neg (show ¬ c.toNat < 8 by omega), if_neg hj7]
        rw [e]
        by_cases hp : 0 ≤ p ∧ p < 240
        · rw [if_pos hp, lh_at 7 (if_pos hc8), if_pos (show 7 * 240 ≤ 240 * (j : Int) + p ∧ 240 * (j : Int) + p < 7 * 240 + 240 by omega)]
          congr 1; omega
        · rw [if_neg hp]; exact (hg p (by omega)).symm
    · have hj8 : j < c.toNat + 1 := by unfold hs_pc at hj; rw [if_pos (by omega)] at hj; exact hj
      by_cases hjc : j < c.toNat
      · have e : hs_pH c.toNat (lh_H h) g j p = lh_H h j p := by unfold hs_pH; rw [if_pos (show c.toNat < 8 by omega), if_pos hjc]
        rw [e, hH]
        by_cases hp : 0 ≤ p ∧ p < 240
        · rw [if_pos hp, if_pos hp, lh_at c (if_neg hc8), if_neg (show ¬ (c * 240 ≤ 240 * (j : Int) + p ∧ 240 * (j : Int) + p < c * 240 + 240) by omega)]
          unfold md_h1
          rw [if_neg hc8]
        · rw [if_neg hp, if_neg hp]
      · have e : hs_pH c.toNat (lh_H h) g j p = g p := by unfold hs_pH; rw [if_pos (show c.toNat < 8 by omega), if_neg hjc]
        rw [e]
        by_cases hp : 0 ≤ p ∧ p < 240
        · rw [if_pos hp, lh_at c (if_neg hc8), if_pos (show c * 240 ≤ 240 * (j : Int) + p ∧ 240 * (j : Int) + p < c * 240 + 240 by omega)]
          congr 1; omega
        · rw [if_neg hp]; exact (hg p (by omega)).symm
theorem lh_pok {B B' : Int} {h g : Int → Int} {c : Int} (hc : 0 ≤ c ∧ c ≤ 8) (hB : B ≤ B') (hB2 : B' ≤ 1100000) (hs : st_ok B g) (hh : ∀ j : Nat, (j : Int) < c → st_ok B (lh_H h j)) : ∀ j : Nat, (j : Int) < md_c2 c → st_ok B' (lh_H (md_h2 h c g) j) := by
  intro j hj
  obtain ⟨h1, h2⟩ := lh_push (h := h) hc hs.1.2.2.2.1
  rw [h2 j (by omega)]
  unfold hs_pH
  unfold md_c2 at hj
  split at hj
  · split
    · omega
    · split
      · exact st_ok_up (hh _ (by push_cast; omega)) hB hB2
      · exact st_ok_up hs hB hB2
  · split
    · split
      · exact st_ok_up (hh _ (by omega)) hB hB2
      · exact st_ok_up hs hB hB2
    · omega
/-- behind a change that was made, of the class and of the model -/
theorem lr_chg {x m o d k n v K : Nat} {t : jk_T} {σ : jk_I} {ρ : jk_P} {B : Int} {O g b h sv Bf L P : Int → Int} {Lo : List Int} {r : md_R3} {σ1 σ' S1 : jk_I}
    (hat : lr_at n t σ ρ x m o d v K B O g b h sv Bf L P Lo) (hb : B + 85 * O 7 ≤ 85 * (k : Int)) (hk9 : k ≤ 512) (h1 : r.1 = 0) (h6 : cl_rel σ1 (x + 2) r.2.2) (h7 : cl_nn σ1 (x + 2)) (h8 : hs_rel σ1 (x + 140) (hs_pc (O 3).toNat) (hs_pH (O 3).toNat (lh_H h) g)) (h9 : ln_fc x σ σ1) (hσ : ∀ a, a ≠ o → σ' a = σ1 a)
    (hok : st_ok (B + 85) r.2.2) (hS : md_like m (jk_row σ' (m + 4) g) S1) : (∃ O2, md_at t ρ m ∧ md_pub S1 m O h g r m = O2 ∧ O2 12 = 0) ∧ md_pub S1 m O h g r o = σ' o ∧ lr x m o d (k + 1) n t (md_pub S1 m O h g r) ρ := by
  have hBk := lr_B hat hb hk9
  obtain ⟨⟨⟨p1, p2, p3, p4⟩, p5, p6, p7, p8⟩, hm, hx, hg⟩ := id hat
  obtain ⟨e1, e2, e3⟩ := lg_2 hg
  have hO3 := hg.2.2.2.1
  have hr12 : (jk_set O 12 r.1) 12 = r.1 := jk_set_at _ _ _
  obtain ⟨s1, s2, s3⟩ := hS
  have hpe : md_pub S1 m O h g r = jk_row (jk_row (md_res S1 m O r) (m + 6) (md_h2 h (O 3) g)) m (jk_set (jk_set O 12 r.1) 3 (md_c2 (O 3))) := by
    unfold md_pub
    rw [md_kp_t (by rw [hr12]; exact h1), jk_set_ne _ _ (by decide)]
  rw [hpe]
  have hfr : ∀ a, ¬ md_scr m a → a ≠ m → a ≠ m + 2 → a ≠ m + 4 → a ≠ m + 6 → a ≠ o → (jk_row (jk_row (md_res S1 m O r) (m + 6) (md_h2 h (O 3) g)) m (jk_set (jk_set O 12 r.1) 3 (md_c2 (O 3)))) a = σ1 a := by
    intro a ha g0 g2 g4 g6 go
    rw [jk_row_ne _ _ g0, jk_row_ne _ _ g6]
    unfold md_res
    rw [jk_row_ne _ _ g0, jk_row_ne _ _ g2, s1 a ha, jk_row_ne _ _ g4, hσ a go]
  obtain ⟨c1, c2⟩ := lh_push (h := h) hO3 hg.2.1.1.2.2.2.1
  have o3 : (jk_set (jk_set O 12 r.1) 3 (md_c2 (O 3))) 3 = md_c2 (O 3) := jk_set_at _ _ _
  have oo : ∀ i, i ≠ 3 → i ≠ 12 → (jk_set (jk_set O 12 r.1) 3 (md_c2 (O 3))) i = O i := fun i h3 h12 => (jk_set_ne _ _ h3).trans (jk_set_ne _ _ h12)
  have hpc : (hs_pc (O 3).toNat : Int) ≤ 8 := by unfold hs_pc; split <;> omega
  have hmc : md_c2 (O 3) = (hs_pc (O 3).toNat : Int) := by unfold md_c2 hs_pc; split <;> split <;> omega
  have hpok := lh_pok (B' := B + 85) hO3 (by omega) (by omega) hg.2.1 hg.2.2.2.2.1
  have hscr : ∀ a, (a < m ∨ m + 28 ≤ a) → ¬ md_scr m a := fun a ha => by unfold md_scr; omega
  refine ⟨⟨_, hm.1, jk_row_same _ _ _, ?_⟩, ?_, ⟨v, K, B + 85, jk_set (jk_set O 12 r.1) 3 (md_c2 (O 3)), r.2.2, g, md_h2 h (O 3) g, sv, Bf, L, P, Lo, ⟨⟨⟨p1, p2, p3, p4⟩, p5, p6, p7, p8⟩, ?_, ?_, ?_⟩, ?_⟩⟩
  · rw [jk_set_ne _ _ (by decide), hr12]; exact h1
  · rw [jk_row_ne _ _ (by omega), jk_row_ne _ _ (by omega)]
    unfold md_res
    rw [jk_row_ne _ _ (by omega), jk_row_ne _ _ (by omega), s1 o (hscr o (by omega)), jk_row_ne _ _ (by omega)]
  · obtain ⟨r1, r2, r3, r4, r5, r6, r7, r8⟩ := hm.2.1
    refine ⟨hm.1, ⟨jk_row_same _ _ _, ?_, ?_, ?_, ?_, ?_, ?_, ?_⟩, md_z_row (md_z_row (md_z_row (md_z_row s2 _ ⟨by omega, by omega, by omega⟩) _ ⟨by omega, by omega, by omega⟩) _ ⟨by omega, by omega, by omega⟩) _ ⟨by omega, by omega, by omega⟩, md_z10_row (md_z10_row (md_z10_row (md_z10_row s3 _ ⟨by omega, by omega, by omega, by omega⟩) _ ⟨by omega, by omega, by omega, by omega⟩) _ ⟨by omega, by omega, by omega, by omega⟩) _ ⟨by omega, by omega, by omega, by omega⟩⟩
    · rw [jk_row_ne _ _ (by omega), jk_row_ne _ _ (by omega)]; unfold md_res; rw [jk_row_ne _ _ (by omega)]; exact jk_row_same _ _ _
    · rw [jk_row_ne _ _ (by omega), jk_row_ne _ _ (by omega)]; unfold md_res; rw [jk_row_ne _ _ (by omega), jk_row_ne _ _ (by omega), s1 _ (by unfold md_scr; omega)]; exact jk_row_same _ _ _
    · rw [jk_row_ne _ _ (by omega)]; exact jk_row_same _ _ _
    · rw [hfr _ (by unfold md_scr; omega) (by omega) (by omega) (by omega) (by omega) (by omega), h9 _ (by omega) (by omega)]; exact r5
    · rw [hfr _ (by unfold md_scr; omega) (by omega) (by omega) (by omega) (by omega) (by omega), h9 _ (by omega) (by omega)]; exact r6
    · rw [hfr _ (by unfold md_scr; omega) (by omega) (by omega) (by omega) (by omega) (by omega), h9 _ (by omega) (by omega)]; exact r7
    · rw [hfr _ (by unfold md_scr; omega) (by omega) (by omega) (by omega) (by omega) (by omega), h9 _ (by omega) (by omega)]; exact r8
  · refine lx_upd e2 (by omega) hx (cl_rel_same hok.1.1.2.2.1.2 (fun a ha hb => hfr a (hscr a (by omega)) (by omega) (by omega) (by omega) (by omega) (by omega)) h6) (cl_nn_same (fun q hq => hfr _ (hscr _ (by omega)) (by omega) (by omega) (by omega) (by omega) (by omega)) h7) ?_ ⟨oo 5 (by decide) (by decide), oo 7 (by decide) (by decide), oo 8 (by decide) (by decide), oo 9 (by decide) (by decide)⟩ (fun a ha hb hc hd => (hfr a (hscr a (by omega)) (by omega) (by omega) (by omega) (by omega) (by omega)).trans (h9 a hb hc))
    rw [o3]
    refine hs_rel_congr (hs_rel_same (fun a ha hb => hfr a (hscr a (by omega)) (by omega) (by omega) (by omega) (by omega) (by omega)) (fun j hj => ?_) h8) c1 c2
    rw [← c2 j hj]
    exact (hpok j (by omega)).1.1.2.2.1.2
  · exact lg_upd hg (by omega) (by omega) ⟨oo 5 (by decide) (by decide), oo 7 (by decide) (by decide), oo 8 (by decide) (by decide), oo 9 (by decide) (by decide), oo 11 (by decide) (by decide)⟩ (by rw [o3]; omega) hok hg.2.1.1.2.2.2.1 (by rw [o3]; exact hpok)
  · rw [oo 7 (by decide) (by decide)]; push_cast; omega
/-- a change, of the class and of the model -/
theorem lc_change {G : jk_G} {yL yM : MethodName} {mL mM : jk_M} {hh : List (Nat × Nat × Nat × Nat)} {As Bs : List Value} {x m o d k n v K kk : Nat} {t : jk_T} {σ : jk_I} {ρ : jk_P} {B : Int} {O g b h sv Bf L P : Int → Int} {Lo : List Int} {r : md_R3} {cs : List String} {S : jk_I → jk_I}
    (hat : lr_at n t σ ρ x m o d v K B O g b h sv Bf L P Lo) (hb : B + 85 * O 7 ≤ 85 * (k : Int)) (hk9 : k ≤ 512) (KW : jk_KH G yL mL hh 1 6 As n t σ ρ (wQ o cs (ln_CQ x (O 3).toNat (lh_H h) g r σ n t ρ) (ln_CX x kk r σ n t ρ)) jk_no)
    (hkc : ∀ i : Nat, i < cs.length → r.1 ≠ 0 → cs.getD i "" = ex_t (cl_tc kk r.1) → r.1 = (i : Int) + 1) (hr3 : 0 ≤ r.1 ∧ r.1 ≤ 3) (hok : st_ok (B + 85) r.2.2)
    (KM : ∀ n' σ1, lm_is t ρ σ1 m O g b h sv Bf L P → jk_K G yM mM 0 0 Bs n' t σ1 ρ (jk_q (some (jI (md_pubV r))) n' t (md_pub (S σ1) m O h g r) ρ) jk_no)
    (hS : ∀ σ1, lm_is t ρ σ1 m O g b h sv Bf L P → md_like m (jk_row σ1 (m + 4) g) (S σ1)) : lc_F G yL mL hh 1 6 As yM mM Bs false x m o d k n t σ ρ := by
  have hBk := lr_B hat hb hk9
  obtain ⟨⟨⟨p1, p2, p3, p4⟩, p5, p6, p7, p8⟩, hm, hx, hg⟩ := id hat
  obtain ⟨e1, e2, e3⟩ := lg_2 hg
  have hO3 := hg.2.2.2.1
  have hr12 : (jk_set O 12 r.1) 12 = r.1 := jk_set_at _ _ _
  refine ⟨_, KW, fun v' n' t' σ' ρ' hq => ?_⟩
  rcases hq with ⟨w, σ1, ⟨h1, h2, h3, h4, h5, h6, h7, h8, h9⟩, rfl, rfl⟩ | ⟨i, hi, ⟨h1, h2, h3, h4, h5, h6⟩, rfl⟩
  · subst h3 h4 h5
    have hw : jk_w w = jk_w r.2.1 := by
      have h9 := Option.some.inj h2
      unfold jk_w
      rw [Value.int.inj h9]
    have hm1 : lm_is t' ρ' (jk_row σ1 o (jk_set (σ1 o) 0 (jk_w w))) m O g b h sv Bf L P := lm_same hm (fun a ha hb => (jk_row_ne _ _ (by omega)).trans (h9 a (by omega) (by omega)))
    refine ⟨0, rfl, ⟨by decide, by decide⟩, hm.1.1, _, KM _ _ hm1, fun w' n2 t2 σ2 ρ2 hq2 => ?_⟩
    obtain ⟨rfl, rfl, rfl, rfl, rfl⟩ := hq2
    obtain ⟨z1, z2, z3⟩ := lr_chg hat hb hk9 h1 h6 h7 h8 h9 (fun a ha => jk_row_ne _ _ ha) hok (hS _ hm1)
    refine ⟨md_pubV r, rfl, (fun h => by cases h), z1, p7, fun _ => ?_, z3⟩
    rw [z2, jk_row_same, jk_set_at, hw]
    unfold md_pubV
    rw [if_pos h1]
  · subst h4 h5
    have hri := hkc i hi h1 h2
    have hm1 : lm_is t' ρ' σ' m O g b h sv Bf L P := lm_same hm (fun a ha hb => h6 a (by omega))
    refine ⟨(i : Int) + 1, rfl, ⟨by omega, by omega⟩, hm.1.1, _, KM _ _ hm1, fun w' n2 t2 σ2 ρ2 hq2 => ?_⟩
    obtain ⟨rfl, rfl, rfl, rfl, rfl⟩ := hq2
    obtain ⟨s1, s2, s3⟩ := hS _ hm1
    generalize hSe : S σ' = S1 at s1 s2 s3 ⊢
    have hpe : md_pub S1 m O h g r = jk_row (md_res S1 m O r) (m + 2) g := by
      unfold md_pub
      rw [md_kp_f (by rw [hr12]; exact h1)]
    rw [hpe]
    have hfr : ∀ a, ¬ md_scr m a → a ≠ m → a ≠ m + 2 → a ≠ m + 4 → (jk_row (md_res S1 m O r) (m + 2) g) a = σ' a := by
      intro a ha g0 g2 g4
      rw [jk_row_ne _ _ g2]
      unfold md_res
      rw [jk_row_ne _ _ g0, jk_row_ne _ _ g2, s1 a ha, jk_row_ne _ _ g4]
    have oo : ∀ i, i ≠ 12 → (jk_set O 12 r.1) i = O i := fun i h12 => jk_set_ne _ _ h12
    have hscr : ∀ a, (a < m ∨ m + 28 ≤ a) → ¬ md_scr m a := fun a ha => by unfold md_scr; omega
    refine ⟨md_pubV r, rfl, (fun h => by cases h), ⟨jk_set O 12 r.1, hm.1, ?_, by rw [hr12]; exact hri⟩, p7, fun h0 => by omega, ⟨v, K, B, jk_set O 12 r.1, g, g, h, sv, Bf, L, P, Lo, ⟨⟨⟨p1, p2, p3, by omega⟩, p5, by omega, p7, p8⟩, ?_, ?_, ?_⟩, ?_⟩⟩
    · rw [jk_row_ne _ _ (by omega)]; unfold md_res; exact jk_row_same _ _ _
    · obtain ⟨r1, r2, r3, r4, r5, r6, r7, r8⟩ := hm.2.1
      refine ⟨hm.1, ⟨by rw [jk_row_ne _ _ (by omega)]; unfold md_res; exact jk_row_same _ _ _, jk_row_same _ _ _, ?_, ?_, ?_, ?_, ?_, ?_⟩, md_z_row (md_z_row (md_z_row s2 _ ⟨by omega, by omega, by omega⟩) _ ⟨by omega, by omega, by omega⟩) _ ⟨by omega, by omega, by omega⟩, md_z10_row (md_z10_row (md_z10_row s3 _ ⟨by omega, by omega, by omega, by omega⟩) _ ⟨by omega, by omega, by omega, by omega⟩) _ ⟨by omega, by omega, by omega, by omega⟩⟩
      · rw [jk_row_ne _ _ (by omega)]; unfold md_res; rw [jk_row_ne _ _ (by omega), jk_row_ne _ _ (by omega), s1 _ (by unfold md_scr; omega)]; exact jk_row_same _ _ _
      · rw [hfr _ (by unfold md_scr; omega) (by omega) (by omega) (by omega), h6 _ (by omega)]; exact r4
      · rw [hfr _ (by unfold md_scr; omega) (by omega) (by omega) (by omega), h6 _ (by omega)]; exact r5
      · rw [hfr _ (by unfold md_scr; omega) (by omega) (by omega) (by omega), h6 _ (by omega)]; exact r6
      · rw [hfr _ (by unfold md_scr; omega) (by omega) (by omega) (by omega), h6 _ (by omega)]; exact r7
      · rw [hfr _ (by unfold md_scr; omega) (by omega) (by omega) (by omega), h6 _ (by omega)]; exact r8
    · exact lx_same (B := B) e1 e2 e3 hO3.1 (by omega) ⟨oo 3 (by decide), oo 5 (by decide), oo 7 (by decide), oo 8 (by decide), oo 9 (by decide)⟩ hx (fun a ha hb hc => (hfr a (hscr a (by omega)) (by omega) (by omega) (by omega)).trans (h6 a hb))
    · exact lg_upd hg (by omega) (by omega) ⟨oo 5 (by decide), oo 7 (by decide), oo 8 (by decide), oo 9 (by decide), oo 11 (by decide)⟩ (by rw [oo 3 (by decide)]; exact hO3) hg.2.1 hg.2.1.1.2.2.2.1 (by rw [oo 3 (by decide)]; exact hg.2.2.2.2.1)
    · rw [oo 7 (by decide)]; push_cast; omega

theorem lf_0 {G : jk_G} {n : Nat} {t : jk_T} {σ : jk_I} {ρ : jk_P} {N : Nat} {f : Nat → Int} {x m o d k : Nat} (hzl : zl_ok G N f) (hr : lr x m o d k n t σ ρ) (hk9 : k ≤ 512) : lc_F G yL_addBenchmark mL_addBenchmark [(0, 8, 11, 13)] 1 6 [.ref x, .ref o] yX13_addBenchmark mX13_addBenchmark [.ref m] false x m o d k n t σ ρ := by
  obtain ⟨hz, hzx, hzv, hzp, hzn, ⟨hN, hf⟩, -⟩ := hzl
  obtain ⟨v, K, B, O, g, b, h, sv, Bf, L, P, Lo, hat, hb⟩ := hr
  obtain ⟨hx, hln, hrel, hall, hnn, hsi, hma, hmg, hmo, hmz, hmz1, hto, hJ⟩ := lr_f hat
  have hB := lr_B hat hb hk9
  have hO3 := hat.2.2.2.2.2.2.1
  have hbz := hat.2.2.2.2.2.1
  have h2c := (lg_2 hat.2.2.2).2.2
  have hbd := cl_do_bd 0 g 0 0 0 0
  have hrng : (cl_do 0 g 0 0 0 0).1 = 0 ∨ (cl_do 0 g 0 0 0 0).1 = 1 := by
    show (md_addsPoint g ).1 = 0 ∨ (md_addsPoint g ).1 = 1
    unfold md_addsPoint
    repeat' split
    all_goals first | exact Or.inl rfl | exact Or.inr rfl | exact Or.inr (Or.inl rfl) | exact Or.inr (Or.inr rfl) | exact Or.inr (Or.inr (Or.inl rfl)) | exact Or.inr (Or.inr (Or.inr rfl))
  have hexc : ∀ c : Int, (c = 1) → ex_t (cl_tc 0 c) = "java/lang/IllegalStateException" := by
    intro c hc
    rcases hc with rfl <;> decide
  refine lc_change (kk := 0) (r := cl_do 0 g 0 0 0 0) (S := fun σ1 => jk_row σ1 (m + 4) g) hat hb hk9 (w_addBenchmark hzn hx (c_X12_addBenchmark hz hzx hln hrel hall hnn hsi hat.2.2.1.2.2.2.1 (fun j hj => h2c j (by omega)) ) (fun v' n' t' σ' ρ' hq => ⟨⟨_, hq.2.1⟩, by rw [hq.2.2.2.1]; exact hto⟩) (fun E n' t' σ' ρ' hx9 => by rw [hx9.2.1]; exact hexc _ (by have := hx9.1; omega))) (fun i hi h0 he => ?_) hbd ⟨md_all_cl hall (by omega) _ _ _ _ _, md_sit_cl hall.1 hsi _ _ _ _ _⟩ (fun n' σ1 h1 => c_X13_addBenchmark h1.1 h1.2.1.2.1 hall.1 h1.2.1.1 h1.2.1.2.2.1 hall.2.2.2.1 hbz h1.2.1.2.2.2.1 hO3 ) (fun σ1 h1 => md_like_rf (md_z_row h1.2.2.1 _ ⟨by omega, by omega, by omega⟩) (md_z10_row h1.2.2.2 _ ⟨by omega, by omega, by omega, by omega⟩))
  generalize (cl_do 0 g 0 0 0 0).1 = c at h0 he hrng ⊢
  have hi2 : i < 1 := hi
  rcases hrng with rfl | rfl
  · exact absurd rfl h0
  all_goals (rcases (show i = 0 by omega) with rfl <;> first | rfl | exact absurd he (by decide))
theorem lf_1 {G : jk_G} {n : Nat} {t : jk_T} {σ : jk_I} {ρ : jk_P} {N : Nat} {f : Nat → Int} {x m o d k : Nat} (hzl : zl_ok G N f) (hr : lr x m o d k n t σ ρ) (hk9 : k ≤ 512) : lc_F G yL_fix mL_fix [(0, 10, 13, 19), (0, 10, 17, 21)] 1 6 [.ref x, jI (f (5 * (k : Int) + 1).toNat), jI (f (5 * (k : Int) + 2).toNat), .ref o] yX13_fix mX13_fix [.ref m, jI (f (5 * (k : Int) + 1).toNat), jI (f (5 * (k : Int) + 2).toNat)] false x m o d k n t σ ρ := by
  obtain ⟨hz, hzx, hzv, hzp, hzn, ⟨hN, hf⟩, -⟩ := hzl
  obtain ⟨v, K, B, O, g, b, h, sv, Bf, L, P, Lo, hat, hb⟩ := hr
  obtain ⟨hx, hln, hrel, hall, hnn, hsi, hma, hmg, hmo, hmz, hmz1, hto, hJ⟩ := lr_f hat
  have hB := lr_B hat hb hk9
  have hO3 := hat.2.2.2.2.2.2.1
  have hbz := hat.2.2.2.2.2.1
  have h2c := (lg_2 hat.2.2.2).2.2
  have hbd := cl_do_bd 1 g (f (5 * (k : Int) + 1).toNat) (f (5 * (k : Int) + 2).toNat) 0 0
  have hrng : (cl_do 1 g (f (5 * (k : Int) + 1).toNat) (f (5 * (k : Int) + 2).toNat) 0 0).1 = 0 ∨ (cl_do 1 g (f (5 * (k : Int) + 1).toNat) (f (5 * (k : Int) + 2).toNat) 0 0).1 = 1 ∨ (cl_do 1 g (f (5 * (k : Int) + 1).toNat) (f (5 * (k : Int) + 2).toNat) 0 0).1 = 2 := by
    show (md_fixes g (f (5 * (k : Int) + 1).toNat) (f (5 * (k : Int) + 2).toNat)).1 = 0 ∨ (md_fixes g (f (5 * (k : Int) + 1).toNat) (f (5 * (k : Int) + 2).toNat)).1 = 1 ∨ (md_fixes g (f (5 * (k : Int) + 1).toNat) (f (5 * (k : Int) + 2).toNat)).1 = 2
    unfold md_fixes
    repeat' split
    all_goals first | exact Or.inl rfl | exact Or.inr rfl | exact Or.inr (Or.inl rfl) | exact Or.inr (Or.inr rfl) | exact Or.inr (Or.inr (Or.inl rfl)) | exact Or.inr (Or.inr (Or.inr rfl))
  have hexc : ∀ c : Int, (c = 1 ∨ c = 2) → ex_t (cl_tc 1 c) = "java/lang/IndexOutOfBoundsException" ∨ ex_t (cl_tc 1 c) = "java/lang/IllegalArgumentException" := by
    intro c hc
    rcases hc with rfl | rfl <;> decide
  refine lc_change (kk := 1) (r := cl_do 1 g (f (5 * (k : Int) + 1).toNat) (f (5 * (k : Int) + 2).toNat) 0 0) (S := fun σ1 => jk_row σ1 (m + 4) g) hat hb hk9 (w_fix hzn hx (c_X12_fix hz hzx hln hrel hall hnn hsi hat.2.2.1.2.2.2.1 (fun j hj => h2c j (by omega)) (hf _) (hf _)) (fun v' n' t' σ' ρ' hq => ⟨⟨_, hq.2.1⟩, by rw [hq.2.2.2.1]; exact hto⟩) (fun E n' t' σ' ρ' hx9 => by rw [hx9.2.1]; exact hexc _ (by have := hx9.1; omega))) (fun i hi h0 he => ?_) hbd ⟨md_all_cl hall (by omega) _ _ _ _ _, md_sit_cl hall.1 hsi _ _ _ _ _⟩ (fun n' σ1 h1 => c_X13_fix h1.1 h1.2.1.2.1 hall.1 h1.2.1.1 h1.2.1.2.2.1 hall.2.2.2.1 hbz h1.2.1.2.2.2.1 hO3 (hf _) (hf _)) (fun σ1 h1 => md_like_rf (md_z_row h1.2.2.1 _ ⟨by omega, by omega, by omega⟩) (md_z10_row h1.2.2.2 _ ⟨by omega, by omega, by omega, by omega⟩))
  generalize (cl_do 1 g (f (5 * (k : Int) + 1).toNat) (f (5 * (k : Int) + 2).toNat) 0 0).1 = c at h0 he hrng ⊢
  have hi2 : i < 2 := hi
  rcases hrng with rfl | rfl | rfl
  · exact absurd rfl h0
  all_goals (rcases (show i = 0 ∨ i = 1 by omega) with rfl | rfl <;> first | rfl | exact absurd he (by decide))
theorem lf_2 {G : jk_G} {n : Nat} {t : jk_T} {σ : jk_I} {ρ : jk_P} {N : Nat} {f : Nat → Int} {x m o d k : Nat} (hzl : zl_ok G N f) (hr : lr x m o d k n t σ ρ) (hk9 : k ≤ 512) : lc_F G yL_release mL_release [(0, 9, 12, 19), (0, 9, 15, 13)] 1 6 [.ref x, jI (f (5 * (k : Int) + 1).toNat), .ref o] yX13_release mX13_release [.ref m, jI (f (5 * (k : Int) + 1).toNat)] false x m o d k n t σ ρ := by
  obtain ⟨hz, hzx, hzv, hzp, hzn, ⟨hN, hf⟩, -⟩ := hzl
  obtain ⟨v, K, B, O, g, b, h, sv, Bf, L, P, Lo, hat, hb⟩ := hr
  obtain ⟨hx, hln, hrel, hall, hnn, hsi, hma, hmg, hmo, hmz, hmz1, hto, hJ⟩ := lr_f hat
  have hB := lr_B hat hb hk9
  have hO3 := hat.2.2.2.2.2.2.1
  have hbz := hat.2.2.2.2.2.1
  have h2c := (lg_2 hat.2.2.2).2.2
  have hbd := cl_do_bd 2 g (f (5 * (k : Int) + 1).toNat) 0 0 0
  have hrng : (cl_do 2 g (f (5 * (k : Int) + 1).toNat) 0 0 0).1 = 0 ∨ (cl_do 2 g (f (5 * (k : Int) + 1).toNat) 0 0 0).1 = 1 ∨ (cl_do 2 g (f (5 * (k : Int) + 1).toNat) 0 0 0).1 = 2 := by
    show (md_releases g (f (5 * (k : Int) + 1).toNat)).1 = 0 ∨ (md_releases g (f (5 * (k : Int) + 1).toNat)).1 = 1 ∨ (md_releases g (f (5 * (k : Int) + 1).toNat)).1 = 2
    unfold md_releases
    repeat' split
    all_goals first | exact Or.inl rfl | exact Or.inr rfl | exact Or.inr (Or.inl rfl) | exact Or.inr (Or.inr rfl) | exact Or.inr (Or.inr (Or.inl rfl)) | exact Or.inr (Or.inr (Or.inr rfl))
  have hexc : ∀ c : Int, (c = 1 ∨ c = 2) → ex_t (cl_tc 2 c) = "java/lang/IndexOutOfBoundsException" ∨ ex_t (cl_tc 2 c) = "java/lang/IllegalStateException" := by
    intro c hc
    rcases hc with rfl | rfl <;> decide
  refine lc_change (kk := 2) (r := cl_do 2 g (f (5 * (k : Int) + 1).toNat) 0 0 0) (S := fun σ1 => jk_row σ1 (m + 4) g) hat hb hk9 (w_release hzn hx (c_X12_release hz hzx hln hrel hall hnn hsi hat.2.2.1.2.2.2.1 (fun j hj => h2c j (by omega)) (hf _)) (fun v' n' t' σ' ρ' hq => ⟨⟨_, hq.2.1⟩, by rw [hq.2.2.2.1]; exact hto⟩) (fun E n' t' σ' ρ' hx9 => by rw [hx9.2.1]; exact hexc _ (by have := hx9.1; omega))) (fun i hi h0 he => ?_) hbd ⟨md_all_cl hall (by omega) _ _ _ _ _, md_sit_cl hall.1 hsi _ _ _ _ _⟩ (fun n' σ1 h1 => c_X13_release h1.1 h1.2.1.2.1 hall.1 h1.2.1.1 h1.2.1.2.2.1 hall.2.2.2.1 hbz h1.2.1.2.2.2.1 hO3 (hf _)) (fun σ1 h1 => md_like_rf (md_z_row h1.2.2.1 _ ⟨by omega, by omega, by omega⟩) (md_z10_row h1.2.2.2 _ ⟨by omega, by omega, by omega, by omega⟩))
  generalize (cl_do 2 g (f (5 * (k : Int) + 1).toNat) 0 0 0).1 = c at h0 he hrng ⊢
  have hi2 : i < 2 := hi
  rcases hrng with rfl | rfl | rfl
  · exact absurd rfl h0
  all_goals (rcases (show i = 0 ∨ i = 1 by omega) with rfl | rfl <;> first | rfl | exact absurd he (by decide))
theorem lf_3 {G : jk_G} {n : Nat} {t : jk_T} {σ : jk_I} {ρ : jk_P} {N : Nat} {f : Nat → Int} {x m o d k : Nat} (hzl : zl_ok G N f) (hr : lr x m o d k n t σ ρ) (hk9 : k ≤ 512) : lc_F G yL_addLine mL_addLine [(0, 14, 17, 19), (0, 14, 21, 21), (0, 14, 25, 13)] 1 6 [.ref x, jI (f (5 * (k : Int) + 1).toNat), jI (f (5 * (k : Int) + 2).toNat), jI (f (5 * (k : Int) + 3).toNat), jI (f (5 * (k : Int) + 4).toNat), .ref o] yX13_addLine mX13_addLine [.ref m, jI (f (5 * (k : Int) + 1).toNat), jI (f (5 * (k : Int) + 2).toNat), jI (f (5 * (k : Int) + 3).toNat), jI (f (5 * (k : Int) + 4).toNat)] false x m o d k n t σ ρ := by
  obtain ⟨hz, hzx, hzv, hzp, hzn, ⟨hN, hf⟩, -⟩ := hzl
  obtain ⟨v, K, B, O, g, b, h, sv, Bf, L, P, Lo, hat, hb⟩ := hr
  obtain ⟨hx, hln, hrel, hall, hnn, hsi, hma, hmg, hmo, hmz, hmz1, hto, hJ⟩ := lr_f hat
  have hB := lr_B hat hb hk9
  have hO3 := hat.2.2.2.2.2.2.1
  have hbz := hat.2.2.2.2.2.1
  have h2c := (lg_2 hat.2.2.2).2.2
  have hbd := cl_do_bd 3 g (f (5 * (k : Int) + 1).toNat) (f (5 * (k : Int) + 2).toNat) (f (5 * (k : Int) + 3).toNat) (f (5 * (k : Int) + 4).toNat)
  have hrng : (cl_do 3 g (f (5 * (k : Int) + 1).toNat) (f (5 * (k : Int) + 2).toNat) (f (5 * (k : Int) + 3).toNat) (f (5 * (k : Int) + 4).toNat)).1 = 0 ∨ (cl_do 3 g (f (5 * (k : Int) + 1).toNat) (f (5 * (k : Int) + 2).toNat) (f (5 * (k : Int) + 3).toNat) (f (5 * (k : Int) + 4).toNat)).1 = 1 ∨ (cl_do 3 g (f (5 * (k : Int) + 1).toNat) (f (5 * (k : Int) + 2).toNat) (f (5 * (k : Int) + 3).toNat) (f (5 * (k : Int) + 4).toNat)).1 = 2 ∨ (cl_do 3 g (f (5 * (k : Int) + 1).toNat) (f (5 * (k : Int) + 2).toNat) (f (5 * (k : Int) + 3).toNat) (f (5 * (k : Int) + 4).toNat)).1 = 3 := by
    show (md_addsLine g (f (5 * (k : Int) + 1).toNat) (f (5 * (k : Int) + 2).toNat) (f (5 * (k : Int) + 3).toNat) (f (5 * (k : Int) + 4).toNat)).1 = 0 ∨ (md_addsLine g (f (5 * (k : Int) + 1).toNat) (f (5 * (k : Int) + 2).toNat) (f (5 * (k : Int) + 3).toNat) (f (5 * (k : Int) + 4).toNat)).1 = 1 ∨ (md_addsLine g (f (5 * (k : Int) + 1).toNat) (f (5 * (k : Int) + 2).toNat) (f (5 * (k : Int) + 3).toNat) (f (5 * (k : Int) + 4).toNat)).1 = 2 ∨ (md_addsLine g (f (5 * (k : Int) + 1).toNat) (f (5 * (k : Int) + 2).toNat) (f (5 * (k : Int) + 3).toNat) (f (5 * (k : Int) + 4).toNat)).1 = 3
    unfold md_addsLine
    repeat' split
    all_goals first | exact Or.inl rfl | exact Or.inr rfl | exact Or.inr (Or.inl rfl) | exact Or.inr (Or.inr rfl) | exact Or.inr (Or.inr (Or.inl rfl)) | exact Or.inr (Or.inr (Or.inr rfl))
  have hexc : ∀ c : Int, (c = 1 ∨ c = 2 ∨ c = 3) → ex_t (cl_tc 3 c) = "java/lang/IndexOutOfBoundsException" ∨ ex_t (cl_tc 3 c) = "java/lang/IllegalArgumentException" ∨ ex_t (cl_tc 3 c) = "java/lang/IllegalStateException" := by
    intro c hc
    rcases hc with rfl | rfl | rfl <;> decide
  refine lc_change (kk := 3) (r := cl_do 3 g (f (5 * (k : Int) + 1).toNat) (f (5 * (k : Int) + 2).toNat) (f (5 * (k : Int) + 3).toNat) (f (5 * (k : Int) + 4).toNat)) (S := fun σ1 => jk_row σ1 (m + 4) g) hat hb hk9 (w_addLine hzn hx (c_X12_addLine hz hzx hln hrel hall hnn hsi hat.2.2.1.2.2.2.1 (fun j hj => h2c j (by omega)) (hf _) (hf _) (hf _) (hf _)) (fun v' n' t' σ' ρ' hq => ⟨⟨_, hq.2.1⟩, by rw [hq.2.2.2.1]; exact hto⟩) (fun E n' t' σ' ρ' hx9 => by rw [hx9.2.1]; exact hexc _ (by have := hx9.1; omega))) (fun i hi h0 he => ?_) hbd ⟨md_all_cl hall (by omega) _ _ _ _ _, md_sit_cl hall.1 hsi _ _ _ _ _⟩ (fun n' σ1 h1 => c_X13_addLine h1.1 h1.2.1.2.1 hall.1 h1.2.1.1 h1.2.1.2.2.1 hall.2.2.2.1 hbz h1.2.1.2.2.2.1 hO3 (hf _) (hf _) (hf _) (hf _)) (fun σ1 h1 => md_like_rf (md_z_row h1.2.2.1 _ ⟨by omega, by omega, by omega⟩) (md_z10_row h1.2.2.2 _ ⟨by omega, by omega, by omega, by omega⟩))
  generalize (cl_do 3 g (f (5 * (k : Int) + 1).toNat) (f (5 * (k : Int) + 2).toNat) (f (5 * (k : Int) + 3).toNat) (f (5 * (k : Int) + 4).toNat)).1 = c at h0 he hrng ⊢
  have hi2 : i < 3 := hi
  rcases hrng with rfl | rfl | rfl | rfl
  · exact absurd rfl h0
  all_goals (rcases (show i = 0 ∨ i = 1 ∨ i = 2 by omega) with rfl | rfl | rfl <;> first | rfl | exact absurd he (by decide))
theorem lf_4 {G : jk_G} {n : Nat} {t : jk_T} {σ : jk_I} {ρ : jk_P} {N : Nat} {f : Nat → Int} {x m o d k : Nat} (hzl : zl_ok G N f) (hr : lr x m o d k n t σ ρ) (hk9 : k ≤ 512) : lc_F G yL_addBackwardRun mL_addBackwardRun [(0, 10, 13, 19), (0, 10, 17, 21), (0, 10, 21, 13)] 1 6 [.ref x, jI (f (5 * (k : Int) + 1).toNat), jI (f (5 * (k : Int) + 2).toNat), .ref o] yX13_addBackwardRun mX13_addBackwardRun [.ref m, jI (f (5 * (k : Int) + 1).toNat), jI (f (5 * (k : Int) + 2).toNat)] false x m o d k n t σ ρ := by
  obtain ⟨hz, hzx, hzv, hzp, hzn, ⟨hN, hf⟩, -⟩ := hzl
  obtain ⟨v, K, B, O, g, b, h, sv, Bf, L, P, Lo, hat, hb⟩ := hr
  obtain ⟨hx, hln, hrel, hall, hnn, hsi, hma, hmg, hmo, hmz, hmz1, hto, hJ⟩ := lr_f hat
  have hB := lr_B hat hb hk9
  have hO3 := hat.2.2.2.2.2.2.1
  have hbz := hat.2.2.2.2.2.1
  have h2c := (lg_2 hat.2.2.2).2.2
  have hbd := cl_do_bd 4 g (f (5 * (k : Int) + 1).toNat) (f (5 * (k : Int) + 2).toNat) 0 0
  have hrng : (cl_do 4 g (f (5 * (k : Int) + 1).toNat) (f (5 * (k : Int) + 2).toNat) 0 0).1 = 0 ∨ (cl_do 4 g (f (5 * (k : Int) + 1).toNat) (f (5 * (k : Int) + 2).toNat) 0 0).1 = 1 ∨ (cl_do 4 g (f (5 * (k : Int) + 1).toNat) (f (5 * (k : Int) + 2).toNat) 0 0).1 = 2 ∨ (cl_do 4 g (f (5 * (k : Int) + 1).toNat) (f (5 * (k : Int) + 2).toNat) 0 0).1 = 3 := by
    show (md_addsRun g (f (5 * (k : Int) + 1).toNat) (f (5 * (k : Int) + 2).toNat)).1 = 0 ∨ (md_addsRun g (f (5 * (k : Int) + 1).toNat) (f (5 * (k : Int) + 2).toNat)).1 = 1 ∨ (md_addsRun g (f (5 * (k : Int) + 1).toNat) (f (5 * (k : Int) + 2).toNat)).1 = 2 ∨ (md_addsRun g (f (5 * (k : Int) + 1).toNat) (f (5 * (k : Int) + 2).toNat)).1 = 3
    unfold md_addsRun
    repeat' split
    all_goals first | exact Or.inl rfl | exact Or.inr rfl | exact Or.inr (Or.inl rfl) | exact Or.inr (Or.inr rfl) | exact Or.inr (Or.inr (Or.inl rfl)) | exact Or.inr (Or.inr (Or.inr rfl))
  have hexc : ∀ c : Int, (c = 1 ∨ c = 2 ∨ c = 3) → ex_t (cl_tc 4 c) = "java/lang/IndexOutOfBoundsException" ∨ ex_t (cl_tc 4 c) = "java/lang/IllegalArgumentException" ∨ ex_t (cl_tc 4 c) = "java/lang/IllegalStateException" := by
    intro c hc
    rcases hc with rfl | rfl | rfl <;> decide
  refine lc_change (kk := 4) (r := cl_do 4 g (f (5 * (k : Int) + 1).toNat) (f (5 * (k : Int) + 2).toNat) 0 0) (S := fun σ1 => jk_row σ1 (m + 4) g) hat hb hk9 (w_addBackwardRun hzn hx (c_X12_addBackwardRun hz hzx hln hrel hall hnn hsi hat.2.2.1.2.2.2.1 (fun j hj => h2c j (by omega)) (hf _) (hf _)) (fun v' n' t' σ' ρ' hq => ⟨⟨_, hq.2.1⟩, by rw [hq.2.2.2.1]; exact hto⟩) (fun E n' t' σ' ρ' hx9 => by rw [hx9.2.1]; exact hexc _ (by have := hx9.1; omega))) (fun i hi h0 he => ?_) hbd ⟨md_all_cl hall (by omega) _ _ _ _ _, md_sit_cl hall.1 hsi _ _ _ _ _⟩ (fun n' σ1 h1 => c_X13_addBackwardRun h1.1 h1.2.1.2.1 hall.1 h1.2.1.1 h1.2.1.2.2.1 hall.2.2.2.1 hbz h1.2.1.2.2.2.1 hO3 (hf _) (hf _)) (fun σ1 h1 => md_like_rf (md_z_row h1.2.2.1 _ ⟨by omega, by omega, by omega⟩) (md_z10_row h1.2.2.2 _ ⟨by omega, by omega, by omega, by omega⟩))
  generalize (cl_do 4 g (f (5 * (k : Int) + 1).toNat) (f (5 * (k : Int) + 2).toNat) 0 0).1 = c at h0 he hrng ⊢
  have hi2 : i < 3 := hi
  rcases hrng with rfl | rfl | rfl | rfl
  · exact absurd rfl h0
  all_goals (rcases (show i = 0 ∨ i = 1 ∨ i = 2 by omega) with rfl | rfl | rfl <;> first | rfl | exact absurd he (by decide))
theorem lf_5 {G : jk_G} {n : Nat} {t : jk_T} {σ : jk_I} {ρ : jk_P} {N : Nat} {f : Nat → Int} {x m o d k : Nat} (hzl : zl_ok G N f) (hr : lr x m o d k n t σ ρ) (hk9 : k ≤ 512) : lc_F G yL_exclude mL_exclude [(0, 9, 12, 19), (0, 9, 15, 13)] 1 6 [.ref x, jI (f (5 * (k : Int) + 1).toNat), .ref o] yX13_exclude mX13_exclude [.ref m, jI (f (5 * (k : Int) + 1).toNat)] false x m o d k n t σ ρ := by
  obtain ⟨hz, hzx, hzv, hzp, hzn, ⟨hN, hf⟩, -⟩ := hzl
  obtain ⟨v, K, B, O, g, b, h, sv, Bf, L, P, Lo, hat, hb⟩ := hr
  obtain ⟨hx, hln, hrel, hall, hnn, hsi, hma, hmg, hmo, hmz, hmz1, hto, hJ⟩ := lr_f hat
  have hB := lr_B hat hb hk9
  have hO3 := hat.2.2.2.2.2.2.1
  have hbz := hat.2.2.2.2.2.1
  have h2c := (lg_2 hat.2.2.2).2.2
  have hbd := cl_do_bd 5 g (f (5 * (k : Int) + 1).toNat) 0 0 0
  have hrng : (cl_do 5 g (f (5 * (k : Int) + 1).toNat) 0 0 0).1 = 0 ∨ (cl_do 5 g (f (5 * (k : Int) + 1).toNat) 0 0 0).1 = 1 ∨ (cl_do 5 g (f (5 * (k : Int) + 1).toNat) 0 0 0).1 = 2 := by
    show (md_marks g (f (5 * (k : Int) + 1).toNat) 0).1 = 0 ∨ (md_marks g (f (5 * (k : Int) + 1).toNat) 0).1 = 1 ∨ (md_marks g (f (5 * (k : Int) + 1).toNat) 0).1 = 2
    unfold md_marks
    repeat' split
    all_goals first | exact Or.inl rfl | exact Or.inr rfl | exact Or.inr (Or.inl rfl) | exact Or.inr (Or.inr rfl) | exact Or.inr (Or.inr (Or.inl rfl)) | exact Or.inr (Or.inr (Or.inr rfl))
  have hexc : ∀ c : Int, (c = 1 ∨ c = 2) → ex_t (cl_tc 5 c) = "java/lang/IndexOutOfBoundsException" ∨ ex_t (cl_tc 5 c) = "java/lang/IllegalStateException" := by
    intro c hc
    rcases hc with rfl | rfl <;> decide
  refine lc_change (kk := 5) (r := cl_do 5 g (f (5 * (k : Int) + 1).toNat) 0 0 0) (S := fun σ1 => jk_row σ1 (m + 4) g) hat hb hk9 (w_exclude hzn hx (c_X12_exclude hz hzx hln hrel hall hnn hsi hat.2.2.1.2.2.2.1 (fun j hj => h2c j (by omega)) (hf _)) (fun v' n' t' σ' ρ' hq => ⟨⟨_, hq.2.1⟩, by rw [hq.2.2.2.1]; exact hto⟩) (fun E n' t' σ' ρ' hx9 => by rw [hx9.2.1]; exact hexc _ (by have := hx9.1; omega))) (fun i hi h0 he => ?_) hbd ⟨md_all_cl hall (by omega) _ _ _ _ _, md_sit_cl hall.1 hsi _ _ _ _ _⟩ (fun n' σ1 h1 => c_X13_exclude h1.1 h1.2.1.2.1 hall.1 h1.2.1.1 h1.2.1.2.2.1 hall.2.2.2.1 hbz h1.2.1.2.2.2.1 hO3 (hf _)) (fun σ1 h1 => md_like_rf (md_z_row h1.2.2.1 _ ⟨by omega, by omega, by omega⟩) (md_z10_row h1.2.2.2 _ ⟨by omega, by omega, by omega, by omega⟩))
  generalize (cl_do 5 g (f (5 * (k : Int) + 1).toNat) 0 0 0).1 = c at h0 he hrng ⊢
  have hi2 : i < 2 := hi
  rcases hrng with rfl | rfl | rfl
  · exact absurd rfl h0
  all_goals (rcases (show i = 0 ∨ i = 1 by omega) with rfl | rfl <;> first | rfl | exact absurd he (by decide))
theorem lf_6 {G : jk_G} {n : Nat} {t : jk_T} {σ : jk_I} {ρ : jk_P} {N : Nat} {f : Nat → Int} {x m o d k : Nat} (hzl : zl_ok G N f) (hr : lr x m o d k n t σ ρ) (hk9 : k ≤ 512) : lc_F G yL_include mL_include [(0, 9, 12, 19), (0, 9, 15, 13)] 1 6 [.ref x, jI (f (5 * (k : Int) + 1).toNat), .ref o] yX13_include mX13_include [.ref m, jI (f (5 * (k : Int) + 1).toNat)] false x m o d k n t σ ρ := by
  obtain ⟨hz, hzx, hzv, hzp, hzn, ⟨hN, hf⟩, -⟩ := hzl
  obtain ⟨v, K, B, O, g, b, h, sv, Bf, L, P, Lo, hat, hb⟩ := hr
  obtain ⟨hx, hln, hrel, hall, hnn, hsi, hma, hmg, hmo, hmz, hmz1, hto, hJ⟩ := lr_f hat
  have hB := lr_B hat hb hk9
  have hO3 := hat.2.2.2.2.2.2.1
  have hbz := hat.2.2.2.2.2.1
  have h2c := (lg_2 hat.2.2.2).2.2
  have hbd := cl_do_bd 6 g (f (5 * (k : Int) + 1).toNat) 0 0 0
  have hrng : (cl_do 6 g (f (5 * (k : Int) + 1).toNat) 0 0 0).1 = 0 ∨ (cl_do 6 g (f (5 * (k : Int) + 1).toNat) 0 0 0).1 = 1 ∨ (cl_do 6 g (f (5 * (k : Int) + 1).toNat) 0 0 0).1 = 2 := by
    show (md_marks g (f (5 * (k : Int) + 1).toNat) 1).1 = 0 ∨ (md_marks g (f (5 * (k : Int) + 1).toNat) 1).1 = 1 ∨ (md_marks g (f (5 * (k : Int) + 1).toNat) 1).1 = 2
    unfold md_marks
    repeat' split
    all_goals first | exact Or.inl rfl | exact Or.inr rfl | exact Or.inr (Or.inl rfl) | exact Or.inr (Or.inr rfl) | exact Or.inr (Or.inr (Or.inl rfl)) | exact Or.inr (Or.inr (Or.inr rfl))
  have hexc : ∀ c : Int, (c = 1 ∨ c = 2) → ex_t (cl_tc 6 c) = "java/lang/IndexOutOfBoundsException" ∨ ex_t (cl_tc 6 c) = "java/lang/IllegalStateException" := by
    intro c hc
    rcases hc with rfl | rfl <;> decide
  refine lc_change (kk := 6) (r := cl_do 6 g (f (5 * (k : Int) + 1).toNat) 0 0 0) (S := fun σ1 => jk_row σ1 (m + 4) g) hat hb hk9 (w_include hzn hx (c_X12_include hz hzx hln hrel hall hnn hsi hat.2.2.1.2.2.2.1 (fun j hj => h2c j (by omega)) (hf _)) (fun v' n' t' σ' ρ' hq => ⟨⟨_, hq.2.1⟩, by rw [hq.2.2.2.1]; exact hto⟩) (fun E n' t' σ' ρ' hx9 => by rw [hx9.2.1]; exact hexc _ (by have := hx9.1; omega))) (fun i hi h0 he => ?_) hbd ⟨md_all_cl hall (by omega) _ _ _ _ _, md_sit_cl hall.1 hsi _ _ _ _ _⟩ (fun n' σ1 h1 => c_X13_include h1.1 h1.2.1.2.1 hall.1 h1.2.1.1 h1.2.1.2.2.1 hall.2.2.2.1 hbz h1.2.1.2.2.2.1 hO3 (hf _)) (fun σ1 h1 => md_like_rf (md_z_row h1.2.2.1 _ ⟨by omega, by omega, by omega⟩) (md_z10_row h1.2.2.2 _ ⟨by omega, by omega, by omega, by omega⟩))
  generalize (cl_do 6 g (f (5 * (k : Int) + 1).toNat) 0 0 0).1 = c at h0 he hrng ⊢
  have hi2 : i < 2 := hi
  rcases hrng with rfl | rfl | rfl
  · exact absurd rfl h0
  all_goals (rcases (show i = 0 ∨ i = 1 by omega) with rfl | rfl <;> first | rfl | exact absurd he (by decide))
theorem lf_7 {G : jk_G} {n : Nat} {t : jk_T} {σ : jk_I} {ρ : jk_P} {N : Nat} {f : Nat → Int} {x m o d k : Nat} (hzl : zl_ok G N f) (hr : lr x m o d k n t σ ρ) (hk9 : k ≤ 512) : lc_F G yL_shareMisclosure mL_shareMisclosure [(0, 9, 12, 19), (0, 9, 15, 43), (0, 9, 18, 45)] 1 6 [.ref x, jI (f (5 * (k : Int) + 1).toNat), .ref o] yX13_shareMisclosure mX13_shareMisclosure [.ref m, jI (f (5 * (k : Int) + 1).toNat)] false x m o d k n t σ ρ := by
  obtain ⟨hz, hzx, hzv, hzp, hzn, ⟨hN, hf⟩, -⟩ := hzl
  obtain ⟨v, K, B, O, g, b, h, sv, Bf, L, P, Lo, hat, hb⟩ := hr
  obtain ⟨hx, hln, hrel, hall, hnn, hsi, hma, hmg, hmo, hmz, hmz1, hto, hJ⟩ := lr_f hat
  have hB := lr_B hat hb hk9
  have hO3 := hat.2.2.2.2.2.2.1
  have hbz := hat.2.2.2.2.2.1
  have h2c := (lg_2 hat.2.2.2).2.2
  have hbd := cl_do_bd 7 g (f (5 * (k : Int) + 1).toNat) 0 0 0
  have hrng : (cl_do 7 g (f (5 * (k : Int) + 1).toNat) 0 0 0).1 = 0 ∨ (cl_do 7 g (f (5 * (k : Int) + 1).toNat) 0 0 0).1 = 1 ∨ (cl_do 7 g (f (5 * (k : Int) + 1).toNat) 0 0 0).1 = 2 ∨ (cl_do 7 g (f (5 * (k : Int) + 1).toNat) 0 0 0).1 = 3 := by
    show (md_shares g (f (5 * (k : Int) + 1).toNat)).1 = 0 ∨ (md_shares g (f (5 * (k : Int) + 1).toNat)).1 = 1 ∨ (md_shares g (f (5 * (k : Int) + 1).toNat)).1 = 2 ∨ (md_shares g (f (5 * (k : Int) + 1).toNat)).1 = 3
    have hw := md_why_bd g (f (5 * (k : Int) + 1).toNat)
    unfold md_shares
    repeat' split
    · show md_why g _ = 0 ∨ md_why g _ = 1 ∨ md_why g _ = 2 ∨ md_why g _ = 3; omega
    all_goals first | exact Or.inl rfl | exact Or.inr (Or.inr (Or.inr rfl))
  have hexc : ∀ c : Int, (c = 1 ∨ c = 2 ∨ c = 3) → ex_t (cl_tc 7 c) = "java/lang/IndexOutOfBoundsException" ∨ ex_t (cl_tc 7 c) = "java/util/NoSuchElementException" ∨ ex_t (cl_tc 7 c) = "java/lang/UnsupportedOperationException" := by
    intro c hc
    rcases hc with rfl | rfl | rfl <;> decide
  refine lc_change (kk := 7) (r := cl_do 7 g (f (5 * (k : Int) + 1).toNat) 0 0 0) (S := fun σ1 => md_shS (jk_row σ1 (m + 4) g) m g (f (5 * (k : Int) + 1).toNat)) hat hb hk9 (w_shareMisclosure hzn hx (c_X12_shareMisclosure hz hzx hln hrel hall hnn hsi hat.2.2.1.2.2.2.1 (fun j hj => h2c j (by omega)) (hf _)) (fun v' n' t' σ' ρ' hq => ⟨⟨_, hq.2.1⟩, by rw [hq.2.2.2.1]; exact hto⟩) (fun E n' t' σ' ρ' hx9 => by rw [hx9.2.1]; exact hexc _ (by have := hx9.1; omega))) (fun i hi h0 he => ?_) hbd ⟨md_all_cl hall (by omega) _ _ _ _ _, md_sit_cl hall.1 hsi _ _ _ _ _⟩ (fun n' σ1 h1 => c_X13_shareMisclosure h1.1 h1.2.1.2.1 hall.1 h1.2.1.1 h1.2.1.2.2.1 hall.2.2.2.1 hbz h1.2.1.2.2.2.1 hO3 (hf _) h1.2.2.1 h1.2.2.2 hJ hall.2.1) (fun σ1 h1 => md_like_shS hall.1 (md_z_row h1.2.2.1 _ ⟨by omega, by omega, by omega⟩) (md_z10_row h1.2.2.2 _ ⟨by omega, by omega, by omega, by omega⟩) hJ _)
  generalize (cl_do 7 g (f (5 * (k : Int) + 1).toNat) 0 0 0).1 = c at h0 he hrng ⊢
  have hi2 : i < 3 := hi
  rcases hrng with rfl | rfl | rfl | rfl
  · exact absurd rfl h0
  all_goals (rcases (show i = 0 ∨ i = 1 ∨ i = 2 by omega) with rfl | rfl | rfl <;> first | rfl | exact absurd he (by decide))
theorem lf_9 {G : jk_G} {n : Nat} {t : jk_T} {σ : jk_I} {ρ : jk_P} {N : Nat} {f : Nat → Int} {x m o d k : Nat} (hzl : zl_ok G N f) (hr : lr x m o d k n t σ ρ) (hk9 : k ≤ 512) : lc_F G yL_addProfile mL_addProfile [(0, 9, 12, 19), (0, 9, 15, 13)] 1 6 [.ref x, jI (f (5 * (k : Int) + 1).toNat), .ref o] yX13_addProfile mX13_addProfile [.ref m, jI (f (5 * (k : Int) + 1).toNat)] false x m o d k n t σ ρ := by
  obtain ⟨hz, hzx, hzv, hzp, hzn, ⟨hN, hf⟩, -⟩ := hzl
  obtain ⟨v, K, B, O, g, b, h, sv, Bf, L, P, Lo, hat, hb⟩ := hr
  obtain ⟨hx, hln, hrel, hall, hnn, hsi, hma, hmg, hmo, hmz, hmz1, hto, hJ⟩ := lr_f hat
  have hB := lr_B hat hb hk9
  have hO3 := hat.2.2.2.2.2.2.1
  have hbz := hat.2.2.2.2.2.1
  have h2c := (lg_2 hat.2.2.2).2.2
  have hbd := cl_do_bd 9 g (f (5 * (k : Int) + 1).toNat) 0 0 0
  have hrng : (cl_do 9 g (f (5 * (k : Int) + 1).toNat) 0 0 0).1 = 0 ∨ (cl_do 9 g (f (5 * (k : Int) + 1).toNat) 0 0 0).1 = 1 ∨ (cl_do 9 g (f (5 * (k : Int) + 1).toNat) 0 0 0).1 = 2 := by
    show (md_addsProfile g (f (5 * (k : Int) + 1).toNat)).1 = 0 ∨ (md_addsProfile g (f (5 * (k : Int) + 1).toNat)).1 = 1 ∨ (md_addsProfile g (f (5 * (k : Int) + 1).toNat)).1 = 2
    unfold md_addsProfile
    repeat' split
    all_goals first | exact Or.inl rfl | exact Or.inr rfl | exact Or.inr (Or.inl rfl) | exact Or.inr (Or.inr rfl) | exact Or.inr (Or.inr (Or.inl rfl)) | exact Or.inr (Or.inr (Or.inr rfl))
  have hexc : ∀ c : Int, (c = 1 ∨ c = 2) → ex_t (cl_tc 9 c) = "java/lang/IndexOutOfBoundsException" ∨ ex_t (cl_tc 9 c) = "java/lang/IllegalStateException" := by
    intro c hc
    rcases hc with rfl | rfl <;> decide
  refine lc_change (kk := 9) (r := cl_do 9 g (f (5 * (k : Int) + 1).toNat) 0 0 0) (S := fun σ1 => jk_row σ1 (m + 4) g) hat hb hk9 (w_addProfile hzn hx (c_X12_addProfile hz hzx hln hrel hall hnn hsi hat.2.2.1.2.2.2.1 (fun j hj => h2c j (by omega)) (hf _)) (fun v' n' t' σ' ρ' hq => ⟨⟨_, hq.2.1⟩, by rw [hq.2.2.2.1]; exact hto⟩) (fun E n' t' σ' ρ' hx9 => by rw [hx9.2.1]; exact hexc _ (by have := hx9.1; omega))) (fun i hi h0 he => ?_) hbd ⟨md_all_cl hall (by omega) _ _ _ _ _, md_sit_cl hall.1 hsi _ _ _ _ _⟩ (fun n' σ1 h1 => c_X13_addProfile h1.1 h1.2.1.2.1 hall.1 h1.2.1.1 h1.2.1.2.2.1 hall.2.2.2.1 hbz h1.2.1.2.2.2.1 hO3 (hf _)) (fun σ1 h1 => md_like_rf (md_z_row h1.2.2.1 _ ⟨by omega, by omega, by omega⟩) (md_z10_row h1.2.2.2 _ ⟨by omega, by omega, by omega, by omega⟩))
  generalize (cl_do 9 g (f (5 * (k : Int) + 1).toNat) 0 0 0).1 = c at h0 he hrng ⊢
  have hi2 : i < 2 := hi
  rcases hrng with rfl | rfl | rfl
  · exact absurd rfl h0
  all_goals (rcases (show i = 0 ∨ i = 1 by omega) with rfl | rfl <;> first | rfl | exact absurd he (by decide))
theorem lf_10 {G : jk_G} {n : Nat} {t : jk_T} {σ : jk_I} {ρ : jk_P} {N : Nat} {f : Nat → Int} {x m o d k : Nat} (hzl : zl_ok G N f) (hr : lr x m o d k n t σ ρ) (hk9 : k ≤ 512) : lc_F G yL_addStation mL_addStation [(0, 12, 15, 19), (0, 12, 19, 21), (0, 12, 23, 13)] 1 6 [.ref x, jI (f (5 * (k : Int) + 1).toNat), jI (f (5 * (k : Int) + 2).toNat), jI (f (5 * (k : Int) + 3).toNat), .ref o] yX13_addStation mX13_addStation [.ref m, jI (f (5 * (k : Int) + 1).toNat), jI (f (5 * (k : Int) + 2).toNat), jI (f (5 * (k : Int) + 3).toNat)] false x m o d k n t σ ρ := by
  obtain ⟨hz, hzx, hzv, hzp, hzn, ⟨hN, hf⟩, -⟩ := hzl
  obtain ⟨v, K, B, O, g, b, h, sv, Bf, L, P, Lo, hat, hb⟩ := hr
  obtain ⟨hx, hln, hrel, hall, hnn, hsi, hma, hmg, hmo, hmz, hmz1, hto, hJ⟩ := lr_f hat
  have hB := lr_B hat hb hk9
  have hO3 := hat.2.2.2.2.2.2.1
  have hbz := hat.2.2.2.2.2.1
  have h2c := (lg_2 hat.2.2.2).2.2
  have hbd := cl_do_bd 10 g (f (5 * (k : Int) + 1).toNat) (f (5 * (k : Int) + 2).toNat) (f (5 * (k : Int) + 3).toNat) 0
  have hrng : (cl_do 10 g (f (5 * (k : Int) + 1).toNat) (f (5 * (k : Int) + 2).toNat) (f (5 * (k : Int) + 3).toNat) 0).1 = 0 ∨ (cl_do 10 g (f (5 * (k : Int) + 1).toNat) (f (5 * (k : Int) + 2).toNat) (f (5 * (k : Int) + 3).toNat) 0).1 = 1 ∨ (cl_do 10 g (f (5 * (k : Int) + 1).toNat) (f (5 * (k : Int) + 2).toNat) (f (5 * (k : Int) + 3).toNat) 0).1 = 2 ∨ (cl_do 10 g (f (5 * (k : Int) + 1).toNat) (f (5 * (k : Int) + 2).toNat) (f (5 * (k : Int) + 3).toNat) 0).1 = 3 := by
    show (md_addsStation g (f (5 * (k : Int) + 1).toNat) (f (5 * (k : Int) + 2).toNat) (f (5 * (k : Int) + 3).toNat)).1 = 0 ∨ (md_addsStation g (f (5 * (k : Int) + 1).toNat) (f (5 * (k : Int) + 2).toNat) (f (5 * (k : Int) + 3).toNat)).1 = 1 ∨ (md_addsStation g (f (5 * (k : Int) + 1).toNat) (f (5 * (k : Int) + 2).toNat) (f (5 * (k : Int) + 3).toNat)).1 = 2 ∨ (md_addsStation g (f (5 * (k : Int) + 1).toNat) (f (5 * (k : Int) + 2).toNat) (f (5 * (k : Int) + 3).toNat)).1 = 3
    unfold md_addsStation
    repeat' split
    all_goals first | exact Or.inl rfl | exact Or.inr rfl | exact Or.inr (Or.inl rfl) | exact Or.inr (Or.inr rfl) | exact Or.inr (Or.inr (Or.inl rfl)) | exact Or.inr (Or.inr (Or.inr rfl))
  have hexc : ∀ c : Int, (c = 1 ∨ c = 2 ∨ c = 3) → ex_t (cl_tc 10 c) = "java/lang/IndexOutOfBoundsException" ∨ ex_t (cl_tc 10 c) = "java/lang/IllegalArgumentException" ∨ ex_t (cl_tc 10 c) = "java/lang/IllegalStateException" := by
    intro c hc
    rcases hc with rfl | rfl | rfl <;> decide
  refine lc_change (kk := 10) (r := cl_do 10 g (f (5 * (k : Int) + 1).toNat) (f (5 * (k : Int) + 2).toNat) (f (5 * (k : Int) + 3).toNat) 0) (S := fun σ1 => jk_row σ1 (m + 4) g) hat hb hk9 (w_addStation hzn hx (c_X12_addStation hz hzx hln hrel hall hnn hsi hat.2.2.1.2.2.2.1 (fun j hj => h2c j (by omega)) (hf _) (hf _) (hf _)) (fun v' n' t' σ' ρ' hq => ⟨⟨_, hq.2.1⟩, by rw [hq.2.2.2.1]; exact hto⟩) (fun E n' t' σ' ρ' hx9 => by rw [hx9.2.1]; exact hexc _ (by have := hx9.1; omega))) (fun i hi h0 he => ?_) hbd ⟨md_all_cl hall (by omega) _ _ _ _ _, md_sit_cl hall.1 hsi _ _ _ _ _⟩ (fun n' σ1 h1 => c_X13_addStation h1.1 h1.2.1.2.1 hall.1 h1.2.1.1 h1.2.1.2.2.1 hall.2.2.2.1 hbz h1.2.1.2.2.2.1 hO3 (hf _) (hf _) (hf _)) (fun σ1 h1 => md_like_rf (md_z_row h1.2.2.1 _ ⟨by omega, by omega, by omega⟩) (md_z10_row h1.2.2.2 _ ⟨by omega, by omega, by omega, by omega⟩))
  generalize (cl_do 10 g (f (5 * (k : Int) + 1).toNat) (f (5 * (k : Int) + 2).toNat) (f (5 * (k : Int) + 3).toNat) 0).1 = c at h0 he hrng ⊢
  have hi2 : i < 3 := hi
  rcases hrng with rfl | rfl | rfl | rfl
  · exact absurd rfl h0
  all_goals (rcases (show i = 0 ∨ i = 1 ∨ i = 2 by omega) with rfl | rfl | rfl <;> first | rfl | exact absurd he (by decide))
theorem lf_11 {G : jk_G} {n : Nat} {t : jk_T} {σ : jk_I} {ρ : jk_P} {N : Nat} {f : Nat → Int} {x m o d k : Nat} (hzl : zl_ok G N f) (hr : lr x m o d k n t σ ρ) (hk9 : k ≤ 512) : lc_F G yL_setWaterLevel mL_setWaterLevel [(0, 9, 12, 21)] 1 6 [.ref x, jI (f (5 * (k : Int) + 1).toNat), .ref o] yX13_setWaterLevel mX13_setWaterLevel [.ref m, jI (f (5 * (k : Int) + 1).toNat)] false x m o d k n t σ ρ := by
  obtain ⟨hz, hzx, hzv, hzp, hzn, ⟨hN, hf⟩, -⟩ := hzl
  obtain ⟨v, K, B, O, g, b, h, sv, Bf, L, P, Lo, hat, hb⟩ := hr
  obtain ⟨hx, hln, hrel, hall, hnn, hsi, hma, hmg, hmo, hmz, hmz1, hto, hJ⟩ := lr_f hat
  have hB := lr_B hat hb hk9
  have hO3 := hat.2.2.2.2.2.2.1
  have hbz := hat.2.2.2.2.2.1
  have h2c := (lg_2 hat.2.2.2).2.2
  have hbd := cl_do_bd 11 g (f (5 * (k : Int) + 1).toNat) 0 0 0
  have hrng : (cl_do 11 g (f (5 * (k : Int) + 1).toNat) 0 0 0).1 = 0 ∨ (cl_do 11 g (f (5 * (k : Int) + 1).toNat) 0 0 0).1 = 1 := by
    show (md_setsWater g (f (5 * (k : Int) + 1).toNat)).1 = 0 ∨ (md_setsWater g (f (5 * (k : Int) + 1).toNat)).1 = 1
    unfold md_setsWater
    repeat' split
    all_goals first | exact Or.inl rfl | exact Or.inr rfl | exact Or.inr (Or.inl rfl) | exact Or.inr (Or.inr rfl) | exact Or.inr (Or.inr (Or.inl rfl)) | exact Or.inr (Or.inr (Or.inr rfl))
  have hexc : ∀ c : Int, (c = 1) → ex_t (cl_tc 11 c) = "java/lang/IllegalArgumentException" := by
    intro c hc
    rcases hc with rfl <;> decide
  refine lc_change (kk := 11) (r := cl_do 11 g (f (5 * (k : Int) + 1).toNat) 0 0 0) (S := fun σ1 => jk_row σ1 (m + 4) g) hat hb hk9 (w_setWaterLevel hzn hx (c_X12_setWaterLevel hz hzx hln hrel hall hnn hsi hat.2.2.1.2.2.2.1 (fun j hj => h2c j (by omega)) (hf _)) (fun v' n' t' σ' ρ' hq => ⟨⟨_, hq.2.1⟩, by rw [hq.2.2.2.1]; exact hto⟩) (fun E n' t' σ' ρ' hx9 => by rw [hx9.2.1]; exact hexc _ (by have := hx9.1; omega))) (fun i hi h0 he => ?_) hbd ⟨md_all_cl hall (by omega) _ _ _ _ _, md_sit_cl hall.1 hsi _ _ _ _ _⟩ (fun n' σ1 h1 => c_X13_setWaterLevel h1.1 h1.2.1.2.1 hall.1 h1.2.1.1 h1.2.1.2.2.1 hall.2.2.2.1 hbz h1.2.1.2.2.2.1 hO3 (hf _)) (fun σ1 h1 => md_like_rf (md_z_row h1.2.2.1 _ ⟨by omega, by omega, by omega⟩) (md_z10_row h1.2.2.2 _ ⟨by omega, by omega, by omega, by omega⟩))
  generalize (cl_do 11 g (f (5 * (k : Int) + 1).toNat) 0 0 0).1 = c at h0 he hrng ⊢
  have hi2 : i < 1 := hi
  rcases hrng with rfl | rfl
  · exact absurd rfl h0
  all_goals (rcases (show i = 0 by omega) with rfl <;> first | rfl | exact absurd he (by decide))
theorem lf_8 {G : jk_G} {n : Nat} {t : jk_T} {σ : jk_I} {ρ : jk_P} {N : Nat} {f : Nat → Int} {x m o d k : Nat} (hzl : zl_ok G N f) (hr : lr x m o d k n t σ ρ) (hk9 : k ≤ 512) : lc_V G yX12_resetCorrections mX12_resetCorrections 1 6 yX13_resetCorrections mX13_resetCorrections x m o d k n t σ ρ := by
  obtain ⟨hz, hzx, hzv, hzp, hzn, ⟨hN, hf⟩, -⟩ := hzl
  obtain ⟨v, K, B, O, g, b, h, sv, Bf, L, P, Lo, hat, hb⟩ := hr
  obtain ⟨hx, hln, hrel, hall, hnn, hsi, hma, hmg, hmo, hmz, hmz1, hto, hJ⟩ := lr_f hat
  have hB := lr_B hat hb hk9
  have hO3 := hat.2.2.2.2.2.2.1
  have hbz := hat.2.2.2.2.2.1
  have h2c := (lg_2 hat.2.2.2).2.2
  have hpl := hat.1.1
  have h0 : (cl_do 8 g 0 0 0 0).1 = 0 := rfl
  refine ⟨_, _, c_X12_resetCorrections hz hzx hln hrel hall hnn hsi hat.2.2.1.2.2.2.1 (fun j hj => h2c j (by omega)), fun _ _ _ _ _ hx9 => hx9.1 h0, hx, fun v' n' t' σ' ρ' hq => ?_⟩
  obtain ⟨-, rfl, rfl, rfl, rfl, h6, h7, h8, h9⟩ := hq
  have hm1 : lm_is t' ρ' σ' m O g b h sv Bf L P := lm_same hat.2.1 (fun a ha hb => h9 a (by omega) (by omega))
  refine ⟨(md_resets g).2.1, rfl, ?_, hma.1, _, c_X13_resetCorrections hm1.1 hm1.2.1.2.1 hall.1 hm1.2.1.1 hm1.2.1.2.2.1 hall.2.2.2.1 hbz hm1.2.1.2.2.2.1 hO3, fun w n2 t2 σ2 ρ2 hq2 => ?_⟩
  · have i1 := hall.1.2.1
    have hs := jk_sum_bd2 (f := fun l => if g (136 + l) = 0 then 0 else 1) (a := 0) (b := 1) (g 1).toNat (fun l h0 hl => by
      show 0 ≤ (if g (136 + l) = 0 then (0 : Int) else 1) ∧ (if g (136 + l) = 0 then (0 : Int) else 1) ≤ 1
      split <;> exact ⟨by decide, by decide⟩)
    show jk_in (jk_sum _ _)
    exact ⟨by omega, by omega⟩
  · obtain ⟨rfl, rfl, rfl, rfl, rfl⟩ := hq2
    have z := lr_chg (r := md_resets g) hat hb hk9 rfl h6 h7 h8 h9 (fun a _ => rfl) (⟨md_all_cl hall (by omega) 8 0 0 0 0, md_sit_cl hall.1 hsi 8 0 0 0 0⟩ : st_ok (B + 85) (cl_do 8 g 0 0 0 0).2.2) (md_like_rf (md_z_row hm1.2.2.1 _ ⟨by omega, by omega, by omega⟩) (md_z10_row hm1.2.2.2 _ ⟨by omega, by omega, by omega, by omega⟩))
    exact ⟨rfl, z.2.2⟩
end L5
