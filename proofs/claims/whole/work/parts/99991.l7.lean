section L7
/-- a rendering, of the class and of the model -/
theorem lr_rend {x m o d k n v K w K2 n' : Nat} {t t' : jk_T} {σ σ1 σ' σ2 : jk_I} {ρ ρ' : jk_P} {B : Int} {O g b h sv Bf L P : Int → Int} {Lo Lr : List Int}
    (hat : lr_at n t σ ρ x m o d v K B O g b h sv Bf L P Lo) (hb : B + 85 * O 7 ≤ 85 * (k : Int)) (hbd : bd_is t' ρ' σ1 (x + 578) w K2 Lr) (hwf : ln_wf x v n t σ ρ w n' t' σ1 ρ') (hσ : ∀ a, a ≠ o → σ' a = σ1 a) (hσ2 : σ2 = md_rdS σ' m O L g Lr) : (∃ O2, md_at t' ρ' m ∧ σ2 m = O2 ∧ O2 12 = 0) ∧ t' o = some (.inl (.long, 1)) ∧ σ2 o = σ' o ∧ lr x m o d (k + 1) n' t' σ2 ρ' := by
  obtain ⟨⟨⟨p1, p2, p3, p4⟩, p5, p6, p7, p8⟩, hm, hx, hg⟩ := id hat
  obtain ⟨e1, e2, e3⟩ := lg_2 hg
  obtain ⟨w1, w2, w3, w4, w5, w6⟩ := id hwf
  have hO3 := hg.2.2.2.1
  have hma : md_at t' ρ' m := md_at_ext hm.1 (fun a h1 h2 => w4 a (by omega)) (w5 m (by omega) (by omega))
  have hq1 : ∀ a, a < n → (a < x + 512 ∨ x + 546 ≤ a) → a ≠ x + 578 → a ≠ v → a ≠ o → σ' a = σ a := fun a g1 g2 g3 g4 g5 => (hσ a g5).trans (w6 a g1 g2 g3 g4)
  have hlk := md_like_gr hg.2.1.1.1 (md_like_rf (m := m) (σ := σ') (fun p hp => by rw [hq1 _ (by omega) (by omega) (by omega) (by omega) (by omega), hq1 (m + 22) (by omega) (by omega) (by omega) (by omega) (by omega), hq1 (m + 24) (by omega) (by omega) (by omega) (by omega) (by omega)]; exact hm.2.2.1 p hp) (fun p hp => by rw [hq1 _ (by omega) (by omega) (by omega) (by omega) (by omega), hq1 (m + 18) (by omega) (by omega) (by omega) (by omega) (by omega), hq1 (m + 20) (by omega) (by omega) (by omega) (by omega) (by omega), hq1 (m + 26) (by omega) (by omega) (by omega) (by omega) (by omega)]; exact hm.2.2.2 p hp))
  have hlen : (md_wls (L, 0) Lr).2 = (Lr.length : Int) := by rw [md_wls_len]; show (0 : Int) + _ = _; omega
  have hσ3 : σ2 = jk_row (jk_row (jk_row (md_gr σ' m g) (m + 12) (md_wls (L, 0) Lr).1) m (jk_set O 11 (Lr.length : Int))) m (jk_set (jk_set O 11 (Lr.length : Int)) 12 0) := by rw [hσ2]; unfold md_rdS md_th md_wS; rw [hlen]
  obtain ⟨k1, k2, k3⟩ := hlk
  have hfr : ∀ a, ¬ md_scr m a → a ≠ m → a ≠ m + 12 → σ2 a = σ' a := fun a g1 g2 g3 => by rw [hσ3, jk_row_ne _ _ g2, jk_row_ne _ _ g2, jk_row_ne _ _ g3]; exact k1 a g1
  have hfs : ∀ a, md_scr m a → σ2 a = md_gr σ' m g a := fun a g1 => by
    unfold md_scr at g1
    rw [hσ3, jk_row_ne _ _ (by omega), jk_row_ne _ _ (by omega), jk_row_ne _ _ (by omega)]
  have hscr : ∀ a, (a < m ∨ m + 28 ≤ a ∨ a = m + 2 ∨ a = m + 4 ∨ a = m + 6 ∨ a = m + 8 ∨ a = m + 10) → ¬ md_scr m a := fun a ha => by unfold md_scr; omega
  have hO2 : σ2 m = jk_set (jk_set O 11 (Lr.length : Int)) 12 0 := by rw [hσ3]; exact jk_row_same _ _ _
  have oo : ∀ i, i ≠ 11 → i ≠ 12 → (jk_set (jk_set O 11 (Lr.length : Int)) 12 0) i = O i := fun i h3 h12 => (jk_set_ne _ _ h12).trans (jk_set_ne _ _ h3)
  have o11 : (jk_set (jk_set O 11 (Lr.length : Int)) 12 0) 11 = (Lr.length : Int) := by rw [jk_set_ne _ _ (by decide), jk_set_at]
  have hwo : w ≠ o ∧ w ≠ m ∧ w ≠ m + 12 ∧ ¬ md_scr m w := ⟨by omega, by omega, by omega, by unfold md_scr; omega⟩
  have hbd2 : bd_is t' ρ' σ2 (x + 578) w K2 Lr := bd_same hbd ((hfr _ (hscr _ (by omega)) (by omega) (by omega)).trans (hσ _ (by omega))) ((hfr _ hwo.2.2.2 hwo.2.1 hwo.2.2.1).trans (hσ _ hwo.1))
  obtain ⟨-, hKK, -, hle, hrg, hch⟩ := hbd
  obtain ⟨l1, l2⟩ := md_wls_at Lr (L, 0)
  have l1' : ∀ i : Nat, i < Lr.length → (md_wls (L, 0) Lr).1 (i : Int) = Lr.getD i 0 := fun i hi => by
    have h9 := l1 i hi
    rw [show ((L, (0 : Int)).2 + (i : Int)) = (i : Int) by show (0 : Int) + _ = _; omega] at h9
    exact h9
  refine ⟨⟨_, hma, hO2, jk_set_at _ _ _⟩, by rw [w4 o (by omega)]; exact p7, hfr o (hscr o (by omega)) (by omega) (by omega), ⟨w, K2, B, _, g, b, h, sv, Bf, (md_wls (L, 0) Lr).1, P, Lr, ⟨⟨⟨p1, p2, p3, by omega⟩, by omega, w2, by rw [w4 o (by omega)]; exact p7, by rw [w4 d (by omega)]; exact p8⟩, ⟨hma, ⟨hO2, ?_, ?_, ?_, ?_, ?_, ?_, ?_⟩, fun p hp => ?_, fun p hp => ?_⟩, ?_, ?_⟩, by rw [oo 7 (by decide) (by decide)]; push_cast; omega⟩⟩
  · rw [hfr _ (hscr _ (by omega)) (by omega) (by omega), hq1 _ (by omega) (by omega) (by omega) (by omega) (by omega)]; exact hm.2.1.2.1
  · rw [hfr _ (hscr _ (by omega)) (by omega) (by omega), hq1 _ (by omega) (by omega) (by omega) (by omega) (by omega)]; exact hm.2.1.2.2.1
  · rw [hfr _ (hscr _ (by omega)) (by omega) (by omega), hq1 _ (by omega) (by omega) (by omega) (by omega) (by omega)]; exact hm.2.1.2.2.2.1
  · rw [hfr _ (hscr _ (by omega)) (by omega) (by omega), hq1 _ (by omega) (by omega) (by omega) (by omega) (by omega)]; exact hm.2.1.2.2.2.2.1
  · rw [hfr _ (hscr _ (by omega)) (by omega) (by omega), hq1 _ (by omega) (by omega) (by omega) (by omega) (by omega)]; exact hm.2.1.2.2.2.2.2.1
  · rw [hσ3, jk_row_ne _ _ (by omega), jk_row_ne _ _ (by omega), jk_row_same]
  · rw [hfr _ (hscr _ (by omega)) (by omega) (by omega), hq1 _ (by omega) (by omega) (by omega) (by omega) (by omega)]; exact hm.2.1.2.2.2.2.2.2.2
  · rw [hfs (m + 14) (by unfold md_scr; omega), hfs (m + 22) (by unfold md_scr; omega), hfs (m + 24) (by unfold md_scr; omega)]; exact k2 p hp
  · rw [hfs (m + 16) (by unfold md_scr; omega), hfs (m + 18) (by unfold md_scr; omega), hfs (m + 20) (by unfold md_scr; omega), hfs (m + 26) (by unfold md_scr; omega)]; exact k3 p hp
  · obtain ⟨a1, a2, ⟨a3, a4, a5⟩, a6, a7, ⟨a8, a9, a10, a11⟩, a12, a13, a14⟩ := hx
    have hq : ∀ a, x ≤ a → (a < x + 512 ∨ x + 546 ≤ a) → a < x + 578 → σ2 a = σ a := fun a g1 g2 g3 => (hfr a (hscr a (by omega)) (by omega) (by omega)).trans (hq1 a (by omega) g2 (by omega) (by omega) (by omega))
    refine ⟨ln_at_bd (σ := σ2) (σ' := σ2) ⟨w1, w2, w3, w4, w5, fun _ _ _ _ => rfl⟩ (by omega) a1, cl_rel_same e1 (fun a h1 h2 => hq a (by omega) (by omega) (by omega)) a2, ⟨cl_nn_same (fun q hq9 => hq _ (by omega) (by omega) (by omega)) a3, cl_nn_same (fun q hq9 => hq _ (by omega) (by omega) (by omega)) a4, cl_nn_same (fun q hq9 => hq _ (by omega) (by omega) (by omega)) a5⟩, ?_, hbd2, ⟨?_, ?_, ?_, ?_⟩, fun h => ?_, by rw [hq _ (by omega) (by omega) (by omega)]; exact a13, fun i hi => ?_⟩
    · rw [oo 3 (by decide) (by decide)]
      exact hs_rel_same (fun a h1 h2 => hq a (by omega) (by omega) (by omega)) (fun j hj => e3 j (by omega)) a6
    · rw [hq x (by omega) (by omega) (by omega), oo 5 (by decide) (by decide)]; exact a8
    · rw [hq x (by omega) (by omega) (by omega), oo 8 (by decide) (by decide)]; exact a9
    · rw [hq x (by omega) (by omega) (by omega), oo 9 (by decide) (by decide)]; exact a10
    · rw [hq (x + 550) (by omega) (by omega) (by omega), oo 7 (by decide) (by decide)]; exact a11
    · rw [oo 5 (by decide) (by decide)] at h
      exact cl_rel_same (e2 h) (fun a h1 h2 => hq a (by omega) (by omega) (by omega)) (a12 h)
    · rw [hq _ (by omega) (by omega) (by omega)]; exact a14 i hi
  · obtain ⟨a0, a1, a2, a3, a4, a5, a6, a7, a8, a9, a10, a11, a12, a13, a14, a15⟩ := hg
    refine ⟨a0, a1, a2, by rw [oo 3 (by decide) (by decide)]; exact a3, by rw [oo 3 (by decide) (by decide)]; exact a4, by rw [oo 5 (by decide) (by decide)]; exact a5, a6, by rw [oo 5 (by decide) (by decide)]; exact a7, by rw [oo 8 (by decide) (by decide)]; exact a8, by rw [oo 9 (by decide) (by decide)]; exact a9, by rw [oo 7 (by decide) (by decide)]; exact a10, a11, by rw [o11]; exact ⟨rfl, by omega⟩, l1', fun j hj => ?_, a15⟩
    by_cases hj2 : j < (Lr.length : Int)
    · have h1 := l1' j.toNat (by omega)
      have h2 := hch j.toNat (by omega)
      have h3 := hrg j (by omega)
      rw [show ((j.toNat : Nat) : Int) = j by omega] at h1 h2
      rw [h1, ← h2]; omega
    · rw [l2 j (Or.inr (by show (0 : Int) + _ ≤ j; omega))]; exact a14 j hj

theorem lf_53 {G : jk_G} {n : Nat} {t : jk_T} {σ : jk_I} {ρ : jk_P} {N : Nat} {f : Nat → Int} {x m o d k : Nat} (hzl : zl_ok G N f) (hr : lr x m o d k n t σ ρ) (hk9 : k ≤ 512) : lc_F G yL_renderLine mL_renderLine [(0, 9, 12, 19)] 12 400 [.ref x, jI (f (5 * (k : Int) + 1).toNat), .ref o] yX13_renderLine mX13_renderLine [.ref m, jI (f (5 * (k : Int) + 1).toNat)] false x m o d k n t σ ρ := by
  obtain ⟨hz, hzx, hzv, hzp, hzn, ⟨hN, hf⟩, -⟩ := hzl
  obtain ⟨v, K, B, O, g, b, h, sv, Bf, L, P, Lo, hat, hb⟩ := hr
  obtain ⟨hx, hln, hrel, hall, hnn, hsi, hma, hmg, hmo, hmz, hmz1, hto, hJ⟩ := lr_f hat
  have hB := lr_B hat hb hk9
  have hpl := hat.1.1
  have hpv := hat.1.2.1
  have hvn := hat.1.2.2.1
  have hp := hf (5 * (k : Int) + 1).toNat
  generalize f (5 * (k : Int) + 1).toNat = p at hp ⊢
  refine ⟨_, w_renderLine hzn hx (c_X12_renderLine hz hzx hln hrel hall hnn hsi hzp hat.2.2.1.2.2.2.2.1 (by omega) (by omega) hvn hp) (fun v' n' t' σ' ρ' hq => ⟨⟨_, hq.2.1⟩, by obtain ⟨-, -, w, K2, -, hwf⟩ := hq; rw [hwf.2.2.2.1 o (by omega)]; exact hto⟩) (fun E n' t' σ' ρ' hx9 => hx9.2.1), fun v' n' t' σ' ρ' hq => ?_⟩
  rcases hq with ⟨w0, σ1, ⟨h1, h3, w, K2, hbd, hwf⟩, rfl, rfl⟩ | ⟨i, hi, ⟨h1, -, h2, h4, h5, h6⟩, rfl⟩
  · have hin : md_in p 0 (g 1 - 1) = true := by rw [cl_mi]; exact h1
    have hma2 : md_at t' ρ' m := md_at_ext hma (fun a g1 g2 => hwf.2.2.2.1 a (by omega)) (hwf.2.2.2.2.1 m (by omega) (by omega))
    have hfm : ∀ a, m ≤ a → a < m + 30 → (jk_row σ1 o (jk_set (σ1 o) 0 (jk_w w0))) a = σ a := fun a g1 g2 => by rw [jk_row_ne _ _ (by omega)]; exact hwf.2.2.2.2.2 a (by omega) (by omega) (by omega) (by omega)
    have hm1 := lm_same hat.2.1 hfm
    refine ⟨0, rfl, ⟨by decide, by decide⟩, hma2.1, _, c_X13_renderLine hma2 hm1.2.1.2.1 hall.1 hm1.2.1.1 hm1.2.2.1 hm1.2.2.2 hm1.2.1.2.2.2.2.2.2.1 hp, fun w' n2 t2 σ2 ρ2 hq2 => ?_⟩
    obtain ⟨rfl, rfl, rfl, rfl, rfl⟩ := hq2
    have e1 : md_rlV g p = ((md_rnl g p).length : Int) := by unfold md_rlV; rw [if_neg (by rw [hin]; decide)]
    have e2 : md_rlS (jk_row σ1 o (jk_set (σ1 o) 0 (jk_w w0))) m O L g p = md_rdS (jk_row σ1 o (jk_set (σ1 o) 0 (jk_w w0))) m O L g (md_rnl g p) := by unfold md_rlS; rw [if_neg (by rw [hin]; decide)]
    obtain ⟨z1, z2, z3, z4⟩ := lr_rend hat hb hbd hwf (fun a ha => jk_row_ne _ _ ha) e2
    refine ⟨_, rfl, (fun h => by cases h), z1, z2, fun _ => ?_, z4⟩
    rw [z3, jk_row_same, jk_set_at, e1]
    exact jk_ww h3
  · subst h4 h5
    have hi2 : i < 1 := hi
    obtain rfl : i = 0 := by omega
    have hin : md_in p 0 (g 1 - 1) = false := by rw [cl_mi]; exact h1
    have hm1 := lm_same hat.2.1 (fun a g1 g2 => h6 a (by omega))
    refine ⟨((0 : Nat) : Int) + 1, rfl, ⟨by decide, by decide⟩, hma.1, _, c_X13_renderLine hma hm1.2.1.2.1 hall.1 hm1.2.1.1 hm1.2.2.1 hm1.2.2.2 hm1.2.1.2.2.2.2.2.2.1 hp, fun w' n2 t2 σ2 ρ2 hq2 => ?_⟩
    obtain ⟨rfl, rfl, rfl, rfl, rfl⟩ := hq2
    have e2 : md_rlS σ' m O L g p = md_th σ' m O 1 := by unfold md_rlS; rw [if_pos hin]
    rw [e2]
    exact ⟨_, rfl, (fun h => by cases h), lr_fail hat hb h2 (fun a g1 _ _ => h6 a g1) (by decide)⟩
theorem lf_54 {G : jk_G} {n : Nat} {t : jk_T} {σ : jk_I} {ρ : jk_P} {N : Nat} {f : Nat → Int} {x m o d k : Nat} (hzl : zl_ok G N f) (hr : lr x m o d k n t σ ρ) (hk9 : k ≤ 512) : lc_F G yL_renderBenchmark mL_renderBenchmark [(0, 9, 12, 19)] 7 200 [.ref x, jI (f (5 * (k : Int) + 1).toNat), .ref o] yX13_renderBenchmark mX13_renderBenchmark [.ref m, jI (f (5 * (k : Int) + 1).toNat)] false x m o d k n t σ ρ := by
  obtain ⟨hz, hzx, hzv, hzp, hzn, ⟨hN, hf⟩, -⟩ := hzl
  obtain ⟨v, K, B, O, g, b, h, sv, Bf, L, P, Lo, hat, hb⟩ := hr
  obtain ⟨hx, hln, hrel, hall, hnn, hsi, hma, hmg, hmo, hmz, hmz1, hto, hJ⟩ := lr_f hat
  have hB := lr_B hat hb hk9
  have hpl := hat.1.1
  have hpv := hat.1.2.1
  have hvn := hat.1.2.2.1
  have hp := hf (5 * (k : Int) + 1).toNat
  generalize f (5 * (k : Int) + 1).toNat = p at hp ⊢
  refine ⟨_, w_renderBenchmark hzn hx (c_X12_renderBenchmark hz hzx hln hrel hall hnn hsi hzp hat.2.2.1.2.2.2.2.1 (by omega) (by omega) hvn hp) (fun v' n' t' σ' ρ' hq => ⟨⟨_, hq.2.1⟩, by obtain ⟨-, -, w, K2, -, hwf⟩ := hq; rw [hwf.2.2.2.1 o (by omega)]; exact hto⟩) (fun E n' t' σ' ρ' hx9 => hx9.2.1), fun v' n' t' σ' ρ' hq => ?_⟩
  rcases hq with ⟨w0, σ1, ⟨h1, h3, w, K2, hbd, hwf⟩, rfl, rfl⟩ | ⟨i, hi, ⟨h1, -, h2, h4, h5, h6⟩, rfl⟩
  · have hin : md_in p 0 (g 0 - 1) = true := by rw [cl_mi]; exact h1
    have hma2 : md_at t' ρ' m := md_at_ext hma (fun a g1 g2 => hwf.2.2.2.1 a (by omega)) (hwf.2.2.2.2.1 m (by omega) (by omega))
    have hfm : ∀ a, m ≤ a → a < m + 30 → (jk_row σ1 o (jk_set (σ1 o) 0 (jk_w w0))) a = σ a := fun a g1 g2 => by rw [jk_row_ne _ _ (by omega)]; exact hwf.2.2.2.2.2 a (by omega) (by omega) (by omega) (by omega)
    have hm1 := lm_same hat.2.1 hfm
    refine ⟨0, rfl, ⟨by decide, by decide⟩, hma2.1, _, c_X13_renderBenchmark hma2 hm1.2.1.2.1 hall.1 hm1.2.1.1 hm1.2.2.1 hm1.2.2.2 hm1.2.1.2.2.2.2.2.2.1 hp, fun w' n2 t2 σ2 ρ2 hq2 => ?_⟩
    obtain ⟨rfl, rfl, rfl, rfl, rfl⟩ := hq2
    have e1 : md_rbV g p = ((md_rnb g p).length : Int) := by unfold md_rbV; rw [if_neg (by rw [hin]; decide)]
    have e2 : md_rbS (jk_row σ1 o (jk_set (σ1 o) 0 (jk_w w0))) m O L g p = md_rdS (jk_row σ1 o (jk_set (σ1 o) 0 (jk_w w0))) m O L g (md_rnb g p) := by unfold md_rbS; rw [if_neg (by rw [hin]; decide)]
    obtain ⟨z1, z2, z3, z4⟩ := lr_rend hat hb hbd hwf (fun a ha => jk_row_ne _ _ ha) e2
    refine ⟨_, rfl, (fun h => by cases h), z1, z2, fun _ => ?_, z4⟩
    rw [z3, jk_row_same, jk_set_at, e1]
    exact jk_ww h3
  · subst h4 h5
    have hi2 : i < 1 := hi
    obtain rfl : i = 0 := by omega
    have hin : md_in p 0 (g 0 - 1) = false := by rw [cl_mi]; exact h1
    have hm1 := lm_same hat.2.1 (fun a g1 g2 => h6 a (by omega))
    refine ⟨((0 : Nat) : Int) + 1, rfl, ⟨by decide, by decide⟩, hma.1, _, c_X13_renderBenchmark hma hm1.2.1.2.1 hall.1 hm1.2.1.1 hm1.2.2.1 hm1.2.2.2 hm1.2.1.2.2.2.2.2.2.1 hp, fun w' n2 t2 σ2 ρ2 hq2 => ?_⟩
    obtain ⟨rfl, rfl, rfl, rfl, rfl⟩ := hq2
    have e2 : md_rbS σ' m O L g p = md_th σ' m O 1 := by unfold md_rbS; rw [if_pos hin]
    rw [e2]
    exact ⟨_, rfl, (fun h => by cases h), lr_fail hat hb h2 (fun a g1 _ _ => h6 a g1) (by decide)⟩
/-! SCRIPTS -/
theorem bd_rho {t : jk_T} {ρ ρ' : jk_P} {σ : jk_I} {b v K : Nat} {L : List Int} (h : bd_is t ρ σ b v K L) (h2 : ρ' b = ρ b) : bd_is t ρ' σ b v K L := by
  obtain ⟨⟨g1, g2, g3, g4, g5, g6⟩, hr⟩ := h
  exact ⟨⟨g1, g2, by rw [h2]; exact g3, g4, g5, g6⟩, hr⟩
theorem md_cf_pre {Bf : Int → Int} {ty : Int} {P0 : Int → Int} : ∀ (f j : Nat), (∀ i, i < j → (md_sn Bf ty P0 i).2 = true) → ∀ i, i < md_cf Bf ty P0 f j → (md_sn Bf ty P0 i).2 = true
  | 0, _, h => h
  | f + 1, j, h => by
    unfold md_cf
    split
    · exact h
    · rename_i h2
      refine md_cf_pre f (j + 1) (fun i hi => ?_)
      by_cases hij : i < j
      · exact h i hij
      · obtain rfl : i = j := by omega
        cases hc : (md_sn Bf ty P0 i).2 with
        | true => rfl
        | false => exact absurd hc h2
theorem md_cn_le {Bf : Int → Int} {ty : Int} (hB : ∀ j, 0 ≤ j ∧ j < 60 → 0 ≤ Bf j ∧ Bf j < 65536) (hty : 0 ≤ ty ∧ ty ≤ 60) {P0 : Int → Int} (hP : md_pb P0) : 2 * (md_cn Bf ty P0 : Int) ≤ ty + 2 := by
  have h := md_cf_pre (Bf := Bf) (ty := ty) (P0 := P0) 40 0 (fun i hi => absurd hi (Nat.not_lt_zero i))
  show 2 * (md_cf Bf ty P0 40 0 : Int) ≤ ty + 2
  generalize md_cf Bf ty P0 40 0 = c at h ⊢
  match c, h with
  | 0, _ => omega
  | c + 1, h =>
    have h1 := md_sn_2j c (h c (Nat.lt_succ_self c)) (fun i hi => h i (by omega))
    have h2 := (md_sn_ok hB hty hP c).1
    unfold md_sok at h2
    push_cast
    omega
theorem md_sit_gk {B : Int} {g : Int → Int} (h : md_all B g) (hs : md_sit g) (P : Int → Int) : ∀ k : Nat, B + 85 * (k : Int) ≤ 1100000 → md_sit (md_gk P g k)
  | 0, _ => hs
  | k + 1, hk => by
    push_cast at hk
    exact md_sit_do (md_all_gk h P k (by omega)).1 (md_sit_gk h hs P k (by omega)) P _
theorem md_O2_ne (O : Int → Int) (sp : Int) (w : Bool) {i : Int} (h1 : i ≠ 20) (h2 : i ≠ 21) (h3 : i ≠ 7) : md_O2 O sp w i = O i := by
  unfold md_O2
  rw [jk_set_ne _ _ h3, jk_set_ne _ _ h2, jk_set_ne _ _ h1]
theorem md_O2_7 (O : Int → Int) (sp : Int) (w : Bool) : md_O2 O sp w 7 = 0 := by
  unfold md_O2
  rw [jk_set_at]
theorem lr_run {x m o d k n n' v K : Nat} {t : jk_T} {σ σ1 σ' σ2 : jk_I} {ρ ρ' : jk_P} {B B' : Int} {O g b h sv Bf L P O' g' b' h' P' : Int → Int} {Lo : List Int}
    (hat : lr_at n t σ ρ x m o d v K B O g b h sv Bf L P Lo) (hn : n ≤ n') (c1 : cl_rel σ1 (x + 2) g') (c2 : hs_rel σ1 (x + 140) (O' 3).toNat (lh_H h')) (c3 : rn_c x σ ρ σ1 ρ') (cx : σ1 x 3 = O' 5 ∧ σ1 x 13 = O' 8 ∧ σ1 x 14 = O' 9) (hσ : ∀ a, a ≠ o → σ' a = σ1 a)
    (m0 : σ2 m = O') (m2 : σ2 (m + 2) = g') (m4 : σ2 (m + 4) = b') (m6 : σ2 (m + 6) = h') (m28 : σ2 (m + 28) = P') (mf : ∀ a, ¬ md_scr m a → a ≠ m → a ≠ m + 2 → a ≠ m + 4 → a ≠ m + 6 → a ≠ m + 28 → σ2 a = σ' a) (mz : md_z σ2 m) (mz1 : md_z10 σ2 m)
    (o7 : O' 7 = 0) (o5 : O' 5 = O 5) (o11 : O' 11 = O 11) (o3 : 0 ≤ O' 3 ∧ O' 3 ≤ 8) (o8 : -1 ≤ O' 8 ∧ O' 8 ≤ 100) (o9 : -1 ≤ O' 9 ∧ O' 9 ≤ 100) (hBB : B ≤ B') (hB2 : B' ≤ 1100000) (hs : st_ok B' g') (hb' : md_zf 240 b') (hh : ∀ j : Nat, (j : Int) < O' 3 → st_ok B' (lh_H h' j)) (hP : md_pb P') (hB3 : B' ≤ 85 * ((k : Int) + 1)) : md_at t ρ' m ∧ σ2 o = σ' o ∧ lr x m o d (k + 1) n' t σ2 ρ' := by
  obtain ⟨⟨⟨p1, p2, p3, p4⟩, p5, p6, p7, p8⟩, hm, hx, hg⟩ := id hat
  obtain ⟨e1, e2, e3⟩ := lg_2 hg
  obtain ⟨r1, r2, r3, r4, r5, r6⟩ := c3
  have hma : md_at t ρ' m := md_at_ext hm.1 (fun a _ _ => rfl) (r6 m (by omega))
  have hscr : ∀ a, (a < m ∨ m + 28 ≤ a ∨ a = m + 8 ∨ a = m + 10 ∨ a = m + 12) → ¬ md_scr m a := fun a ha => by unfold md_scr; omega
  have hq1 : ∀ a, (a < x + 582 ∨ a = v) → σ2 a = σ1 a := fun a ha => (mf a (hscr a (by omega)) (by omega) (by omega) (by omega) (by omega) (by omega)).trans (hσ a (by omega))
  have hq2 : ∀ a, (a = m + 8 ∨ a = m + 10 ∨ a = m + 12) → σ2 a = σ a := fun a ha => ((mf a (hscr a (by omega)) (by omega) (by omega) (by omega) (by omega) (by omega)).trans (hσ a (by omega))).trans (r5 a (by omega) (by omega) (by omega) (by omega) (fun i hi => by omega))
  have hq3 : ∀ a, ((x + 94 ≤ a ∧ a < x + 140) ∨ (x + 551 ≤ a ∧ a < x + 558) ∨ (x + 577 ≤ a ∧ a < x + 582) ∨ a = v) → σ2 a = σ a := fun a ha => (hq1 a (by omega)).trans (r5 a (by omega) (by omega) (by omega) (by omega) (fun i hi => by omega))
  refine ⟨hma, mf o (hscr o (by omega)) (by omega) (by omega) (by omega) (by omega) (by omega), ⟨v, K, B', O', g', b', h', sv, Bf, L, P', Lo, ⟨⟨⟨p1, p2, p3, by omega⟩, p5, by omega, p7, p8⟩, ⟨hma, ⟨m0, m2, m4, m6, ?_, ?_, ?_, m28⟩, mz, mz1⟩, ?_, ?_⟩, by rw [o7]; push_cast; omega⟩⟩
  · rw [hq2 _ (by omega)]; exact hm.2.1.2.2.2.2.1
  · rw [hq2 _ (by omega)]; exact hm.2.1.2.2.2.2.2.1
  · rw [hq2 _ (by omega)]; exact hm.2.1.2.2.2.2.2.2.1
  · obtain ⟨a1, a2, ⟨a3, a4, a5⟩, a6, a7, ⟨a8, a9, a10, a11⟩, a12, a13, a14⟩ := hx
    refine ⟨ln_at_rho a1 r6, cl_rel_same hs.1.1.2.2.1.2 (fun a h1 h2 => hq1 a (by omega)) c1, ⟨cl_nn_same (fun q hq9 => hq1 _ (by omega)) r1, cl_nn_same (fun q hq9 => hq1 _ (by omega)) r2, cl_nn_same (fun q hq9 => hq3 _ (by omega)) a5⟩, ?_, bd_rho (bd_same a7 (hq3 _ (by omega)) (hq3 _ (by omega))) (r6 _ (by omega)), ⟨?_, ?_, ?_, ?_⟩, fun h => ?_, by rw [hq3 _ (by omega)]; exact a13, fun i hi => ?_⟩
    · exact hs_rel_same (fun a h1 h2 => hq1 a (by omega)) (fun j hj => (hh j (by omega)).1.1.2.2.1.2) c2
    · rw [hq1 x (by omega)]; exact cx.1
    · rw [hq1 x (by omega)]; exact cx.2.1
    · rw [hq1 x (by omega)]; exact cx.2.2
    · rw [hq1 _ (by omega), o7]; exact r3
    · rw [o5] at h
      exact cl_rel_same (e2 h) (fun a h1 h2 => hq3 a (by omega)) (a12 h)
    · rw [hq1 _ (by omega)]; exact r4 i hi
  · obtain ⟨a0, a1, a2, a3, a4, a5, a6, a7, a8, a9, a10, a11, a12, a13, a14, a15⟩ := hg
    exact ⟨by omega, hs, hb', o3, hh, by rw [o5]; exact a5, a6, fun h => st_ok_up (a7 (by rw [← o5]; exact h)) hBB hB2, o8, o9, by rw [o7]; decide, a11, by rw [o11]; exact a12, a13, a14, hP⟩

theorem lf_57 {G : jk_G} {n : Nat} {t : jk_T} {σ : jk_I} {ρ : jk_P} {N : Nat} {f : Nat → Int} {x m o d k : Nat} (hzl : zl_ok G N f) (hr : lr x m o d k n t σ ρ) (hk9 : k ≤ 512) : lc_F G yL_runScript mL_runScript [(0, 8, 11, 21), (0, 8, 14, 13)] 1 6 [.ref x, .ref o] yX13_runScript mX13_runScript [.ref m] false x m o d k n t σ ρ := by
  obtain ⟨hz, hzx, hzv, hzp, hzn, ⟨hN, hf⟩, -⟩ := hzl
  obtain ⟨v, K, B, O, g, b, h, sv, Bf, L, P, Lo, hat, hb⟩ := hr
  obtain ⟨hx, hln, hrel, hall, hnn, hsi, hma, hmg, hmo, hmz, hmz1, hto, hJ⟩ := lr_f hat
  have hB := lr_B hat hb hk9
  have hpl := hat.1.1
  have hpv := hat.1.2.1
  obtain ⟨e1, e2, e3⟩ := lg_2 hat.2.2.2
  have hO3 := hat.2.2.2.2.2.2.1
  have hH := hat.2.2.2.2.2.2.2.1
  have h8 := hat.2.2.2.2.2.2.2.2.2.2.2.1
  have h9 := hat.2.2.2.2.2.2.2.2.2.2.2.2.1
  have h7 := hat.2.2.2.2.2.2.2.2.2.2.2.2.2.1
  have hBf := hat.2.2.2.2.2.2.2.2.2.2.2.2.2.2.1
  have hpb := hat.2.2.2.2.2.2.2.2.2.2.2.2.2.2.2.2.2.2
  have hbz := hat.2.2.2.2.2.1
  have hsz : σ (x + 550) 1 = O 7 := hat.2.2.1.2.2.2.2.2.1.2.2.2
  have hbf : σ (x + 552) = Bf := hat.2.2.1.2.2.2.2.2.2.2.1
  obtain ⟨hx3, hx13, hx14, -⟩ := hat.2.2.1.2.2.2.2.2.1
  have hcs := hat.2.2.1.2.2.2.2.2.2.2.2
  have hcn := md_cn_le hBf h7 hpb
  have hxk := md_sn_ok hBf h7 hpb (md_cn Bf (O 7) P)
  rw [show (md_sn Bf (O 7) P (md_cn Bf (O 7) P)).1 = md_x Bf (O 7) P from rfl] at hxk
  obtain ⟨hx1, hx2⟩ := hxk
  unfold md_sok at hx1
  have hff := jk_fnd_bd (md_fP (md_x Bf (O 7) P).2 g) (md_cn Bf (O 7) P)
  rw [show jk_fnd (md_fP (md_x Bf (O 7) P).2 g) (md_cn Bf (O 7) P) = md_ff Bf (O 7) P g from rfl] at hff
  have hrs : md_rs5 O g b h Bf (O 7) P = md_rs5 O g b h Bf (O 7) P := rfl
  refine ⟨_, w_runScript hzn hx (c_X12_runScript (P0 := P) hz hzx hln hrel hall hnn hsi hzv (by omega) hat.2.2.1.2.2.2.1 (fun j hj => e3 j (by omega)) hat.2.2.1.2.2.1.2.1 hsz hbf hBf h7 hcs) (fun v' n' t' σ' ρ' hq => ⟨⟨_, hq.2.2.1⟩, by rw [hq.2.2.2.2.1]; exact hto⟩) (fun E n' t' σ' ρ' hx9 => by rcases hx9.2.2.2.2.2 with ⟨-, h, -⟩ | ⟨-, -, h, -⟩ <;> rw [h] <;> first | exact Or.inl rfl | exact Or.inr rfl), fun v' n' t' σ' ρ' hq => ?_⟩
  rcases hq with ⟨w0, σ1, ⟨h1, h2, h3, h4, h5, c1, c2, hc10, cx, c3⟩, rfl, rfl⟩ | ⟨i, hi, ⟨h2, h4, c1, c2, c3, hE⟩, rfl⟩
  · subst h4 h5
    have hma2 : md_at t' ρ' m := md_at_ext hma (fun a _ _ => rfl) (c3.2.2.2.2.2 m (by omega))
    have hfm : ∀ a, m ≤ a → a < m + 30 → (jk_row σ1 o (jk_set (σ1 o) 0 (jk_w w0))) a = σ a := fun a g1 g2 => by rw [jk_row_ne _ _ (by omega)]; exact c3.2.2.2.2.1 a (by omega) (by omega) (by omega) (by omega) (fun i hi => by omega)
    have hm1 := lm_same hat.2.1 hfm
    refine ⟨0, rfl, ⟨by decide, by decide⟩, hma2.1, _, c_X13_runScript hma2 hm1.2.1.2.1 hm1.2.1.1 hm1.2.1.2.2.2.2.2.1 hBf rfl h7 hm1.2.1.2.2.2.2.2.2.2 hpb hm1.2.1.2.2.1 hall.2.2.2.1 hbz hm1.2.1.2.2.2.1 hO3 hm1.2.2.1 hm1.2.2.2 (md_hall2 hall (by omega)), fun w' n2 t2 σ2 ρ2 hq2 => ?_⟩
    have e : md_rs5 O g b h Bf (O 7) P = (((md_cn Bf (O 7) P : Nat) : Int), jk_set (jk_set (md_O2 O (md_x Bf (O 7) P).1.1 (md_w2 Bf (O 7) P)) 12 0) 3 (md_c2 (O 3)), md_gk (md_x Bf (O 7) P).2 g (md_cn Bf (O 7) P), g, md_h2 h (O 3) g) := by unfold md_rs5; rw [if_neg (by rw [h1]; decide), if_pos h2]
    rw [e] at hq2
    obtain ⟨rfl, rfl, rfl, rfl, q1, q2, q3, q4, q5, q6, q7, q8⟩ := hq2
    have oo : ∀ i, i ≠ 3 → i ≠ 12 → i ≠ 20 → i ≠ 21 → i ≠ 7 → (jk_set (jk_set (md_O2 O (md_x Bf (O 7) P).1.1 (md_w2 Bf (O 7) P)) 12 0) 3 (md_c2 (O 3))) i = O i := fun i h3 h12 h20 h21 h7 => ((jk_set_ne _ _ h3).trans (jk_set_ne _ _ h12)).trans (md_O2_ne _ _ _ h20 h21 h7)
    have o3 : (jk_set (jk_set (md_O2 O (md_x Bf (O 7) P).1.1 (md_w2 Bf (O 7) P)) 12 0) 3 (md_c2 (O 3))) 3 = md_c2 (O 3) := jk_set_at _ _ _
    have o7 : (jk_set (jk_set (md_O2 O (md_x Bf (O 7) P).1.1 (md_w2 Bf (O 7) P)) 12 0) 3 (md_c2 (O 3))) 7 = 0 := by rw [jk_set_ne _ _ (by decide), jk_set_ne _ _ (by decide), md_O2_7]
    have o12 : (jk_set (jk_set (md_O2 O (md_x Bf (O 7) P).1.1 (md_w2 Bf (O 7) P)) 12 0) 3 (md_c2 (O 3))) 12 = 0 := by rw [jk_set_ne _ _ (by decide), jk_set_at]
    obtain ⟨d1, d2⟩ := lh_push (h := h) hO3 hall.2.2.2.1
    have hpc : md_c2 (O 3) ≤ 8 ∧ 0 ≤ md_c2 (O 3) := by unfold md_c2; split <;> omega
    obtain ⟨z1, z2, z3⟩ := lr_run (k := k) (B' := B + 85 * (md_cn Bf (O 7) P : Int)) (O' := jk_set (jk_set (md_O2 O (md_x Bf (O 7) P).1.1 (md_w2 Bf (O 7) P)) 12 0) 3 (md_c2 (O 3))) (g' := md_gk (md_x Bf (O 7) P).2 g (md_cn Bf (O 7) P)) (b' := g) (h' := md_h2 h (O 3) g) hat (Nat.le_refl _) c1 (by rw [o3]; exact hs_rel_congr c2 d1 d2) c3 ⟨by rw [cx, oo 5 (by decide) (by decide) (by decide) (by decide) (by decide)]; exact hx3, by rw [cx, oo 8 (by decide) (by decide) (by decide) (by decide) (by decide)]; exact hx13, by rw [cx, oo 9 (by decide) (by decide) (by decide) (by decide) (by decide)]; exact hx14⟩ (fun a ha => jk_row_ne _ _ ha) q1 q2 q3 q4 q5 q6 q7 q8 o7 (oo 5 (by decide) (by decide) (by decide) (by decide) (by decide)) (oo 11 (by decide) (by decide) (by decide) (by decide) (by decide)) (by rw [o3]; omega) (by rw [oo 8 (by decide) (by decide) (by decide) (by decide) (by decide)]; exact h8) (by rw [oo 9 (by decide) (by decide) (by decide) (by decide) (by decide)]; exact h9) (by omega) (by omega) ⟨md_all_gk hall _ _ (by omega), md_sit_gk hall hsi _ _ (by omega)⟩ hall.2.2.2.1 (by rw [o3]; exact lh_pok hO3 (by omega) (by omega) hat.2.2.2.2.1 hH) hx2 (by omega)
    refine ⟨_, rfl, (fun h => by cases h), ⟨jk_set (jk_set (md_O2 O (md_x Bf (O 7) P).1.1 (md_w2 Bf (O 7) P)) 12 0) 3 (md_c2 (O 3)), z1, q1, o12⟩, hto, fun _ => ?_, z3⟩
    rw [z2, jk_row_same, jk_set_at]
    exact jk_ww h3
  · subst h4
    have hi2 : i < 2 := hi
    have hma2 : md_at t' ρ' m := md_at_ext hma (fun a _ _ => rfl) (c3.2.2.2.2.2 m (by omega))
    have hfm : ∀ a, m ≤ a → a < m + 30 → σ' a = σ a := fun a g1 g2 => c3.2.2.2.2.1 a (by omega) (by omega) (by omega) (by omega) (fun i hi => by omega)
    have hm1 := lm_same hat.2.1 hfm
    refine ⟨(i : Int) + 1, rfl, ⟨by omega, by omega⟩, hma2.1, _, c_X13_runScript hma2 hm1.2.1.2.1 hm1.2.1.1 hm1.2.1.2.2.2.2.2.1 hBf rfl h7 hm1.2.1.2.2.2.2.2.2.2 hpb hm1.2.1.2.2.1 hall.2.2.2.1 hbz hm1.2.1.2.2.2.1 hO3 hm1.2.2.1 hm1.2.2.2 (md_hall2 hall (by omega)), fun w' n2 t2 σ2 ρ2 hq2 => ?_⟩
    rcases hE with ⟨hw2, hE, hxx⟩ | ⟨hw2, hf2, hE, hxx⟩
    · obtain rfl : i = 0 := by
        rcases (show i = 0 ∨ i = 1 by omega) with rfl | rfl
        · rfl
        · exact absurd hE (by decide)
      have e : md_rs5 O g b h Bf (O 7) P = (0, jk_set (jk_set (md_O2 O (md_x Bf (O 7) P).1.1 (md_w2 Bf (O 7) P)) 8 (md_x Bf (O 7) P).1.1) 12 1, g, b, h) := by unfold md_rs5; rw [if_pos hw2]
      rw [e] at hq2
      obtain ⟨rfl, rfl, rfl, rfl, q1, q2, q3, q4, q5, q6, q7, q8⟩ := hq2
      have oo : ∀ i, i ≠ 8 → i ≠ 12 → i ≠ 20 → i ≠ 21 → i ≠ 7 → (jk_set (jk_set (md_O2 O (md_x Bf (O 7) P).1.1 (md_w2 Bf (O 7) P)) 8 (md_x Bf (O 7) P).1.1) 12 1) i = O i := fun i h3 h12 h20 h21 h7 => ((jk_set_ne _ _ h12).trans (jk_set_ne _ _ h3)).trans (md_O2_ne _ _ _ h20 h21 h7)
      have o8 : (jk_set (jk_set (md_O2 O (md_x Bf (O 7) P).1.1 (md_w2 Bf (O 7) P)) 8 (md_x Bf (O 7) P).1.1) 12 1) 8 = (md_x Bf (O 7) P).1.1 := by rw [jk_set_ne _ _ (by decide), jk_set_at]
      have o7 : (jk_set (jk_set (md_O2 O (md_x Bf (O 7) P).1.1 (md_w2 Bf (O 7) P)) 8 (md_x Bf (O 7) P).1.1) 12 1) 7 = 0 := by rw [jk_set_ne _ _ (by decide), jk_set_ne _ _ (by decide), md_O2_7]
      have o3 := oo 3 (by decide) (by decide) (by decide) (by decide) (by decide)
      obtain ⟨z1, z2, z3⟩ := lr_run (k := k) (B' := B) (O' := jk_set (jk_set (md_O2 O (md_x Bf (O 7) P).1.1 (md_w2 Bf (O 7) P)) 8 (md_x Bf (O 7) P).1.1) 12 1) (g' := g) (b' := b) (h' := h) hat h2 c1 (by rw [o3]; exact c2) c3 ⟨by rw [hxx, jk_set_ne _ _ (by decide), oo 5 (by decide) (by decide) (by decide) (by decide) (by decide)]; exact hx3, by rw [hxx, jk_set_at, o8], by rw [hxx, jk_set_ne _ _ (by decide), oo 9 (by decide) (by decide) (by decide) (by decide) (by decide)]; exact hx14⟩ (fun a ha => rfl) q1 q2 q3 q4 q5 q6 q7 q8 o7 (oo 5 (by decide) (by decide) (by decide) (by decide) (by decide)) (oo 11 (by decide) (by decide) (by decide) (by decide) (by decide)) (by rw [o3]; exact hO3) (by rw [o8]; omega) (by rw [oo 9 (by decide) (by decide) (by decide) (by decide) (by decide)]; exact h9) (by omega) (by omega) ⟨hall, hsi⟩ hbz (by rw [o3]; exact hH) hx2 (by omega)
      exact ⟨_, rfl, (fun h => by cases h), ⟨jk_set (jk_set (md_O2 O (md_x Bf (O 7) P).1.1 (md_w2 Bf (O 7) P)) 8 (md_x Bf (O 7) P).1.1) 12 1, z1, q1, jk_set_at _ _ _⟩, hto, fun h => absurd h (by decide), z3⟩
    · obtain rfl : i = 1 := by
        rcases (show i = 0 ∨ i = 1 by omega) with rfl | rfl
        · exact absurd hE (by decide)
        · rfl
      have e : md_rs5 O g b h Bf (O 7) P = (0, jk_set (jk_set (md_O2 O (md_x Bf (O 7) P).1.1 (md_w2 Bf (O 7) P)) 9 (md_ff Bf (O 7) P g)) 12 2, g, g, h) := by unfold md_rs5; rw [if_neg (by rw [hw2]; decide), if_neg hf2]
      rw [e] at hq2
      obtain ⟨rfl, rfl, rfl, rfl, q1, q2, q3, q4, q5, q6, q7, q8⟩ := hq2
      have oo : ∀ i, i ≠ 9 → i ≠ 12 → i ≠ 20 → i ≠ 21 → i ≠ 7 → (jk_set (jk_set (md_O2 O (md_x Bf (O 7) P).1.1 (md_w2 Bf (O 7) P)) 9 (md_ff Bf (O 7) P g)) 12 2) i = O i := fun i h3 h12 h20 h21 h7 => ((jk_set_ne _ _ h12).trans (jk_set_ne _ _ h3)).trans (md_O2_ne _ _ _ h20 h21 h7)
      have o9 : (jk_set (jk_set (md_O2 O (md_x Bf (O 7) P).1.1 (md_w2 Bf (O 7) P)) 9 (md_ff Bf (O 7) P g)) 12 2) 9 = md_ff Bf (O 7) P g := by rw [jk_set_ne _ _ (by decide), jk_set_at]
      have o7 : (jk_set (jk_set (md_O2 O (md_x Bf (O 7) P).1.1 (md_w2 Bf (O 7) P)) 9 (md_ff Bf (O 7) P g)) 12 2) 7 = 0 := by rw [jk_set_ne _ _ (by decide), jk_set_ne _ _ (by decide), md_O2_7]
      have o3 := oo 3 (by decide) (by decide) (by decide) (by decide) (by decide)
      obtain ⟨z1, z2, z3⟩ := lr_run (k := k) (B' := B) (O' := jk_set (jk_set (md_O2 O (md_x Bf (O 7) P).1.1 (md_w2 Bf (O 7) P)) 9 (md_ff Bf (O 7) P g)) 12 2) (g' := g) (b' := g) (h' := h) hat h2 c1 (by rw [o3]; exact c2) c3 ⟨by rw [hxx, jk_set_ne _ _ (by decide), oo 5 (by decide) (by decide) (by decide) (by decide) (by decide)]; exact hx3, by rw [hxx, jk_set_ne _ _ (by decide), oo 8 (by decide) (by decide) (by decide) (by decide) (by decide)]; exact hx13, by rw [hxx, jk_set_at, o9]⟩ (fun a ha => rfl) q1 q2 q3 q4 q5 q6 q7 q8 o7 (oo 5 (by decide) (by decide) (by decide) (by decide) (by decide)) (oo 11 (by decide) (by decide) (by decide) (by decide) (by decide)) (by rw [o3]; exact hO3) (by rw [oo 8 (by decide) (by decide) (by decide) (by decide) (by decide)]; exact h8) (by rw [o9]; omega) (by omega) (by omega) ⟨hall, hsi⟩ hall.2.2.2.1 (by rw [o3]; exact hH) hx2 (by omega)
      exact ⟨_, rfl, (fun h => by cases h), ⟨jk_set (jk_set (md_O2 O (md_x Bf (O 7) P).1.1 (md_w2 Bf (O 7) P)) 9 (md_ff Bf (O 7) P g)) 12 2, z1, q1, jk_set_at _ _ _⟩, hto, fun h => absurd h (by decide), z3⟩
end L7
