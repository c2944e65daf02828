section CC4
/-- the History at h holds the states Hr 0 .. Hr (c - 1), oldest first -/
def hs_ix (nx c j : Nat) : Nat := (nx + 8 - c + j) % 8
def hs_rel (σ : jk_I) (h c : Nat) (Hr : Nat → Int → Int) : Prop := c ≤ 8 ∧ ∃ nx : Nat, nx < 8 ∧ σ h 1 = (nx : Int) ∧ σ h 2 = (c : Int) ∧ (∀ j : Nat, j < c → cl_rel σ (h + (4 + 46 * hs_ix nx c j)) (Hr j)) ∧ ∀ i : Nat, i < 8 → cl_nn σ (h + (4 + 46 * i))
theorem hs_rel_0 {σ : jk_I} {h : Nat} {Hr : Nat → Int → Int} (h1 : σ h 1 = 0) (h2 : σ h 2 = 0) (hz : ∀ a, h + 4 ≤ a → a < h + 372 → a % 2 = h % 2 → σ a = fun _ => 0) : hs_rel σ h 0 Hr :=
  ⟨by omega, 0, by omega, h1, h2, fun j hj => absurd hj (Nat.not_lt_zero j), fun i hi q hq => by rw [hz _ (by omega) (by omega) (by omega)]; exact ⟨by decide, by decide⟩⟩
theorem hs_rel_same {σ σ1 : jk_I} {h c : Nat} {Hr : Nat → Int → Int} (hs : ∀ a, h ≤ a → a < h + 372 → σ1 a = σ a) (hH : ∀ j, j < c → Hr j 2 ≤ 4) (hr : hs_rel σ h c Hr) : hs_rel σ1 h c Hr := by
  obtain ⟨h0, nx, h1, h2, h3, h4, h5⟩ := hr
  have e := hs h (by omega) (by omega)
  refine ⟨h0, nx, h1, by rw [e]; exact h2, by rw [e]; exact h3, fun j hj => ?_, fun i hi q hq => by rw [hs _ (by omega) (by omega)]; exact h5 i hi q hq⟩
  have hx : hs_ix nx c j < 8 := Nat.mod_lt _ (by omega)
  exact cl_rel_same (hH j hj) (fun a h1 h2 => hs a (by omega) (by omega)) (h4 j hj)
def hs_pc (c : Nat) : Nat := if c < 8 then c + 1 else 8
def hs_pH (c : Nat) (Hr : Nat → Int → Int) (g : Int → Int) : Nat → Int → Int := fun j => if c < 8 then (if j < c then Hr j else g) else (if j < 7 then Hr (j + 1) else g)
def hs_pQ (h c : Nat) (Hr : Nat → Int → Int) (σ : jk_I) (n : Nat) (t : jk_T) (ρ : jk_P) : jk_Q := fun v' n' t' σ' ρ' => v' = none ∧ n' = n ∧ t' = t ∧ ρ' = ρ ∧ hs_rel σ' h c Hr ∧ ∀ a, (a < h ∨ h + 372 ≤ a) → σ' a = σ a
theorem hs_push {σ σ1 σ2 : jk_I} {h c s nx : Nat} {Hr : Nat → Int → Int} {g : Int → Int} {v1 v2 : Int} (hc : c ≤ 8) (hnx : nx < 8) (hH : ∀ j, j < c → Hr j 2 ≤ 4) (hg2 : g 2 ≤ 4) (h4 : ∀ j : Nat, j < c → cl_rel σ (h + (4 + 46 * hs_ix nx c j)) (Hr j)) (h5 : ∀ i : Nat, i < 8 → cl_nn σ (h + (4 + 46 * i)))
    (hr : cl_rel σ1 (h + (4 + 46 * nx)) g) (hn : cl_nn σ1 (h + (4 + 46 * nx))) (hf : ∀ a, (a < h + (4 + 46 * nx) ∨ h + (4 + 46 * nx) + 44 < a) → σ1 a = σ a) (h2 : ∀ a, a ≠ h → σ2 a = σ1 a) (e1 : σ2 h 1 = v1) (e2 : σ2 h 2 = v2) (w1 : v1 = (((nx + 1) % 8 : Nat) : Int)) (w2 : v2 = ((hs_pc c : Nat) : Int)) : hs_rel σ2 h (hs_pc c) (hs_pH c Hr g) := by
  refine ⟨by unfold hs_pc; split <;> omega, (nx + 1) % 8, Nat.mod_lt _ (by omega), e1.trans w1, e2.trans w2, fun j hj => ?_, fun i hi => ?_⟩
  · have key : ∀ i' : Nat, i' < 8 → ∀ G9 : Int → Int, G9 2 ≤ 4 → cl_rel σ1 (h + (4 + 46 * i')) G9 → cl_rel σ2 (h + (4 + 46 * i')) G9 := fun i' hi' G9 hG hr9 => cl_rel_same hG (fun a h1 _ => h2 a (by omega)) hr9
    have old : ∀ j' : Nat, j' < c → hs_ix nx c j' ≠ nx → cl_rel σ2 (h + (4 + 46 * hs_ix nx c j')) (Hr j') := by
      intro j' hj' hne
      have hx : hs_ix nx c j' < 8 := Nat.mod_lt _ (by omega)
      exact key _ hx _ (hH j' hj') (cl_rel_same (hH j' hj') (fun a h1 h2 => hf a (by omega)) (h4 j' hj'))
    unfold hs_pc at hj
    unfold hs_pH
    by_cases hc8 : c < 8
    · rw [if_pos hc8] at hj ⊢
      have ei : hs_ix ((nx + 1) % 8) (hs_pc c) j = hs_ix nx c j := by unfold hs_ix hs_pc; rw [if_pos hc8]; omega
      rw [ei]
      by_cases hjc : j < c
      · rw [if_pos hjc]
        exact old j hjc (by unfold hs_ix; omega)
      · rw [if_neg hjc]
        have e : hs_ix nx c j = nx := by unfold hs_ix; omega
        rw [e]; exact key nx hnx g hg2 hr
    · rw [if_neg hc8] at hj ⊢
      by_cases hj7 : j < 7
      · rw [if_pos hj7]
        have ei : hs_ix ((nx + 1) % 8) (hs_pc c) j = hs_ix nx c (j + 1) := by unfold hs_ix hs_pc; rw [if_neg hc8]; omega
        rw [ei]
        exact old (j + 1) (by omega) (by unfold hs_ix; omega)
      · rw [if_neg hj7]
        have e : hs_ix ((nx + 1) % 8) (hs_pc c) j = nx := by unfold hs_ix hs_pc; rw [if_neg hc8]; omega
        rw [e]; exact key nx hnx g hg2 hr
  · intro q hq
    rw [h2 _ (by omega)]
    by_cases e : i = nx
    · rw [e]; exact hn q hq
    · rw [hf _ (by omega)]; exact h5 i hi q hq
theorem hs_pop {σ σ1 σ2 : jk_I} {h c s nx : Nat} {Hr : Nat → Int → Int} (hsh : s + 44 < h) (hc : 0 < c ∧ c ≤ 8) (hnx : nx < 8) (hH : ∀ j, j < c → Hr j 2 ≤ 4) (h4 : ∀ j : Nat, j < c → cl_rel σ (h + (4 + 46 * hs_ix nx c j)) (Hr j)) (h5 : ∀ i : Nat, i < 8 → cl_nn σ (h + (4 + 46 * i)))
    (h1 : ∀ a, a ≠ h → σ1 a = σ a) (e1 : σ1 h 1 = (((nx + 7) % 8 : Nat) : Int)) (e2 : σ1 h 2 = ((c - 1 : Nat) : Int)) (hf : ∀ a, (a < s ∨ s + 44 < a) → σ2 a = σ1 a) : hs_rel σ2 h (c - 1) Hr := by
  have e := hf h (by omega)
  refine ⟨by omega, (nx + 7) % 8, Nat.mod_lt _ (by omega), by rw [e]; exact e1, by rw [e]; exact e2, fun j hj => ?_, fun i hi q hq => by rw [hf _ (by omega), h1 _ (by omega)]; exact h5 i hi q hq⟩
  have ei : hs_ix ((nx + 7) % 8) (c - 1) j = hs_ix nx c j := by unfold hs_ix; omega
  have hx : hs_ix nx c j < 8 := Nat.mod_lt _ (by omega)
  rw [ei]
  exact cl_rel_same (hH j (by omega)) (fun a h1' h2' => (hf a (by omega)).trans (h1 a (by omega))) (h4 j (by omega))
theorem c_X5_push {G : jk_G} {n : Nat} {t : jk_T} {σ : jk_I} {ρ : jk_P} {h s c : Nat} {g : Int → Int} {Hr : Nat → Int → Int} {B : Int} (hh : hs_at t ρ h) (hs : cl_at t ρ s) (hd : s + 44 < h) (hr : cl_rel σ s g) (hi : md_inv B g) (hnn : cl_nn σ s) (hH : ∀ j, j < c → Hr j 2 ≤ 4) (hre : hs_rel σ h c Hr) : jk_K G yX5_push mX5_push 0 0 [.ref h, .ref s] n t σ ρ (hs_pQ h (hs_pc c) (hs_pH c Hr g) σ n t ρ) jk_no := by
  obtain ⟨hc8, nx, hnx, e1, e2, h4, h5⟩ := hre
  have i2 := hi.2.2.1
  refine jk_entryB (ls := [some (.ref h), some (.ref s)]) jm_X5_push.1 rfl rfl rfl ?_
  refine jk_aload_n (q := 1) dX5_push_0 rfl rfl ?_
  refine jk_getA (q := 4) (k := 5) 0 0 rfl (by first | exact hh.1 | exact hh.2.1 | exact hs.1 | exact (hh.2.2.2 _ hnx).2.1 | assumption) (by first | exact hh.2.2.1 | exact (hh.2.2.2 _ hnx).1 | assumption) rfl rfl jw_172 dX5_push_1 rfl ?_
  refine jk_aload_n (q := 5) dX5_push_4 rfl rfl ?_
  refine jk_getIR (q := 8) (k := 5) 1 1 rfl (by first | exact hh.1 | exact hh.2.1 | exact hs.1 | exact (hh.2.2.2 _ hnx).2.1 | assumption) (by first | exact jk_row_same _ _ _ | ((repeat rewrite [jk_row_ne _ _ (by omega)]); first | exact jk_row_same _ _ _ | rfl)) rfl rfl jw_173 dX5_push_5 rfl ?_
  rw [e1]
  refine jk_aald (q := 9) (ty := .object "LevelingNetwork$Survey") rfl rfl (by first | exact hh.1 | exact hh.2.1 | exact hs.1 | exact (hh.2.2.2 _ hnx).2.1 | assumption) (by first | assumption | decide | omega | exact jB_01 _ | exact jB_in _ | exact ⟨by omega, by omega⟩) (by first | exact hh.2.2.1 | exact (hh.2.2.2 _ hnx).1 | assumption) dX5_push_8 rfl ?_
  refine jk_aload_n (q := 10) dX5_push_9 rfl rfl ?_
  refine jk_cV1g (q := 13) (c_X9_copyFrom (hh.2.2.2 nx hnx).2 hs (by omega) hr hi) jm_X9_copyFrom jw_730 rfl (by first | exact hh.1 | exact hh.2.1 | exact hs.1 | exact (hh.2.2.2 _ hnx).2.1 | assumption) rfl rfl (Nat.zero_le _) (Nat.zero_le _) rfl dX5_push_10 rfl (fun v' n' t' σ1 ρ' hq => ?_) (fun _ _ _ _ _ h => h.elim)
  obtain ⟨rfl, hn9, ht9, hr9, hp1⟩ := hq
  replace hn9 := hn9.symm; replace ht9 := ht9.symm; replace hr9 := hr9.symm; subst hn9 ht9 hr9
  simp only [Option.toList_some, Option.toList_none, List.cons_append, List.nil_append, Nat.sub_zero]
  have hn1 := hp1.2.1 (h5 nx hnx) hnn
  refine jk_aload_n (q := 14) dX5_push_13 rfl rfl ?_
  refine jk_aload_n (q := 15) dX5_push_14 rfl rfl ?_
  refine jk_getIR (q := 18) (k := 5) 1 1 rfl (by first | exact hh.1 | exact hh.2.1 | exact hs.1 | exact (hh.2.2.2 _ hnx).2.1 | assumption) (by first | exact jk_row_same _ _ _ | ((repeat rewrite [jk_row_ne _ _ (by omega)]); first | exact jk_row_same _ _ _ | rfl)) rfl rfl jw_173 dX5_push_15 rfl ?_
  rw [show σ1 h = σ h from hp1.2.2 h (by omega), e1]
  refine jk_iconst (q := 19) dX5_push_18 rfl ?_
  refine jk_iadd (q := 20) dX5_push_19 rfl ?_
  refine jk_bipush (q := 22) (y := 8) dX5_push_20 rfl (by decide) ?_
  refine jk_icmp_ge (q := 34) (q2 := 25) dX5_push_22 rfl rfl (by first | assumption | decide | omega | exact jB_01 _ | exact jB_in _ | exact ⟨by omega, by omega⟩) (by first | assumption | decide | omega | exact jB_01 _ | exact jB_in _ | exact ⟨by omega, by omega⟩) (fun z1 => ?_) (fun z1 => ?_)
  · refine jk_iconst (q := 35) dX5_push_34 rfl ?_
    refine jk_putIR (q := 38) (k := 5) 1 1 rfl (by first | exact hh.1 | exact hh.2.1 | exact hs.1 | exact (hh.2.2.2 _ hnx).2.1 | assumption) (by first | exact jk_row_same _ _ _ | ((repeat rewrite [jk_row_ne _ _ (by omega)]); first | exact jk_row_same _ _ _ | rfl)) rfl rfl rfl jw_173 dX5_push_35 rfl ?_
    refine jk_aload_n (q := 39) dX5_push_38 rfl rfl ?_
    refine jk_aload_n (q := 40) dX5_push_39 rfl rfl ?_
    refine jk_getIR (q := 43) (k := 5) 2 2 rfl (by first | exact hh.1 | exact hh.2.1 | exact hs.1 | exact (hh.2.2.2 _ hnx).2.1 | assumption) (by first | exact jk_row_same _ _ _ | ((repeat rewrite [jk_row_ne _ _ (by omega)]); first | exact jk_row_same _ _ _ | rfl)) rfl rfl jw_174 dX5_push_40 rfl ?_
    rw [jk_set_ne _ _ (show ¬ (2 : Int) = 1 by decide), show σ1 h = σ h from hp1.2.2 h (by omega), e2]
    refine jk_bipush (q := 45) (y := 8) dX5_push_43 rfl (by decide) ?_
    refine jk_icmp_ge (q := 57) (q2 := 48) dX5_push_45 rfl rfl (by first | assumption | decide | omega | exact jB_01 _ | exact jB_in _ | exact ⟨by omega, by omega⟩) (by first | assumption | decide | omega | exact jB_01 _ | exact jB_in _ | exact ⟨by omega, by omega⟩) (fun z2 => ?_) (fun z2 => ?_)
    · refine jk_bipush (q := 59) (y := 8) dX5_push_57 rfl (by decide) ?_
      refine jk_putIR (q := 62) (k := 5) 2 2 rfl (by first | exact hh.1 | exact hh.2.1 | exact hs.1 | exact (hh.2.2.2 _ hnx).2.1 | assumption) (by first | exact jk_row_same _ _ _ | ((repeat rewrite [jk_row_ne _ _ (by omega)]); first | exact jk_row_same _ _ _ | rfl)) rfl rfl rfl jw_174 dX5_push_59 rfl ?_
      exact jk_ret rfl dX5_push_62 (by exact ⟨rfl, rfl, rfl, rfl, hs_push (s := s) hc8 hnx hH i2.2 h4 h5 hp1.1 hn1 hp1.2.2 (fun a ha => by rw [jk_row_ne _ _ ha, jk_row_ne _ _ ha]) (by rw [jk_row_same, jk_set_ne _ _ (show ¬ (1 : Int) = 2 by decide), jk_set_at]) (by rw [jk_row_same, jk_set_at]) (by omega) (by unfold hs_pc; first | rw [if_pos (by omega)]; omega | rw [if_neg (by omega)]; rfl), fun a ha => by rw [jk_row_ne _ _ (by omega), jk_row_ne _ _ (by omega)]; exact hp1.2.2 a (by omega)⟩)
    · refine jk_aload_n (q := 49) dX5_push_48 rfl rfl ?_
      refine jk_getIR (q := 52) (k := 5) 2 2 rfl (by first | exact hh.1 | exact hh.2.1 | exact hs.1 | exact (hh.2.2.2 _ hnx).2.1 | assumption) (by first | exact jk_row_same _ _ _ | ((repeat rewrite [jk_row_ne _ _ (by omega)]); first | exact jk_row_same _ _ _ | rfl)) rfl rfl jw_174 dX5_push_49 rfl ?_
      rw [jk_set_ne _ _ (show ¬ (2 : Int) = 1 by decide), e2]
      refine jk_iconst (q := 53) dX5_push_52 rfl ?_
      refine jk_iadd (q := 54) dX5_push_53 rfl ?_
      refine jk_goto (q := 59) dX5_push_54 rfl ?_
      refine jk_putIR (q := 62) (k := 5) 2 2 rfl (by first | exact hh.1 | exact hh.2.1 | exact hs.1 | exact (hh.2.2.2 _ hnx).2.1 | assumption) (by first | exact jk_row_same _ _ _ | ((repeat rewrite [jk_row_ne _ _ (by omega)]); first | exact jk_row_same _ _ _ | rfl)) rfl rfl rfl jw_174 dX5_push_59 rfl ?_
      exact jk_ret rfl dX5_push_62 (by exact ⟨rfl, rfl, rfl, rfl, hs_push (s := s) hc8 hnx hH i2.2 h4 h5 hp1.1 hn1 hp1.2.2 (fun a ha => by rw [jk_row_ne _ _ ha, jk_row_ne _ _ ha]) (by rw [jk_row_same, jk_set_ne _ _ (show ¬ (1 : Int) = 2 by decide), jk_set_at]) (by rw [jk_row_same, jk_set_at]) (by omega) (by unfold hs_pc; first | rw [if_pos (by omega)]; omega | rw [if_neg (by omega)]; rfl), fun a ha => by rw [jk_row_ne _ _ (by omega), jk_row_ne _ _ (by omega)]; exact hp1.2.2 a (by omega)⟩)
  · refine jk_aload_n (q := 26) dX5_push_25 rfl rfl ?_
    refine jk_getIR (q := 29) (k := 5) 1 1 rfl (by first | exact hh.1 | exact hh.2.1 | exact hs.1 | exact (hh.2.2.2 _ hnx).2.1 | assumption) (by first | exact jk_row_same _ _ _ | ((repeat rewrite [jk_row_ne _ _ (by omega)]); first | exact jk_row_same _ _ _ | rfl)) rfl rfl jw_173 dX5_push_26 rfl ?_
    rw [show σ1 h = σ h from hp1.2.2 h (by omega), e1]
    refine jk_iconst (q := 30) dX5_push_29 rfl ?_
    refine jk_iadd (q := 31) dX5_push_30 rfl ?_
    refine jk_goto (q := 35) dX5_push_31 rfl ?_
    refine jk_putIR (q := 38) (k := 5) 1 1 rfl (by first | exact hh.1 | exact hh.2.1 | exact hs.1 | exact (hh.2.2.2 _ hnx).2.1 | assumption) (by first | exact jk_row_same _ _ _ | ((repeat rewrite [jk_row_ne _ _ (by omega)]); first | exact jk_row_same _ _ _ | rfl)) rfl rfl rfl jw_173 dX5_push_35 rfl ?_
    refine jk_aload_n (q := 39) dX5_push_38 rfl rfl ?_
    refine jk_aload_n (q := 40) dX5_push_39 rfl rfl ?_
    refine jk_getIR (q := 43) (k := 5) 2 2 rfl (by first | exact hh.1 | exact hh.2.1 | exact hs.1 | exact (hh.2.2.2 _ hnx).2.1 | assumption) (by first | exact jk_row_same _ _ _ | ((repeat rewrite [jk_row_ne _ _ (by omega)]); first | exact jk_row_same _ _ _ | rfl)) rfl rfl jw_174 dX5_push_40 rfl ?_
    rw [jk_set_ne _ _ (show ¬ (2 : Int) = 1 by decide), show σ1 h = σ h from hp1.2.2 h (by omega), e2]
    refine jk_bipush (q := 45) (y := 8) dX5_push_43 rfl (by decide) ?_
    refine jk_icmp_ge (q := 57) (q2 := 48) dX5_push_45 rfl rfl (by first | assumption | decide | omega | exact jB_01 _ | exact jB_in _ | exact ⟨by omega, by omega⟩) (by first | assumption | decide | omega | exact jB_01 _ | exact jB_in _ | exact ⟨by omega, by omega⟩) (fun z3 => ?_) (fun z3 => ?_)
    · refine jk_bipush (q := 59) (y := 8) dX5_push_57 rfl (by decide) ?_
      refine jk_putIR (q := 62) (k := 5) 2 2 rfl (by first | exact hh.1 | exact hh.2.1 | exact hs.1 | exact (hh.2.2.2 _ hnx).2.1 | assumption) (by first | exact jk_row_same _ _ _ | ((repeat rewrite [jk_row_ne _ _ (by omega)]); first | exact jk_row_same _ _ _ | rfl)) rfl rfl rfl jw_174 dX5_push_59 rfl ?_
      exact jk_ret rfl dX5_push_62 (by exact ⟨rfl, rfl, rfl, rfl, hs_push (s := s) hc8 hnx hH i2.2 h4 h5 hp1.1 hn1 hp1.2.2 (fun a ha => by rw [jk_row_ne _ _ ha, jk_row_ne _ _ ha]) (by rw [jk_row_same, jk_set_ne _ _ (show ¬ (1 : Int) = 2 by decide), jk_set_at]) (by rw [jk_row_same, jk_set_at]) (by omega) (by unfold hs_pc; first | rw [if_pos (by omega)]; omega | rw [if_neg (by omega)]; rfl), fun a ha => by rw [jk_row_ne _ _ (by omega), jk_row_ne _ _ (by omega)]; exact hp1.2.2 a (by omega)⟩)
    · refine jk_aload_n (q := 49) dX5_push_48 rfl rfl ?_
      refine jk_getIR (q := 52) (k := 5) 2 2 rfl (by first | exact hh.1 | exact hh.2.1 | exact hs.1 | exact (hh.2.2.2 _ hnx).2.1 | assumption) (by first | exact jk_row_same _ _ _ | ((repeat rewrite [jk_row_ne _ _ (by omega)]); first | exact jk_row_same _ _ _ | rfl)) rfl rfl jw_174 dX5_push_49 rfl ?_
      rw [jk_set_ne _ _ (show ¬ (2 : Int) = 1 by decide), e2]
      refine jk_iconst (q := 53) dX5_push_52 rfl ?_
      refine jk_iadd (q := 54) dX5_push_53 rfl ?_
      refine jk_goto (q := 59) dX5_push_54 rfl ?_
      refine jk_putIR (q := 62) (k := 5) 2 2 rfl (by first | exact hh.1 | exact hh.2.1 | exact hs.1 | exact (hh.2.2.2 _ hnx).2.1 | assumption) (by first | exact jk_row_same _ _ _ | ((repeat rewrite [jk_row_ne _ _ (by omega)]); first | exact jk_row_same _ _ _ | rfl)) rfl rfl rfl jw_174 dX5_push_59 rfl ?_
      exact jk_ret rfl dX5_push_62 (by exact ⟨rfl, rfl, rfl, rfl, hs_push (s := s) hc8 hnx hH i2.2 h4 h5 hp1.1 hn1 hp1.2.2 (fun a ha => by rw [jk_row_ne _ _ ha, jk_row_ne _ _ ha]) (by rw [jk_row_same, jk_set_ne _ _ (show ¬ (1 : Int) = 2 by decide), jk_set_at]) (by rw [jk_row_same, jk_set_at]) (by omega) (by unfold hs_pc; first | rw [if_pos (by omega)]; omega | rw [if_neg (by omega)]; rfl), fun a ha => by rw [jk_row_ne _ _ (by omega), jk_row_ne _ _ (by omega)]; exact hp1.2.2 a (by omega)⟩)
def hs_oQ (h s c : Nat) (Hr : Nat → Int → Int) (σ : jk_I) (n : Nat) (t : jk_T) (ρ : jk_P) : jk_Q := fun v' n' t' σ' ρ' => v' = none ∧ n' = n ∧ t' = t ∧ ρ' = ρ ∧ cl_rel σ' s (Hr (c - 1)) ∧ (cl_nn σ s → cl_nn σ' s) ∧ hs_rel σ' h (c - 1) Hr ∧ ∀ a, (a < s ∨ s + 44 < a) → a ≠ h → σ' a = σ a
theorem c_X5_popInto {G : jk_G} {n : Nat} {t : jk_T} {σ : jk_I} {ρ : jk_P} {h s c : Nat} {Hr : Nat → Int → Int} {B : Int} (hh : hs_at t ρ h) (hs : cl_at t ρ s) (hd : s + 44 < h) (hc : 0 < c) (hiH : ∀ j, j < c → md_inv B (Hr j)) (hre : hs_rel σ h c Hr) : jk_K G yX5_popInto mX5_popInto 0 0 [.ref h, .ref s] n t σ ρ (hs_oQ h s c Hr σ n t ρ) jk_no := by
  obtain ⟨hc8, nx, hnx, e1, e2, h4, h5⟩ := hre
  have hxb : (nx + 7) % 8 < 8 := Nat.mod_lt _ (by omega)
  have eix : hs_ix nx c (c - 1) = (nx + 7) % 8 := by unfold hs_ix; omega
  have hH : ∀ j, j < c → Hr j 2 ≤ 4 := fun j hj => (hiH j hj).2.2.1.2
  have hr0 := h4 (c - 1) (by omega)
  rw [eix] at hr0
  have hnn0 := h5 _ hxb
  refine jk_entryB (ls := [some (.ref h), some (.ref s)]) jm_X5_popInto.1 rfl rfl rfl ?_
  refine jk_aload_n (q := 1) dX5_popInto_0 rfl rfl ?_
  refine jk_getIR (q := 4) (k := 5) 2 2 rfl (by first | exact hh.1 | exact hh.2.1 | exact hs.1 | exact (hh.2.2.2 _ hnx).2.1 | assumption) (by first | exact jk_row_same _ _ _ | ((repeat rewrite [jk_row_ne _ _ (by omega)]); first | exact jk_row_same _ _ _ | rfl)) rfl rfl jw_174 dX5_popInto_1 rfl ?_
  rw [e2]
  refine jk_if_le (q := 52) (q2 := 7) dX5_popInto_4 rfl rfl (by first | assumption | decide | omega | exact jB_01 _ | exact jB_in _ | exact ⟨by omega, by omega⟩) (fun z1 => ?_) (fun z1 => ?_)
  · first | (exfalso; omega) | exact jk_ret rfl dX5_popInto_52 (by exact ⟨rfl, rfl, rfl, rfl, hp2.1, fun hn => hp2.2.1 (fun q hq => by rw [hfr _ (by omega)]; exact hn q hq) hnn1, hs_pop hd ⟨hc, hc8⟩ hnx hH h4 h5 hfr (by rw [jk_row_same, jk_set_ne _ _ (by decide), jk_set_at]) (by rw [jk_row_same, jk_set_at]; omega) hp2.2.2, fun a h1 h2 => (hp2.2.2 a h1).trans (hfr a h2)⟩)
  · refine jk_aload_n (q := 8) dX5_popInto_7 rfl rfl ?_
    refine jk_aload_n (q := 9) dX5_popInto_8 rfl rfl ?_
    refine jk_getIR (q := 12) (k := 5) 1 1 rfl (by first | exact hh.1 | exact hh.2.1 | exact hs.1 | exact (hh.2.2.2 _ hnx).2.1 | assumption) (by first | exact jk_row_same _ _ _ | ((repeat rewrite [jk_row_ne _ _ (by omega)]); first | exact jk_row_same _ _ _ | rfl)) rfl rfl jw_173 dX5_popInto_9 rfl ?_
    rw [e1]
    refine jk_if_le (q := 24) (q2 := 15) dX5_popInto_12 rfl rfl (by first | assumption | decide | omega | exact jB_01 _ | exact jB_in _ | exact ⟨by omega, by omega⟩) (fun z2 => ?_) (fun z2 => ?_)
    · refine jk_bipush (q := 26) (y := 7) dX5_popInto_24 rfl (by decide) ?_
      refine jk_putIR (q := 29) (k := 5) 1 1 rfl (by first | exact hh.1 | exact hh.2.1 | exact hs.1 | exact (hh.2.2.2 _ hnx).2.1 | assumption) (by first | exact jk_row_same _ _ _ | ((repeat rewrite [jk_row_ne _ _ (by omega)]); first | exact jk_row_same _ _ _ | rfl)) rfl rfl rfl jw_173 dX5_popInto_26 rfl ?_
      refine jk_aload_n (q := 30) dX5_popInto_29 rfl rfl ?_
      refine jk_dup (q := 31) dX5_popInto_30 rfl rfl ?_
      refine jk_getIR (q := 34) (k := 5) 2 2 rfl (by first | exact hh.1 | exact hh.2.1 | exact hs.1 | exact (hh.2.2.2 _ hnx).2.1 | assumption) (by first | exact jk_row_same _ _ _ | ((repeat rewrite [jk_row_ne _ _ (by omega)]); first | exact jk_row_same _ _ _ | rfl)) rfl rfl jw_174 dX5_popInto_31 rfl ?_
      rw [jk_set_ne _ _ (show ¬ (2 : Int) = 1 by decide), e2]
      refine jk_iconst (q := 35) dX5_popInto_34 rfl ?_
      refine jk_isub (q := 36) dX5_popInto_35 rfl ?_
      refine jk_putIR (q := 39) (k := 5) 2 2 rfl (by first | exact hh.1 | exact hh.2.1 | exact hs.1 | exact (hh.2.2.2 _ hnx).2.1 | assumption) (by first | exact jk_row_same _ _ _ | ((repeat rewrite [jk_row_ne _ _ (by omega)]); first | exact jk_row_same _ _ _ | rfl)) rfl rfl rfl jw_174 dX5_popInto_36 rfl ?_
      first | rw [show ((nx : Int) - 1) = (((nx + 7) % 8 : Nat) : Int) by omega] | rw [show (7 : Int) = (((nx + 7) % 8 : Nat) : Int) by omega]
      have hfr : ∀ a, a ≠ h → (jk_row (jk_row σ h (jk_set (σ h) 1 (((nx + 7) % 8 : Nat) : Int))) h (jk_set (jk_set (σ h) 1 (((nx + 7) % 8 : Nat) : Int)) 2 ((c : Int) - 1))) a = σ a := fun a ha => by rw [jk_row_ne _ _ ha, jk_row_ne _ _ ha]
      have hr1 : cl_rel (jk_row (jk_row σ h (jk_set (σ h) 1 (((nx + 7) % 8 : Nat) : Int))) h (jk_set (jk_set (σ h) 1 (((nx + 7) % 8 : Nat) : Int)) 2 ((c : Int) - 1))) (h + (4 + 46 * ((nx + 7) % 8))) (Hr (c - 1)) := cl_rel_same (hH _ (by omega)) (fun a h1 h2 => hfr a (by omega)) hr0
      have hnn1 : cl_nn (jk_row (jk_row σ h (jk_set (σ h) 1 (((nx + 7) % 8 : Nat) : Int))) h (jk_set (jk_set (σ h) 1 (((nx + 7) % 8 : Nat) : Int)) 2 ((c : Int) - 1))) (h + (4 + 46 * ((nx + 7) % 8))) := fun q hq => by rw [hfr _ (by omega)]; exact hnn0 q hq
      refine jk_aload_n (q := 40) dX5_popInto_39 rfl rfl ?_
      refine jk_aload_n (q := 41) dX5_popInto_40 rfl rfl ?_
      refine jk_getA (q := 44) (k := 5) 0 0 rfl (by first | exact hh.1 | exact hh.2.1 | exact hs.1 | exact (hh.2.2.2 _ hnx).2.1 | assumption) (by first | exact hh.2.2.1 | exact (hh.2.2.2 _ hxb).1 | assumption) rfl rfl jw_172 dX5_popInto_41 rfl ?_
      refine jk_aload_n (q := 45) dX5_popInto_44 rfl rfl ?_
      refine jk_getIR (q := 48) (k := 5) 1 1 rfl (by first | exact hh.1 | exact hh.2.1 | exact hs.1 | exact (hh.2.2.2 _ hnx).2.1 | assumption) (by first | exact jk_row_same _ _ _ | ((repeat rewrite [jk_row_ne _ _ (by omega)]); first | exact jk_row_same _ _ _ | rfl)) rfl rfl jw_173 dX5_popInto_45 rfl ?_
      rw [jk_set_ne _ _ (show ¬ (1 : Int) = 2 by decide), jk_set_at]
      refine jk_aald (q := 49) (ty := .object "LevelingNetwork$Survey") rfl rfl (by first | exact hh.1 | exact hh.2.1 | exact hs.1 | exact (hh.2.2.2 _ hnx).2.1 | assumption) (by first | assumption | decide | omega | exact jB_01 _ | exact jB_in _ | exact ⟨by omega, by omega⟩) (by first | exact hh.2.2.1 | exact (hh.2.2.2 _ hxb).1 | assumption) dX5_popInto_48 rfl ?_
      refine jk_cV1g (q := 52) (c_X9_copyFrom hs (hh.2.2.2 _ hxb).2 (by omega) hr1 (hiH _ (by omega))) jm_X9_copyFrom jw_730 rfl (by first | exact hh.1 | exact hh.2.1 | exact hs.1 | exact (hh.2.2.2 _ hnx).2.1 | assumption) rfl rfl (Nat.zero_le _) (Nat.zero_le _) rfl dX5_popInto_49 rfl (fun v' n' t' σ2 ρ' hq => ?_) (fun _ _ _ _ _ h => h.elim)
      obtain ⟨rfl, hn9, ht9, hr9, hp2⟩ := hq
      replace hn9 := hn9.symm; replace ht9 := ht9.symm; replace hr9 := hr9.symm; subst hn9 ht9 hr9
      simp only [Option.toList_some, Option.toList_none, List.cons_append, List.nil_append, Nat.sub_zero]
      first | (exfalso; omega) | exact jk_ret rfl dX5_popInto_52 (by exact ⟨rfl, rfl, rfl, rfl, hp2.1, fun hn => hp2.2.1 (fun q hq => by rw [hfr _ (by omega)]; exact hn q hq) hnn1, hs_pop hd ⟨hc, hc8⟩ hnx hH h4 h5 hfr (by rw [jk_row_same, jk_set_ne _ _ (by decide), jk_set_at]) (by rw [jk_row_same, jk_set_at]; omega) hp2.2.2, fun a h1 h2 => (hp2.2.2 a h1).trans (hfr a h2)⟩)
    · refine jk_aload_n (q := 16) dX5_popInto_15 rfl rfl ?_
      refine jk_getIR (q := 19) (k := 5) 1 1 rfl (by first | exact hh.1 | exact hh.2.1 | exact hs.1 | exact (hh.2.2.2 _ hnx).2.1 | assumption) (by first | exact jk_row_same _ _ _ | ((repeat rewrite [jk_row_ne _ _ (by omega)]); first | exact jk_row_same _ _ _ | rfl)) rfl rfl jw_173 dX5_popInto_16 rfl ?_
      rw [e1]
      refine jk_iconst (q := 20) dX5_popInto_19 rfl ?_
      refine jk_isub (q := 21) dX5_popInto_20 rfl ?_
      refine jk_goto (q := 26) dX5_popInto_21 rfl ?_
      refine jk_putIR (q := 29) (k := 5) 1 1 rfl (by first | exact hh.1 | exact hh.2.1 | exact hs.1 | exact (hh.2.2.2 _ hnx).2.1 | assumption) (by first | exact jk_row_same _ _ _ | ((repeat rewrite [jk_row_ne _ _ (by omega)]); first | exact jk_row_same _ _ _ | rfl)) rfl rfl rfl jw_173 dX5_popInto_26 rfl ?_
      refine jk_aload_n (q := 30) dX5_popInto_29 rfl rfl ?_
      refine jk_dup (q := 31) dX5_popInto_30 rfl rfl ?_
      refine jk_getIR (q := 34) (k := 5) 2 2 rfl (by first | exact hh.1 | exact hh.2.1 | exact hs.1 | exact (hh.2.2.2 _ hnx).2.1 | assumption) (by first | exact jk_row_same _ _ _ | ((repeat rewrite [jk_row_ne _ _ (by omega)]); first | exact jk_row_same _ _ _ | rfl)) rfl rfl jw_174 dX5_popInto_31 rfl ?_
      rw [jk_set_ne _ _ (show ¬ (2 : Int) = 1 by decide), e2]
      refine jk_iconst (q := 35) dX5_popInto_34 rfl ?_
      refine jk_isub (q := 36) dX5_popInto_35 rfl ?_
      refine jk_putIR (q := 39) (k := 5) 2 2 rfl (by first | exact hh.1 | exact hh.2.1 | exact hs.1 | exact (hh.2.2.2 _ hnx).2.1 | assumption) (by first | exact jk_row_same _ _ _ | ((repeat rewrite [jk_row_ne _ _ (by omega)]); first | exact jk_row_same _ _ _ | rfl)) rfl rfl rfl jw_174 dX5_popInto_36 rfl ?_
      first | rw [show ((nx : Int) - 1) = (((nx + 7) % 8 : Nat) : Int) by omega] | rw [show (7 : Int) = (((nx + 7) % 8 : Nat) : Int) by omega]
      have hfr : ∀ a, a ≠ h → (jk_row (jk_row σ h (jk_set (σ h) 1 (((nx + 7) % 8 : Nat) : Int))) h (jk_set (jk_set (σ h) 1 (((nx + 7) % 8 : Nat) : Int)) 2 ((c : Int) - 1))) a = σ a := fun a ha => by rw [jk_row_ne _ _ ha, jk_row_ne _ _ ha]
      have hr1 : cl_rel (jk_row (jk_row σ h (jk_set (σ h) 1 (((nx + 7) % 8 : Nat) : Int))) h (jk_set (jk_set (σ h) 1 (((nx + 7) % 8 : Nat) : Int)) 2 ((c : Int) - 1))) (h + (4 + 46 * ((nx + 7) % 8))) (Hr (c - 1)) := cl_rel_same (hH _ (by omega)) (fun a h1 h2 => hfr a (by omega)) hr0
      have hnn1 : cl_nn (jk_row (jk_row σ h (jk_set (σ h) 1 (((nx + 7) % 8 : Nat) : Int))) h (jk_set (jk_set (σ h) 1 (((nx + 7) % 8 : Nat) : Int)) 2 ((c : Int) - 1))) (h + (4 + 46 * ((nx + 7) % 8))) := fun q hq => by rw [hfr _ (by omega)]; exact hnn0 q hq
      refine jk_aload_n (q := 40) dX5_popInto_39 rfl rfl ?_
      refine jk_aload_n (q := 41) dX5_popInto_40 rfl rfl ?_
      refine jk_getA (q := 44) (k := 5) 0 0 rfl (by first | exact hh.1 | exact hh.2.1 | exact hs.1 | exact (hh.2.2.2 _ hnx).2.1 | assumption) (by first | exact hh.2.2.1 | exact (hh.2.2.2 _ hxb).1 | assumption) rfl rfl jw_172 dX5_popInto_41 rfl ?_
      refine jk_aload_n (q := 45) dX5_popInto_44 rfl rfl ?_
      refine jk_getIR (q := 48) (k := 5) 1 1 rfl (by first | exact hh.1 | exact hh.2.1 | exact hs.1 | exact (hh.2.2.2 _ hnx).2.1 | assumption) (by first | exact jk_row_same _ _ _ | ((repeat rewrite [jk_row_ne _ _ (by omega)]); first | exact jk_row_same _ _ _ | rfl)) rfl rfl jw_173 dX5_popInto_45 rfl ?_
      rw [jk_set_ne _ _ (show ¬ (1 : Int) = 2 by decide), jk_set_at]
      refine jk_aald (q := 49) (ty := .object "LevelingNetwork$Survey") rfl rfl (by first | exact hh.1 | exact hh.2.1 | exact hs.1 | exact (hh.2.2.2 _ hnx).2.1 | assumption) (by first | assumption | decide | omega | exact jB_01 _ | exact jB_in _ | exact ⟨by omega, by omega⟩) (by first | exact hh.2.2.1 | exact (hh.2.2.2 _ hxb).1 | assumption) dX5_popInto_48 rfl ?_
      refine jk_cV1g (q := 52) (c_X9_copyFrom hs (hh.2.2.2 _ hxb).2 (by omega) hr1 (hiH _ (by omega))) jm_X9_copyFrom jw_730 rfl (by first | exact hh.1 | exact hh.2.1 | exact hs.1 | exact (hh.2.2.2 _ hnx).2.1 | assumption) rfl rfl (Nat.zero_le _) (Nat.zero_le _) rfl dX5_popInto_49 rfl (fun v' n' t' σ2 ρ' hq => ?_) (fun _ _ _ _ _ h => h.elim)
      obtain ⟨rfl, hn9, ht9, hr9, hp2⟩ := hq
      replace hn9 := hn9.symm; replace ht9 := ht9.symm; replace hr9 := hr9.symm; subst hn9 ht9 hr9
      simp only [Option.toList_some, Option.toList_none, List.cons_append, List.nil_append, Nat.sub_zero]
      first | (exfalso; omega) | exact jk_ret rfl dX5_popInto_52 (by exact ⟨rfl, rfl, rfl, rfl, hp2.1, fun hn => hp2.2.1 (fun q hq => by rw [hfr _ (by omega)]; exact hn q hq) hnn1, hs_pop hd ⟨hc, hc8⟩ hnx hH h4 h5 hfr (by rw [jk_row_same, jk_set_ne _ _ (by decide), jk_set_at]) (by rw [jk_row_same, jk_set_at]; omega) hp2.2.2, fun a h1 h2 => (hp2.2.2 a h1).trans (hfr a h2)⟩)
end CC4
