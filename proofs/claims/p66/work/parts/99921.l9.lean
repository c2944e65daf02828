section L9
theorem c_X7_init2 {G : jk_G} {n : Nat} {t : jk_T} {σ : jk_I} {ρ : jk_P} {q : Nat}  (hm0 : t q = some (.inr 7)) (hn : n = q + 2) : jk_K G yX7_init mX7_init 13 120 [.ref q] n t σ ρ (nw_Q q 28 t σ ρ (fun t' σ' ρ' => sc_at t' ρ' q ∧ σ' q = σ q ∧ (σ' (q + 2) = fun _ => 0) ∧ ∀ i : Nat, i < 10 → σ' (q + (8 + 2 * i)) = fun _ => 0)) jk_no := by
  subst hn
  refine jk_entryB (ls := [some (.ref q)]) jm_X7_init.1 rfl rfl rfl ?_
  refine jk_aload_n (q := 1) dX7_init_0 rfl rfl ?_
  refine jk_obj (q := 4) jw_313 rfl rfl dX7_init_1 rfl ?_
  refine jk_aload_n (q := 5) dX7_init_4 rfl rfl ?_
  refine jk_bipush (q := 7) (y := 60) dX7_init_5 rfl (by decide) ?_
  refine jk_newarr (q := 9) (atype := .char) (ty := .char) (len := 60) rfl jw_341 rfl (by decide) (by decide) (by decide) dX7_init_7 rfl ?_
  refine jk_putAF (q := 12) (k := 7) 0 0 rfl (by first | assumption | (simp only [jk_mt, jk_tg]; (repeat rw [if_neg (by omega)]); assumption)) rfl rfl rfl rfl (by first | exact Or.inl ⟨_, rfl⟩ | exact Or.inr ⟨_, rfl⟩) jw_317 dX7_init_9 rfl ?_
  refine jk_aload_n (q := 13) dX7_init_12 rfl rfl ?_
  refine jk_bipush (q := 15) (y := 10) dX7_init_13 rfl (by decide) ?_
  refine jk_anew (q := 18) (C := "LevelingNetwork$Kind") (len := 10) rfl jw_314 jw_315 (by decide) (by decide) (by decide) dX7_init_15 rfl ?_
  refine jk_putAF (q := 21) (k := 7) 4 4 rfl (by first | assumption | (simp only [jk_mt, jk_tg]; (repeat rw [if_neg (by omega)]); assumption)) rfl rfl rfl rfl (by first | exact Or.inl ⟨_, rfl⟩ | exact Or.inr ⟨_, rfl⟩) jw_324 dX7_init_18 rfl ?_
  refine jk_aload_n (q := 22) dX7_init_21 rfl rfl ?_
  refine jk_bipush (q := 24) (y := 10) dX7_init_22 rfl (by decide) ?_
  refine jk_iconst (q := 25) dX7_init_24 rfl ?_
  refine jk_mna (q := 29) (N := 10) (K := 4) rfl rfl (nm := "[[I") (by decide +kernel) jw_316 jw_53 jw_162 (by decide) (by decide) (by decide) (by decide) dX7_init_25 rfl ?_
  refine jk_putAF (q := 32) (k := 7) 5 5 rfl (by first | assumption | (simp only [jk_mt, jk_tg]; (repeat rw [if_neg (by omega)]); assumption)) rfl rfl rfl rfl (by first | exact Or.inl ⟨_, rfl⟩ | exact Or.inr ⟨_, rfl⟩) jw_326 dX7_init_29 rfl ?_
  exact jk_ret rfl dX7_init_32 (by
    refine ⟨rfl, by omega, fun a ha => ⟨by (try simp only [jk_mt, jk_tg, jk_mz, jk_mr, jk_zr, jk_up]); (repeat first | rw [if_pos (by first | omega | trivial | exact ⟨trivial, trivial⟩)] | rw [if_neg (by omega)]); all_goals rfl, by funext j; (try simp only [jk_mt, jk_tg, jk_mz, jk_mr, jk_zr, jk_up]); (repeat first | rw [if_pos (by first | omega | trivial | exact ⟨trivial, trivial⟩)] | rw [if_neg (by omega)]); all_goals rfl, by funext j; (try simp only [jk_mt, jk_tg, jk_mz, jk_mr, jk_zr, jk_up]); (repeat first | rw [if_pos (by first | omega | trivial | exact ⟨trivial, trivial⟩)] | rw [if_neg (by omega)]); all_goals rfl⟩, ?_⟩
    refine ⟨⟨⟨by (try simp only [jk_mt, jk_tg, jk_mz, jk_mr, jk_zr, jk_up]); (repeat first | rw [if_pos (by first | omega | trivial | exact ⟨trivial, trivial⟩)] | rw [if_neg (by omega)]); exact hm0, (by (try simp only [jk_mt, jk_tg, jk_mz, jk_mr, jk_zr, jk_up]); (repeat first | rw [if_pos (by first | omega | trivial | exact ⟨trivial, trivial⟩)] | rw [if_neg (by omega)]); all_goals (first | rfl | assumption)), (by (try simp only [jk_mt, jk_tg, jk_mz, jk_mr, jk_zr, jk_up]); (repeat first | rw [if_pos (by first | omega | trivial | exact ⟨trivial, trivial⟩)] | rw [if_neg (by omega)]); all_goals (first | rfl | assumption)), (by (try simp only [jk_mt, jk_tg, jk_mz, jk_mr, jk_zr, jk_up]); (repeat first | rw [if_pos (by first | omega | trivial | exact ⟨trivial, trivial⟩)] | rw [if_neg (by omega)]); all_goals (first | rfl | assumption))⟩, ⟨(by (try simp only [jk_mt, jk_tg, jk_mz, jk_mr, jk_zr, jk_up]); (repeat first | rw [if_pos (by first | omega | trivial | exact ⟨trivial, trivial⟩)] | rw [if_neg (by omega)]); all_goals (first | rfl | assumption)), (by (try simp only [jk_mt, jk_tg, jk_mz, jk_mr, jk_zr, jk_up]); (repeat first | rw [if_pos (by first | omega | trivial | exact ⟨trivial, trivial⟩)] | rw [if_neg (by omega)]); all_goals (first | rfl | assumption)), (by (try simp only [jk_mt, jk_tg, jk_mz, jk_mr, jk_zr, jk_up]); (repeat first | rw [if_pos (by first | omega | trivial | exact ⟨trivial, trivial⟩)] | rw [if_neg (by omega)]); all_goals (first | rfl | assumption))⟩, fun i hi => ⟨(by (try simp only [jk_mt, jk_tg, jk_mz, jk_mr, jk_zr, jk_up]); (repeat first | rw [if_pos (by first | omega | trivial | exact ⟨trivial, trivial⟩)] | rw [if_neg (by omega)]); all_goals (first | rfl | assumption)), ?_⟩⟩, by funext j; (try simp only [jk_mt, jk_tg, jk_mz, jk_mr, jk_zr, jk_up]); (repeat first | rw [if_pos (by first | omega | trivial | exact ⟨trivial, trivial⟩)] | rw [if_neg (by omega)]), by funext j; (try simp only [jk_mt, jk_tg, jk_mz, jk_mr, jk_zr, jk_up]); (repeat first | rw [if_pos (by first | omega | trivial | exact ⟨trivial, trivial⟩)] | rw [if_neg (by omega)]), fun i hi => by funext j; (try simp only [jk_mt, jk_tg, jk_mz, jk_mr, jk_zr, jk_up]); (repeat first | rw [if_pos (by first | omega | trivial | exact ⟨trivial, trivial⟩)] | rw [if_neg (by omega)]); all_goals rfl⟩
    (try simp only [jk_mt, jk_tg, jk_mz, jk_mr, jk_zr, jk_up]); (repeat first | rw [if_pos (by first | omega | trivial | exact ⟨trivial, trivial⟩)] | rw [if_neg (by omega)]); all_goals (refine congrArg some ?_; omega))
theorem c_J5_init2 {G : jk_G} {n : Nat} {t : jk_T} {σ : jk_I} {ρ : jk_P} {b : Nat}  (hz : zz_ok G) (hm0 : t b = some (.inr 14)) (hn : n = b + 2) : jk_K G yJ5_init_d00df mJ5_init_d00df 1 16 [.ref b, jI 16] n t σ ρ (nw_Q b 4 t σ ρ (fun t' σ' ρ' => bu_at t' ρ' σ' b (b + 2) 16 ∧ σ' b = jk_set (σ b) 1 0 ∧ σ' (b + 2) = fun _ => 0)) jk_no := by
  subst hn
  refine jk_entryB (ls := [some (.ref b), some (jI 16)]) jm_J5_init_d00df.1 rfl rfl rfl ?_
  refine jk_aload_n (q := 1) dJ5_init_d00df_0 rfl rfl ?_
  refine jk_obj (q := 4) jw_350 rfl rfl dJ5_init_d00df_1 rfl ?_
  refine jk_getsI (q := 7) (x := 1) (zz_cs hz) jw_351 dJ5_init_d00df_4 rfl ?_
  refine jk_ifN_eq (q := 10) (by decide) (by decide) dJ5_init_d00df_7 rfl rfl ?_
  refine jk_aload_n (q := 11) dJ5_init_d00df_10 rfl rfl ?_
  refine jk_iload_n (q := 12) dJ5_init_d00df_11 rfl rfl ?_
  refine jk_newarr (q := 14) (atype := .byte) (ty := .byte) (len := 16) rfl jw_374 rfl (by decide) (by decide) (by decide) dJ5_init_d00df_12 rfl ?_
  refine jk_putA (q := 17) (k := 14) 0 0 rfl (by first | assumption | (simp only [jk_mt, jk_tg]; (repeat rw [if_neg (by omega)]); assumption)) rfl rfl (by first | exact Or.inl ⟨_, rfl⟩ | exact Or.inr ⟨_, rfl⟩) jw_360 dJ5_init_d00df_14 rfl ?_
  refine jk_aload_n (q := 18) dJ5_init_d00df_17 rfl rfl ?_
  refine jk_iconst (q := 19) dJ5_init_d00df_18 rfl ?_
  refine jk_putBR (q := 22) (k := 14) 1 1 rfl (by first | assumption | (simp only [jk_mt, jk_tg]; (repeat rw [if_neg (by omega)]); assumption)) (by first | rfl | assumption) rfl rfl rfl rfl jw_361 dJ5_init_d00df_19 rfl ?_
  refine jk_goto (q := 38) dJ5_init_d00df_22 rfl ?_
  exact jk_ret rfl dJ5_init_d00df_38 (by
    refine ⟨rfl, by omega, fun a ha => ⟨by (try simp only [jk_row]); (repeat rw [if_neg (by omega)]); (try simp only [jk_mt, jk_tg, jk_mz, jk_mr, jk_zr, jk_up]); (repeat first | rw [if_pos (by first | omega | trivial | exact ⟨trivial, trivial⟩)] | rw [if_neg (by omega)]); all_goals rfl, by funext j; (try simp only [jk_row]); (repeat rw [if_neg (by omega)]); (try simp only [jk_mt, jk_tg, jk_mz, jk_mr, jk_zr, jk_up]); (repeat first | rw [if_pos (by first | omega | trivial | exact ⟨trivial, trivial⟩)] | rw [if_neg (by omega)]); all_goals rfl, by funext j; (try simp only [jk_row]); (repeat rw [if_neg (by omega)]); (try simp only [jk_mt, jk_tg, jk_mz, jk_mr, jk_zr, jk_up]); (repeat first | rw [if_pos (by first | omega | trivial | exact ⟨trivial, trivial⟩)] | rw [if_neg (by omega)]); all_goals rfl⟩, ?_⟩
    refine ⟨⟨by (try simp only [jk_row]); (repeat rw [if_neg (by omega)]); (try simp only [jk_mt, jk_tg, jk_mz, jk_mr, jk_zr, jk_up]); (repeat first | rw [if_pos (by first | omega | trivial | exact ⟨trivial, trivial⟩)] | rw [if_neg (by omega)]); all_goals exact hm0, by (try simp only [jk_row]); (repeat rw [if_neg (by omega)]); (try simp only [jk_mt, jk_tg, jk_mz, jk_mr, jk_zr, jk_up]); (repeat first | rw [if_pos (by first | omega | trivial | exact ⟨trivial, trivial⟩)] | rw [if_neg (by omega)]); all_goals rfl, by (try simp only [jk_row]); (repeat rw [if_neg (by omega)]); (try simp only [jk_mt, jk_tg, jk_mz, jk_mr, jk_zr, jk_up]); (repeat first | rw [if_pos (by first | omega | trivial | exact ⟨trivial, trivial⟩)] | rw [if_neg (by omega)]); all_goals rfl, ?_, by omega, by omega⟩, ?_, ?_⟩
    · rw [jk_row_same, jk_set_at]
    · rw [jk_row_same, show (jk_zr σ (b + 2) 0) b = σ b from funext fun j => if_neg (by omega)]
    · rw [jk_row_ne _ _ (by omega)]; funext j; exact if_pos rfl)
theorem c_J4_init2 {G : jk_G} {n : Nat} {t : jk_T} {σ : jk_I} {ρ : jk_P} {b : Nat} (hz : zz_ok G) (hm0 : t b = some (.inr 14)) (hn : n = b + 2) : jk_K G yJ4_init_da8c8 mJ4_init_da8c8 1 16 [.ref b] n t σ ρ (nw_Q b 4 t σ ρ (fun t' σ' ρ' => bu_at t' ρ' σ' b (b + 2) 16 ∧ σ' b = jk_set (σ b) 1 0 ∧ σ' (b + 2) = fun _ => 0)) jk_no := by
  subst hn
  refine jk_entryB (ls := [some (.ref b)]) jm_J4_init_da8c8.1 rfl rfl rfl ?_
  refine jk_aload_n (q := 1) dJ4_init_da8c8_0 rfl rfl ?_
  refine jk_bipush (q := 3) (y := 16) dJ4_init_da8c8_1 rfl (by decide) ?_
  refine jk_cI1g (q := 6) (c_J5_init2 (b := b) hz hm0 rfl) jm_J5_init_d00df jw_347 rfl rfl (by decide) (by decide) rfl dJ4_init_da8c8_3 rfl (fun v' n' t2 σ2 ρ2 hq => ?_) (fun _ _ _ _ _ h => h.elim)
  obtain ⟨rfl, hn9, hf9, hp⟩ := hq
  subst hn9
  simp only [Option.toList_some, Option.toList_none, List.cons_append, List.nil_append]
  exact jk_ret rfl dJ4_init_da8c8_6 (by exact ⟨rfl, rfl, hf9, hp⟩)
def ln_new2 (x : Nat) (σ0 : jk_I) (t : jk_T) (σ : jk_I) (ρ : jk_P) : Prop := ln_new x σ0 t σ ρ ∧ (σ (x + 580) = fun _ => 0) ∧ ∀ i : Nat, i < 10 → σ (x + 550 + (8 + 2 * i)) = fun _ => 0
set_option maxHeartbeats 4000000 in
theorem c_X12_init2 {G : jk_G} {n : Nat} {t : jk_T} {σ : jk_I} {ρ : jk_P} {x : Nat} (hz : zz_ok G) (hx0 : t x = some (.inr 12)) (hn : n = x + 2) : jk_K G yX12_init mX12_init 400 5000 [.ref x] n t σ ρ (nw_Q x 582 t σ ρ (ln_new2 x σ)) jk_no := by
  subst hn
  refine jk_entryB (ls := [some (.ref x)]) jm_X12_init.1 rfl rfl rfl ?_
  refine jk_aload_n (q := 1) dX12_init_0 rfl rfl ?_
  refine jk_obj (q := 4) jw_43 rfl rfl dX12_init_1 rfl ?_
  refine jk_aload_n (q := 5) dX12_init_4 rfl rfl ?_
  refine jk_new (q := 8) (k := 9) jw_46 jw_47 jw_2 (by decide) (by decide) dX12_init_5 rfl ?_
  refine jk_dup (q := 9) dX12_init_8 rfl rfl ?_
  refine jk_cI0gN (q := 12) (c_X9_init (s := x + 2) (by simp [jk_tg]) rfl) jm_X9_init jw_48 rfl rfl (by decide) (by decide) rfl dX12_init_9 rfl (fun v' n' t1 σ1 ρ1 hq => ?_) (fun _ _ _ _ _ h => h.elim)
  obtain ⟨rfl, hn9, g1, p1⟩ := hq
  subst hn9
  simp only [Option.toList_some, Option.toList_none, List.cons_append, List.nil_append]
  have eN1 : x + 2 + 46 = x + 48 := by omega
  rw [eN1]
  have ht1 : ∀ a, a < x + 2 → t1 a = t a ∧ ρ1 a = ρ a := fun a ha => ⟨(g1 a ha).1.trans (by simp only [jk_tg]; rw [if_neg (by omega)]), (g1 a ha).2.2.trans (by funext j; simp only [jk_zr]; rw [if_neg (by omega)])⟩
  have hs1 : ∀ a, a < x + 2 → σ1 a = σ a := fun a ha => (g1 a ha).2.1.trans (by funext j; simp only [jk_zr]; rw [if_neg (by omega)])
  have hx1 : t1 x = some (.inr 12) := (ht1 x (by omega)).1.trans hx0
  refine jk_putAF (q := 15) (k := 12) 0 0 rfl (by first | assumption | (simp only [jk_tg]; (repeat rw [if_neg (by omega)]); assumption)) rfl rfl rfl rfl (by first | exact Or.inl ⟨_, rfl⟩ | exact Or.inr ⟨_, rfl⟩) jw_375 dX12_init_12 rfl ?_
  obtain ⟨r1, hr1⟩ : ∃ r, r = jk_up ρ1 x 0 (some (x + 2)) := ⟨_, rfl⟩
  rw [← hr1]
  have S1 : cl_at t1 r1 (x + 2) := by rw [hr1]; exact cl_at_up p1.1 (by omega)
  have f1_1 : r1 x 0 = some (x + 2) := by rw [hr1]; simp [jk_up]
  have ro1 : ∀ a, a < x → r1 a = ρ a := fun a ha => by rw [hr1]; funext j; simp only [jk_up]; rw [if_neg (by omega), (ht1 a (by omega)).2]
  have to1 : ∀ a, a < x → t1 a = t a ∧ σ1 a = σ a := fun a ha => ⟨(ht1 a (by omega)).1, hs1 a (by omega)⟩
  have sx1 : σ1 x = σ x := (hs1 x (by omega))
  have zr1 : ∀ a, x + 2 ≤ a → a < x + 48 → a % 2 = x % 2 → σ1 a = fun _ => 0 := fun a h1 h2 h3 => if h9 : a = x + 2 then by subst h9; rw [p1.2.1]; exact jk_zr_same _ _ else p1.2.2 a (by omega) (by omega) (by omega)
  refine jk_aload_n (q := 16) dX12_init_15 rfl rfl ?_
  refine jk_new (q := 19) (k := 9) jw_46 jw_47 jw_2 (by decide) (by decide) dX12_init_16 rfl ?_
  refine jk_dup (q := 20) dX12_init_19 rfl rfl ?_
  refine jk_cI0gN (q := 23) (c_X9_init (s := x + 48) (by simp [jk_tg]) rfl) jm_X9_init jw_48 rfl rfl (by decide) (by decide) rfl dX12_init_20 rfl (fun v' n' t2 σ2 ρ2 hq => ?_) (fun _ _ _ _ _ h => h.elim)
  obtain ⟨rfl, hn9, g2, p2⟩ := hq
  subst hn9
  simp only [Option.toList_some, Option.toList_none, List.cons_append, List.nil_append]
  have eN2 : x + 48 + 46 = x + 94 := by omega
  rw [eN2]
  have ht2 : ∀ a, a < x + 48 → t2 a = t1 a ∧ ρ2 a = r1 a := fun a ha => ⟨(g2 a ha).1.trans (by simp only [jk_tg]; rw [if_neg (by omega)]), (g2 a ha).2.2.trans (by funext j; simp only [jk_zr]; rw [if_neg (by omega)])⟩
  have hs2 : ∀ a, a < x + 48 → σ2 a = σ1 a := fun a ha => (g2 a ha).2.1.trans (by funext j; simp only [jk_zr]; rw [if_neg (by omega)])
  have hx2 : t2 x = some (.inr 12) := (ht2 x (by omega)).1.trans hx1
  refine jk_putAF (q := 26) (k := 12) 1 1 rfl (by first | assumption | (simp only [jk_tg]; (repeat rw [if_neg (by omega)]); assumption)) rfl rfl rfl rfl (by first | exact Or.inl ⟨_, rfl⟩ | exact Or.inr ⟨_, rfl⟩) jw_376 dX12_init_23 rfl ?_
  obtain ⟨r2, hr2⟩ : ∃ r, r = jk_up ρ2 x 1 (some (x + 48)) := ⟨_, rfl⟩
  rw [← hr2]
  have S2 : cl_at t2 r2 (x + 2) := by rw [hr2]; exact cl_at_up (cl_at_ext ht2 (by omega) S1) (by omega)
  have B42 : cl_at t2 r2 (x + 48) := by rw [hr2]; exact cl_at_up p2.1 (by omega)
  have f1_2 : r2 x 0 = some (x + 2) := by rw [hr2]; simp only [jk_up]; rw [if_neg (by omega), (ht2 x (by omega)).2]; exact f1_1
  have f2_2 : r2 x 1 = some (x + 48) := by rw [hr2]; simp [jk_up]
  have ro2 : ∀ a, a < x → r2 a = ρ a := fun a ha => by rw [hr2]; funext j; simp only [jk_up]; rw [if_neg (by omega), (ht2 a (by omega)).2, ro1 a ha]
  have to2 : ∀ a, a < x → t2 a = t a ∧ σ2 a = σ a := fun a ha => ⟨(ht2 a (by omega)).1.trans (to1 a ha).1, (hs2 a (by omega)).trans (to1 a ha).2⟩
  have sx2 : σ2 x = σ x := (hs2 x (by omega)).trans sx1
  have zr2 : ∀ a, x + 2 ≤ a → a < x + 94 → a % 2 = x % 2 → σ2 a = fun _ => 0 := fun a h1 h2 h3 => if h7 : a < x + 48 then (hs2 a h7).trans (zr1 a h1 h7 h3) else if h9 : a = x + 48 then by subst h9; rw [p2.2.1]; exact jk_zr_same _ _ else p2.2.2 a (by omega) (by omega) (by omega)
  refine jk_aload_n (q := 27) dX12_init_26 rfl rfl ?_
  refine jk_new (q := 30) (k := 9) jw_46 jw_47 jw_2 (by decide) (by decide) dX12_init_27 rfl ?_
  refine jk_dup (q := 31) dX12_init_30 rfl rfl ?_
  refine jk_cI0gN (q := 34) (c_X9_init (s := x + 94) (by simp [jk_tg]) rfl) jm_X9_init jw_48 rfl rfl (by decide) (by decide) rfl dX12_init_31 rfl (fun v' n' t3 σ3 ρ3 hq => ?_) (fun _ _ _ _ _ h => h.elim)
  obtain ⟨rfl, hn9, g3, p3⟩ := hq
  subst hn9
  simp only [Option.toList_some, Option.toList_none, List.cons_append, List.nil_append]
  have eN3 : x + 94 + 46 = x + 140 := by omega
  rw [eN3]
  have ht3 : ∀ a, a < x + 94 → t3 a = t2 a ∧ ρ3 a = r2 a := fun a ha => ⟨(g3 a ha).1.trans (by simp only [jk_tg]; rw [if_neg (by omega)]), (g3 a ha).2.2.trans (by funext j; simp only [jk_zr]; rw [if_neg (by omega)])⟩
  have hs3 : ∀ a, a < x + 94 → σ3 a = σ2 a := fun a ha => (g3 a ha).2.1.trans (by funext j; simp only [jk_zr]; rw [if_neg (by omega)])
  have hx3 : t3 x = some (.inr 12) := (ht3 x (by omega)).1.trans hx2
  refine jk_putAF (q := 37) (k := 12) 2 2 rfl (by first | assumption | (simp only [jk_tg]; (repeat rw [if_neg (by omega)]); assumption)) rfl rfl rfl rfl (by first | exact Or.inl ⟨_, rfl⟩ | exact Or.inr ⟨_, rfl⟩) jw_377 dX12_init_34 rfl ?_
  obtain ⟨r3, hr3⟩ : ∃ r, r = jk_up ρ3 x 2 (some (x + 94)) := ⟨_, rfl⟩
  rw [← hr3]
  have S3 : cl_at t3 r3 (x + 2) := by rw [hr3]; exact cl_at_up (cl_at_ext ht3 (by omega) S2) (by omega)
  have B43 : cl_at t3 r3 (x + 48) := by rw [hr3]; exact cl_at_up (cl_at_ext ht3 (by omega) B42) (by omega)
  have SN3 : cl_at t3 r3 (x + 94) := by rw [hr3]; exact cl_at_up p3.1 (by omega)
  have f1_3 : r3 x 0 = some (x + 2) := by rw [hr3]; simp only [jk_up]; rw [if_neg (by omega), (ht3 x (by omega)).2]; exact f1_2
  have f2_3 : r3 x 1 = some (x + 48) := by rw [hr3]; simp only [jk_up]; rw [if_neg (by omega), (ht3 x (by omega)).2]; exact f2_2
  have f3_3 : r3 x 2 = some (x + 94) := by rw [hr3]; simp [jk_up]
  have ro3 : ∀ a, a < x → r3 a = ρ a := fun a ha => by rw [hr3]; funext j; simp only [jk_up]; rw [if_neg (by omega), (ht3 a (by omega)).2, ro2 a ha]
  have to3 : ∀ a, a < x → t3 a = t a ∧ σ3 a = σ a := fun a ha => ⟨(ht3 a (by omega)).1.trans (to2 a ha).1, (hs3 a (by omega)).trans (to2 a ha).2⟩
  have sx3 : σ3 x = σ x := (hs3 x (by omega)).trans sx2
  have zr3 : ∀ a, x + 2 ≤ a → a < x + 140 → a % 2 = x % 2 → σ3 a = fun _ => 0 := fun a h1 h2 h3 => if h7 : a < x + 94 then (hs3 a h7).trans (zr2 a h1 h7 h3) else if h9 : a = x + 94 then by subst h9; rw [p3.2.1]; exact jk_zr_same _ _ else p3.2.2 a (by omega) (by omega) (by omega)
  refine jk_aload_n (q := 38) dX12_init_37 rfl rfl ?_
  refine jk_new (q := 41) (k := 5) jw_163 jw_164 jw_3 (by decide) (by decide) dX12_init_38 rfl ?_
  refine jk_dup (q := 42) dX12_init_41 rfl rfl ?_
  refine jk_cI0g (q := 45) (c_X5_init (h := x + 140) (by simp [jk_tg]) rfl) jm_X5_init jw_165 rfl rfl (by decide) (by decide) rfl dX12_init_42 rfl (fun v' n' t4 σ4 ρ4 hq => ?_) (fun _ _ _ _ _ h => h.elim)
  obtain ⟨rfl, hn9, g4, p4⟩ := hq
  subst hn9
  simp only [Option.toList_some, Option.toList_none, List.cons_append, List.nil_append]
  have eN4 : x + 140 + 372 = x + 512 := by omega
  rw [eN4]
  have ht4 : ∀ a, a < x + 140 → t4 a = t3 a ∧ ρ4 a = r3 a := fun a ha => ⟨(g4 a ha).1.trans (by simp only [jk_tg]; rw [if_neg (by omega)]), (g4 a ha).2.2.trans (by funext j; simp only [jk_zr]; rw [if_neg (by omega)])⟩
  have hs4 : ∀ a, a < x + 140 → σ4 a = σ3 a := fun a ha => (g4 a ha).2.1.trans (by funext j; simp only [jk_zr]; rw [if_neg (by omega)])
  have hx4 : t4 x = some (.inr 12) := (ht4 x (by omega)).1.trans hx3
  refine jk_putAF (q := 48) (k := 12) 4 4 rfl (by first | assumption | (simp only [jk_tg]; (repeat rw [if_neg (by omega)]); assumption)) rfl rfl rfl rfl (by first | exact Or.inl ⟨_, rfl⟩ | exact Or.inr ⟨_, rfl⟩) jw_379 dX12_init_45 rfl ?_
  obtain ⟨r4, hr4⟩ : ∃ r, r = jk_up ρ4 x 4 (some (x + 140)) := ⟨_, rfl⟩
  rw [← hr4]
  have S4 : cl_at t4 r4 (x + 2) := by rw [hr4]; exact cl_at_up (cl_at_ext ht4 (by omega) S3) (by omega)
  have B44 : cl_at t4 r4 (x + 48) := by rw [hr4]; exact cl_at_up (cl_at_ext ht4 (by omega) B43) (by omega)
  have SN4 : cl_at t4 r4 (x + 94) := by rw [hr4]; exact cl_at_up (cl_at_ext ht4 (by omega) SN3) (by omega)
  have H4 : hs_at t4 r4 (x + 140) := by rw [hr4]; exact hs_at_up p4.1 (by omega)
  have f1_4 : r4 x 0 = some (x + 2) := by rw [hr4]; simp only [jk_up]; rw [if_neg (by omega), (ht4 x (by omega)).2]; exact f1_3
  have f2_4 : r4 x 1 = some (x + 48) := by rw [hr4]; simp only [jk_up]; rw [if_neg (by omega), (ht4 x (by omega)).2]; exact f2_3
  have f3_4 : r4 x 2 = some (x + 94) := by rw [hr4]; simp only [jk_up]; rw [if_neg (by omega), (ht4 x (by omega)).2]; exact f3_3
  have f4_4 : r4 x 4 = some (x + 140) := by rw [hr4]; simp [jk_up]
  have ro4 : ∀ a, a < x → r4 a = ρ a := fun a ha => by rw [hr4]; funext j; simp only [jk_up]; rw [if_neg (by omega), (ht4 a (by omega)).2, ro3 a ha]
  have to4 : ∀ a, a < x → t4 a = t a ∧ σ4 a = σ a := fun a ha => ⟨(ht4 a (by omega)).1.trans (to3 a ha).1, (hs4 a (by omega)).trans (to3 a ha).2⟩
  have sx4 : σ4 x = σ x := (hs4 x (by omega)).trans sx3
  have zr4 : ∀ a, x + 2 ≤ a → a < x + 512 → a ≠ x + 142 → a % 2 = x % 2 → σ4 a = fun _ => 0 := fun a h1 h2 h4 h3 => if h7 : a < x + 140 then (hs4 a h7).trans (zr3 a h1 h7 h3) else if h9 : a = x + 140 then by subst h9; rw [p4.2.1]; exact jk_zr_same _ _ else p4.2.2 a (by omega) (by omega) (by omega)
  refine jk_aload_n (q := 49) dX12_init_48 rfl rfl ?_
  refine jk_new (q := 52) (k := 3) jw_183 jw_184 jw_4 (by decide) (by decide) dX12_init_49 rfl ?_
  refine jk_dup (q := 53) dX12_init_52 rfl rfl ?_
  refine jk_aload_n (q := 54) dX12_init_53 rfl rfl ?_
  refine jk_getA (q := 57) (k := 12) 0 0 rfl (by first | assumption | (simp only [jk_tg]; (repeat rw [if_neg (by omega)]); assumption)) (by first | assumption | (simp only [jk_zr]; (repeat rw [if_neg (by omega)]); assumption)) rfl rfl jw_375 dX12_init_54 rfl ?_
  refine jk_cI1g (q := 60) (c_X3_init (f := x + 512) (s := x + 2) (by simp [jk_tg]) (cl_at_ext (N := x + 512) (fun a ha => ⟨by simp only [jk_tg]; rw [if_neg (by omega)], by funext j; simp only [jk_zr]; rw [if_neg (by omega)]⟩) (by omega) S4) (by omega) rfl) jm_X3_init jw_185 rfl rfl (by decide) (by decide) rfl dX12_init_57 rfl (fun v' n' t5 σ5 ρ5 hq => ?_) (fun _ _ _ _ _ h => h.elim)
  obtain ⟨rfl, hn9, g5, p5⟩ := hq
  subst hn9
  simp only [Option.toList_some, Option.toList_none, List.cons_append, List.nil_append]
  have eN5 : x + 512 + 10 = x + 522 := by omega
  rw [eN5]
  have ht5 : ∀ a, a < x + 512 → t5 a = t4 a ∧ ρ5 a = r4 a := fun a ha => ⟨(g5 a ha).1.trans (by simp only [jk_tg]; rw [if_neg (by omega)]), (g5 a ha).2.2.trans (by funext j; simp only [jk_zr]; rw [if_neg (by omega)])⟩
  have hs5 : ∀ a, a < x + 512 → σ5 a = σ4 a := fun a ha => (g5 a ha).2.1.trans (by funext j; simp only [jk_zr]; rw [if_neg (by omega)])
  have hx5 : t5 x = some (.inr 12) := (ht5 x (by omega)).1.trans hx4
  refine jk_putAF (q := 63) (k := 12) 5 5 rfl (by first | assumption | (simp only [jk_tg]; (repeat rw [if_neg (by omega)]); assumption)) rfl rfl rfl rfl (by first | exact Or.inl ⟨_, rfl⟩ | exact Or.inr ⟨_, rfl⟩) jw_380 dX12_init_60 rfl ?_
  obtain ⟨r5, hr5⟩ : ∃ r, r = jk_up ρ5 x 5 (some (x + 512)) := ⟨_, rfl⟩
  rw [← hr5]
  have S5 : cl_at t5 r5 (x + 2) := by rw [hr5]; exact cl_at_up (cl_at_ext ht5 (by omega) S4) (by omega)
  have B45 : cl_at t5 r5 (x + 48) := by rw [hr5]; exact cl_at_up (cl_at_ext ht5 (by omega) B44) (by omega)
  have SN5 : cl_at t5 r5 (x + 94) := by rw [hr5]; exact cl_at_up (cl_at_ext ht5 (by omega) SN4) (by omega)
  have H5 : hs_at t5 r5 (x + 140) := by rw [hr5]; exact hs_at_up (hs_at_ext ht5 (by omega) H4) (by omega)
  have F5 : fo_at t5 r5 (x + 512) (x + 2) := by rw [hr5]; exact fo_at_up p5 (by omega) (by omega)
  have f1_5 : r5 x 0 = some (x + 2) := by rw [hr5]; simp only [jk_up]; rw [if_neg (by omega), (ht5 x (by omega)).2]; exact f1_4
  have f2_5 : r5 x 1 = some (x + 48) := by rw [hr5]; simp only [jk_up]; rw [if_neg (by omega), (ht5 x (by omega)).2]; exact f2_4
  have f3_5 : r5 x 2 = some (x + 94) := by rw [hr5]; simp only [jk_up]; rw [if_neg (by omega), (ht5 x (by omega)).2]; exact f3_4
  have f4_5 : r5 x 4 = some (x + 140) := by rw [hr5]; simp only [jk_up]; rw [if_neg (by omega), (ht5 x (by omega)).2]; exact f4_4
  have f5_5 : r5 x 5 = some (x + 512) := by rw [hr5]; simp [jk_up]
  have ro5 : ∀ a, a < x → r5 a = ρ a := fun a ha => by rw [hr5]; funext j; simp only [jk_up]; rw [if_neg (by omega), (ht5 a (by omega)).2, ro4 a ha]
  have to5 : ∀ a, a < x → t5 a = t a ∧ σ5 a = σ a := fun a ha => ⟨(ht5 a (by omega)).1.trans (to4 a ha).1, (hs5 a (by omega)).trans (to4 a ha).2⟩
  have sx5 : σ5 x = σ x := (hs5 x (by omega)).trans sx4
  have zr5 : ∀ a, x + 2 ≤ a → a < x + 512 → a ≠ x + 142 → a % 2 = x % 2 → σ5 a = fun _ => 0 := fun a h1 h2 h4 h3 => (hs5 a (by omega)).trans (zr4 a h1 h2 h4 h3)
  refine jk_aload_n (q := 64) dX12_init_63 rfl rfl ?_
  refine jk_new (q := 67) (k := 11) jw_212 jw_213 jw_5 (by decide) (by decide) dX12_init_64 rfl ?_
  refine jk_dup (q := 68) dX12_init_67 rfl rfl ?_
  refine jk_aload_n (q := 69) dX12_init_68 rfl rfl ?_
  refine jk_getA (q := 72) (k := 12) 0 0 rfl (by first | assumption | (simp only [jk_tg]; (repeat rw [if_neg (by omega)]); assumption)) (by first | assumption | (simp only [jk_zr]; (repeat rw [if_neg (by omega)]); assumption)) rfl rfl jw_375 dX12_init_69 rfl ?_
  refine jk_aload_n (q := 73) dX12_init_72 rfl rfl ?_
  refine jk_getA (q := 76) (k := 12) 5 5 rfl (by first | assumption | (simp only [jk_tg]; (repeat rw [if_neg (by omega)]); assumption)) (by first | assumption | (simp only [jk_zr]; (repeat rw [if_neg (by omega)]); assumption)) rfl rfl jw_380 dX12_init_73 rfl ?_
  refine jk_cI2g (q := 79) (c_X11_init (w := x + 522) (s := x + 2) (f := x + 512) (by simp [jk_tg]) (fo_at_ext (N := x + 522) (fun a ha => ⟨by simp only [jk_tg]; rw [if_neg (by omega)], by funext j; simp only [jk_zr]; rw [if_neg (by omega)]⟩) (by omega) F5) (by omega) rfl) jm_X11_init jw_214 rfl rfl (by decide) (by decide) rfl dX12_init_76 rfl (fun v' n' t6 σ6 ρ6 hq => ?_) (fun _ _ _ _ _ h => h.elim)
  obtain ⟨rfl, hn9, g6, p6⟩ := hq
  subst hn9
  simp only [Option.toList_some, Option.toList_none, List.cons_append, List.nil_append]
  have eN6 : x + 522 + 6 = x + 528 := by omega
  rw [eN6]
  have ht6 : ∀ a, a < x + 522 → t6 a = t5 a ∧ ρ6 a = r5 a := fun a ha => ⟨(g6 a ha).1.trans (by simp only [jk_tg]; rw [if_neg (by omega)]), (g6 a ha).2.2.trans (by funext j; simp only [jk_zr]; rw [if_neg (by omega)])⟩
  have hs6 : ∀ a, a < x + 522 → σ6 a = σ5 a := fun a ha => (g6 a ha).2.1.trans (by funext j; simp only [jk_zr]; rw [if_neg (by omega)])
  have hx6 : t6 x = some (.inr 12) := (ht6 x (by omega)).1.trans hx5
  refine jk_putAF (q := 82) (k := 12) 6 6 rfl (by first | assumption | (simp only [jk_tg]; (repeat rw [if_neg (by omega)]); assumption)) rfl rfl rfl rfl (by first | exact Or.inl ⟨_, rfl⟩ | exact Or.inr ⟨_, rfl⟩) jw_381 dX12_init_79 rfl ?_
  obtain ⟨r6, hr6⟩ : ∃ r, r = jk_up ρ6 x 6 (some (x + 522)) := ⟨_, rfl⟩
  rw [← hr6]
  have S6 : cl_at t6 r6 (x + 2) := by rw [hr6]; exact cl_at_up (cl_at_ext ht6 (by omega) S5) (by omega)
  have B46 : cl_at t6 r6 (x + 48) := by rw [hr6]; exact cl_at_up (cl_at_ext ht6 (by omega) B45) (by omega)
  have SN6 : cl_at t6 r6 (x + 94) := by rw [hr6]; exact cl_at_up (cl_at_ext ht6 (by omega) SN5) (by omega)
  have H6 : hs_at t6 r6 (x + 140) := by rw [hr6]; exact hs_at_up (hs_at_ext ht6 (by omega) H5) (by omega)
  have F6 : fo_at t6 r6 (x + 512) (x + 2) := by rw [hr6]; exact fo_at_up (fo_at_ext ht6 (by omega) F5) (by omega) (by omega)
  have WA6 : wa_at t6 r6 (x + 522) (x + 512) (x + 2) := by rw [hr6]; exact wa_at_upl p6 (by omega)
  have f1_6 : r6 x 0 = some (x + 2) := by rw [hr6]; simp only [jk_up]; rw [if_neg (by omega), (ht6 x (by omega)).2]; exact f1_5
  have f2_6 : r6 x 1 = some (x + 48) := by rw [hr6]; simp only [jk_up]; rw [if_neg (by omega), (ht6 x (by omega)).2]; exact f2_5
  have f3_6 : r6 x 2 = some (x + 94) := by rw [hr6]; simp only [jk_up]; rw [if_neg (by omega), (ht6 x (by omega)).2]; exact f3_5
  have f4_6 : r6 x 4 = some (x + 140) := by rw [hr6]; simp only [jk_up]; rw [if_neg (by omega), (ht6 x (by omega)).2]; exact f4_5
  have f5_6 : r6 x 5 = some (x + 512) := by rw [hr6]; simp only [jk_up]; rw [if_neg (by omega), (ht6 x (by omega)).2]; exact f5_5
  have f6_6 : r6 x 6 = some (x + 522) := by rw [hr6]; simp [jk_up]
  have ro6 : ∀ a, a < x → r6 a = ρ a := fun a ha => by rw [hr6]; funext j; simp only [jk_up]; rw [if_neg (by omega), (ht6 a (by omega)).2, ro5 a ha]
  have to6 : ∀ a, a < x → t6 a = t a ∧ σ6 a = σ a := fun a ha => ⟨(ht6 a (by omega)).1.trans (to5 a ha).1, (hs6 a (by omega)).trans (to5 a ha).2⟩
  have sx6 : σ6 x = σ x := (hs6 x (by omega)).trans sx5
  have zr6 : ∀ a, x + 2 ≤ a → a < x + 512 → a ≠ x + 142 → a % 2 = x % 2 → σ6 a = fun _ => 0 := fun a h1 h2 h4 h3 => (hs6 a (by omega)).trans (zr5 a h1 h2 h4 h3)
  refine jk_aload_n (q := 83) dX12_init_82 rfl rfl ?_
  refine jk_new (q := 86) (k := 8) jw_238 jw_239 jw_6 (by decide) (by decide) dX12_init_83 rfl ?_
  refine jk_dup (q := 87) dX12_init_86 rfl rfl ?_
  refine jk_aload_n (q := 88) dX12_init_87 rfl rfl ?_
  refine jk_getA (q := 91) (k := 12) 0 0 rfl (by first | assumption | (simp only [jk_tg]; (repeat rw [if_neg (by omega)]); assumption)) (by first | assumption | (simp only [jk_zr]; (repeat rw [if_neg (by omega)]); assumption)) rfl rfl jw_375 dX12_init_88 rfl ?_
  refine jk_cI1g (q := 94) (c_X8_init (y := x + 528) (s := x + 2) (by simp [jk_tg]) (cl_at_ext (N := x + 528) (fun a ha => ⟨by simp only [jk_tg]; rw [if_neg (by omega)], by funext j; simp only [jk_zr]; rw [if_neg (by omega)]⟩) (by omega) S6) (by omega) rfl) jm_X8_init jw_240 rfl rfl (by decide) (by decide) rfl dX12_init_91 rfl (fun v' n' t7 σ7 ρ7 hq => ?_) (fun _ _ _ _ _ h => h.elim)
  obtain ⟨rfl, hn9, g7, p7⟩ := hq
  subst hn9
  simp only [Option.toList_some, Option.toList_none, List.cons_append, List.nil_append]
  have eN7 : x + 528 + 6 = x + 534 := by omega
  rw [eN7]
  have ht7 : ∀ a, a < x + 528 → t7 a = t6 a ∧ ρ7 a = r6 a := fun a ha => ⟨(g7 a ha).1.trans (by simp only [jk_tg]; rw [if_neg (by omega)]), (g7 a ha).2.2.trans (by funext j; simp only [jk_zr]; rw [if_neg (by omega)])⟩
  have hs7 : ∀ a, a < x + 528 → σ7 a = σ6 a := fun a ha => (g7 a ha).2.1.trans (by funext j; simp only [jk_zr]; rw [if_neg (by omega)])
  have hx7 : t7 x = some (.inr 12) := (ht7 x (by omega)).1.trans hx6
  refine jk_putAF (q := 97) (k := 12) 7 7 rfl (by first | assumption | (simp only [jk_tg]; (repeat rw [if_neg (by omega)]); assumption)) rfl rfl rfl rfl (by first | exact Or.inl ⟨_, rfl⟩ | exact Or.inr ⟨_, rfl⟩) jw_382 dX12_init_94 rfl ?_
  obtain ⟨r7, hr7⟩ : ∃ r, r = jk_up ρ7 x 7 (some (x + 528)) := ⟨_, rfl⟩
  rw [← hr7]
  have S7 : cl_at t7 r7 (x + 2) := by rw [hr7]; exact cl_at_up (cl_at_ext ht7 (by omega) S6) (by omega)
  have B47 : cl_at t7 r7 (x + 48) := by rw [hr7]; exact cl_at_up (cl_at_ext ht7 (by omega) B46) (by omega)
  have SN7 : cl_at t7 r7 (x + 94) := by rw [hr7]; exact cl_at_up (cl_at_ext ht7 (by omega) SN6) (by omega)
  have H7 : hs_at t7 r7 (x + 140) := by rw [hr7]; exact hs_at_up (hs_at_ext ht7 (by omega) H6) (by omega)
  have F7 : fo_at t7 r7 (x + 512) (x + 2) := by rw [hr7]; exact fo_at_up (fo_at_ext ht7 (by omega) F6) (by omega) (by omega)
  have WA7 : wa_at t7 r7 (x + 522) (x + 512) (x + 2) := by rw [hr7]; exact wa_at_upl (wa_at_ext ht7 (by omega) WA6) (by omega)
  have Y7 : sh_at t7 r7 (x + 528) (x + 2) := by rw [hr7]; exact sh_at_up p7 (by omega)
  have f1_7 : r7 x 0 = some (x + 2) := by rw [hr7]; simp only [jk_up]; rw [if_neg (by omega), (ht7 x (by omega)).2]; exact f1_6
  have f2_7 : r7 x 1 = some (x + 48) := by rw [hr7]; simp only [jk_up]; rw [if_neg (by omega), (ht7 x (by omega)).2]; exact f2_6
  have f3_7 : r7 x 2 = some (x + 94) := by rw [hr7]; simp only [jk_up]; rw [if_neg (by omega), (ht7 x (by omega)).2]; exact f3_6
  have f4_7 : r7 x 4 = some (x + 140) := by rw [hr7]; simp only [jk_up]; rw [if_neg (by omega), (ht7 x (by omega)).2]; exact f4_6
  have f5_7 : r7 x 5 = some (x + 512) := by rw [hr7]; simp only [jk_up]; rw [if_neg (by omega), (ht7 x (by omega)).2]; exact f5_6
  have f6_7 : r7 x 6 = some (x + 522) := by rw [hr7]; simp only [jk_up]; rw [if_neg (by omega), (ht7 x (by omega)).2]; exact f6_6
  have f7_7 : r7 x 7 = some (x + 528) := by rw [hr7]; simp [jk_up]
  have ro7 : ∀ a, a < x → r7 a = ρ a := fun a ha => by rw [hr7]; funext j; simp only [jk_up]; rw [if_neg (by omega), (ht7 a (by omega)).2, ro6 a ha]
  have to7 : ∀ a, a < x → t7 a = t a ∧ σ7 a = σ a := fun a ha => ⟨(ht7 a (by omega)).1.trans (to6 a ha).1, (hs7 a (by omega)).trans (to6 a ha).2⟩
  have sx7 : σ7 x = σ x := (hs7 x (by omega)).trans sx6
  have zr7 : ∀ a, x + 2 ≤ a → a < x + 512 → a ≠ x + 142 → a % 2 = x % 2 → σ7 a = fun _ => 0 := fun a h1 h2 h4 h3 => (hs7 a (by omega)).trans (zr6 a h1 h2 h4 h3)
  refine jk_aload_n (q := 98) dX12_init_97 rfl rfl ?_
  refine jk_new (q := 101) (k := 4) jw_255 jw_256 jw_7 (by decide) (by decide) dX12_init_98 rfl ?_
  refine jk_dup (q := 102) dX12_init_101 rfl rfl ?_
  refine jk_aload_n (q := 103) dX12_init_102 rfl rfl ?_
  refine jk_getA (q := 106) (k := 12) 0 0 rfl (by first | assumption | (simp only [jk_tg]; (repeat rw [if_neg (by omega)]); assumption)) (by first | assumption | (simp only [jk_zr]; (repeat rw [if_neg (by omega)]); assumption)) rfl rfl jw_375 dX12_init_103 rfl ?_
  refine jk_aload_n (q := 107) dX12_init_106 rfl rfl ?_
  refine jk_getA (q := 110) (k := 12) 5 5 rfl (by first | assumption | (simp only [jk_tg]; (repeat rw [if_neg (by omega)]); assumption)) (by first | assumption | (simp only [jk_zr]; (repeat rw [if_neg (by omega)]); assumption)) rfl rfl jw_380 dX12_init_107 rfl ?_
  refine jk_cI2g (q := 113) (c_X4_init (h := x + 534) (s := x + 2) (f := x + 512) (by simp [jk_tg]) (fo_at_ext (N := x + 534) (fun a ha => ⟨by simp only [jk_tg]; rw [if_neg (by omega)], by funext j; simp only [jk_zr]; rw [if_neg (by omega)]⟩) (by omega) F7) (by omega) rfl) jm_X4_init jw_257 rfl rfl (by decide) (by decide) rfl dX12_init_110 rfl (fun v' n' t8 σ8 ρ8 hq => ?_) (fun _ _ _ _ _ h => h.elim)
  obtain ⟨rfl, hn9, g8, p8⟩ := hq
  subst hn9
  simp only [Option.toList_some, Option.toList_none, List.cons_append, List.nil_append]
  have eN8 : x + 534 + 12 = x + 546 := by omega
  rw [eN8]
  have ht8 : ∀ a, a < x + 534 → t8 a = t7 a ∧ ρ8 a = r7 a := fun a ha => ⟨(g8 a ha).1.trans (by simp only [jk_tg]; rw [if_neg (by omega)]), (g8 a ha).2.2.trans (by funext j; simp only [jk_zr]; rw [if_neg (by omega)])⟩
  have hs8 : ∀ a, a < x + 534 → σ8 a = σ7 a := fun a ha => (g8 a ha).2.1.trans (by funext j; simp only [jk_zr]; rw [if_neg (by omega)])
  have hx8 : t8 x = some (.inr 12) := (ht8 x (by omega)).1.trans hx7
  refine jk_putAF (q := 116) (k := 12) 8 8 rfl (by first | assumption | (simp only [jk_tg]; (repeat rw [if_neg (by omega)]); assumption)) rfl rfl rfl rfl (by first | exact Or.inl ⟨_, rfl⟩ | exact Or.inr ⟨_, rfl⟩) jw_383 dX12_init_113 rfl ?_
  obtain ⟨r8, hr8⟩ : ∃ r, r = jk_up ρ8 x 8 (some (x + 534)) := ⟨_, rfl⟩
  rw [← hr8]
  have S8 : cl_at t8 r8 (x + 2) := by rw [hr8]; exact cl_at_up (cl_at_ext ht8 (by omega) S7) (by omega)
  have B48 : cl_at t8 r8 (x + 48) := by rw [hr8]; exact cl_at_up (cl_at_ext ht8 (by omega) B47) (by omega)
  have SN8 : cl_at t8 r8 (x + 94) := by rw [hr8]; exact cl_at_up (cl_at_ext ht8 (by omega) SN7) (by omega)
  have H8 : hs_at t8 r8 (x + 140) := by rw [hr8]; exact hs_at_up (hs_at_ext ht8 (by omega) H7) (by omega)
  have F8 : fo_at t8 r8 (x + 512) (x + 2) := by rw [hr8]; exact fo_at_up (fo_at_ext ht8 (by omega) F7) (by omega) (by omega)
  have WA8 : wa_at t8 r8 (x + 522) (x + 512) (x + 2) := by rw [hr8]; exact wa_at_upl (wa_at_ext ht8 (by omega) WA7) (by omega)
  have Y8 : sh_at t8 r8 (x + 528) (x + 2) := by rw [hr8]; exact sh_at_up (sh_at_ext ht8 (by omega) Y7) (by omega)
  have HE8 : he_at t8 r8 (x + 534) (x + 512) (x + 2) := by rw [hr8]; exact he_at_up p8 (by omega)
  have f1_8 : r8 x 0 = some (x + 2) := by rw [hr8]; simp only [jk_up]; rw [if_neg (by omega), (ht8 x (by omega)).2]; exact f1_7
  have f2_8 : r8 x 1 = some (x + 48) := by rw [hr8]; simp only [jk_up]; rw [if_neg (by omega), (ht8 x (by omega)).2]; exact f2_7
  have f3_8 : r8 x 2 = some (x + 94) := by rw [hr8]; simp only [jk_up]; rw [if_neg (by omega), (ht8 x (by omega)).2]; exact f3_7
  have f4_8 : r8 x 4 = some (x + 140) := by rw [hr8]; simp only [jk_up]; rw [if_neg (by omega), (ht8 x (by omega)).2]; exact f4_7
  have f5_8 : r8 x 5 = some (x + 512) := by rw [hr8]; simp only [jk_up]; rw [if_neg (by omega), (ht8 x (by omega)).2]; exact f5_7
  have f6_8 : r8 x 6 = some (x + 522) := by rw [hr8]; simp only [jk_up]; rw [if_neg (by omega), (ht8 x (by omega)).2]; exact f6_7
  have f7_8 : r8 x 7 = some (x + 528) := by rw [hr8]; simp only [jk_up]; rw [if_neg (by omega), (ht8 x (by omega)).2]; exact f7_7
  have f8_8 : r8 x 8 = some (x + 534) := by rw [hr8]; simp [jk_up]
  have ro8 : ∀ a, a < x → r8 a = ρ a := fun a ha => by rw [hr8]; funext j; simp only [jk_up]; rw [if_neg (by omega), (ht8 a (by omega)).2, ro7 a ha]
  have to8 : ∀ a, a < x → t8 a = t a ∧ σ8 a = σ a := fun a ha => ⟨(ht8 a (by omega)).1.trans (to7 a ha).1, (hs8 a (by omega)).trans (to7 a ha).2⟩
  have sx8 : σ8 x = σ x := (hs8 x (by omega)).trans sx7
  have zr8 : ∀ a, x + 2 ≤ a → a < x + 512 → a ≠ x + 142 → a % 2 = x % 2 → σ8 a = fun _ => 0 := fun a h1 h2 h4 h3 => (hs8 a (by omega)).trans (zr7 a h1 h2 h4 h3)
  refine jk_aload_n (q := 117) dX12_init_116 rfl rfl ?_
  refine jk_new (q := 120) (k := 1) jw_279 jw_280 jw_8 (by decide) (by decide) dX12_init_117 rfl ?_
  refine jk_dup (q := 121) dX12_init_120 rfl rfl ?_
  refine jk_aload_n (q := 122) dX12_init_121 rfl rfl ?_
  refine jk_getA (q := 125) (k := 12) 0 0 rfl (by first | assumption | (simp only [jk_tg]; (repeat rw [if_neg (by omega)]); assumption)) (by first | assumption | (simp only [jk_zr]; (repeat rw [if_neg (by omega)]); assumption)) rfl rfl jw_375 dX12_init_122 rfl ?_
  refine jk_cI1g (q := 128) (c_X1_init (b := x + 546) (s := x + 2) (by simp [jk_tg]) (cl_at_ext (N := x + 546) (fun a ha => ⟨by simp only [jk_tg]; rw [if_neg (by omega)], by funext j; simp only [jk_zr]; rw [if_neg (by omega)]⟩) (by omega) S8) (by omega) rfl) jm_X1_init jw_281 rfl rfl (by decide) (by decide) rfl dX12_init_125 rfl (fun v' n' t9 σ9 ρ9 hq => ?_) (fun _ _ _ _ _ h => h.elim)
  obtain ⟨rfl, hn9, g9, p9⟩ := hq
  subst hn9
  simp only [Option.toList_some, Option.toList_none, List.cons_append, List.nil_append]
  have eN9 : x + 546 + 2 = x + 548 := by omega
  rw [eN9]
  have ht9 : ∀ a, a < x + 546 → t9 a = t8 a ∧ ρ9 a = r8 a := fun a ha => ⟨(g9 a ha).1.trans (by simp only [jk_tg]; rw [if_neg (by omega)]), (g9 a ha).2.2.trans (by funext j; simp only [jk_zr]; rw [if_neg (by omega)])⟩
  have hs9 : ∀ a, a < x + 546 → σ9 a = σ8 a := fun a ha => (g9 a ha).2.1.trans (by funext j; simp only [jk_zr]; rw [if_neg (by omega)])
  have hx9 : t9 x = some (.inr 12) := (ht9 x (by omega)).1.trans hx8
  refine jk_putAF (q := 131) (k := 12) 9 9 rfl (by first | assumption | (simp only [jk_tg]; (repeat rw [if_neg (by omega)]); assumption)) rfl rfl rfl rfl (by first | exact Or.inl ⟨_, rfl⟩ | exact Or.inr ⟨_, rfl⟩) jw_384 dX12_init_128 rfl ?_
  obtain ⟨r9, hr9⟩ : ∃ r, r = jk_up ρ9 x 9 (some (x + 546)) := ⟨_, rfl⟩
  rw [← hr9]
  have S9 : cl_at t9 r9 (x + 2) := by rw [hr9]; exact cl_at_up (cl_at_ext ht9 (by omega) S8) (by omega)
  have B49 : cl_at t9 r9 (x + 48) := by rw [hr9]; exact cl_at_up (cl_at_ext ht9 (by omega) B48) (by omega)
  have SN9 : cl_at t9 r9 (x + 94) := by rw [hr9]; exact cl_at_up (cl_at_ext ht9 (by omega) SN8) (by omega)
  have H9 : hs_at t9 r9 (x + 140) := by rw [hr9]; exact hs_at_up (hs_at_ext ht9 (by omega) H8) (by omega)
  have F9 : fo_at t9 r9 (x + 512) (x + 2) := by rw [hr9]; exact fo_at_up (fo_at_ext ht9 (by omega) F8) (by omega) (by omega)
  have WA9 : wa_at t9 r9 (x + 522) (x + 512) (x + 2) := by rw [hr9]; exact wa_at_upl (wa_at_ext ht9 (by omega) WA8) (by omega)
  have Y9 : sh_at t9 r9 (x + 528) (x + 2) := by rw [hr9]; exact sh_at_up (sh_at_ext ht9 (by omega) Y8) (by omega)
  have HE9 : he_at t9 r9 (x + 534) (x + 512) (x + 2) := by rw [hr9]; exact he_at_up (he_at_ext ht9 (by omega) HE8) (by omega)
  have BA9 : ba_at t9 r9 (x + 546) (x + 2) := by rw [hr9]; exact ba_at_up p9 (by omega)
  have f1_9 : r9 x 0 = some (x + 2) := by rw [hr9]; simp only [jk_up]; rw [if_neg (by omega), (ht9 x (by omega)).2]; exact f1_8
  have f2_9 : r9 x 1 = some (x + 48) := by rw [hr9]; simp only [jk_up]; rw [if_neg (by omega), (ht9 x (by omega)).2]; exact f2_8
  have f3_9 : r9 x 2 = some (x + 94) := by rw [hr9]; simp only [jk_up]; rw [if_neg (by omega), (ht9 x (by omega)).2]; exact f3_8
  have f4_9 : r9 x 4 = some (x + 140) := by rw [hr9]; simp only [jk_up]; rw [if_neg (by omega), (ht9 x (by omega)).2]; exact f4_8
  have f5_9 : r9 x 5 = some (x + 512) := by rw [hr9]; simp only [jk_up]; rw [if_neg (by omega), (ht9 x (by omega)).2]; exact f5_8
  have f6_9 : r9 x 6 = some (x + 522) := by rw [hr9]; simp only [jk_up]; rw [if_neg (by omega), (ht9 x (by omega)).2]; exact f6_8
  have f7_9 : r9 x 7 = some (x + 528) := by rw [hr9]; simp only [jk_up]; rw [if_neg (by omega), (ht9 x (by omega)).2]; exact f7_8
  have f8_9 : r9 x 8 = some (x + 534) := by rw [hr9]; simp only [jk_up]; rw [if_neg (by omega), (ht9 x (by omega)).2]; exact f8_8
  have f9_9 : r9 x 9 = some (x + 546) := by rw [hr9]; simp [jk_up]
  have ro9 : ∀ a, a < x → r9 a = ρ a := fun a ha => by rw [hr9]; funext j; simp only [jk_up]; rw [if_neg (by omega), (ht9 a (by omega)).2, ro8 a ha]
  have to9 : ∀ a, a < x → t9 a = t a ∧ σ9 a = σ a := fun a ha => ⟨(ht9 a (by omega)).1.trans (to8 a ha).1, (hs9 a (by omega)).trans (to8 a ha).2⟩
  have sx9 : σ9 x = σ x := (hs9 x (by omega)).trans sx8
  have zr9 : ∀ a, x + 2 ≤ a → a < x + 512 → a ≠ x + 142 → a % 2 = x % 2 → σ9 a = fun _ => 0 := fun a h1 h2 h4 h3 => (hs9 a (by omega)).trans (zr8 a h1 h2 h4 h3)
  refine jk_aload_n (q := 132) dX12_init_131 rfl rfl ?_
  refine jk_new (q := 135) (k := 2) jw_289 jw_290 jw_9 (by decide) (by decide) dX12_init_132 rfl ?_
  refine jk_dup (q := 136) dX12_init_135 rfl rfl ?_
  refine jk_aload_n (q := 137) dX12_init_136 rfl rfl ?_
  refine jk_getA (q := 140) (k := 12) 0 0 rfl (by first | assumption | (simp only [jk_tg]; (repeat rw [if_neg (by omega)]); assumption)) (by first | assumption | (simp only [jk_zr]; (repeat rw [if_neg (by omega)]); assumption)) rfl rfl jw_375 dX12_init_137 rfl ?_
  refine jk_aload_n (q := 141) dX12_init_140 rfl rfl ?_
  refine jk_getA (q := 144) (k := 12) 5 5 rfl (by first | assumption | (simp only [jk_tg]; (repeat rw [if_neg (by omega)]); assumption)) (by first | assumption | (simp only [jk_zr]; (repeat rw [if_neg (by omega)]); assumption)) rfl rfl jw_380 dX12_init_141 rfl ?_
  refine jk_aload_n (q := 145) dX12_init_144 rfl rfl ?_
  refine jk_getA (q := 148) (k := 12) 6 6 rfl (by first | assumption | (simp only [jk_tg]; (repeat rw [if_neg (by omega)]); assumption)) (by first | assumption | (simp only [jk_zr]; (repeat rw [if_neg (by omega)]); assumption)) rfl rfl jw_381 dX12_init_145 rfl ?_
  refine jk_aload_n (q := 149) dX12_init_148 rfl rfl ?_
  refine jk_getA (q := 152) (k := 12) 7 7 rfl (by first | assumption | (simp only [jk_tg]; (repeat rw [if_neg (by omega)]); assumption)) (by first | assumption | (simp only [jk_zr]; (repeat rw [if_neg (by omega)]); assumption)) rfl rfl jw_382 dX12_init_149 rfl ?_
  refine jk_cI4g (q := 155) (c_X2_init (c := x + 548) (s := x + 2) (f := x + 512) (w := x + 522) (y := x + 528) (by simp [jk_tg]) (wa_at_ext (N := x + 548) (fun a ha => ⟨by simp only [jk_tg]; rw [if_neg (by omega)], by funext j; simp only [jk_zr]; rw [if_neg (by omega)]⟩) (by omega) WA9) (sh_at_ext (N := x + 548) (fun a ha => ⟨by simp only [jk_tg]; rw [if_neg (by omega)], by funext j; simp only [jk_zr]; rw [if_neg (by omega)]⟩) (by omega) Y9) (by omega) (by omega) rfl) jm_X2_init jw_291 rfl rfl (by decide) (by decide) rfl dX12_init_152 rfl (fun v' n' t10 σ10 ρ10 hq => ?_) (fun _ _ _ _ _ h => h.elim)
  obtain ⟨rfl, hn9, g10, p10⟩ := hq
  subst hn9
  simp only [Option.toList_some, Option.toList_none, List.cons_append, List.nil_append]
  have eN10 : x + 548 + 2 = x + 550 := by omega
  rw [eN10]
  have ht10 : ∀ a, a < x + 548 → t10 a = t9 a ∧ ρ10 a = r9 a := fun a ha => ⟨(g10 a ha).1.trans (by simp only [jk_tg]; rw [if_neg (by omega)]), (g10 a ha).2.2.trans (by funext j; simp only [jk_zr]; rw [if_neg (by omega)])⟩
  have hs10 : ∀ a, a < x + 548 → σ10 a = σ9 a := fun a ha => (g10 a ha).2.1.trans (by funext j; simp only [jk_zr]; rw [if_neg (by omega)])
  have hx10 : t10 x = some (.inr 12) := (ht10 x (by omega)).1.trans hx9
  refine jk_putAF (q := 158) (k := 12) 10 10 rfl (by first | assumption | (simp only [jk_tg]; (repeat rw [if_neg (by omega)]); assumption)) rfl rfl rfl rfl (by first | exact Or.inl ⟨_, rfl⟩ | exact Or.inr ⟨_, rfl⟩) jw_385 dX12_init_155 rfl ?_
  obtain ⟨r10, hr10⟩ : ∃ r, r = jk_up ρ10 x 10 (some (x + 548)) := ⟨_, rfl⟩
  rw [← hr10]
  have S10 : cl_at t10 r10 (x + 2) := by rw [hr10]; exact cl_at_up (cl_at_ext ht10 (by omega) S9) (by omega)
  have B410 : cl_at t10 r10 (x + 48) := by rw [hr10]; exact cl_at_up (cl_at_ext ht10 (by omega) B49) (by omega)
  have SN10 : cl_at t10 r10 (x + 94) := by rw [hr10]; exact cl_at_up (cl_at_ext ht10 (by omega) SN9) (by omega)
  have H10 : hs_at t10 r10 (x + 140) := by rw [hr10]; exact hs_at_up (hs_at_ext ht10 (by omega) H9) (by omega)
  have F10 : fo_at t10 r10 (x + 512) (x + 2) := by rw [hr10]; exact fo_at_up (fo_at_ext ht10 (by omega) F9) (by omega) (by omega)
  have WA10 : wa_at t10 r10 (x + 522) (x + 512) (x + 2) := by rw [hr10]; exact wa_at_upl (wa_at_ext ht10 (by omega) WA9) (by omega)
  have Y10 : sh_at t10 r10 (x + 528) (x + 2) := by rw [hr10]; exact sh_at_up (sh_at_ext ht10 (by omega) Y9) (by omega)
  have HE10 : he_at t10 r10 (x + 534) (x + 512) (x + 2) := by rw [hr10]; exact he_at_up (he_at_ext ht10 (by omega) HE9) (by omega)
  have BA10 : ba_at t10 r10 (x + 546) (x + 2) := by rw [hr10]; exact ba_at_up (ba_at_ext ht10 (by omega) BA9) (by omega)
  have CH10 : ch_at t10 r10 (x + 548) (x + 528) (x + 522) (x + 512) (x + 2) := by rw [hr10]; exact ch_at_up p10 (by omega)
  have f1_10 : r10 x 0 = some (x + 2) := by rw [hr10]; simp only [jk_up]; rw [if_neg (by omega), (ht10 x (by omega)).2]; exact f1_9
  have f2_10 : r10 x 1 = some (x + 48) := by rw [hr10]; simp only [jk_up]; rw [if_neg (by omega), (ht10 x (by omega)).2]; exact f2_9
  have f3_10 : r10 x 2 = some (x + 94) := by rw [hr10]; simp only [jk_up]; rw [if_neg (by omega), (ht10 x (by omega)).2]; exact f3_9
  have f4_10 : r10 x 4 = some (x + 140) := by rw [hr10]; simp only [jk_up]; rw [if_neg (by omega), (ht10 x (by omega)).2]; exact f4_9
  have f5_10 : r10 x 5 = some (x + 512) := by rw [hr10]; simp only [jk_up]; rw [if_neg (by omega), (ht10 x (by omega)).2]; exact f5_9
  have f6_10 : r10 x 6 = some (x + 522) := by rw [hr10]; simp only [jk_up]; rw [if_neg (by omega), (ht10 x (by omega)).2]; exact f6_9
  have f7_10 : r10 x 7 = some (x + 528) := by rw [hr10]; simp only [jk_up]; rw [if_neg (by omega), (ht10 x (by omega)).2]; exact f7_9
  have f8_10 : r10 x 8 = some (x + 534) := by rw [hr10]; simp only [jk_up]; rw [if_neg (by omega), (ht10 x (by omega)).2]; exact f8_9
  have f9_10 : r10 x 9 = some (x + 546) := by rw [hr10]; simp only [jk_up]; rw [if_neg (by omega), (ht10 x (by omega)).2]; exact f9_9
  have f10_10 : r10 x 10 = some (x + 548) := by rw [hr10]; simp [jk_up]
  have ro10 : ∀ a, a < x → r10 a = ρ a := fun a ha => by rw [hr10]; funext j; simp only [jk_up]; rw [if_neg (by omega), (ht10 a (by omega)).2, ro9 a ha]
  have to10 : ∀ a, a < x → t10 a = t a ∧ σ10 a = σ a := fun a ha => ⟨(ht10 a (by omega)).1.trans (to9 a ha).1, (hs10 a (by omega)).trans (to9 a ha).2⟩
  have sx10 : σ10 x = σ x := (hs10 x (by omega)).trans sx9
  have zr10 : ∀ a, x + 2 ≤ a → a < x + 512 → a ≠ x + 142 → a % 2 = x % 2 → σ10 a = fun _ => 0 := fun a h1 h2 h4 h3 => (hs10 a (by omega)).trans (zr9 a h1 h2 h4 h3)
  refine jk_aload_n (q := 159) dX12_init_158 rfl rfl ?_
  refine jk_new (q := 162) (k := 7) jw_308 jw_309 jw_10 (by decide) (by decide) dX12_init_159 rfl ?_
  refine jk_dup (q := 163) dX12_init_162 rfl rfl ?_
  refine jk_cI0gN (q := 166) (c_X7_init2 (q := x + 550) (by simp [jk_tg]) rfl) jm_X7_init jw_310 rfl rfl (by decide) (by decide) rfl dX12_init_163 rfl (fun v' n' t11 σ11 ρ11 hq => ?_) (fun _ _ _ _ _ h => h.elim)
  obtain ⟨rfl, hn9, g11, p11⟩ := hq
  subst hn9
  simp only [Option.toList_some, Option.toList_none, List.cons_append, List.nil_append]
  have eN11 : x + 550 + 28 = x + 578 := by omega
  rw [eN11]
  have ht11 : ∀ a, a < x + 550 → t11 a = t10 a ∧ ρ11 a = r10 a := fun a ha => ⟨(g11 a ha).1.trans (by simp only [jk_tg]; rw [if_neg (by omega)]), (g11 a ha).2.2.trans (by funext j; simp only [jk_zr]; rw [if_neg (by omega)])⟩
  have hs11 : ∀ a, a < x + 550 → σ11 a = σ10 a := fun a ha => (g11 a ha).2.1.trans (by funext j; simp only [jk_zr]; rw [if_neg (by omega)])
  have hx11 : t11 x = some (.inr 12) := (ht11 x (by omega)).1.trans hx10
  refine jk_putAF (q := 169) (k := 12) 11 11 rfl (by first | assumption | (simp only [jk_tg]; (repeat rw [if_neg (by omega)]); assumption)) rfl rfl rfl rfl (by first | exact Or.inl ⟨_, rfl⟩ | exact Or.inr ⟨_, rfl⟩) jw_386 dX12_init_166 rfl ?_
  obtain ⟨r11, hr11⟩ : ∃ r, r = jk_up ρ11 x 11 (some (x + 550)) := ⟨_, rfl⟩
  rw [← hr11]
  have S11 : cl_at t11 r11 (x + 2) := by rw [hr11]; exact cl_at_up (cl_at_ext ht11 (by omega) S10) (by omega)
  have B411 : cl_at t11 r11 (x + 48) := by rw [hr11]; exact cl_at_up (cl_at_ext ht11 (by omega) B410) (by omega)
  have SN11 : cl_at t11 r11 (x + 94) := by rw [hr11]; exact cl_at_up (cl_at_ext ht11 (by omega) SN10) (by omega)
  have H11 : hs_at t11 r11 (x + 140) := by rw [hr11]; exact hs_at_up (hs_at_ext ht11 (by omega) H10) (by omega)
  have F11 : fo_at t11 r11 (x + 512) (x + 2) := by rw [hr11]; exact fo_at_up (fo_at_ext ht11 (by omega) F10) (by omega) (by omega)
  have WA11 : wa_at t11 r11 (x + 522) (x + 512) (x + 2) := by rw [hr11]; exact wa_at_upl (wa_at_ext ht11 (by omega) WA10) (by omega)
  have Y11 : sh_at t11 r11 (x + 528) (x + 2) := by rw [hr11]; exact sh_at_up (sh_at_ext ht11 (by omega) Y10) (by omega)
  have HE11 : he_at t11 r11 (x + 534) (x + 512) (x + 2) := by rw [hr11]; exact he_at_up (he_at_ext ht11 (by omega) HE10) (by omega)
  have BA11 : ba_at t11 r11 (x + 546) (x + 2) := by rw [hr11]; exact ba_at_up (ba_at_ext ht11 (by omega) BA10) (by omega)
  have CH11 : ch_at t11 r11 (x + 548) (x + 528) (x + 522) (x + 512) (x + 2) := by rw [hr11]; exact ch_at_up (ch_at_ext ht11 (by omega) CH10) (by omega)
  have SC11 : sc_at t11 r11 (x + 550) := by rw [hr11]; exact sc_at_up p11.1 (by omega)
  have f1_11 : r11 x 0 = some (x + 2) := by rw [hr11]; simp only [jk_up]; rw [if_neg (by omega), (ht11 x (by omega)).2]; exact f1_10
  have f2_11 : r11 x 1 = some (x + 48) := by rw [hr11]; simp only [jk_up]; rw [if_neg (by omega), (ht11 x (by omega)).2]; exact f2_10
  have f3_11 : r11 x 2 = some (x + 94) := by rw [hr11]; simp only [jk_up]; rw [if_neg (by omega), (ht11 x (by omega)).2]; exact f3_10
  have f4_11 : r11 x 4 = some (x + 140) := by rw [hr11]; simp only [jk_up]; rw [if_neg (by omega), (ht11 x (by omega)).2]; exact f4_10
  have f5_11 : r11 x 5 = some (x + 512) := by rw [hr11]; simp only [jk_up]; rw [if_neg (by omega), (ht11 x (by omega)).2]; exact f5_10
  have f6_11 : r11 x 6 = some (x + 522) := by rw [hr11]; simp only [jk_up]; rw [if_neg (by omega), (ht11 x (by omega)).2]; exact f6_10
  have f7_11 : r11 x 7 = some (x + 528) := by rw [hr11]; simp only [jk_up]; rw [if_neg (by omega), (ht11 x (by omega)).2]; exact f7_10
  have f8_11 : r11 x 8 = some (x + 534) := by rw [hr11]; simp only [jk_up]; rw [if_neg (by omega), (ht11 x (by omega)).2]; exact f8_10
  have f9_11 : r11 x 9 = some (x + 546) := by rw [hr11]; simp only [jk_up]; rw [if_neg (by omega), (ht11 x (by omega)).2]; exact f9_10
  have f10_11 : r11 x 10 = some (x + 548) := by rw [hr11]; simp only [jk_up]; rw [if_neg (by omega), (ht11 x (by omega)).2]; exact f10_10
  have f11_11 : r11 x 11 = some (x + 550) := by rw [hr11]; simp [jk_up]
  have ro11 : ∀ a, a < x → r11 a = ρ a := fun a ha => by rw [hr11]; funext j; simp only [jk_up]; rw [if_neg (by omega), (ht11 a (by omega)).2, ro10 a ha]
  have to11 : ∀ a, a < x → t11 a = t a ∧ σ11 a = σ a := fun a ha => ⟨(ht11 a (by omega)).1.trans (to10 a ha).1, (hs11 a (by omega)).trans (to10 a ha).2⟩
  have sx11 : σ11 x = σ x := (hs11 x (by omega)).trans sx10
  have zr11 : ∀ a, x + 2 ≤ a → a < x + 512 → a ≠ x + 142 → a % 2 = x % 2 → σ11 a = fun _ => 0 := fun a h1 h2 h4 h3 => (hs11 a (by omega)).trans (zr10 a h1 h2 h4 h3)
  refine jk_aload_n (q := 170) dX12_init_169 rfl rfl ?_
  refine jk_new (q := 173) (k := 14) jw_342 jw_343 jw_12 (by decide) (by decide) dX12_init_170 rfl ?_
  refine jk_dup (q := 174) dX12_init_173 rfl rfl ?_
  refine jk_cI0g (q := 177) (c_J4_init2 (b := x + 578) hz (by simp [jk_tg]) rfl) jm_J4_init_da8c8 jw_344 rfl rfl (by decide) (by decide) rfl dX12_init_174 rfl (fun v' n' t12 σ12 ρ12 hq => ?_) (fun _ _ _ _ _ h => h.elim)
  obtain ⟨rfl, hn9, g12, p12⟩ := hq
  subst hn9
  simp only [Option.toList_some, Option.toList_none, List.cons_append, List.nil_append]
  have eN12 : x + 578 + 4 = x + 582 := by omega
  rw [eN12]
  have ht12 : ∀ a, a < x + 578 → t12 a = t11 a ∧ ρ12 a = r11 a := fun a ha => ⟨(g12 a ha).1.trans (by simp only [jk_tg]; rw [if_neg (by omega)]), (g12 a ha).2.2.trans (by funext j; simp only [jk_zr]; rw [if_neg (by omega)])⟩
  have hs12 : ∀ a, a < x + 578 → σ12 a = σ11 a := fun a ha => (g12 a ha).2.1.trans (by funext j; simp only [jk_zr]; rw [if_neg (by omega)])
  have hx12 : t12 x = some (.inr 12) := (ht12 x (by omega)).1.trans hx11
  refine jk_putAF (q := 180) (k := 12) 12 12 rfl (by first | assumption | (simp only [jk_tg]; (repeat rw [if_neg (by omega)]); assumption)) rfl rfl rfl rfl (by first | exact Or.inl ⟨_, rfl⟩ | exact Or.inr ⟨_, rfl⟩) jw_387 dX12_init_177 rfl ?_
  obtain ⟨r12, hr12⟩ : ∃ r, r = jk_up ρ12 x 12 (some (x + 578)) := ⟨_, rfl⟩
  rw [← hr12]
  have S12 : cl_at t12 r12 (x + 2) := by rw [hr12]; exact cl_at_up (cl_at_ext ht12 (by omega) S11) (by omega)
  have B412 : cl_at t12 r12 (x + 48) := by rw [hr12]; exact cl_at_up (cl_at_ext ht12 (by omega) B411) (by omega)
  have SN12 : cl_at t12 r12 (x + 94) := by rw [hr12]; exact cl_at_up (cl_at_ext ht12 (by omega) SN11) (by omega)
  have H12 : hs_at t12 r12 (x + 140) := by rw [hr12]; exact hs_at_up (hs_at_ext ht12 (by omega) H11) (by omega)
  have F12 : fo_at t12 r12 (x + 512) (x + 2) := by rw [hr12]; exact fo_at_up (fo_at_ext ht12 (by omega) F11) (by omega) (by omega)
  have WA12 : wa_at t12 r12 (x + 522) (x + 512) (x + 2) := by rw [hr12]; exact wa_at_upl (wa_at_ext ht12 (by omega) WA11) (by omega)
  have Y12 : sh_at t12 r12 (x + 528) (x + 2) := by rw [hr12]; exact sh_at_up (sh_at_ext ht12 (by omega) Y11) (by omega)
  have HE12 : he_at t12 r12 (x + 534) (x + 512) (x + 2) := by rw [hr12]; exact he_at_up (he_at_ext ht12 (by omega) HE11) (by omega)
  have BA12 : ba_at t12 r12 (x + 546) (x + 2) := by rw [hr12]; exact ba_at_up (ba_at_ext ht12 (by omega) BA11) (by omega)
  have CH12 : ch_at t12 r12 (x + 548) (x + 528) (x + 522) (x + 512) (x + 2) := by rw [hr12]; exact ch_at_up (ch_at_ext ht12 (by omega) CH11) (by omega)
  have SC12 : sc_at t12 r12 (x + 550) := by rw [hr12]; exact sc_at_up (sc_at_ext ht12 (by omega) SC11) (by omega)
  have f1_12 : r12 x 0 = some (x + 2) := by rw [hr12]; simp only [jk_up]; rw [if_neg (by omega), (ht12 x (by omega)).2]; exact f1_11
  have f2_12 : r12 x 1 = some (x + 48) := by rw [hr12]; simp only [jk_up]; rw [if_neg (by omega), (ht12 x (by omega)).2]; exact f2_11
  have f3_12 : r12 x 2 = some (x + 94) := by rw [hr12]; simp only [jk_up]; rw [if_neg (by omega), (ht12 x (by omega)).2]; exact f3_11
  have f4_12 : r12 x 4 = some (x + 140) := by rw [hr12]; simp only [jk_up]; rw [if_neg (by omega), (ht12 x (by omega)).2]; exact f4_11
  have f5_12 : r12 x 5 = some (x + 512) := by rw [hr12]; simp only [jk_up]; rw [if_neg (by omega), (ht12 x (by omega)).2]; exact f5_11
  have f6_12 : r12 x 6 = some (x + 522) := by rw [hr12]; simp only [jk_up]; rw [if_neg (by omega), (ht12 x (by omega)).2]; exact f6_11
  have f7_12 : r12 x 7 = some (x + 528) := by rw [hr12]; simp only [jk_up]; rw [if_neg (by omega), (ht12 x (by omega)).2]; exact f7_11
  have f8_12 : r12 x 8 = some (x + 534) := by rw [hr12]; simp only [jk_up]; rw [if_neg (by omega), (ht12 x (by omega)).2]; exact f8_11
  have f9_12 : r12 x 9 = some (x + 546) := by rw [hr12]; simp only [jk_up]; rw [if_neg (by omega), (ht12 x (by omega)).2]; exact f9_11
  have f10_12 : r12 x 10 = some (x + 548) := by rw [hr12]; simp only [jk_up]; rw [if_neg (by omega), (ht12 x (by omega)).2]; exact f10_11
  have f11_12 : r12 x 11 = some (x + 550) := by rw [hr12]; simp only [jk_up]; rw [if_neg (by omega), (ht12 x (by omega)).2]; exact f11_11
  have f12_12 : r12 x 12 = some (x + 578) := by rw [hr12]; simp [jk_up]
  have ro12 : ∀ a, a < x → r12 a = ρ a := fun a ha => by rw [hr12]; funext j; simp only [jk_up]; rw [if_neg (by omega), (ht12 a (by omega)).2, ro11 a ha]
  have to12 : ∀ a, a < x → t12 a = t a ∧ σ12 a = σ a := fun a ha => ⟨(ht12 a (by omega)).1.trans (to11 a ha).1, (hs12 a (by omega)).trans (to11 a ha).2⟩
  have sx12 : σ12 x = σ x := (hs12 x (by omega)).trans sx11
  have zr12 : ∀ a, x + 2 ≤ a → a < x + 512 → a ≠ x + 142 → a % 2 = x % 2 → σ12 a = fun _ => 0 := fun a h1 h2 h4 h3 => (hs12 a (by omega)).trans (zr11 a h1 h2 h4 h3)
  refine jk_aload_n (q := 181) dX12_init_180 rfl rfl ?_
  refine jk_iconst (q := 182) dX12_init_181 rfl ?_
  refine jk_putIR (q := 185) (k := 12) 13 13 rfl (by first | assumption | (simp only [jk_tg]; (repeat rw [if_neg (by omega)]); assumption)) (by first | exact jk_row_same _ _ _ | rfl) rfl rfl rfl jw_388 dX12_init_182 rfl ?_
  refine jk_aload_n (q := 186) dX12_init_185 rfl rfl ?_
  refine jk_iconst (q := 187) dX12_init_186 rfl ?_
  refine jk_putIR (q := 190) (k := 12) 14 14 rfl (by first | assumption | (simp only [jk_tg]; (repeat rw [if_neg (by omega)]); assumption)) (by first | exact jk_row_same _ _ _ | rfl) rfl rfl rfl jw_389 dX12_init_187 rfl ?_
  exact jk_ret rfl dX12_init_190 (by 
          have e12 : σ12 (x + 578) 3 = 0 := by rw [p12.2.1, jk_set_ne _ _ (by decide)]; exact if_pos rfl
          have eq1 : σ12 (x + 550) = fun _ => 0 := (hs12 _ (by omega)).trans (by rw [p11.2.1]; exact jk_zr_same _ _)
          have eq2 : σ12 (x + 552) = fun _ => 0 := (hs12 _ (by omega)).trans p11.2.2.1
          have hne : ∀ a, a ≠ x → (jk_row (jk_row σ12 x (jk_set (σ12 x) 13 (-1))) x (jk_set (jk_set (σ12 x) 13 (-1)) 14 (-1))) a = σ12 a := fun a ha => by rw [jk_row_ne _ _ ha, jk_row_ne _ _ ha]
          refine ⟨rfl, rfl, fun a ha => ⟨(to12 a ha).1, (hne a (by omega)).trans (to12 a ha).2, ro12 a ha⟩, ⟨⟨hx12, ⟨f1_12, f2_12, f3_12, f4_12, f5_12, f6_12, f7_12, f8_12, f9_12, f10_12, f11_12, f12_12⟩, B412, SN12, H12, HE12, BA12, CH12, SC12⟩, ?_, by rw [hne _ (by omega)]; exact e12, by rw [jk_row_same, sx12], fun a h1 h2 h4 h3 => (hne a (by omega)).trans (zr12 a h1 h2 h4 h3), (hne _ (by omega)).trans eq1, (hne _ (by omega)).trans eq2⟩, (hne _ (by omega)).trans p12.2.2, fun i hi => (hne _ (by omega)).trans ((hs12 _ (by omega)).trans (p11.2.2.2 i hi))⟩
          obtain ⟨q1, q2, q3, q4, q5, q6⟩ := p12.1
          exact ⟨q1, q2, by rw [hr12]; simp only [jk_up]; rw [if_neg (by omega)]; exact q3, by rw [hne _ (by omega)]; exact q4, q5, q6⟩)
end L9

