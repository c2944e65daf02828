section CC5
/-- a StringBuilder at b: its bytes at v (K of them), L letters, all of one byte -/
def sb_at (t : jk_T) (ρ : jk_P) (σ : jk_I) (b v K : Nat) : Prop := t b = some (.inr 14) ∧ t v = some (.inl (.byte, K)) ∧ ρ b 0 = some v ∧ σ b 1 = 0 ∧ K ≤ 65536 ∧ (b < v)
theorem c_J5_init_d00df {G : jk_G} {n : Nat} {t : jk_T} {σ : jk_I} {ρ : jk_P} {b : Nat}  (hz : zz_ok G) (hm0 : t b = some (.inr 14)) (hn : n = b + 2) : jk_K G yJ5_init_d00df mJ5_init_d00df 1 16 [.ref b, jI 16] n t σ ρ (nw_Q b 4 t σ ρ (fun t' σ' ρ' => sb_at t' ρ' σ' b (b + 2) 16 ∧ σ' b = jk_set (σ b) 1 0)) jk_no := by
  subst hn
  refine jk_entryB (ls := [some (.ref b), some (jI 16)]) jm_J5_init_d00df.1 rfl rfl rfl ?_
  refine jk_aload_n (q := 1) dJ5_init_d00df_0 rfl rfl ?_
  refine jk_obj (q := 4) jw_351 rfl rfl dJ5_init_d00df_1 rfl ?_
  refine jk_getsI (q := 7) (x := 1) (zz_cs hz) jw_352 dJ5_init_d00df_4 rfl ?_
  refine jk_ifN_eq (q := 10) (by decide) (by decide) dJ5_init_d00df_7 rfl rfl ?_
  refine jk_aload_n (q := 11) dJ5_init_d00df_10 rfl rfl ?_
  refine jk_iload_n (q := 12) dJ5_init_d00df_11 rfl rfl ?_
  refine jk_newarr (q := 14) (atype := .byte) (ty := .byte) (len := None) rfl jw_375 rfl (by decide) (by decide) (by decide) dJ5_init_d00df_12 rfl ?_
  refine jk_putA (q := 17) (k := 14) 0 0 rfl (by first | assumption | (simp only [jk_mt, jk_tg]; (repeat rw [if_neg (by omega)]); assumption)) rfl rfl (by first | exact Or.inl ⟨_, rfl⟩ | exact Or.inr ⟨_, rfl⟩) jw_361 dJ5_init_d00df_14 rfl ?_
  refine jk_aload_n (q := 18) dJ5_init_d00df_17 rfl rfl ?_
  refine jk_iconst (q := 19) dJ5_init_d00df_18 rfl ?_
  refine jk_putIR (q := 22) (k := 14) 1 1 rfl (by first | assumption | (simp only [jk_mt, jk_tg]; (repeat rw [if_neg (by omega)]); assumption)) (by first | rfl | assumption) rfl rfl rfl jw_362 dJ5_init_d00df_19 rfl ?_
  refine jk_goto (q := 38) dJ5_init_d00df_22 rfl ?_
  exact jk_ret rfl dJ5_init_d00df_38 (by
    refine ⟨rfl, by omega, fun a ha => ⟨by (try simp only [jk_mt, jk_tg, jk_mz, jk_mr, jk_zr, jk_up]); (repeat first | rw [if_pos (by first | omega | trivial | exact ⟨trivial, trivial⟩)] | rw [if_neg (by omega)]); all_goals rfl, by funext j; (try simp only [jk_mt, jk_tg, jk_mz, jk_mr, jk_zr, jk_up]); (repeat first | rw [if_pos (by first | omega | trivial | exact ⟨trivial, trivial⟩)] | rw [if_neg (by omega)]); all_goals rfl, by funext j; (try simp only [jk_mt, jk_tg, jk_mz, jk_mr, jk_zr, jk_up]); (repeat first | rw [if_pos (by first | omega | trivial | exact ⟨trivial, trivial⟩)] | rw [if_neg (by omega)]); all_goals rfl⟩, ?_⟩
    refine ⟨⟨by (try simp only [jk_mt, jk_tg, jk_mz, jk_mr, jk_zr, jk_up]); (repeat first | rw [if_pos (by first | omega | trivial | exact ⟨trivial, trivial⟩)] | rw [if_neg (by omega)]); all_goals exact hm0, (by (try simp only [jk_mt, jk_tg, jk_mz, jk_mr, jk_zr, jk_up]); (repeat first | rw [if_pos (by first | omega | trivial | exact ⟨trivial, trivial⟩)] | rw [if_neg (by omega)]); all_goals (first | rfl | assumption)), (by (try simp only [jk_mt, jk_tg, jk_mz, jk_mr, jk_zr, jk_up]); (repeat first | rw [if_pos (by first | omega | trivial | exact ⟨trivial, trivial⟩)] | rw [if_neg (by omega)]); all_goals (first | rfl | assumption)), ?_, by omega, by omega⟩, ?_⟩
    · rw [jk_row_same, jk_set_at]
    · rw [jk_row_same]; funext j; simp only [jk_set]; (try simp only [jk_mt, jk_tg, jk_mz, jk_mr, jk_zr, jk_up]); (repeat first | rw [if_pos (by first | omega | trivial | exact ⟨trivial, trivial⟩)] | rw [if_neg (by omega)]); all_goals rfl)
end CC5
