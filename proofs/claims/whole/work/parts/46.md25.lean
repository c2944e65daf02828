section MD25
theorem jk_zr_same (f : jk_I) (a : Nat) : jk_zr f a 0 a = fun _ => 0 := funext fun _ => if_pos rfl
/-- the new model: its places, its fields at the start, all else 0 -/
def md_new (m : Nat) (t : jk_T) (σ : jk_I) (ρ : jk_P) : jk_Q := fun v n' t' σ' ρ' => v = none ∧ n' = m + 30 ∧ md_at t' ρ' m ∧ (∀ a, a < m + 2 → t' a = t a) ∧ (∀ a, a < m → σ' a = σ a ∧ ρ' a = ρ a) ∧ σ' m = jk_set (jk_set (σ m) 8 (-1)) 9 (-1) ∧ ∀ a, m < a → a < m + 30 → a % 2 = m % 2 → σ' a = fun _ => 0
theorem c_X13_init {G : jk_G} {n : Nat} {t : jk_T} {σ : jk_I} {ρ : jk_P} {m : Nat} {O : Int → Int} (hm0 : t m = some (.inr 13)) (ho : σ m = O) (hn : n = m + 2) : jk_K G yX13_init mX13_init 14 3148 [.ref m] n t σ ρ (md_new m t σ ρ) jk_no := by
  subst hn
  refine jk_entryB (ls := [some (.ref m)]) jm_X13_init.1 rfl rfl rfl ?_
  refine jk_aload_n (q := 1) dX13_init_0 rfl rfl ?_
  refine jk_obj (q := 4) jw_1847 rfl rfl dX13_init_1 rfl ?_
  refine jk_aload_n (q := 5) dX13_init_4 rfl rfl ?_
  refine jk_sipush (q := 8) (y := 240) dX13_init_5 rfl (by decide) ?_
  refine jk_newarr (q := 10) (atype := .int) (ty := .int) (len := 240) rfl jw_163 rfl (by decide) (by decide) (by decide) dX13_init_8 rfl ?_
  refine jk_putAF (q := 13) (k := 13) 0 0 rfl (by (simp only [jk_tg]; (repeat rw [if_neg (by omega)]); exact hm0)) rfl rfl rfl rfl (by first | exact Or.inl ⟨_, rfl⟩ | exact Or.inr ⟨_, rfl⟩) jw_1848 dX13_init_10 rfl ?_
  refine jk_aload_n (q := 14) dX13_init_13 rfl rfl ?_
  refine jk_sipush (q := 17) (y := 240) dX13_init_14 rfl (by decide) ?_
  refine jk_newarr (q := 19) (atype := .int) (ty := .int) (len := 240) rfl jw_163 rfl (by decide) (by decide) (by decide) dX13_init_17 rfl ?_
  refine jk_putAF (q := 22) (k := 13) 1 1 rfl (by (simp only [jk_tg]; (repeat rw [if_neg (by omega)]); exact hm0)) rfl rfl rfl rfl (by first | exact Or.inl ⟨_, rfl⟩ | exact Or.inr ⟨_, rfl⟩) jw_1849 dX13_init_19 rfl ?_
  refine jk_aload_n (q := 23) dX13_init_22 rfl rfl ?_
  refine jk_sipush (q := 26) (y := 1920) dX13_init_23 rfl (by decide) ?_
  refine jk_newarr (q := 28) (atype := .int) (ty := .int) (len := 1920) rfl jw_163 rfl (by decide) (by decide) (by decide) dX13_init_26 rfl ?_
  refine jk_putAF (q := 31) (k := 13) 2 2 rfl (by (simp only [jk_tg]; (repeat rw [if_neg (by omega)]); exact hm0)) rfl rfl rfl rfl (by first | exact Or.inl ⟨_, rfl⟩ | exact Or.inr ⟨_, rfl⟩) jw_1850 dX13_init_28 rfl ?_
  refine jk_aload_n (q := 32) dX13_init_31 rfl rfl ?_
  refine jk_sipush (q := 35) (y := 240) dX13_init_32 rfl (by decide) ?_
  refine jk_newarr (q := 37) (atype := .int) (ty := .int) (len := 240) rfl jw_163 rfl (by decide) (by decide) (by decide) dX13_init_35 rfl ?_
  refine jk_putAF (q := 40) (k := 13) 4 4 rfl (by (simp only [jk_tg]; (repeat rw [if_neg (by omega)]); exact hm0)) rfl rfl rfl rfl (by first | exact Or.inl ⟨_, rfl⟩ | exact Or.inr ⟨_, rfl⟩) jw_1852 dX13_init_37 rfl ?_
  refine jk_aload_n (q := 41) dX13_init_40 rfl rfl ?_
  refine jk_bipush (q := 43) (y := 60) dX13_init_41 rfl (by decide) ?_
  refine jk_newarr (q := 45) (atype := .char) (ty := .char) (len := 60) rfl jw_342 rfl (by decide) (by decide) (by decide) dX13_init_43 rfl ?_
  refine jk_putAF (q := 48) (k := 13) 6 6 rfl (by (simp only [jk_tg]; (repeat rw [if_neg (by omega)]); exact hm0)) rfl rfl rfl rfl (by first | exact Or.inl ⟨_, rfl⟩ | exact Or.inr ⟨_, rfl⟩) jw_1854 dX13_init_45 rfl ?_
  refine jk_aload_n (q := 49) dX13_init_48 rfl rfl ?_
  refine jk_iconst (q := 50) dX13_init_49 rfl ?_
  refine jk_putIR (q := 53) (k := 13) 8 8 rfl (by (simp only [jk_tg]; (repeat rw [if_neg (by omega)]); exact hm0)) (by first | exact jk_row_same _ _ _ | exact ho | (rewrite [jk_row_ne _ _ (by omega)]; first | exact jk_row_same _ _ _ | exact ho | (rewrite [jk_row_ne _ _ (by omega)]; first | exact jk_row_same _ _ _ | exact ho | (rewrite [jk_row_ne _ _ (by omega)]; first | exact jk_row_same _ _ _ | exact ho | (rewrite [jk_row_ne _ _ (by omega)]; first | exact ho | rfl)))) | ((repeat rewrite [jk_zr_row _ _ (by omega)]); first | exact ho | exact jk_row_same _ _ _)) rfl rfl rfl jw_1856 dX13_init_50 rfl ?_
  refine jk_aload_n (q := 54) dX13_init_53 rfl rfl ?_
  refine jk_iconst (q := 55) dX13_init_54 rfl ?_
  refine jk_putIR (q := 58) (k := 13) 9 9 rfl (by (simp only [jk_tg]; (repeat rw [if_neg (by omega)]); exact hm0)) (by first | exact jk_row_same _ _ _ | exact ho | (rewrite [jk_row_ne _ _ (by omega)]; first | exact jk_row_same _ _ _ | exact ho | (rewrite [jk_row_ne _ _ (by omega)]; first | exact jk_row_same _ _ _ | exact ho | (rewrite [jk_row_ne _ _ (by omega)]; first | exact jk_row_same _ _ _ | exact ho | (rewrite [jk_row_ne _ _ (by omega)]; first | exact ho | rfl)))) | ((repeat rewrite [jk_zr_row _ _ (by omega)]); first | exact ho | exact jk_row_same _ _ _)) rfl rfl rfl jw_1857 dX13_init_55 rfl ?_
  refine jk_aload_n (q := 59) dX13_init_58 rfl rfl ?_
  refine jk_bipush (q := 61) (y := 60) dX13_init_59 rfl (by decide) ?_
  refine jk_newarr (q := 63) (atype := .char) (ty := .char) (len := 60) rfl jw_342 rfl (by decide) (by decide) (by decide) dX13_init_61 rfl ?_
  refine jk_putAF (q := 66) (k := 13) 10 10 rfl (by (simp only [jk_tg]; (repeat rw [if_neg (by omega)]); exact hm0)) rfl rfl rfl rfl (by first | exact Or.inl ⟨_, rfl⟩ | exact Or.inr ⟨_, rfl⟩) jw_1858 dX13_init_63 rfl ?_
  refine jk_aload_n (q := 67) dX13_init_66 rfl rfl ?_
  refine jk_bipush (q := 69) (y := 16) dX13_init_67 rfl (by decide) ?_
  refine jk_newarr (q := 71) (atype := .int) (ty := .int) (len := 16) rfl jw_163 rfl (by decide) (by decide) (by decide) dX13_init_69 rfl ?_
  refine jk_putAF (q := 74) (k := 13) 13 13 rfl (by (simp only [jk_tg]; (repeat rw [if_neg (by omega)]); exact hm0)) rfl rfl rfl rfl (by first | exact Or.inl ⟨_, rfl⟩ | exact Or.inr ⟨_, rfl⟩) jw_1861 dX13_init_71 rfl ?_
  refine jk_aload_n (q := 75) dX13_init_74 rfl rfl ?_
  refine jk_bipush (q := 77) (y := 10) dX13_init_75 rfl (by decide) ?_
  refine jk_newarr (q := 79) (atype := .int) (ty := .int) (len := 10) rfl jw_163 rfl (by decide) (by decide) (by decide) dX13_init_77 rfl ?_
  refine jk_putAF (q := 82) (k := 13) 14 14 rfl (by (simp only [jk_tg]; (repeat rw [if_neg (by omega)]); exact hm0)) rfl rfl rfl rfl (by first | exact Or.inl ⟨_, rfl⟩ | exact Or.inr ⟨_, rfl⟩) jw_1862 dX13_init_79 rfl ?_
  refine jk_aload_n (q := 83) dX13_init_82 rfl rfl ?_
  refine jk_bipush (q := 85) (y := 10) dX13_init_83 rfl (by decide) ?_
  refine jk_newarr (q := 87) (atype := .int) (ty := .int) (len := 10) rfl jw_163 rfl (by decide) (by decide) (by decide) dX13_init_85 rfl ?_
  refine jk_putAF (q := 90) (k := 13) 15 15 rfl (by (simp only [jk_tg]; (repeat rw [if_neg (by omega)]); exact hm0)) rfl rfl rfl rfl (by first | exact Or.inl ⟨_, rfl⟩ | exact Or.inr ⟨_, rfl⟩) jw_1863 dX13_init_87 rfl ?_
  refine jk_aload_n (q := 91) dX13_init_90 rfl rfl ?_
  refine jk_bipush (q := 93) (y := 10) dX13_init_91 rfl (by decide) ?_
  refine jk_newarr (q := 95) (atype := .boolean) (ty := .boolean) (len := 10) rfl jw_162 rfl (by decide) (by decide) (by decide) dX13_init_93 rfl ?_
  refine jk_putAF (q := 98) (k := 13) 16 16 rfl (by (simp only [jk_tg]; (repeat rw [if_neg (by omega)]); exact hm0)) rfl rfl rfl rfl (by first | exact Or.inl ⟨_, rfl⟩ | exact Or.inr ⟨_, rfl⟩) jw_1864 dX13_init_95 rfl ?_
  refine jk_aload_n (q := 99) dX13_init_98 rfl rfl ?_
  refine jk_bipush (q := 101) (y := 16) dX13_init_99 rfl (by decide) ?_
  refine jk_newarr (q := 103) (atype := .int) (ty := .int) (len := 16) rfl jw_163 rfl (by decide) (by decide) (by decide) dX13_init_101 rfl ?_
  refine jk_putAF (q := 106) (k := 13) 17 17 rfl (by (simp only [jk_tg]; (repeat rw [if_neg (by omega)]); exact hm0)) rfl rfl rfl rfl (by first | exact Or.inl ⟨_, rfl⟩ | exact Or.inr ⟨_, rfl⟩) jw_1865 dX13_init_103 rfl ?_
  refine jk_aload_n (q := 107) dX13_init_106 rfl rfl ?_
  refine jk_bipush (q := 109) (y := 16) dX13_init_107 rfl (by decide) ?_
  refine jk_newarr (q := 111) (atype := .int) (ty := .int) (len := 16) rfl jw_163 rfl (by decide) (by decide) (by decide) dX13_init_109 rfl ?_
  refine jk_putAF (q := 114) (k := 13) 18 18 rfl (by (simp only [jk_tg]; (repeat rw [if_neg (by omega)]); exact hm0)) rfl rfl rfl rfl (by first | exact Or.inl ⟨_, rfl⟩ | exact Or.inr ⟨_, rfl⟩) jw_1866 dX13_init_111 rfl ?_
  refine jk_aload_n (q := 115) dX13_init_114 rfl rfl ?_
  refine jk_bipush (q := 117) (y := 10) dX13_init_115 rfl (by decide) ?_
  refine jk_newarr (q := 119) (atype := .int) (ty := .int) (len := 10) rfl jw_163 rfl (by decide) (by decide) (by decide) dX13_init_117 rfl ?_
  refine jk_putAF (q := 122) (k := 13) 19 19 rfl (by (simp only [jk_tg]; (repeat rw [if_neg (by omega)]); exact hm0)) rfl rfl rfl rfl (by first | exact Or.inl ⟨_, rfl⟩ | exact Or.inr ⟨_, rfl⟩) jw_1867 dX13_init_119 rfl ?_
  refine jk_aload_n (q := 123) dX13_init_122 rfl rfl ?_
  refine jk_sipush (q := 126) (y := 300) dX13_init_123 rfl (by decide) ?_
  refine jk_newarr (q := 128) (atype := .int) (ty := .int) (len := 300) rfl jw_163 rfl (by decide) (by decide) (by decide) dX13_init_126 rfl ?_
  refine jk_putAF (q := 131) (k := 13) 22 22 rfl (by (simp only [jk_tg]; (repeat rw [if_neg (by omega)]); exact hm0)) rfl rfl rfl rfl (by first | exact Or.inl ⟨_, rfl⟩ | exact Or.inr ⟨_, rfl⟩) jw_1870 dX13_init_128 rfl ?_
  exact jk_ret rfl dX13_init_131 (by
    refine ⟨rfl, by omega, ⟨by simp only [jk_tg]; (repeat rw [if_neg (by omega)]); exact hm0, fun k g h => ?_, fun i k h => ?_⟩, fun a ha => by simp only [jk_tg]; (repeat rw [if_neg (by omega)]), fun a ha => ⟨?_, ?_⟩, ?_, fun a h1 h2 h3 => ?_⟩
    · unfold md_t at h
      split at h <;> first | (cases h; simp [jk_tg]; done) | (cases h; done)
    · unfold md_r at h
      split at h <;> first | (cases h; done) | (cases h; simp only [jk_up, jk_zr]; (repeat first | rw [if_pos (by exact ⟨rfl, rfl⟩)] | rw [if_neg (by omega)]); done) | (cases h; simp only [jk_up, jk_zr]; (repeat first | rw [if_pos (by exact ⟨rfl, rfl⟩)] | rw [if_neg (by omega)]); rfl)
    · (repeat first | rewrite [jk_zr_row _ _ (by omega)] | rewrite [jk_row_ne _ _ (by omega)]); rfl
    · funext j; simp only [jk_up, jk_zr]; (repeat rw [if_neg (by omega)])
    · (repeat first | rewrite [jk_zr_row _ _ (by omega)] | rewrite [jk_row_ne _ _ (by omega)]); rw [jk_row_same, ho]
    · have h9 : a = m + 2 ∨ a = m + 4 ∨ a = m + 6 ∨ a = m + 8 ∨ a = m + 10 ∨ a = m + 12 ∨ a = m + 14 ∨ a = m + 16 ∨ a = m + 18 ∨ a = m + 20 ∨ a = m + 22 ∨ a = m + 24 ∨ a = m + 26 ∨ a = m + 28 := by omega
      rcases h9 with rfl | rfl | rfl | rfl | rfl | rfl | rfl | rfl | rfl | rfl | rfl | rfl | rfl | rfl <;> ((repeat first | rewrite [jk_zr_row _ _ (by omega)] | rewrite [jk_row_ne _ _ (by omega)]); exact jk_zr_same _ _))
end MD25
