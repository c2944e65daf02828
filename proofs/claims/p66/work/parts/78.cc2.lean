section CC2
/-- a made thing at o: all before it is as it was, what comes next begins at o + sz -/
def nw_Q (o sz : Nat) (t : jk_T) (σ : jk_I) (ρ : jk_P) (Pp : jk_T → jk_I → jk_P → Prop) : jk_Q := fun v n' t' σ' ρ' => v = none ∧ n' = o + sz ∧ (∀ a, a < o → t' a = t a ∧ σ' a = σ a ∧ ρ' a = ρ a) ∧ Pp t' σ' ρ'
theorem nw_i0 {c : Prop} [Decidable c] {x : Int} (h : ¬ c → x = 0) : (if c then 0 else x) = 0 := by
  by_cases hc : c
  · exact if_pos hc
  · rw [if_neg hc]; exact h hc
theorem cl_at_ext {t t' : jk_T} {ρ ρ' : jk_P} {s N : Nat} (h : ∀ a, a < N → t' a = t a ∧ ρ' a = ρ a) (hN : s + 44 < N) (hs : cl_at t ρ s) : cl_at t' ρ' s := by
  obtain ⟨h1, h2, h3, h4⟩ := hs
  have hb : ∀ k v, cl_t k = some v → k ≤ 44 := by
    intro k v h
    unfold cl_t at h
    split at h <;> first | omega | cases h
  refine ⟨(h _ (by omega)).1.trans h1, fun k v hk => (h _ (by have := hb k v hk; omega)).1.trans (h2 k v hk), fun i k hk => by rw [(h s (by omega)).2]; exact h3 i k hk, fun q hq => ⟨by rw [(h _ (by omega)).2]; exact (h4 q hq).1, by rw [(h _ (by omega)).2]; exact (h4 q hq).2⟩⟩
theorem fo_at_ext {t t' : jk_T} {ρ ρ' : jk_P} {f s N : Nat} (h : ∀ a, a < N → t' a = t a ∧ ρ' a = ρ a) (hN : f + 8 < N) (hs : fo_at t ρ f s) : fo_at t' ρ' f s := by
  obtain ⟨h1, h2, h3, h4, h5, h6⟩ := hs
  have hb : ∀ k v, fo_t k = some v → k ≤ 8 := by
    intro k v h
    unfold fo_t at h
    split at h <;> first | omega | cases h
  refine ⟨(h _ (by omega)).1.trans h1, fun k v hk => (h _ (by have := hb k v hk; omega)).1.trans (h2 k v hk), fun i k hk => by rw [(h f (by omega)).2]; exact h3 i k hk, by rw [(h f (by omega)).2]; exact h4, cl_at_ext h (by omega) h5, h6⟩
theorem wa_at_ext {t t' : jk_T} {ρ ρ' : jk_P} {w f s N : Nat} (h : ∀ a, a < N → t' a = t a ∧ ρ' a = ρ a) (hN : w + 4 < N) (hs : wa_at t ρ w f s) : wa_at t' ρ' w f s := by
  obtain ⟨⟨a1, a2, a3⟩, ⟨b1, b2, b3, b4⟩, c, d⟩ := hs
  have e := (h w (by omega)).2
  exact ⟨⟨(h _ (by omega)).1.trans a1, (h _ (by omega)).1.trans a2, (h _ (by omega)).1.trans a3⟩, ⟨by rw [e]; exact b1, by rw [e]; exact b2, by rw [e]; exact b3, by rw [e]; exact b4⟩, fo_at_ext h (by omega) c, d⟩
theorem he_at_ext {t t' : jk_T} {ρ ρ' : jk_P} {w f s N : Nat} (h : ∀ a, a < N → t' a = t a ∧ ρ' a = ρ a) (hN : w + 10 < N) (hs : he_at t ρ w f s) : he_at t' ρ' w f s := by
  obtain ⟨⟨a1, a2, a3⟩, ⟨b1, b2, b3, b4, b5⟩, c, d⟩ := hs
  have e := (h w (by omega)).2
  exact ⟨⟨(h _ (by omega)).1.trans a1, (h _ (by omega)).1.trans a2, (h _ (by omega)).1.trans a3⟩, ⟨by rw [e]; exact b1, by rw [e]; exact b2, by rw [e]; exact b3, by rw [e]; exact b4, by rw [e]; exact b5⟩, wa_at_ext h (by omega) c, d⟩
theorem sh_at_ext {t t' : jk_T} {ρ ρ' : jk_P} {y s N : Nat} (h : ∀ a, a < N → t' a = t a ∧ ρ' a = ρ a) (hN : y + 4 < N) (hs : sh_at t ρ y s) : sh_at t' ρ' y s := by
  obtain ⟨⟨a1, a2, a3⟩, ⟨b1, b2, b3⟩, c, d⟩ := hs
  have e := (h y (by omega)).2
  exact ⟨⟨(h _ (by omega)).1.trans a1, (h _ (by omega)).1.trans a2, (h _ (by omega)).1.trans a3⟩, ⟨by rw [e]; exact b1, by rw [e]; exact b2, by rw [e]; exact b3⟩, cl_at_ext h (by omega) c, d⟩
theorem ba_at_ext {t t' : jk_T} {ρ ρ' : jk_P} {y s N : Nat} (h : ∀ a, a < N → t' a = t a ∧ ρ' a = ρ a) (hN : y < N) (hs : ba_at t ρ y s) : ba_at t' ρ' y s := by
  obtain ⟨⟨a1, b1⟩, c, d⟩ := hs
  exact ⟨⟨(h _ (by omega)).1.trans a1, by rw [(h y hN).2]; exact b1⟩, cl_at_ext h (by omega) c, d⟩
/-- all rows of a new survey are zero -/
def cl_new (s : Nat) (σ0 : jk_I) (t : jk_T) (σ : jk_I) (ρ : jk_P) : Prop := cl_at t ρ s ∧ σ s = σ0 s ∧ ∀ a, s < a → a < s + 46 → a % 2 = s % 2 → σ a = fun _ => 0
theorem c_X9_init {G : jk_G} {n : Nat} {t : jk_T} {σ : jk_I} {ρ : jk_P} {s : Nat}  (hm0 : t s = some (.inr 9)) (hn : n = s + 2) : jk_K G yX9_init mX9_init 22 244 [.ref s] n t σ ρ (nw_Q s 46 t σ ρ (cl_new s σ)) jk_no := by
  subst hn
  refine jk_entryB (ls := [some (.ref s)]) jm_X9_init.1 rfl rfl rfl ?_
  refine jk_aload_n (q := 1) dX9_init_0 rfl rfl ?_
  refine jk_obj (q := 4) jw_51 rfl rfl dX9_init_1 rfl ?_
  refine jk_aload_n (q := 5) dX9_init_4 rfl rfl ?_
  refine jk_bipush (q := 7) (y := 10) dX9_init_5 rfl (by decide) ?_
  refine jk_newarr (q := 9) (atype := .boolean) (ty := .boolean) (len := 10) rfl jw_161 rfl (by decide) (by decide) (by decide) dX9_init_7 rfl ?_
  refine jk_putAF (q := 12) (k := 9) 1 1 rfl (by first | assumption | (simp only [jk_mt, jk_tg]; (repeat rw [if_neg (by omega)]); assumption)) rfl rfl rfl rfl (by first | exact Or.inl ⟨_, rfl⟩ | exact Or.inr ⟨_, rfl⟩) jw_59 dX9_init_9 rfl ?_
  refine jk_aload_n (q := 13) dX9_init_12 rfl rfl ?_
  refine jk_bipush (q := 15) (y := 10) dX9_init_13 rfl (by decide) ?_
  refine jk_newarr (q := 17) (atype := .int) (ty := .int) (len := 10) rfl jw_162 rfl (by decide) (by decide) (by decide) dX9_init_15 rfl ?_
  refine jk_putAF (q := 20) (k := 9) 2 2 rfl (by first | assumption | (simp only [jk_mt, jk_tg]; (repeat rw [if_neg (by omega)]); assumption)) rfl rfl rfl rfl (by first | exact Or.inl ⟨_, rfl⟩ | exact Or.inr ⟨_, rfl⟩) jw_63 dX9_init_17 rfl ?_
  refine jk_aload_n (q := 21) dX9_init_20 rfl rfl ?_
  refine jk_bipush (q := 23) (y := 16) dX9_init_21 rfl (by decide) ?_
  refine jk_newarr (q := 25) (atype := .int) (ty := .int) (len := 16) rfl jw_162 rfl (by decide) (by decide) (by decide) dX9_init_23 rfl ?_
  refine jk_putAF (q := 28) (k := 9) 4 4 rfl (by first | assumption | (simp only [jk_mt, jk_tg]; (repeat rw [if_neg (by omega)]); assumption)) rfl rfl rfl rfl (by first | exact Or.inl ⟨_, rfl⟩ | exact Or.inr ⟨_, rfl⟩) jw_73 dX9_init_25 rfl ?_
  refine jk_aload_n (q := 29) dX9_init_28 rfl rfl ?_
  refine jk_bipush (q := 31) (y := 16) dX9_init_29 rfl (by decide) ?_
  refine jk_newarr (q := 33) (atype := .int) (ty := .int) (len := 16) rfl jw_162 rfl (by decide) (by decide) (by decide) dX9_init_31 rfl ?_
  refine jk_putAF (q := 36) (k := 9) 5 5 rfl (by first | assumption | (simp only [jk_mt, jk_tg]; (repeat rw [if_neg (by omega)]); assumption)) rfl rfl rfl rfl (by first | exact Or.inl ⟨_, rfl⟩ | exact Or.inr ⟨_, rfl⟩) jw_79 dX9_init_33 rfl ?_
  refine jk_aload_n (q := 37) dX9_init_36 rfl rfl ?_
  refine jk_bipush (q := 39) (y := 16) dX9_init_37 rfl (by decide) ?_
  refine jk_newarr (q := 41) (atype := .int) (ty := .int) (len := 16) rfl jw_162 rfl (by decide) (by decide) (by decide) dX9_init_39 rfl ?_
  refine jk_putAF (q := 44) (k := 9) 6 6 rfl (by first | assumption | (simp only [jk_mt, jk_tg]; (repeat rw [if_neg (by omega)]); assumption)) rfl rfl rfl rfl (by first | exact Or.inl ⟨_, rfl⟩ | exact Or.inr ⟨_, rfl⟩) jw_85 dX9_init_41 rfl ?_
  refine jk_aload_n (q := 45) dX9_init_44 rfl rfl ?_
  refine jk_bipush (q := 47) (y := 16) dX9_init_45 rfl (by decide) ?_
  refine jk_newarr (q := 49) (atype := .int) (ty := .int) (len := 16) rfl jw_162 rfl (by decide) (by decide) (by decide) dX9_init_47 rfl ?_
  refine jk_putAF (q := 52) (k := 9) 7 7 rfl (by first | assumption | (simp only [jk_mt, jk_tg]; (repeat rw [if_neg (by omega)]); assumption)) rfl rfl rfl rfl (by first | exact Or.inl ⟨_, rfl⟩ | exact Or.inr ⟨_, rfl⟩) jw_91 dX9_init_49 rfl ?_
  refine jk_aload_n (q := 53) dX9_init_52 rfl rfl ?_
  refine jk_bipush (q := 55) (y := 16) dX9_init_53 rfl (by decide) ?_
  refine jk_newarr (q := 57) (atype := .int) (ty := .int) (len := 16) rfl jw_162 rfl (by decide) (by decide) (by decide) dX9_init_55 rfl ?_
  refine jk_putAF (q := 60) (k := 9) 8 8 rfl (by first | assumption | (simp only [jk_mt, jk_tg]; (repeat rw [if_neg (by omega)]); assumption)) rfl rfl rfl rfl (by first | exact Or.inl ⟨_, rfl⟩ | exact Or.inr ⟨_, rfl⟩) jw_93 dX9_init_57 rfl ?_
  refine jk_aload_n (q := 61) dX9_init_60 rfl rfl ?_
  refine jk_bipush (q := 63) (y := 16) dX9_init_61 rfl (by decide) ?_
  refine jk_newarr (q := 65) (atype := .boolean) (ty := .boolean) (len := 16) rfl jw_161 rfl (by decide) (by decide) (by decide) dX9_init_63 rfl ?_
  refine jk_putAF (q := 68) (k := 9) 9 9 rfl (by first | assumption | (simp only [jk_mt, jk_tg]; (repeat rw [if_neg (by omega)]); assumption)) rfl rfl rfl rfl (by first | exact Or.inl ⟨_, rfl⟩ | exact Or.inr ⟨_, rfl⟩) jw_95 dX9_init_65 rfl ?_
  refine jk_aload_n (q := 69) dX9_init_68 rfl rfl ?_
  refine jk_bipush (q := 71) (y := 16) dX9_init_69 rfl (by decide) ?_
  refine jk_newarr (q := 73) (atype := .boolean) (ty := .boolean) (len := 16) rfl jw_161 rfl (by decide) (by decide) (by decide) dX9_init_71 rfl ?_
  refine jk_putAF (q := 76) (k := 9) 10 10 rfl (by first | assumption | (simp only [jk_mt, jk_tg]; (repeat rw [if_neg (by omega)]); assumption)) rfl rfl rfl rfl (by first | exact Or.inl ⟨_, rfl⟩ | exact Or.inr ⟨_, rfl⟩) jw_98 dX9_init_73 rfl ?_
  refine jk_aload_n (q := 77) dX9_init_76 rfl rfl ?_
  refine jk_bipush (q := 79) (y := 16) dX9_init_77 rfl (by decide) ?_
  refine jk_newarr (q := 81) (atype := .int) (ty := .int) (len := 16) rfl jw_162 rfl (by decide) (by decide) (by decide) dX9_init_79 rfl ?_
  refine jk_putAF (q := 84) (k := 9) 11 11 rfl (by first | assumption | (simp only [jk_mt, jk_tg]; (repeat rw [if_neg (by omega)]); assumption)) rfl rfl rfl rfl (by first | exact Or.inl ⟨_, rfl⟩ | exact Or.inr ⟨_, rfl⟩) jw_101 dX9_init_81 rfl ?_
  refine jk_aload_n (q := 85) dX9_init_84 rfl rfl ?_
  refine jk_iconst (q := 86) dX9_init_85 rfl ?_
  refine jk_newarr (q := 88) (atype := .int) (ty := .int) (len := 4) rfl jw_162 rfl (by decide) (by decide) (by decide) dX9_init_86 rfl ?_
  refine jk_putAF (q := 91) (k := 9) 13 13 rfl (by first | assumption | (simp only [jk_mt, jk_tg]; (repeat rw [if_neg (by omega)]); assumption)) rfl rfl rfl rfl (by first | exact Or.inl ⟨_, rfl⟩ | exact Or.inr ⟨_, rfl⟩) jw_108 dX9_init_88 rfl ?_
  refine jk_aload_n (q := 92) dX9_init_91 rfl rfl ?_
  refine jk_iconst (q := 93) dX9_init_92 rfl ?_
  refine jk_newarr (q := 95) (atype := .int) (ty := .int) (len := 4) rfl jw_162 rfl (by decide) (by decide) (by decide) dX9_init_93 rfl ?_
  refine jk_putAF (q := 98) (k := 9) 14 14 rfl (by first | assumption | (simp only [jk_mt, jk_tg]; (repeat rw [if_neg (by omega)]); assumption)) rfl rfl rfl rfl (by first | exact Or.inl ⟨_, rfl⟩ | exact Or.inr ⟨_, rfl⟩) jw_111 dX9_init_95 rfl ?_
  refine jk_aload_n (q := 99) dX9_init_98 rfl rfl ?_
  refine jk_iconst (q := 100) dX9_init_99 rfl ?_
  refine jk_bipush (q := 102) (y := 10) dX9_init_100 rfl (by decide) ?_
  refine jk_mna (q := 106) (N := 4) (K := 10) rfl rfl (nm := "[[I") (by decide +kernel) jw_52 jw_53 jw_162 (by decide) (by decide) (by decide) (by decide) dX9_init_102 rfl ?_
  refine jk_putAF (q := 109) (k := 9) 15 15 rfl (by first | assumption | (simp only [jk_mt, jk_tg]; (repeat rw [if_neg (by omega)]); assumption)) rfl rfl rfl rfl (by first | exact Or.inl ⟨_, rfl⟩ | exact Or.inr ⟨_, rfl⟩) jw_115 dX9_init_106 rfl ?_
  refine jk_aload_n (q := 110) dX9_init_109 rfl rfl ?_
  refine jk_iconst (q := 111) dX9_init_110 rfl ?_
  refine jk_bipush (q := 113) (y := 10) dX9_init_111 rfl (by decide) ?_
  refine jk_mna (q := 117) (N := 4) (K := 10) rfl rfl (nm := "[[I") (by decide +kernel) jw_52 jw_53 jw_162 (by decide) (by decide) (by decide) (by decide) dX9_init_113 rfl ?_
  refine jk_putAF (q := 120) (k := 9) 16 16 rfl (by first | assumption | (simp only [jk_mt, jk_tg]; (repeat rw [if_neg (by omega)]); assumption)) rfl rfl rfl rfl (by first | exact Or.inl ⟨_, rfl⟩ | exact Or.inr ⟨_, rfl⟩) jw_118 dX9_init_117 rfl ?_
  exact jk_ret rfl dX9_init_120 (by
    refine ⟨rfl, by omega, fun a ha => ⟨by (try simp only [jk_mt, jk_tg, jk_mz, jk_mr, jk_zr, jk_up]); (repeat first | rw [if_pos (by first | omega | trivial | exact ⟨trivial, trivial⟩)] | rw [if_neg (by omega)]); all_goals rfl, by funext j; (try simp only [jk_mt, jk_tg, jk_mz, jk_mr, jk_zr, jk_up]); (repeat first | rw [if_pos (by first | omega | trivial | exact ⟨trivial, trivial⟩)] | rw [if_neg (by omega)]); all_goals rfl, by funext j; (try simp only [jk_mt, jk_tg, jk_mz, jk_mr, jk_zr, jk_up]); (repeat first | rw [if_pos (by first | omega | trivial | exact ⟨trivial, trivial⟩)] | rw [if_neg (by omega)]); all_goals rfl⟩, ?_⟩
    refine ⟨⟨by (try simp only [jk_mt, jk_tg, jk_mz, jk_mr, jk_zr, jk_up]); (repeat first | rw [if_pos (by first | omega | trivial | exact ⟨trivial, trivial⟩)] | rw [if_neg (by omega)]); all_goals exact hm0, fun k v h => ?_, fun i k h => ?_, fun q hq => ?_⟩, by funext j; (try simp only [jk_mt, jk_tg, jk_mz, jk_mr, jk_zr, jk_up]); (repeat first | rw [if_pos (by first | omega | trivial | exact ⟨trivial, trivial⟩)] | rw [if_neg (by omega)]), fun a h1 h2 h3 => by funext j; simp only [jk_mz, jk_zr]; (repeat refine nw_i0 (fun _ => ?_)); exfalso; omega⟩
    · unfold cl_t at h
      split at h <;> first | (cases h; done) | (cases h; (try simp only [jk_mt, jk_tg, jk_mz, jk_mr, jk_zr, jk_up]); (repeat first | rw [if_pos (by first | omega | trivial | exact ⟨trivial, trivial⟩)] | rw [if_neg (by omega)]); done) | (cases h; (try simp only [jk_mt, jk_tg, jk_mz, jk_mr, jk_zr, jk_up]); (repeat first | rw [if_pos (by first | omega | trivial | exact ⟨trivial, trivial⟩)] | rw [if_neg (by omega)]); rfl)
    · unfold cl_r at h
      split at h <;> first | (cases h; done) | (cases h; (try simp only [jk_mt, jk_tg, jk_mz, jk_mr, jk_zr, jk_up]); (repeat first | rw [if_pos (by first | omega | trivial | exact ⟨trivial, trivial⟩)] | rw [if_neg (by omega)]); done) | (cases h; (try simp only [jk_mt, jk_tg, jk_mz, jk_mr, jk_zr, jk_up]); (repeat first | rw [if_pos (by first | omega | trivial | exact ⟨trivial, trivial⟩)] | rw [if_neg (by omega)]); rfl)
    · constructor
      · (try simp only [jk_mt, jk_tg, jk_mz, jk_mr, jk_zr, jk_up]); (repeat first | rw [if_pos (by first | omega | trivial | exact ⟨trivial, trivial⟩)] | rw [if_neg (by omega)]); all_goals (refine congrArg some ?_; omega)
      · (try simp only [jk_mt, jk_tg, jk_mz, jk_mr, jk_zr, jk_up]); (repeat first | rw [if_pos (by first | omega | trivial | exact ⟨trivial, trivial⟩)] | rw [if_neg (by omega)]); all_goals (refine congrArg some ?_; omega))
theorem c_X3_init {G : jk_G} {n : Nat} {t : jk_T} {σ : jk_I} {ρ : jk_P} {f : Nat} {s : Nat} (hm0 : t f = some (.inr 3)) (hs : cl_at t ρ s) (hsf : s + 44 < f) (hn : n = f + 2) : jk_K G yX3_init mX3_init 4 52 [.ref f, .ref s] n t σ ρ (nw_Q f 10 t σ ρ (fun t' _ ρ' => fo_at t' ρ' f s)) jk_no := by
  subst hn
  refine jk_entryB (ls := [some (.ref f), some (.ref s)]) jm_X3_init.1 rfl rfl rfl ?_
  refine jk_aload_n (q := 1) dX3_init_0 rfl rfl ?_
  refine jk_obj (q := 4) jw_188 rfl rfl dX3_init_1 rfl ?_
  refine jk_aload_n (q := 5) dX3_init_4 rfl rfl ?_
  refine jk_bipush (q := 7) (y := 16) dX3_init_5 rfl (by decide) ?_
  refine jk_newarr (q := 9) (atype := .int) (ty := .int) (len := 16) rfl jw_162 rfl (by decide) (by decide) (by decide) dX3_init_7 rfl ?_
  refine jk_putAF (q := 12) (k := 3) 1 1 rfl (by first | assumption | (simp only [jk_mt, jk_tg]; (repeat rw [if_neg (by omega)]); assumption)) rfl rfl rfl rfl (by first | exact Or.inl ⟨_, rfl⟩ | exact Or.inr ⟨_, rfl⟩) jw_190 dX3_init_9 rfl ?_
  refine jk_aload_n (q := 13) dX3_init_12 rfl rfl ?_
  refine jk_bipush (q := 15) (y := 10) dX3_init_13 rfl (by decide) ?_
  refine jk_newarr (q := 17) (atype := .boolean) (ty := .boolean) (len := 10) rfl jw_161 rfl (by decide) (by decide) (by decide) dX3_init_15 rfl ?_
  refine jk_putAF (q := 20) (k := 3) 3 3 rfl (by first | assumption | (simp only [jk_mt, jk_tg]; (repeat rw [if_neg (by omega)]); assumption)) rfl rfl rfl rfl (by first | exact Or.inl ⟨_, rfl⟩ | exact Or.inr ⟨_, rfl⟩) jw_192 dX3_init_17 rfl ?_
  refine jk_aload_n (q := 21) dX3_init_20 rfl rfl ?_
  refine jk_bipush (q := 23) (y := 16) dX3_init_21 rfl (by decide) ?_
  refine jk_newarr (q := 25) (atype := .boolean) (ty := .boolean) (len := 16) rfl jw_161 rfl (by decide) (by decide) (by decide) dX3_init_23 rfl ?_
  refine jk_putAF (q := 28) (k := 3) 4 4 rfl (by first | assumption | (simp only [jk_mt, jk_tg]; (repeat rw [if_neg (by omega)]); assumption)) rfl rfl rfl rfl (by first | exact Or.inl ⟨_, rfl⟩ | exact Or.inr ⟨_, rfl⟩) jw_193 dX3_init_25 rfl ?_
  refine jk_aload_n (q := 29) dX3_init_28 rfl rfl ?_
  refine jk_bipush (q := 31) (y := 10) dX3_init_29 rfl (by decide) ?_
  refine jk_newarr (q := 33) (atype := .int) (ty := .int) (len := 10) rfl jw_162 rfl (by decide) (by decide) (by decide) dX3_init_31 rfl ?_
  refine jk_putAF (q := 36) (k := 3) 5 5 rfl (by first | assumption | (simp only [jk_mt, jk_tg]; (repeat rw [if_neg (by omega)]); assumption)) rfl rfl rfl rfl (by first | exact Or.inl ⟨_, rfl⟩ | exact Or.inr ⟨_, rfl⟩) jw_197 dX3_init_33 rfl ?_
  refine jk_aload_n (q := 37) dX3_init_36 rfl rfl ?_
  refine jk_aload_n (q := 38) dX3_init_37 rfl rfl ?_
  refine jk_putAF (q := 41) (k := 3) 0 0 rfl (by first | assumption | (simp only [jk_mt, jk_tg]; (repeat rw [if_neg (by omega)]); assumption)) rfl rfl rfl rfl (by first | exact Or.inl ⟨_, rfl⟩ | exact Or.inr ⟨_, rfl⟩) jw_189 dX3_init_38 rfl ?_
  exact jk_ret rfl dX3_init_41 (by
    refine ⟨rfl, by omega, fun a ha => ⟨by (try simp only [jk_mt, jk_tg, jk_mz, jk_mr, jk_zr, jk_up]); (repeat first | rw [if_pos (by first | omega | trivial | exact ⟨trivial, trivial⟩)] | rw [if_neg (by omega)]); all_goals rfl, by funext j; (try simp only [jk_mt, jk_tg, jk_mz, jk_mr, jk_zr, jk_up]); (repeat first | rw [if_pos (by first | omega | trivial | exact ⟨trivial, trivial⟩)] | rw [if_neg (by omega)]); all_goals rfl, by funext j; (try simp only [jk_mt, jk_tg, jk_mz, jk_mr, jk_zr, jk_up]); (repeat first | rw [if_pos (by first | omega | trivial | exact ⟨trivial, trivial⟩)] | rw [if_neg (by omega)]); all_goals rfl⟩, ?_⟩
    refine ⟨by (try simp only [jk_mt, jk_tg, jk_mz, jk_mr, jk_zr, jk_up]); (repeat first | rw [if_pos (by first | omega | trivial | exact ⟨trivial, trivial⟩)] | rw [if_neg (by omega)]); all_goals exact hm0, fun k v h => ?_, fun i k h => ?_, by (try simp only [jk_mt, jk_tg, jk_mz, jk_mr, jk_zr, jk_up]); (repeat first | rw [if_pos (by first | omega | trivial | exact ⟨trivial, trivial⟩)] | rw [if_neg (by omega)]), cl_at_ext (N := f) (fun a ha => ⟨by (try simp only [jk_mt, jk_tg, jk_mz, jk_mr, jk_zr, jk_up]); (repeat first | rw [if_pos (by first | omega | trivial | exact ⟨trivial, trivial⟩)] | rw [if_neg (by omega)]); all_goals rfl, by funext j; (try simp only [jk_mt, jk_tg, jk_mz, jk_mr, jk_zr, jk_up]); (repeat first | rw [if_pos (by first | omega | trivial | exact ⟨trivial, trivial⟩)] | rw [if_neg (by omega)]); all_goals rfl⟩) hsf hs, hsf⟩
    · unfold fo_t at h
      split at h <;> first | (cases h; done) | (cases h; (try simp only [jk_mt, jk_tg, jk_mz, jk_mr, jk_zr, jk_up]); (repeat first | rw [if_pos (by first | omega | trivial | exact ⟨trivial, trivial⟩)] | rw [if_neg (by omega)]); done) | (cases h; (try simp only [jk_mt, jk_tg, jk_mz, jk_mr, jk_zr, jk_up]); (repeat first | rw [if_pos (by first | omega | trivial | exact ⟨trivial, trivial⟩)] | rw [if_neg (by omega)]); rfl)
    · unfold fo_r at h
      split at h <;> first | (cases h; done) | (cases h; (try simp only [jk_mt, jk_tg, jk_mz, jk_mr, jk_zr, jk_up]); (repeat first | rw [if_pos (by first | omega | trivial | exact ⟨trivial, trivial⟩)] | rw [if_neg (by omega)]); done) | (cases h; (try simp only [jk_mt, jk_tg, jk_mz, jk_mr, jk_zr, jk_up]); (repeat first | rw [if_pos (by first | omega | trivial | exact ⟨trivial, trivial⟩)] | rw [if_neg (by omega)]); rfl))
theorem c_X11_init {G : jk_G} {n : Nat} {t : jk_T} {σ : jk_I} {ρ : jk_P} {w : Nat} {s f : Nat} (hm0 : t w = some (.inr 11)) (hf : fo_at t ρ f s) (hfw : f + 8 < w) (hn : n = w + 2) : jk_K G yX11_init mX11_init 2 32 [.ref w, .ref s, .ref f] n t σ ρ (nw_Q w 6 t σ ρ (fun t' _ ρ' => wa_at t' ρ' w f s)) jk_no := by
  subst hn
  refine jk_entryB (ls := [some (.ref w), some (.ref s), some (.ref f)]) jm_X11_init.1 rfl rfl rfl ?_
  refine jk_aload_n (q := 1) dX11_init_0 rfl rfl ?_
  refine jk_obj (q := 4) jw_217 rfl rfl dX11_init_1 rfl ?_
  refine jk_aload_n (q := 5) dX11_init_4 rfl rfl ?_
  refine jk_bipush (q := 7) (y := 16) dX11_init_5 rfl (by decide) ?_
  refine jk_newarr (q := 9) (atype := .int) (ty := .int) (len := 16) rfl jw_162 rfl (by decide) (by decide) (by decide) dX11_init_7 rfl ?_
  refine jk_putAF (q := 12) (k := 11) 2 2 rfl (by first | assumption | (simp only [jk_mt, jk_tg]; (repeat rw [if_neg (by omega)]); assumption)) rfl rfl rfl rfl (by first | exact Or.inl ⟨_, rfl⟩ | exact Or.inr ⟨_, rfl⟩) jw_220 dX11_init_9 rfl ?_
  refine jk_aload_n (q := 13) dX11_init_12 rfl rfl ?_
  refine jk_bipush (q := 15) (y := 16) dX11_init_13 rfl (by decide) ?_
  refine jk_newarr (q := 17) (atype := .int) (ty := .int) (len := 16) rfl jw_162 rfl (by decide) (by decide) (by decide) dX11_init_15 rfl ?_
  refine jk_putAF (q := 20) (k := 11) 3 3 rfl (by first | assumption | (simp only [jk_mt, jk_tg]; (repeat rw [if_neg (by omega)]); assumption)) rfl rfl rfl rfl (by first | exact Or.inl ⟨_, rfl⟩ | exact Or.inr ⟨_, rfl⟩) jw_222 dX11_init_17 rfl ?_
  refine jk_aload_n (q := 21) dX11_init_20 rfl rfl ?_
  refine jk_aload_n (q := 22) dX11_init_21 rfl rfl ?_
  refine jk_putAF (q := 25) (k := 11) 0 0 rfl (by first | assumption | (simp only [jk_mt, jk_tg]; (repeat rw [if_neg (by omega)]); assumption)) rfl rfl rfl rfl (by first | exact Or.inl ⟨_, rfl⟩ | exact Or.inr ⟨_, rfl⟩) jw_218 dX11_init_22 rfl ?_
  refine jk_aload_n (q := 26) dX11_init_25 rfl rfl ?_
  refine jk_aload_n (q := 27) dX11_init_26 rfl rfl ?_
  refine jk_putAF (q := 30) (k := 11) 1 1 rfl (by first | assumption | (simp only [jk_mt, jk_tg]; (repeat rw [if_neg (by omega)]); assumption)) rfl rfl rfl rfl (by first | exact Or.inl ⟨_, rfl⟩ | exact Or.inr ⟨_, rfl⟩) jw_219 dX11_init_27 rfl ?_
  exact jk_ret rfl dX11_init_30 (by
    refine ⟨rfl, by omega, fun a ha => ⟨by (try simp only [jk_mt, jk_tg, jk_mz, jk_mr, jk_zr, jk_up]); (repeat first | rw [if_pos (by first | omega | trivial | exact ⟨trivial, trivial⟩)] | rw [if_neg (by omega)]); all_goals rfl, by funext j; (try simp only [jk_mt, jk_tg, jk_mz, jk_mr, jk_zr, jk_up]); (repeat first | rw [if_pos (by first | omega | trivial | exact ⟨trivial, trivial⟩)] | rw [if_neg (by omega)]); all_goals rfl, by funext j; (try simp only [jk_mt, jk_tg, jk_mz, jk_mr, jk_zr, jk_up]); (repeat first | rw [if_pos (by first | omega | trivial | exact ⟨trivial, trivial⟩)] | rw [if_neg (by omega)]); all_goals rfl⟩, ?_⟩
    refine ⟨⟨by (try simp only [jk_mt, jk_tg, jk_mz, jk_mr, jk_zr, jk_up]); (repeat first | rw [if_pos (by first | omega | trivial | exact ⟨trivial, trivial⟩)] | rw [if_neg (by omega)]); all_goals exact hm0, (by (try simp only [jk_mt, jk_tg, jk_mz, jk_mr, jk_zr, jk_up]); (repeat first | rw [if_pos (by first | omega | trivial | exact ⟨trivial, trivial⟩)] | rw [if_neg (by omega)]); all_goals (first | rfl | assumption)), (by (try simp only [jk_mt, jk_tg, jk_mz, jk_mr, jk_zr, jk_up]); (repeat first | rw [if_pos (by first | omega | trivial | exact ⟨trivial, trivial⟩)] | rw [if_neg (by omega)]); all_goals (first | rfl | assumption))⟩, ⟨(by (try simp only [jk_mt, jk_tg, jk_mz, jk_mr, jk_zr, jk_up]); (repeat first | rw [if_pos (by first | omega | trivial | exact ⟨trivial, trivial⟩)] | rw [if_neg (by omega)]); all_goals (first | rfl | assumption)), (by (try simp only [jk_mt, jk_tg, jk_mz, jk_mr, jk_zr, jk_up]); (repeat first | rw [if_pos (by first | omega | trivial | exact ⟨trivial, trivial⟩)] | rw [if_neg (by omega)]); all_goals (first | rfl | assumption)), (by (try simp only [jk_mt, jk_tg, jk_mz, jk_mr, jk_zr, jk_up]); (repeat first | rw [if_pos (by first | omega | trivial | exact ⟨trivial, trivial⟩)] | rw [if_neg (by omega)]); all_goals (first | rfl | assumption)), (by (try simp only [jk_mt, jk_tg, jk_mz, jk_mr, jk_zr, jk_up]); (repeat first | rw [if_pos (by first | omega | trivial | exact ⟨trivial, trivial⟩)] | rw [if_neg (by omega)]); all_goals (first | rfl | assumption))⟩, fo_at_ext (N := w) (fun a ha => ⟨by (try simp only [jk_mt, jk_tg, jk_mz, jk_mr, jk_zr, jk_up]); (repeat first | rw [if_pos (by first | omega | trivial | exact ⟨trivial, trivial⟩)] | rw [if_neg (by omega)]); all_goals rfl, by funext j; (try simp only [jk_mt, jk_tg, jk_mz, jk_mr, jk_zr, jk_up]); (repeat first | rw [if_pos (by first | omega | trivial | exact ⟨trivial, trivial⟩)] | rw [if_neg (by omega)]); all_goals rfl⟩) hfw hf, hfw⟩)
theorem c_X8_init {G : jk_G} {n : Nat} {t : jk_T} {σ : jk_I} {ρ : jk_P} {y : Nat} {s : Nat} (hm0 : t y = some (.inr 8)) (hs : cl_at t ρ s) (hsy : s + 44 < y) (hn : n = y + 2) : jk_K G yX8_init mX8_init 2 32 [.ref y, .ref s] n t σ ρ (nw_Q y 6 t σ ρ (fun t' _ ρ' => sh_at t' ρ' y s)) jk_no := by
  subst hn
  refine jk_entryB (ls := [some (.ref y), some (.ref s)]) jm_X8_init.1 rfl rfl rfl ?_
  refine jk_aload_n (q := 1) dX8_init_0 rfl rfl ?_
  refine jk_obj (q := 4) jw_243 rfl rfl dX8_init_1 rfl ?_
  refine jk_aload_n (q := 5) dX8_init_4 rfl rfl ?_
  refine jk_bipush (q := 7) (y := 16) dX8_init_5 rfl (by decide) ?_
  refine jk_newarr (q := 9) (atype := .int) (ty := .int) (len := 16) rfl jw_162 rfl (by decide) (by decide) (by decide) dX8_init_7 rfl ?_
  refine jk_putAF (q := 12) (k := 8) 1 1 rfl (by first | assumption | (simp only [jk_mt, jk_tg]; (repeat rw [if_neg (by omega)]); assumption)) rfl rfl rfl rfl (by first | exact Or.inl ⟨_, rfl⟩ | exact Or.inr ⟨_, rfl⟩) jw_245 dX8_init_9 rfl ?_
  refine jk_aload_n (q := 13) dX8_init_12 rfl rfl ?_
  refine jk_bipush (q := 15) (y := 16) dX8_init_13 rfl (by decide) ?_
  refine jk_newarr (q := 17) (atype := .int) (ty := .int) (len := 16) rfl jw_162 rfl (by decide) (by decide) (by decide) dX8_init_15 rfl ?_
  refine jk_putAF (q := 20) (k := 8) 2 2 rfl (by first | assumption | (simp only [jk_mt, jk_tg]; (repeat rw [if_neg (by omega)]); assumption)) rfl rfl rfl rfl (by first | exact Or.inl ⟨_, rfl⟩ | exact Or.inr ⟨_, rfl⟩) jw_247 dX8_init_17 rfl ?_
  refine jk_aload_n (q := 21) dX8_init_20 rfl rfl ?_
  refine jk_aload_n (q := 22) dX8_init_21 rfl rfl ?_
  refine jk_putAF (q := 25) (k := 8) 0 0 rfl (by first | assumption | (simp only [jk_mt, jk_tg]; (repeat rw [if_neg (by omega)]); assumption)) rfl rfl rfl rfl (by first | exact Or.inl ⟨_, rfl⟩ | exact Or.inr ⟨_, rfl⟩) jw_244 dX8_init_22 rfl ?_
  exact jk_ret rfl dX8_init_25 (by
    refine ⟨rfl, by omega, fun a ha => ⟨by (try simp only [jk_mt, jk_tg, jk_mz, jk_mr, jk_zr, jk_up]); (repeat first | rw [if_pos (by first | omega | trivial | exact ⟨trivial, trivial⟩)] | rw [if_neg (by omega)]); all_goals rfl, by funext j; (try simp only [jk_mt, jk_tg, jk_mz, jk_mr, jk_zr, jk_up]); (repeat first | rw [if_pos (by first | omega | trivial | exact ⟨trivial, trivial⟩)] | rw [if_neg (by omega)]); all_goals rfl, by funext j; (try simp only [jk_mt, jk_tg, jk_mz, jk_mr, jk_zr, jk_up]); (repeat first | rw [if_pos (by first | omega | trivial | exact ⟨trivial, trivial⟩)] | rw [if_neg (by omega)]); all_goals rfl⟩, ?_⟩
    refine ⟨⟨by (try simp only [jk_mt, jk_tg, jk_mz, jk_mr, jk_zr, jk_up]); (repeat first | rw [if_pos (by first | omega | trivial | exact ⟨trivial, trivial⟩)] | rw [if_neg (by omega)]); all_goals exact hm0, (by (try simp only [jk_mt, jk_tg, jk_mz, jk_mr, jk_zr, jk_up]); (repeat first | rw [if_pos (by first | omega | trivial | exact ⟨trivial, trivial⟩)] | rw [if_neg (by omega)]); all_goals (first | rfl | assumption)), (by (try simp only [jk_mt, jk_tg, jk_mz, jk_mr, jk_zr, jk_up]); (repeat first | rw [if_pos (by first | omega | trivial | exact ⟨trivial, trivial⟩)] | rw [if_neg (by omega)]); all_goals (first | rfl | assumption))⟩, ⟨(by (try simp only [jk_mt, jk_tg, jk_mz, jk_mr, jk_zr, jk_up]); (repeat first | rw [if_pos (by first | omega | trivial | exact ⟨trivial, trivial⟩)] | rw [if_neg (by omega)]); all_goals (first | rfl | assumption)), (by (try simp only [jk_mt, jk_tg, jk_mz, jk_mr, jk_zr, jk_up]); (repeat first | rw [if_pos (by first | omega | trivial | exact ⟨trivial, trivial⟩)] | rw [if_neg (by omega)]); all_goals (first | rfl | assumption)), (by (try simp only [jk_mt, jk_tg, jk_mz, jk_mr, jk_zr, jk_up]); (repeat first | rw [if_pos (by first | omega | trivial | exact ⟨trivial, trivial⟩)] | rw [if_neg (by omega)]); all_goals (first | rfl | assumption))⟩, cl_at_ext (N := y) (fun a ha => ⟨by (try simp only [jk_mt, jk_tg, jk_mz, jk_mr, jk_zr, jk_up]); (repeat first | rw [if_pos (by first | omega | trivial | exact ⟨trivial, trivial⟩)] | rw [if_neg (by omega)]); all_goals rfl, by funext j; (try simp only [jk_mt, jk_tg, jk_mz, jk_mr, jk_zr, jk_up]); (repeat first | rw [if_pos (by first | omega | trivial | exact ⟨trivial, trivial⟩)] | rw [if_neg (by omega)]); all_goals rfl⟩) hsy hs, hsy⟩)
theorem c_X1_init {G : jk_G} {n : Nat} {t : jk_T} {σ : jk_I} {ρ : jk_P} {b : Nat} {s : Nat} (hm0 : t b = some (.inr 1)) (hs : cl_at t ρ s) (hsb : s + 44 < b) (hn : n = b + 2) : jk_K G yX1_init mX1_init 0 0 [.ref b, .ref s] n t σ ρ (nw_Q b 2 t σ ρ (fun t' _ ρ' => ba_at t' ρ' b s)) jk_no := by
  subst hn
  refine jk_entryB (ls := [some (.ref b), some (.ref s)]) jm_X1_init.1 rfl rfl rfl ?_
  refine jk_aload_n (q := 1) dX1_init_0 rfl rfl ?_
  refine jk_obj (q := 4) jw_284 rfl rfl dX1_init_1 rfl ?_
  refine jk_aload_n (q := 5) dX1_init_4 rfl rfl ?_
  refine jk_aload_n (q := 6) dX1_init_5 rfl rfl ?_
  refine jk_putAF (q := 9) (k := 1) 0 0 rfl (by first | assumption | (simp only [jk_mt, jk_tg]; (repeat rw [if_neg (by omega)]); assumption)) rfl rfl rfl rfl (by first | exact Or.inl ⟨_, rfl⟩ | exact Or.inr ⟨_, rfl⟩) jw_285 dX1_init_6 rfl ?_
  exact jk_ret rfl dX1_init_9 (by
    refine ⟨rfl, by omega, fun a ha => ⟨by (try simp only [jk_mt, jk_tg, jk_mz, jk_mr, jk_zr, jk_up]); (repeat first | rw [if_pos (by first | omega | trivial | exact ⟨trivial, trivial⟩)] | rw [if_neg (by omega)]); all_goals rfl, by funext j; (try simp only [jk_mt, jk_tg, jk_mz, jk_mr, jk_zr, jk_up]); (repeat first | rw [if_pos (by first | omega | trivial | exact ⟨trivial, trivial⟩)] | rw [if_neg (by omega)]); all_goals rfl, by funext j; (try simp only [jk_mt, jk_tg, jk_mz, jk_mr, jk_zr, jk_up]); (repeat first | rw [if_pos (by first | omega | trivial | exact ⟨trivial, trivial⟩)] | rw [if_neg (by omega)]); all_goals rfl⟩, ?_⟩
    refine ⟨⟨by (try simp only [jk_mt, jk_tg, jk_mz, jk_mr, jk_zr, jk_up]); (repeat first | rw [if_pos (by first | omega | trivial | exact ⟨trivial, trivial⟩)] | rw [if_neg (by omega)]); all_goals exact hm0, (by (try simp only [jk_mt, jk_tg, jk_mz, jk_mr, jk_zr, jk_up]); (repeat first | rw [if_pos (by first | omega | trivial | exact ⟨trivial, trivial⟩)] | rw [if_neg (by omega)]); all_goals (first | rfl | assumption))⟩, cl_at_ext (N := b) (fun a ha => ⟨by (try simp only [jk_mt, jk_tg, jk_mz, jk_mr, jk_zr, jk_up]); (repeat first | rw [if_pos (by first | omega | trivial | exact ⟨trivial, trivial⟩)] | rw [if_neg (by omega)]); all_goals rfl, by funext j; (try simp only [jk_mt, jk_tg, jk_mz, jk_mr, jk_zr, jk_up]); (repeat first | rw [if_pos (by first | omega | trivial | exact ⟨trivial, trivial⟩)] | rw [if_neg (by omega)]); all_goals rfl⟩) hsb hs, hsb⟩)
end CC2
