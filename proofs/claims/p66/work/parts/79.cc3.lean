section CC3
theorem jk_rcw {G : jk_G} {M : jk_M} {pc : Nat} {ls : List (Option Value)} {st : List Value} {n : Nat} {t : jk_T} {σ : jk_I} {ρ : jk_P} {rc rs rc2 rs2 : Nat} {Q : jk_Q} {X : jk_X} (k : jk_J G M pc ls st n t σ ρ rc rs Q X) (h1 : rc ≤ rc2) (h2 : rs ≤ rs2) : jk_J G M pc ls st n t σ ρ rc2 rs2 Q X := fun p e R s m args below meth c H locs cells slots ls' hC hL hR hS hc hs => k p e R s m args below meth c H locs cells slots ls' hC hL hR hS (by omega) (by omega)
theorem jk_cI0gN {G : jk_G} {M : jk_M} {pc q : Nat} {ls : List (Option Value)} {n : Nat} {t : jk_T} {σ : jk_I} {ρ : jk_P} {rc rs : Nat} {Q : jk_Q} {X : jk_X} {y : MethodName} {M1 : jk_M} {index mc ms : Nat} {host : String} {b : Nat} {rest : List Value} {Q1 : jk_Q} {X1 : jk_X} (hK : jk_K G y M1 mc ms [.ref b] n t σ ρ Q1 X1) (hm : jk_mI y M1 0) (hw : Cond.methodLinkNest (jk_own M) index y host ∈ jk_WS) (hdep : Nat.ble (jk_d M1 + 1) (jk_d M) = true) (hlen : Nat.ble rest.length 4 = true) (hmc : mc ≤ rc) (hms : ms ≤ rs) (htb : jk_tb M = []) (hd : decode (jk_cc M) pc = .ok (.invokespecial index, 3)) (hp : pc + 3 = q) (kk : ∀ v n' t' σ' ρ', Q1 v n' t' σ' ρ' → jk_J G M q ls (v.toList ++ rest) n' t' σ' ρ' (rc - mc) (rs - ms) Q X) (kx : ∀ E n' t' σ' ρ', X1 E n' t' σ' ρ' → X E n' t' σ' ρ') : jk_J G M pc ls (.ref b :: rest) n t σ ρ rc rs Q X :=
  jk_callIN (As := []) hK hm hw rfl (Nat.le_of_ble_eq_true hdep) (Nat.le_of_ble_eq_true hlen) hmc hms (fun x hx => by rw [htb] at hx; cases hx) hd hp kk kx
/-- a History at h: eight Surveys -/
def hs_at (t : jk_T) (ρ : jk_P) (h : Nat) : Prop := t h = some (.inr 5) ∧ t (h + 2) = some (.inl (.object "LevelingNetwork$Survey", 8)) ∧ ρ h 0 = some (h + 2) ∧ ∀ j : Nat, j < 8 → ρ (h + 2) (j : Int) = some (h + (4 + 46 * j)) ∧ cl_at t ρ (h + (4 + 46 * j))
theorem hs_at_ext {t t' : jk_T} {ρ ρ' : jk_P} {h N : Nat} (hx : ∀ a, a < N → t' a = t a ∧ ρ' a = ρ a) (hN : h + 372 ≤ N) (hs : hs_at t ρ h) : hs_at t' ρ' h := by
  obtain ⟨h1, h2, h3, h4⟩ := hs
  refine ⟨(hx _ (by omega)).1.trans h1, (hx _ (by omega)).1.trans h2, by rw [(hx h (by omega)).2]; exact h3, fun j hj => ⟨by rw [(hx _ (by omega)).2]; exact (h4 j hj).1, cl_at_ext hx (by omega) (h4 j hj).2⟩⟩
/-- so far: i Surveys -/
def hs_so (h i : Nat) (t : jk_T) (σ : jk_I) (ρ : jk_P) (t1 : jk_T) (σ1 : jk_I) (ρ1 : jk_P) : Prop := (t1 h = some (.inr 5) ∧ t1 (h + 2) = some (.inl (.object "LevelingNetwork$Survey", 8)) ∧ ρ1 h 0 = some (h + 2)) ∧ (∀ j : Nat, j < i → ρ1 (h + 2) (j : Int) = some (h + (4 + 46 * j)) ∧ cl_at t1 ρ1 (h + (4 + 46 * j))) ∧ (∀ a, a < h → t1 a = t a ∧ σ1 a = σ a ∧ ρ1 a = ρ a) ∧ σ1 h = σ h ∧ ∀ a, h + 4 ≤ a → a < h + (4 + 46 * i) → a % 2 = h % 2 → σ1 a = fun _ => 0
theorem hs_so_S {h i : Nat} {t t1 t2 : jk_T} {σ σ1 σ2 : jk_I} {ρ ρ1 ρ2 : jk_P} (hi : i < 8) (hh : hs_so h i t σ ρ t1 σ1 ρ1) (hf : ∀ a, a < h + (4 + 46 * i) → t2 a = jk_tg t1 (h + (4 + 46 * i)) (.inr 9) a ∧ σ2 a = jk_zr σ1 (h + (4 + 46 * i)) 0 a ∧ ρ2 a = jk_zr ρ1 (h + (4 + 46 * i)) none a) (hp : cl_new (h + (4 + 46 * i)) (jk_zr σ1 (h + (4 + 46 * i)) 0) t2 σ2 ρ2) : hs_so h (i + 1) t σ ρ t2 σ2 (jk_up ρ2 (h + 2) (i : Int) (some (h + (4 + 46 * i)))) := by
  obtain ⟨⟨a1, a2, a3⟩, b, c, d, e⟩ := hh
  have hf' : ∀ a, a < h + (4 + 46 * i) → t2 a = t1 a ∧ σ2 a = σ1 a ∧ ρ2 a = ρ1 a := by
    intro a ha
    obtain ⟨x1, x2, x3⟩ := hf a ha
    refine ⟨x1.trans (by simp only [jk_tg]; rw [if_neg (by omega)]), x2.trans (by funext j; simp only [jk_zr]; rw [if_neg (by omega)]), x3.trans (by funext j; simp only [jk_zr]; rw [if_neg (by omega)])⟩
  have hu : ∀ a, a ≠ h + 2 → jk_up ρ2 (h + 2) (i : Int) (some (h + (4 + 46 * i))) a = ρ2 a := fun a ha => by funext j; simp only [jk_up]; rw [if_neg (by omega)]
  have hcl : ∀ s9, h + 2 < s9 → cl_at t2 ρ2 s9 → cl_at t2 (jk_up ρ2 (h + 2) (i : Int) (some (h + (4 + 46 * i)))) s9 := by
    intro s9 h9 ⟨u1, u2, u3, u4⟩
    exact ⟨u1, u2, fun i k hk => by rw [hu _ (by omega)]; exact u3 i k hk, fun q hq => ⟨by rw [hu _ (by omega)]; exact (u4 q hq).1, by rw [hu _ (by omega)]; exact (u4 q hq).2⟩⟩
  refine ⟨⟨(hf' _ (by omega)).1.trans a1, (hf' _ (by omega)).1.trans a2, by rw [hu _ (by omega), (hf' h (by omega)).2.2]; exact a3⟩, fun j hj => ?_, fun a ha => ?_, (hf' h (by omega)).2.1.trans d, fun a h1 h2 h3 => ?_⟩
  · by_cases hji : j < i
    · refine ⟨?_, hcl _ (by omega) (cl_at_ext (N := h + (4 + 46 * i)) (fun a ha => ⟨(hf' a ha).1, (hf' a ha).2.2⟩) (by omega) (b j hji).2)⟩
      simp only [jk_up]; rw [if_neg (by omega), (hf' _ (by omega)).2.2]; exact (b j hji).1
    · obtain rfl : j = i := by omega
      exact ⟨by simp [jk_up], hcl _ (by omega) hp.1⟩
  · obtain ⟨x1, x2, x3⟩ := hf' a (by omega)
    obtain ⟨y1, y2, y3⟩ := c a ha
    exact ⟨x1.trans y1, x2.trans y2, by rw [hu a (by omega)]; exact x3.trans y3⟩
  · by_cases ha : a < h + (4 + 46 * i)
    · rw [(hf' a ha).2.1]; exact e a h1 ha h3
    · by_cases ha2 : a = h + (4 + 46 * i)
      · subst ha2; rw [hp.2.1]; exact jk_zr_same _ _
      · exact hp.2.2 a (by omega) (by omega) (by omega)
theorem c_X5_init {G : jk_G} {n : Nat} {t : jk_T} {σ : jk_I} {ρ : jk_P} {h : Nat} (hm0 : t h = some (.inr 5)) (hn : n = h + 2) : jk_K G yX5_init mX5_init 185 2104 [.ref h] n t σ ρ (nw_Q h 372 t σ ρ (fun t' σ' ρ' => hs_at t' ρ' h ∧ σ' h = σ h ∧ ∀ a, h + 4 ≤ a → a < h + 372 → a % 2 = h % 2 → σ' a = fun _ => 0)) jk_no := by
  subst hn
  refine jk_entryB (ls := [some (.ref h), none]) jm_X5_init.1 rfl rfl rfl ?_
  refine jk_aload_n (q := 1) dX5_init_0 rfl rfl ?_
  refine jk_obj (q := 4) jw_168 rfl rfl dX5_init_1 rfl ?_
  refine jk_aload_n (q := 5) dX5_init_4 rfl rfl ?_
  refine jk_bipush (q := 7) (y := 8) dX5_init_5 rfl (by decide) ?_
  refine jk_anew (q := 10) (C := "LevelingNetwork$Survey") (len := 8) rfl jw_169 jw_170 (by decide) (by first | decide | omega | (show (18 : Nat) ≤ _; omega)) (by first | decide | omega | (show (18 : Nat) ≤ _; omega)) dX5_init_7 rfl ?_
  refine jk_putAF (q := 13) (k := 5) 0 0 rfl (by first | assumption | exact hh.1.1 | exact hh.1.2.1 | (simp only [jk_tg]; (repeat rw [if_neg (by omega)]); first | rfl | assumption | exact hh.1.2.1) | exact hT2 | exact hT3) rfl rfl rfl rfl (by first | exact Or.inl ⟨_, rfl⟩ | exact Or.inr ⟨_, rfl⟩) jw_172 dX5_init_10 rfl ?_
  refine jk_iconst (q := 14) dX5_init_13 rfl ?_
  refine jk_istore1 (q := 15) dX5_init_14 rfl rfl rfl ?_
  have L15 : ∀ k15 : Nat, k15 ≤ 8 → ∀ (t1 : jk_T) (σ1 : jk_I) (ρ1 : jk_P), (hh : hs_so h k15 t σ ρ t1 σ1 ρ1) → jk_J G mX5_init 15 [some (.ref h), some (jI (k15 : Int))] [] (h + (4 + 46 * k15)) t1 σ1 ρ1 (23 * (8 - k15)) (262 * (8 - k15)) (nw_Q h 372 t σ ρ (fun t' σ' ρ' => hs_at t' ρ' h ∧ σ' h = σ h ∧ ∀ a, h + 4 ≤ a → a < h + 372 → a % 2 = h % 2 → σ' a = fun _ => 0)) jk_no := by
    refine jk_loop _ (fun k15 hk15 ih15 => ?_)
    intro t1 σ1 ρ1 hh
    refine jk_iload_n (q := 16) dX5_init_15 rfl rfl ?_
    refine jk_bipush (q := 18) (y := 8) dX5_init_16 rfl (by decide) ?_
    refine jk_icmp_ge (q := 40) (q2 := 21) dX5_init_18 rfl rfl (by first | assumption | omega | decide) (by first | assumption | omega | decide) (fun h1 => ?_) (fun h1 => ?_)
    · exact jk_ret rfl dX5_init_40 (by 
              obtain ⟨a, b, c, d, e⟩ := hh
              obtain rfl : k15 = 8 := by omega
              exact ⟨rfl, by omega, c, ⟨a.1, a.2.1, a.2.2, b⟩, d, e⟩)
    · refine jk_aload_n (q := 22) dX5_init_21 rfl rfl ?_
      refine jk_getA (q := 25) (k := 5) 0 0 rfl (by first | assumption | exact hh.1.1 | exact hh.1.2.1 | (simp only [jk_tg]; (repeat rw [if_neg (by omega)]); first | rfl | assumption | exact hh.1.2.1) | exact hT2 | exact hT3) (by first | exact hh.1.2.2 | assumption) rfl rfl jw_172 dX5_init_22 rfl ?_
      refine jk_iload_n (q := 26) dX5_init_25 rfl rfl ?_
      refine jk_new (q := 29) (k := 9) jw_169 jw_47 jw_2 (by first | decide | omega | (show (18 : Nat) ≤ _; omega)) (by first | decide | omega | (show (18 : Nat) ≤ _; omega)) dX5_init_26 rfl ?_
      refine jk_dup (q := 30) dX5_init_29 rfl rfl ?_
      refine jk_cI0gN (q := 33) (c_X9_init (s := h + (4 + 46 * k15)) (by simp [jk_tg]) rfl) jm_X9_init jw_171 rfl rfl (by omega) (by show 244 ≤ 262 * (8 - k15) - 18; omega) rfl dX5_init_30 rfl (fun v' n' t2 σ2 ρ2 hq => ?_) (fun _ _ _ _ _ h => h.elim)
      obtain ⟨rfl, hn9, hf9, hp⟩ := hq
      subst hn9
      simp only [Option.toList_some, Option.toList_none, List.cons_append, List.nil_append]
      have e9 : h + (4 + 46 * k15) + 46 = h + (4 + 46 * (k15 + 1)) := by omega
      rw [e9]
      have hT2 : t2 (h + 2) = some (.inl (.object "LevelingNetwork$Survey", 8)) := by rw [(hf9 _ (by omega)).1]; simp only [jk_tg]; rw [if_neg (by omega)]; exact hh.1.2.1
      have hT3 : t2 (h + (4 + 46 * k15)) = some (.inr 9) := hp.1.1
      refine jk_aast (q := 34) (by first | assumption | exact hh.1.1 | exact hh.1.2.1 | (simp only [jk_tg]; (repeat rw [if_neg (by omega)]); first | rfl | assumption | exact hh.1.2.1) | exact hT2 | exact hT3) (by first | assumption | omega | decide) jw_2 (Or.inl ⟨9, by first | assumption | exact hh.1.1 | exact hh.1.2.1 | (simp only [jk_tg]; (repeat rw [if_neg (by omega)]); first | rfl | assumption | exact hh.1.2.1) | exact hT2 | exact hT3, rfl⟩) dX5_init_33 rfl ?_
      refine jk_iinc1 (q := 37) dX5_init_34 rfl rfl rfl ?_
      refine jk_goto (q := 15) dX5_init_37 rfl ?_
      refine jk_convl (jk_rcw (ih15 (by omega) _ _ _ (hs_so_S (by omega) hh hf9 hp)) (by omega) (by show 262 * (8 - (k15 + 1)) ≤ 262 * (8 - k15) - 18 - 244; omega)) (jk_loc rfl (jk_loc (jk_li ?_) rfl))
      omega
  exact jk_rcw (L15 0 (by omega) _ _ _ ⟨⟨by simp only [jk_tg]; rw [if_neg (by omega)]; exact hm0, by simp [jk_tg], by simp [jk_up]⟩, fun j hj => absurd hj (by omega), fun a ha => ⟨by simp only [jk_tg]; rw [if_neg (by omega)], by funext j; simp only [jk_zr]; rw [if_neg (by omega)], by funext j; simp only [jk_up, jk_zr]; rw [if_neg (by omega), if_neg (by omega)]⟩, by funext j; simp only [jk_zr]; rw [if_neg (by omega)], fun a h1 h2 => absurd h2 (by omega)⟩) (by omega) (by omega)
theorem cl_at_up {t : jk_T} {ρ : jk_P} {s h : Nat} {i : Int} {v : Option Nat} (hs : cl_at t ρ s) (h1 : h < s ∨ s + 44 < h) : cl_at t (jk_up ρ h i v) s := by
  have hu : ∀ a, a ≠ h → jk_up ρ h i v a = ρ a := fun a ha => by funext j; simp only [jk_up]; rw [if_neg (by omega)]
  obtain ⟨u1, u2, u3, u4⟩ := hs
  exact ⟨u1, u2, fun i k hk => by rw [hu _ (by omega)]; exact u3 i k hk, fun q hq => ⟨by rw [hu _ (by omega)]; exact (u4 q hq).1, by rw [hu _ (by omega)]; exact (u4 q hq).2⟩⟩
theorem fo_at_up {t : jk_T} {ρ : jk_P} {f s h : Nat} {i : Int} {v : Option Nat} (hs : fo_at t ρ f s) (h1 : h < f ∨ f + 8 < h) (h2 : h < s ∨ s + 44 < h) : fo_at t (jk_up ρ h i v) f s := by
  have hu : ∀ a, a ≠ h → jk_up ρ h i v a = ρ a := fun a ha => by funext j; simp only [jk_up]; rw [if_neg (by omega)]
  obtain ⟨u1, u2, u3, u4, u5, u6⟩ := hs
  exact ⟨u1, u2, fun i k hk => by rw [hu _ (by omega)]; exact u3 i k hk, by rw [hu _ (by omega)]; exact u4, cl_at_up u5 h2, u6⟩
theorem wa_at_up {t : jk_T} {ρ : jk_P} {w f s h : Nat} {i : Int} {v : Option Nat} (hs : wa_at t ρ w f s) (h1 : h < w ∧ f + 8 < h) (h2 : s + 44 < h) : wa_at t (jk_up ρ h i v) w f s := by
  have hu : ∀ a, a ≠ h → jk_up ρ h i v a = ρ a := fun a ha => by funext j; simp only [jk_up]; rw [if_neg (by omega)]
  obtain ⟨a, ⟨b1, b2, b3, b4⟩, c, d⟩ := hs
  exact ⟨a, ⟨by rw [hu _ (by omega)]; exact b1, by rw [hu _ (by omega)]; exact b2, by rw [hu _ (by omega)]; exact b3, by rw [hu _ (by omega)]; exact b4⟩, fo_at_up c (by omega) (by omega), d⟩
theorem c_X4_init {G : jk_G} {n : Nat} {t : jk_T} {σ : jk_I} {ρ : jk_P} {h f s : Nat} (hm0 : t h = some (.inr 4)) (hf : fo_at t ρ f s) (hfh : f + 8 < h) (hn : n = h + 2) : jk_K G yX4_init mX4_init 5 57 [.ref h, .ref s, .ref f] n t σ ρ (nw_Q h 12 t σ ρ (fun t' _ ρ' => he_at t' ρ' h f s)) jk_no := by
  subst hn
  refine jk_entryB (ls := [some (.ref h), some (.ref s), some (.ref f)]) jm_X4_init.1 rfl rfl rfl ?_
  refine jk_aload_n (q := 1) dX4_init_0 rfl rfl ?_
  refine jk_obj (q := 4) jw_260 rfl rfl dX4_init_1 rfl ?_
  refine jk_aload_n (q := 5) dX4_init_4 rfl rfl ?_
  refine jk_bipush (q := 7) (y := 10) dX4_init_5 rfl (by decide) ?_
  refine jk_newarr (q := 9) (atype := .boolean) (ty := .boolean) (len := 10) rfl jw_161 rfl (by decide) (by decide) (by decide) dX4_init_7 rfl ?_
  refine jk_putAF (q := 12) (k := 4) 3 3 rfl (by first | assumption | (simp only [jk_mt, jk_tg]; (repeat rw [if_neg (by omega)]); assumption) | exact hT4) rfl rfl rfl rfl (by first | exact Or.inl ⟨_, rfl⟩ | exact Or.inr ⟨_, rfl⟩) jw_266 dX4_init_9 rfl ?_
  refine jk_aload_n (q := 13) dX4_init_12 rfl rfl ?_
  refine jk_bipush (q := 15) (y := 10) dX4_init_13 rfl (by decide) ?_
  refine jk_newarr (q := 17) (atype := .int) (ty := .int) (len := 10) rfl jw_162 rfl (by decide) (by decide) (by decide) dX4_init_15 rfl ?_
  refine jk_putAF (q := 20) (k := 4) 4 4 rfl (by first | assumption | (simp only [jk_mt, jk_tg]; (repeat rw [if_neg (by omega)]); assumption) | exact hT4) rfl rfl rfl rfl (by first | exact Or.inl ⟨_, rfl⟩ | exact Or.inr ⟨_, rfl⟩) jw_267 dX4_init_17 rfl ?_
  refine jk_aload_n (q := 21) dX4_init_20 rfl rfl ?_
  refine jk_aload_n (q := 22) dX4_init_21 rfl rfl ?_
  refine jk_putAF (q := 25) (k := 4) 0 0 rfl (by first | assumption | (simp only [jk_mt, jk_tg]; (repeat rw [if_neg (by omega)]); assumption) | exact hT4) rfl rfl rfl rfl (by first | exact Or.inl ⟨_, rfl⟩ | exact Or.inr ⟨_, rfl⟩) jw_263 dX4_init_22 rfl ?_
  refine jk_aload_n (q := 26) dX4_init_25 rfl rfl ?_
  refine jk_aload_n (q := 27) dX4_init_26 rfl rfl ?_
  refine jk_putAF (q := 30) (k := 4) 1 1 rfl (by first | assumption | (simp only [jk_mt, jk_tg]; (repeat rw [if_neg (by omega)]); assumption) | exact hT4) rfl rfl rfl rfl (by first | exact Or.inl ⟨_, rfl⟩ | exact Or.inr ⟨_, rfl⟩) jw_264 dX4_init_27 rfl ?_
  refine jk_aload_n (q := 31) dX4_init_30 rfl rfl ?_
  refine jk_new (q := 34) (k := 11) jw_261 jw_213 jw_5 (by decide) (by decide) dX4_init_31 rfl ?_
  refine jk_dup (q := 35) dX4_init_34 rfl rfl ?_
  refine jk_aload_n (q := 36) dX4_init_35 rfl rfl ?_
  refine jk_aload_n (q := 37) dX4_init_36 rfl rfl ?_
  refine jk_cI2g (q := 40) (c_X11_init (w := h + 6) (s := s) (f := f) (by simp [jk_tg]) (fo_at_ext (N := h) (fun a ha => ⟨by (try simp only [jk_mt, jk_tg, jk_mz, jk_mr, jk_zr, jk_up]); (repeat first | rw [if_pos (by first | omega | trivial | exact ⟨trivial, trivial⟩)] | rw [if_neg (by omega)]); all_goals rfl, by funext j; (try simp only [jk_mt, jk_tg, jk_mz, jk_mr, jk_zr, jk_up]); (repeat first | rw [if_pos (by first | omega | trivial | exact ⟨trivial, trivial⟩)] | rw [if_neg (by omega)]); all_goals rfl⟩) hfh hf) (by omega) rfl) jm_X11_init jw_262 rfl rfl (by decide) (by decide) rfl dX4_init_37 rfl (fun v' n' t2 σ2 ρ2 hq => ?_) (fun _ _ _ _ _ h => h.elim)
  obtain ⟨rfl, hn9, hf9, hp⟩ := hq
  subst hn9
  simp only [Option.toList_some, Option.toList_none, List.cons_append, List.nil_append]
  have hT4 : t2 h = some (.inr 4) := by rw [(hf9 _ (by omega)).1]; (try simp only [jk_mt, jk_tg, jk_mz, jk_mr, jk_zr, jk_up]); (repeat first | rw [if_pos (by first | omega | trivial | exact ⟨trivial, trivial⟩)] | rw [if_neg (by omega)]); exact hm0
  refine jk_putAF (q := 43) (k := 4) 2 2 rfl (by first | assumption | (simp only [jk_mt, jk_tg]; (repeat rw [if_neg (by omega)]); assumption) | exact hT4) rfl rfl rfl rfl (by first | exact Or.inl ⟨_, rfl⟩ | exact Or.inr ⟨_, rfl⟩) jw_265 dX4_init_40 rfl ?_
  exact jk_ret rfl dX4_init_43 (by 
          have hx : ∀ a, a < h + 6 → a ≠ h → jk_up ρ2 h 2 (some (h + 6)) a = ρ2 a := fun a ha hb => by funext j; (try simp only [jk_mt, jk_tg, jk_mz, jk_mr, jk_zr, jk_up]); (repeat first | rw [if_pos (by first | omega | trivial | exact ⟨trivial, trivial⟩)] | rw [if_neg (by omega)])
          refine ⟨rfl, by omega, fun a ha => ⟨by rw [(hf9 a (by omega)).1]; (try simp only [jk_mt, jk_tg, jk_mz, jk_mr, jk_zr, jk_up]); (repeat first | rw [if_pos (by first | omega | trivial | exact ⟨trivial, trivial⟩)] | rw [if_neg (by omega)]), by rw [(hf9 a (by omega)).2.1]; funext j; (try simp only [jk_mt, jk_tg, jk_mz, jk_mr, jk_zr, jk_up]); (repeat first | rw [if_pos (by first | omega | trivial | exact ⟨trivial, trivial⟩)] | rw [if_neg (by omega)]), by rw [hx a (by omega) (by omega), (hf9 a (by omega)).2.2]; funext j; (try simp only [jk_mt, jk_tg, jk_mz, jk_mr, jk_zr, jk_up]); (repeat first | rw [if_pos (by first | omega | trivial | exact ⟨trivial, trivial⟩)] | rw [if_neg (by omega)])⟩, ⟨⟨hT4, by rw [(hf9 _ (by omega)).1]; (try simp only [jk_mt, jk_tg, jk_mz, jk_mr, jk_zr, jk_up]); (repeat first | rw [if_pos (by first | omega | trivial | exact ⟨trivial, trivial⟩)] | rw [if_neg (by omega)]), by rw [(hf9 _ (by omega)).1]; (try simp only [jk_mt, jk_tg, jk_mz, jk_mr, jk_zr, jk_up]); (repeat first | rw [if_pos (by first | omega | trivial | exact ⟨trivial, trivial⟩)] | rw [if_neg (by omega)])⟩, ⟨?_, ?_, ?_, ?_, ?_⟩, ?_, hfh⟩⟩
          · simp only [jk_up]; rw [if_neg (by omega), (hf9 _ (by omega)).2.2]; (try simp only [jk_mt, jk_tg, jk_mz, jk_mr, jk_zr, jk_up]); (repeat first | rw [if_pos (by first | omega | trivial | exact ⟨trivial, trivial⟩)] | rw [if_neg (by omega)])
          · simp only [jk_up]; rw [if_neg (by omega), (hf9 _ (by omega)).2.2]; (try simp only [jk_mt, jk_tg, jk_mz, jk_mr, jk_zr, jk_up]); (repeat first | rw [if_pos (by first | omega | trivial | exact ⟨trivial, trivial⟩)] | rw [if_neg (by omega)])
          · simp [jk_up]
          · simp only [jk_up]; rw [if_neg (by omega), (hf9 _ (by omega)).2.2]; (try simp only [jk_mt, jk_tg, jk_mz, jk_mr, jk_zr, jk_up]); (repeat first | rw [if_pos (by first | omega | trivial | exact ⟨trivial, trivial⟩)] | rw [if_neg (by omega)])
          · simp only [jk_up]; rw [if_neg (by omega), (hf9 _ (by omega)).2.2]; (try simp only [jk_mt, jk_tg, jk_mz, jk_mr, jk_zr, jk_up]); (repeat first | rw [if_pos (by first | omega | trivial | exact ⟨trivial, trivial⟩)] | rw [if_neg (by omega)])
          · exact wa_at_up hp (by omega) (by have := hp.2.2.1.2.2.2.2.2; omega))
/-- Changes at c -/
def ch_at (t : jk_T) (ρ : jk_P) (c y w f s : Nat) : Prop := (t c = some (.inr 2) ∧ ρ c 0 = some s ∧ ρ c 1 = some f ∧ ρ c 2 = some w ∧ ρ c 3 = some y) ∧ wa_at t ρ w f s ∧ sh_at t ρ y s ∧ w + 4 < y ∧ y + 4 < c
theorem ch_at_ext {t t' : jk_T} {ρ ρ' : jk_P} {c y w f s N : Nat} (h : ∀ a, a < N → t' a = t a ∧ ρ' a = ρ a) (hN : c < N) (hs : ch_at t ρ c y w f s) : ch_at t' ρ' c y w f s := by
  obtain ⟨⟨a1, a2, a3, a4, a5⟩, b, d, e, e2⟩ := hs
  have h9 := (h c (by omega)).2
  exact ⟨⟨(h _ (by omega)).1.trans a1, by rw [h9]; exact a2, by rw [h9]; exact a3, by rw [h9]; exact a4, by rw [h9]; exact a5⟩, wa_at_ext h (by omega) b, sh_at_ext h (by omega) d, e, e2⟩
/-- a Script at q -/
def sc_at (t : jk_T) (ρ : jk_P) (q : Nat) : Prop := (t q = some (.inr 7) ∧ t (q + 2) = some (.inl (.char, 60)) ∧ t (q + 4) = some (.inl (.object "LevelingNetwork$Kind", 10)) ∧ t (q + 6) = some (.inl (.array .int, 10))) ∧ (ρ q 0 = some (q + 2) ∧ ρ q 4 = some (q + 4) ∧ ρ q 5 = some (q + 6)) ∧ ∀ i : Nat, i < 10 → t (q + (8 + 2 * i)) = some (.inl (.int, 4)) ∧ ρ (q + 6) (i : Int) = some (q + (8 + 2 * i))
theorem c_X2_init {G : jk_G} {n : Nat} {t : jk_T} {σ : jk_I} {ρ : jk_P} {c : Nat} {s f w y : Nat} (hm0 : t c = some (.inr 2)) (hwa : wa_at t ρ w f s) (hsh : sh_at t ρ y s) (hwy : w + 4 < y) (hyc : y + 4 < c) (hn : n = c + 2) : jk_K G yX2_init mX2_init 0 0 [.ref c, .ref s, .ref f, .ref w, .ref y] n t σ ρ (nw_Q c 2 t σ ρ (fun t' _ ρ' => ch_at t' ρ' c y w f s)) jk_no := by
  subst hn
  refine jk_entryB (ls := [some (.ref c), some (.ref s), some (.ref f), some (.ref w), some (.ref y)]) jm_X2_init.1 rfl rfl rfl ?_
  refine jk_aload_n (q := 1) dX2_init_0 rfl rfl ?_
  refine jk_obj (q := 4) jw_294 rfl rfl dX2_init_1 rfl ?_
  refine jk_aload_n (q := 5) dX2_init_4 rfl rfl ?_
  refine jk_aload_n (q := 6) dX2_init_5 rfl rfl ?_
  refine jk_putAF (q := 9) (k := 2) 0 0 rfl (by first | assumption | (simp only [jk_mt, jk_tg]; (repeat rw [if_neg (by omega)]); assumption)) rfl rfl rfl rfl (by first | exact Or.inl ⟨_, rfl⟩ | exact Or.inr ⟨_, rfl⟩) jw_295 dX2_init_6 rfl ?_
  refine jk_aload_n (q := 10) dX2_init_9 rfl rfl ?_
  refine jk_aload_n (q := 11) dX2_init_10 rfl rfl ?_
  refine jk_putAF (q := 14) (k := 2) 1 1 rfl (by first | assumption | (simp only [jk_mt, jk_tg]; (repeat rw [if_neg (by omega)]); assumption)) rfl rfl rfl rfl (by first | exact Or.inl ⟨_, rfl⟩ | exact Or.inr ⟨_, rfl⟩) jw_296 dX2_init_11 rfl ?_
  refine jk_aload_n (q := 15) dX2_init_14 rfl rfl ?_
  refine jk_aload_n (q := 16) dX2_init_15 rfl rfl ?_
  refine jk_putAF (q := 19) (k := 2) 2 2 rfl (by first | assumption | (simp only [jk_mt, jk_tg]; (repeat rw [if_neg (by omega)]); assumption)) rfl rfl rfl rfl (by first | exact Or.inl ⟨_, rfl⟩ | exact Or.inr ⟨_, rfl⟩) jw_297 dX2_init_16 rfl ?_
  refine jk_aload_n (q := 20) dX2_init_19 rfl rfl ?_
  refine jk_aload (q := 22) dX2_init_20 rfl rfl ?_
  refine jk_putAF (q := 25) (k := 2) 3 3 rfl (by first | assumption | (simp only [jk_mt, jk_tg]; (repeat rw [if_neg (by omega)]); assumption)) rfl rfl rfl rfl (by first | exact Or.inl ⟨_, rfl⟩ | exact Or.inr ⟨_, rfl⟩) jw_298 dX2_init_22 rfl ?_
  exact jk_ret rfl dX2_init_25 (by
    refine ⟨rfl, by omega, fun a ha => ⟨by (try simp only [jk_mt, jk_tg, jk_mz, jk_mr, jk_zr, jk_up]); (repeat first | rw [if_pos (by first | omega | trivial | exact ⟨trivial, trivial⟩)] | rw [if_neg (by omega)]); all_goals rfl, by funext j; (try simp only [jk_mt, jk_tg, jk_mz, jk_mr, jk_zr, jk_up]); (repeat first | rw [if_pos (by first | omega | trivial | exact ⟨trivial, trivial⟩)] | rw [if_neg (by omega)]); all_goals rfl, by funext j; (try simp only [jk_mt, jk_tg, jk_mz, jk_mr, jk_zr, jk_up]); (repeat first | rw [if_pos (by first | omega | trivial | exact ⟨trivial, trivial⟩)] | rw [if_neg (by omega)]); all_goals rfl⟩, ?_⟩
    refine ⟨⟨by (try simp only [jk_mt, jk_tg, jk_mz, jk_mr, jk_zr, jk_up]); (repeat first | rw [if_pos (by first | omega | trivial | exact ⟨trivial, trivial⟩)] | rw [if_neg (by omega)]); exact hm0, (by (try simp only [jk_mt, jk_tg, jk_mz, jk_mr, jk_zr, jk_up]); (repeat first | rw [if_pos (by first | omega | trivial | exact ⟨trivial, trivial⟩)] | rw [if_neg (by omega)]); all_goals (first | rfl | assumption)), (by (try simp only [jk_mt, jk_tg, jk_mz, jk_mr, jk_zr, jk_up]); (repeat first | rw [if_pos (by first | omega | trivial | exact ⟨trivial, trivial⟩)] | rw [if_neg (by omega)]); all_goals (first | rfl | assumption)), (by (try simp only [jk_mt, jk_tg, jk_mz, jk_mr, jk_zr, jk_up]); (repeat first | rw [if_pos (by first | omega | trivial | exact ⟨trivial, trivial⟩)] | rw [if_neg (by omega)]); all_goals (first | rfl | assumption)), (by (try simp only [jk_mt, jk_tg, jk_mz, jk_mr, jk_zr, jk_up]); (repeat first | rw [if_pos (by first | omega | trivial | exact ⟨trivial, trivial⟩)] | rw [if_neg (by omega)]); all_goals (first | rfl | assumption))⟩, wa_at_ext (N := c) (fun a ha => ⟨by (try simp only [jk_mt, jk_tg, jk_mz, jk_mr, jk_zr, jk_up]); (repeat first | rw [if_pos (by first | omega | trivial | exact ⟨trivial, trivial⟩)] | rw [if_neg (by omega)]); all_goals rfl, by funext j; (try simp only [jk_mt, jk_tg, jk_mz, jk_mr, jk_zr, jk_up]); (repeat first | rw [if_pos (by first | omega | trivial | exact ⟨trivial, trivial⟩)] | rw [if_neg (by omega)]); all_goals rfl⟩) (by omega) hwa, sh_at_ext (N := c) (fun a ha => ⟨by (try simp only [jk_mt, jk_tg, jk_mz, jk_mr, jk_zr, jk_up]); (repeat first | rw [if_pos (by first | omega | trivial | exact ⟨trivial, trivial⟩)] | rw [if_neg (by omega)]); all_goals rfl, by funext j; (try simp only [jk_mt, jk_tg, jk_mz, jk_mr, jk_zr, jk_up]); (repeat first | rw [if_pos (by first | omega | trivial | exact ⟨trivial, trivial⟩)] | rw [if_neg (by omega)]); all_goals rfl⟩) hyc hsh, hwy, hyc⟩)
theorem c_X7_init {G : jk_G} {n : Nat} {t : jk_T} {σ : jk_I} {ρ : jk_P} {q : Nat}  (hm0 : t q = some (.inr 7)) (hn : n = q + 2) : jk_K G yX7_init mX7_init 13 120 [.ref q] n t σ ρ (nw_Q q 28 t σ ρ (fun t' σ' ρ' => sc_at t' ρ' q ∧ σ' q = σ q ∧ σ' (q + 2) = fun _ => 0)) jk_no := by
  subst hn
  refine jk_entryB (ls := [some (.ref q)]) jm_X7_init.1 rfl rfl rfl ?_
  refine jk_aload_n (q := 1) dX7_init_0 rfl rfl ?_
  refine jk_obj (q := 4) jw_313 rfl rfl dX7_init_1 rfl ?_
  refine jk_aload_n (q := 5) dX7_init_4 rfl rfl ?_
  refine jk_bipush (q := 7) (y := 60) dX7_init_5 rfl (by decide) ?_
  refine jk_newarr (q := 9) (atype := .char) (ty := .char) (len := 60) rfl jw_341 rfl (by decide) (by decide) (by decide) dX7_init_7 rfl ?_
  refine jk_putAF (q := 12) (k := 7) 0 0 rfl (by first | assumption | (simp only [jk_mt, jk_tg]; (repeat rw [if_neg (by omega)]); assumption)) rfl rfl rfl rfl (by first | exact Or.inl ⟨_, rfl⟩ | exact Or.inr ⟨_, rfl⟩) jw_317 dX7_init_9 rfl ?_
  refine jk_aload_n (q := 13) dX7_init_12 rfl rfl ?_
  refine jk_bipush (q := 15) (y := 10) dX7_init_13 rfl (by decide) ?_
  refine jk_anew (q := 18) (C := "LevelingNetwork$Kind") (len := 10) rfl jw_314 jw_315 (by decide) (by decide) (by decide) dX7_init_15 rfl ?_
  refine jk_putAF (q := 21) (k := 7) 4 4 rfl (by first | assumption | (simp only [jk_mt, jk_tg]; (repeat rw [if_neg (by omega)]); assumption)) rfl rfl rfl rfl (by first | exact Or.inl ⟨_, rfl⟩ | exact Or.inr ⟨_, rfl⟩) jw_324 dX7_init_18 rfl ?_
  refine jk_aload_n (q := 22) dX7_init_21 rfl rfl ?_
  refine jk_bipush (q := 24) (y := 10) dX7_init_22 rfl (by decide) ?_
  refine jk_iconst (q := 25) dX7_init_24 rfl ?_
  refine jk_mna (q := 29) (N := 10) (K := 4) rfl rfl (nm := "[[I") (by decide +kernel) jw_316 jw_53 jw_162 (by decide) (by decide) (by decide) (by decide) dX7_init_25 rfl ?_
  refine jk_putAF (q := 32) (k := 7) 5 5 rfl (by first | assumption | (simp only [jk_mt, jk_tg]; (repeat rw [if_neg (by omega)]); assumption)) rfl rfl rfl rfl (by first | exact Or.inl ⟨_, rfl⟩ | exact Or.inr ⟨_, rfl⟩) jw_326 dX7_init_29 rfl ?_
  exact jk_ret rfl dX7_init_32 (by
    refine ⟨rfl, by omega, fun a ha => ⟨by (try simp only [jk_mt, jk_tg, jk_mz, jk_mr, jk_zr, jk_up]); (repeat first | rw [if_pos (by first | omega | trivial | exact ⟨trivial, trivial⟩)] | rw [if_neg (by omega)]); all_goals rfl, by funext j; (try simp only [jk_mt, jk_tg, jk_mz, jk_mr, jk_zr, jk_up]); (repeat first | rw [if_pos (by first | omega | trivial | exact ⟨trivial, trivial⟩)] | rw [if_neg (by omega)]); all_goals rfl, by funext j; (try simp only [jk_mt, jk_tg, jk_mz, jk_mr, jk_zr, jk_up]); (repeat first | rw [if_pos (by first | omega | trivial | exact ⟨trivial, trivial⟩)] | rw [if_neg (by omega)]); all_goals rfl⟩, ?_⟩
    refine ⟨⟨⟨by (try simp only [jk_mt, jk_tg, jk_mz, jk_mr, jk_zr, jk_up]); (repeat first | rw [if_pos (by first | omega | trivial | exact ⟨trivial, trivial⟩)] | rw [if_neg (by omega)]); exact hm0, (by (try simp only [jk_mt, jk_tg, jk_mz, jk_mr, jk_zr, jk_up]); (repeat first | rw [if_pos (by first | omega | trivial | exact ⟨trivial, trivial⟩)] | rw [if_neg (by omega)]); all_goals (first | rfl | assumption)), (by (try simp only [jk_mt, jk_tg, jk_mz, jk_mr, jk_zr, jk_up]); (repeat first | rw [if_pos (by first | omega | trivial | exact ⟨trivial, trivial⟩)] | rw [if_neg (by omega)]); all_goals (first | rfl | assumption)), (by (try simp only [jk_mt, jk_tg, jk_mz, jk_mr, jk_zr, jk_up]); (repeat first | rw [if_pos (by first | omega | trivial | exact ⟨trivial, trivial⟩)] | rw [if_neg (by omega)]); all_goals (first | rfl | assumption))⟩, ⟨(by (try simp only [jk_mt, jk_tg, jk_mz, jk_mr, jk_zr, jk_up]); (repeat first | rw [if_pos (by first | omega | trivial | exact ⟨trivial, trivial⟩)] | rw [if_neg (by omega)]); all_goals (first | rfl | assumption)), (by (try simp only [jk_mt, jk_tg, jk_mz, jk_mr, jk_zr, jk_up]); (repeat first | rw [if_pos (by first | omega | trivial | exact ⟨trivial, trivial⟩)] | rw [if_neg (by omega)]); all_goals (first | rfl | assumption)), (by (try simp only [jk_mt, jk_tg, jk_mz, jk_mr, jk_zr, jk_up]); (repeat first | rw [if_pos (by first | omega | trivial | exact ⟨trivial, trivial⟩)] | rw [if_neg (by omega)]); all_goals (first | rfl | assumption))⟩, fun i hi => ⟨(by (try simp only [jk_mt, jk_tg, jk_mz, jk_mr, jk_zr, jk_up]); (repeat first | rw [if_pos (by first | omega | trivial | exact ⟨trivial, trivial⟩)] | rw [if_neg (by omega)]); all_goals (first | rfl | assumption)), ?_⟩⟩, by funext j; (try simp only [jk_mt, jk_tg, jk_mz, jk_mr, jk_zr, jk_up]); (repeat first | rw [if_pos (by first | omega | trivial | exact ⟨trivial, trivial⟩)] | rw [if_neg (by omega)]), by funext j; (try simp only [jk_mt, jk_tg, jk_mz, jk_mr, jk_zr, jk_up]); (repeat first | rw [if_pos (by first | omega | trivial | exact ⟨trivial, trivial⟩)] | rw [if_neg (by omega)])⟩
    (try simp only [jk_mt, jk_tg, jk_mz, jk_mr, jk_zr, jk_up]); (repeat first | rw [if_pos (by first | omega | trivial | exact ⟨trivial, trivial⟩)] | rw [if_neg (by omega)]); all_goals (refine congrArg some ?_; omega))
end CC3
