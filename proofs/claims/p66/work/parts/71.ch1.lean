section CH1
/-- Heights at h over the Forest at f and the Survey at s; its own Way lies at h + 6 -/
def he_at (t : jk_T) (ρ : jk_P) (h f s : Nat) : Prop := (t h = some (.inr 4) ∧ t (h + 2) = some (.inl (.boolean, 10)) ∧ t (h + 4) = some (.inl (.int, 10))) ∧ (ρ h 0 = some s ∧ ρ h 1 = some f ∧ ρ h 2 = some (h + 6) ∧ ρ h 3 = some (h + 2) ∧ ρ h 4 = some (h + 4)) ∧ wa_at t ρ (h + 6) f s ∧ f + 8 < h
theorem jk_r5 {α : Type} {f : Nat → Int → α} {a b : Nat} {x y y2 x2 x3 : Int → α} (h : a ≠ b) : jk_row (jk_row (jk_row (jk_row (jk_row f a x) b y) b y2) a x2) a x3 = jk_row (jk_row f a x3) b y2 := by
  rw [jk_row_row, jk_row_row, jk_row_comm (jk_row f a x) y2 x3 (Ne.symm h), jk_row_row]
def he_Q (h : Nat) (σ : jk_I) (n : Nat) (t : jk_T) (ρ : jk_P) (v : Value) : jk_Q := fun v' n' t' σ' ρ' => v' = some v ∧ n' = n ∧ t' = t ∧ ρ' = ρ ∧ ∀ a, a ≤ h ∨ h + 10 < a → σ' a = σ a
def he_PQ (h : Nat) (g : Int → Int) (st lv : Int) (σ : jk_I) (n : Nat) (t : jk_T) (ρ : jk_P) : jk_Q := fun v' n' t' σ' ρ' => v' = none ∧ n' = n ∧ t' = t ∧ ρ' = ρ ∧ (∀ a, a ≠ h + 2 → a ≠ h + 4 → σ' a = σ a) ∧ ∀ P, cm_pot g (md_T g) (md_cor g) P → ∀ p, 0 ≤ p ∧ p < g 0 → md_Ro g p = md_Ro g st → σ' (h + 4) p = P p - P st + lv
theorem c_X4_datumOf {G : jk_G} {n : Nat} {t : jk_T} {σ : jk_I} {ρ : jk_P} {h f s : Nat} {g : Int → Int} {B p : Int} (hhe : he_at t ρ h f s) (hr : cl_rel σ s g) (hi : md_inv B g) (ho : fo_ok σ f g) (hp : 0 ≤ p ∧ p < g 0) : jk_K G yX4_datumOf mX4_datumOf 0 0 [.ref h, jI p] n t σ ρ (jk_q (some (jI (md_dat g (md_Ro g) p))) n t σ ρ) jk_no := by
  obtain ⟨⟨hh1, hh2, hh3⟩, ⟨hq1, hq2, hq3, hq4, hq5⟩, hwa, hfh⟩ := id hhe
  obtain ⟨⟨ha1, ha2, ha3⟩, ⟨hb1, hb2, hb3, hb4⟩, hf, hfw⟩ := id hwa
  obtain ⟨hf1, hf2, hf3, hf4, hs, hsf⟩ := id hf
  have i0 := hi.1
  have i1 := hi.2.1
  have i2 := hi.2.2.1.2
  obtain ⟨ho1, ho2, -⟩ := id ho
  have htr1 : ∀ l, 0 ≤ l ∧ l < 16 → md_T g l = 0 ∨ md_T g l = 1 := (md_kr_tr hi 50).1
  have htr2 : ∀ p, 0 ≤ p ∧ p < 10 → 0 ≤ md_Ro g p ∧ md_Ro g p < 10 := (md_kr_tr hi 50).2
  have hrp := ho2 p ⟨by omega, by omega⟩
  have hrb := htr2 p ⟨by omega, by omega⟩
  refine jk_entryB (ls := [some (.ref h), some (jI p), none]) jm_X4_datumOf.1 rfl rfl rfl ?_
  refine jk_iconst (q := 1) dX4_datumOf_0 rfl ?_
  refine jk_istore2 (q := 2) dX4_datumOf_1 rfl rfl rfl ?_
  have L2 : ∀ k2 : Nat, k2 ≤ (g 0).toNat → (hfd : jk_fnd (md_datP g (md_Ro g) p) k2 = -1) → jk_J G mX4_datumOf 2 [some (.ref h), some (jI p), some (jI (k2 : Int))] [] n t σ ρ 0 0 (jk_q (some (jI (md_dat g (md_Ro g) p))) n t σ ρ) jk_no := by
    refine jk_loop _ (fun k2 hk2 ih2 => ?_)
    intro  hfd
    refine jk_iload_n (q := 3) dX4_datumOf_2 rfl rfl ?_
    refine jk_aload_n (q := 4) dX4_datumOf_3 rfl rfl ?_
    refine jk_getA (q := 7) (k := 4) 0 0 rfl (by first | exact hh1 | exact hh2 | exact hh3 | exact ha1 | exact ha2 | exact ha3 | exact hf1 | exact hs.1 | exact hf2 _ _ rfl | exact hs.2.1 _ _ rfl | assumption) (by first | exact hq1 | exact hq2 | exact hq3 | exact hq4 | exact hq5 | exact hb1 | exact hb2 | exact hb3 | exact hb4 | exact hf4 | exact hf3 _ _ rfl | exact hs.2.2.1 _ _ rfl | assumption) rfl rfl jw_263 dX4_datumOf_4 rfl ?_
    refine jk_getIR (q := 10) (k := 9) 0 0 rfl (by first | exact hh1 | exact hh2 | exact hh3 | exact ha1 | exact ha2 | exact ha3 | exact hf1 | exact hs.1 | exact hf2 _ _ rfl | exact hs.2.1 _ _ rfl | assumption) (by first | exact jk_row_same _ _ _ | ((repeat rewrite [jk_row_ne _ _ (by omega)]); first | exact jk_row_same _ _ _ | rfl)) rfl rfl jw_54 dX4_datumOf_7 rfl ?_
    rw [hr.1.1]
    refine jk_icmp_ge (q := 54) (q2 := 13) dX4_datumOf_10 rfl rfl (by first | assumption | decide | omega | exact jB_01 _ | exact jB_in _ | exact ⟨by omega, by omega⟩) (by first | assumption | decide | omega | exact jB_01 _ | exact jB_in _ | exact ⟨by omega, by omega⟩) (fun z1 => ?_) (fun z1 => ?_)
    · refine jk_iconst (q := 55) dX4_datumOf_54 rfl ?_
      exact jk_iret rfl dX4_datumOf_55 (by refine jk_qI ?_; unfold md_dat; rw [show (g 0).toNat = k2 by omega]; exact hfd.symm)
    · have p1 := (hr.2.1 (k2 : Int) ⟨by omega, by omega⟩).1
      have p2 := (hi.2.2.2.2.1 (k2 : Int) ⟨by omega, by omega⟩).1
      have p3 := ho2 (k2 : Int) ⟨by omega, by omega⟩
      have p4 := htr2 (k2 : Int) ⟨by omega, by omega⟩
      refine jk_aload_n (q := 14) dX4_datumOf_13 rfl rfl ?_
      refine jk_getA (q := 17) (k := 4) 0 0 rfl (by first | exact hh1 | exact hh2 | exact hh3 | exact ha1 | exact ha2 | exact ha3 | exact hf1 | exact hs.1 | exact hf2 _ _ rfl | exact hs.2.1 _ _ rfl | assumption) (by first | exact hq1 | exact hq2 | exact hq3 | exact hq4 | exact hq5 | exact hb1 | exact hb2 | exact hb3 | exact hb4 | exact hf4 | exact hf3 _ _ rfl | exact hs.2.2.1 _ _ rfl | assumption) rfl rfl jw_263 dX4_datumOf_14 rfl ?_
      refine jk_getA (q := 20) (k := 9) 1 1 rfl (by first | exact hh1 | exact hh2 | exact hh3 | exact ha1 | exact ha2 | exact ha3 | exact hf1 | exact hs.1 | exact hf2 _ _ rfl | exact hs.2.1 _ _ rfl | assumption) (by first | exact hq1 | exact hq2 | exact hq3 | exact hq4 | exact hq5 | exact hb1 | exact hb2 | exact hb3 | exact hb4 | exact hf4 | exact hf3 _ _ rfl | exact hs.2.2.1 _ _ rfl | assumption) rfl rfl jw_60 dX4_datumOf_17 rfl ?_
      refine jk_iload_n (q := 21) dX4_datumOf_20 rfl rfl ?_
      refine jk_zaldR (q := 22) (by first | exact hh1 | exact hh2 | exact hh3 | exact ha1 | exact ha2 | exact ha3 | exact hf1 | exact hs.1 | exact hf2 _ _ rfl | exact hs.2.1 _ _ rfl | assumption) (by first | exact jk_row_same _ _ _ | ((repeat rewrite [jk_row_ne _ _ (by omega)]); first | exact jk_row_same _ _ _ | rfl)) (by first | assumption | decide | omega | exact jB_01 _ | exact jB_in _ | exact ⟨by omega, by omega⟩) dX4_datumOf_21 rfl ?_
      refine jk_if_eq (q := 48) (q2 := 25) dX4_datumOf_22 rfl rfl (by first | assumption | decide | omega | exact jB_01 _ | exact jB_in _ | exact ⟨by omega, by omega⟩) (fun z2 => ?_) (fun z2 => ?_)
      · refine jk_iinc2 (q := 51) dX4_datumOf_48 rfl rfl rfl ?_
        refine jk_goto (q := 2) dX4_datumOf_51 rfl ?_
        exact jk_convw (ih2 (by omega) (jk_fnd_S hfd (by unfold md_datP; exact decide_eq_false (by omega)))) (jk_wkS rfl (jk_wkS rfl (jk_wkS rfl jk_wk0)))
      · refine jk_aload_n (q := 26) dX4_datumOf_25 rfl rfl ?_
        refine jk_getA (q := 29) (k := 4) 1 1 rfl (by first | exact hh1 | exact hh2 | exact hh3 | exact ha1 | exact ha2 | exact ha3 | exact hf1 | exact hs.1 | exact hf2 _ _ rfl | exact hs.2.1 _ _ rfl | assumption) (by first | exact hq1 | exact hq2 | exact hq3 | exact hq4 | exact hq5 | exact hb1 | exact hb2 | exact hb3 | exact hb4 | exact hf4 | exact hf3 _ _ rfl | exact hs.2.2.1 _ _ rfl | assumption) rfl rfl jw_264 dX4_datumOf_26 rfl ?_
        refine jk_getA (q := 32) (k := 3) 5 5 rfl (by first | exact hh1 | exact hh2 | exact hh3 | exact ha1 | exact ha2 | exact ha3 | exact hf1 | exact hs.1 | exact hf2 _ _ rfl | exact hs.2.1 _ _ rfl | assumption) (by first | exact hq1 | exact hq2 | exact hq3 | exact hq4 | exact hq5 | exact hb1 | exact hb2 | exact hb3 | exact hb4 | exact hf4 | exact hf3 _ _ rfl | exact hs.2.2.1 _ _ rfl | assumption) rfl rfl jw_198 dX4_datumOf_29 rfl ?_
        refine jk_iload_n (q := 33) dX4_datumOf_32 rfl rfl ?_
        refine jk_ialdR (q := 34) (by first | exact hh1 | exact hh2 | exact hh3 | exact ha1 | exact ha2 | exact ha3 | exact hf1 | exact hs.1 | exact hf2 _ _ rfl | exact hs.2.1 _ _ rfl | assumption) (by first | exact jk_row_same _ _ _ | ((repeat rewrite [jk_row_ne _ _ (by omega)]); first | exact jk_row_same _ _ _ | rfl)) (by first | assumption | decide | omega | exact jB_01 _ | exact jB_in _ | exact ⟨by omega, by omega⟩) dX4_datumOf_33 rfl ?_
        refine jk_aload_n (q := 35) dX4_datumOf_34 rfl rfl ?_
        refine jk_getA (q := 38) (k := 4) 1 1 rfl (by first | exact hh1 | exact hh2 | exact hh3 | exact ha1 | exact ha2 | exact ha3 | exact hf1 | exact hs.1 | exact hf2 _ _ rfl | exact hs.2.1 _ _ rfl | assumption) (by first | exact hq1 | exact hq2 | exact hq3 | exact hq4 | exact hq5 | exact hb1 | exact hb2 | exact hb3 | exact hb4 | exact hf4 | exact hf3 _ _ rfl | exact hs.2.2.1 _ _ rfl | assumption) rfl rfl jw_264 dX4_datumOf_35 rfl ?_
        refine jk_getA (q := 41) (k := 3) 5 5 rfl (by first | exact hh1 | exact hh2 | exact hh3 | exact ha1 | exact ha2 | exact ha3 | exact hf1 | exact hs.1 | exact hf2 _ _ rfl | exact hs.2.1 _ _ rfl | assumption) (by first | exact hq1 | exact hq2 | exact hq3 | exact hq4 | exact hq5 | exact hb1 | exact hb2 | exact hb3 | exact hb4 | exact hf4 | exact hf3 _ _ rfl | exact hs.2.2.1 _ _ rfl | assumption) rfl rfl jw_198 dX4_datumOf_38 rfl ?_
        refine jk_iload_n (q := 42) dX4_datumOf_41 rfl rfl ?_
        refine jk_ialdR (q := 43) (by first | exact hh1 | exact hh2 | exact hh3 | exact ha1 | exact ha2 | exact ha3 | exact hf1 | exact hs.1 | exact hf2 _ _ rfl | exact hs.2.1 _ _ rfl | assumption) (by first | exact jk_row_same _ _ _ | ((repeat rewrite [jk_row_ne _ _ (by omega)]); first | exact jk_row_same _ _ _ | rfl)) (by first | assumption | decide | omega | exact jB_01 _ | exact jB_in _ | exact ⟨by omega, by omega⟩) dX4_datumOf_42 rfl ?_
        refine jk_icmp_ne (q := 48) (q2 := 46) dX4_datumOf_43 rfl rfl (by first | assumption | decide | omega | exact jB_01 _ | exact jB_in _ | exact ⟨by omega, by omega⟩) (by first | assumption | decide | omega | exact jB_01 _ | exact jB_in _ | exact ⟨by omega, by omega⟩) (fun z3 => ?_) (fun z3 => ?_)
        · refine jk_iinc2 (q := 51) dX4_datumOf_48 rfl rfl rfl ?_
          refine jk_goto (q := 2) dX4_datumOf_51 rfl ?_
          exact jk_convw (ih2 (by omega) (jk_fnd_S hfd (by unfold md_datP; exact decide_eq_false (by omega)))) (jk_wkS rfl (jk_wkS rfl (jk_wkS rfl jk_wk0)))
        · refine jk_iload_n (q := 47) dX4_datumOf_46 rfl rfl ?_
          exact jk_iret rfl dX4_datumOf_47 (by refine jk_qI ?_; exact Eq.symm <| jk_fnd_hit hfd (by unfold md_datP; exact decide_eq_true ⟨by omega, by omega⟩) _ (by omega))
  exact jk_convw (L2 0 (Nat.zero_le _) rfl) (jk_wkS rfl (jk_wkS rfl (jk_wkS rfl jk_wk0)))
theorem c_X4_exists {G : jk_G} {n : Nat} {t : jk_T} {σ : jk_I} {ρ : jk_P} {h f s : Nat} {g : Int → Int} {B p : Int} (hhe : he_at t ρ h f s) (hr : cl_rel σ s g) (hi : md_inv B g) (ho : fo_ok σ f g) (hp : 0 ≤ p ∧ p < g 0) : jk_K G yX4_exists mX4_exists 0 0 [.ref h, jI p] n t σ ρ (jk_q (some (jI (jB (md_hi g (md_Ro g) p)))) n t σ ρ) jk_no := by
  obtain ⟨⟨hh1, hh2, hh3⟩, ⟨hq1, hq2, hq3, hq4, hq5⟩, hwa, hfh⟩ := id hhe
  obtain ⟨⟨ha1, ha2, ha3⟩, ⟨hb1, hb2, hb3, hb4⟩, hf, hfw⟩ := id hwa
  obtain ⟨hf1, hf2, hf3, hf4, hs, hsf⟩ := id hf
  have i0 := hi.1
  have i1 := hi.2.1
  have i2 := hi.2.2.1.2
  obtain ⟨ho1, ho2, -⟩ := id ho
  have htr1 : ∀ l, 0 ≤ l ∧ l < 16 → md_T g l = 0 ∨ md_T g l = 1 := (md_kr_tr hi 50).1
  have htr2 : ∀ p, 0 ≤ p ∧ p < 10 → 0 ≤ md_Ro g p ∧ md_Ro g p < 10 := (md_kr_tr hi 50).2
  have hdb := md_dat_bd (r := md_Ro g) hi p
  refine jk_entryB (ls := [some (.ref h), some (jI p)]) jm_X4_exists.1 rfl rfl rfl ?_
  refine jk_aload_n (q := 1) dX4_exists_0 rfl rfl ?_
  refine jk_iload_n (q := 2) dX4_exists_1 rfl rfl ?_
  refine jk_cV1p (q := 5) (c_X4_datumOf hhe hr hi ho hp) jm_X4_datumOf jw_870 rfl (by first | exact hh1 | exact hh2 | exact hh3 | exact ha1 | exact ha2 | exact ha3 | exact hf1 | exact hs.1 | exact hf2 _ _ rfl | exact hs.2.1 _ _ rfl | assumption) rfl rfl rfl dX4_exists_2 rfl ?_
  refine jk_iconst (q := 6) dX4_exists_5 rfl ?_
  refine jk_icmp_eq (q := 13) (q2 := 9) dX4_exists_6 rfl rfl (by first | assumption | decide | omega | exact jB_01 _ | exact jB_in _ | exact ⟨by omega, by omega⟩) (by first | assumption | decide | omega | exact jB_01 _ | exact jB_in _ | exact ⟨by omega, by omega⟩) (fun z1 => ?_) (fun z1 => ?_)
  · refine jk_iconst (q := 14) dX4_exists_13 rfl ?_
    exact jk_zret rfl (by first | assumption | decide | omega | exact jB_01 _ | exact jB_in _ | exact ⟨by omega, by omega⟩) dX4_exists_14 (by refine jk_qI ?_; unfold md_hi; first | (rw [decide_eq_true (by omega)]; rfl) | (rw [decide_eq_false (by omega)]; rfl))
  · refine jk_iconst (q := 10) dX4_exists_9 rfl ?_
    refine jk_goto (q := 14) dX4_exists_10 rfl ?_
    exact jk_zret rfl (by first | assumption | decide | omega | exact jB_01 _ | exact jB_in _ | exact ⟨by omega, by omega⟩) dX4_exists_14 (by refine jk_qI ?_; unfold md_hi; first | (rw [decide_eq_true (by omega)]; rfl) | (rw [decide_eq_false (by omega)]; rfl))
theorem c_X4_passOnOnce {G : jk_G} {n : Nat} {t : jk_T} {σ : jk_I} {ρ : jk_P} {h f s : Nat} {g K V : Int → Int} {B : Int} (hhe : he_at t ρ h f s) (hr : cl_rel σ s g) (hi : md_inv B g) (ho : fo_ok σ f g) (hK : σ (h + 2) = K) (hV : σ (h + 4) = V) (hkb : md_kb K) : jk_K G yX4_passOnOnce mX4_passOnOnce 0 0 [.ref h] n t σ ρ (jk_q (some (jI (jB (md_ch g (md_T g) (g 1).toNat (K, V))))) n t (jk_row (jk_row σ (h + 2) (md_pl g (md_T g) (g 1).toNat (K, V)).1) (h + 4) (md_pl g (md_T g) (g 1).toNat (K, V)).2) ρ) jk_no := by
  obtain ⟨⟨hh1, hh2, hh3⟩, ⟨hq1, hq2, hq3, hq4, hq5⟩, hwa, hfh⟩ := id hhe
  obtain ⟨⟨ha1, ha2, ha3⟩, ⟨hb1, hb2, hb3, hb4⟩, hf, hfw⟩ := id hwa
  obtain ⟨hf1, hf2, hf3, hf4, hs, hsf⟩ := id hf
  have i0 := hi.1
  have i1 := hi.2.1
  have i2 := hi.2.2.1.2
  obtain ⟨ho1, ho2, -⟩ := id ho
  have htr1 : ∀ l, 0 ≤ l ∧ l < 16 → md_T g l = 0 ∨ md_T g l = 1 := (md_kr_tr hi 50).1
  have htr2 : ∀ p, 0 ≤ p ∧ p < 10 → 0 ≤ md_Ro g p ∧ md_Ro g p < 10 := (md_kr_tr hi 50).2
  refine jk_entryB (ls := [some (.ref h), none, none, none, none]) jm_X4_passOnOnce.1 rfl rfl rfl ?_
  refine jk_iconst (q := 1) dX4_passOnOnce_0 rfl ?_
  refine jk_istore1 (q := 2) dX4_passOnOnce_1 rfl rfl rfl ?_
  refine jk_iconst (q := 3) dX4_passOnOnce_2 rfl ?_
  refine jk_istore2 (q := 4) dX4_passOnOnce_3 rfl rfl rfl ?_
  have L4 : ∀ k4 : Nat, k4 ≤ (g 1).toNat → ∀ (σ1 : jk_I), (h1 : σ1 = jk_row (jk_row σ (h + 2) (md_pl g (md_T g) k4 (K, V)).1) (h + 4) (md_pl g (md_T g) k4 (K, V)).2) → jk_J G mX4_passOnOnce 4 [some (.ref h), some (jI (jB (md_ch g (md_T g) k4 (K, V)))), some (jI (k4 : Int)), none, none] [] n t σ1 ρ 0 0 (jk_q (some (jI (jB (md_ch g (md_T g) (g 1).toNat (K, V))))) n t (jk_row (jk_row σ (h + 2) (md_pl g (md_T g) (g 1).toNat (K, V)).1) (h + 4) (md_pl g (md_T g) (g 1).toNat (K, V)).2) ρ) jk_no := by
    refine jk_loop _ (fun k4 hk4 ih4 => ?_)
    intro σ1 h1
    have hr1 : cl_rel σ1 s g := cl_rel_same i2 (fun a h8 h9 => by rw [h1, jk_row_ne _ _ (by omega), jk_row_ne _ _ (by omega)]) hr
    have ho9 : fo_ok σ1 f g := wa_ok_same (fun a h8 h9 => by rw [h1, jk_row_ne _ _ (by omega), jk_row_ne _ _ (by omega)]) ho
    have hK1 : σ1 (h + 2) = (md_pl g (md_T g) k4 (K, V)).1 := by rw [h1, jk_row_ne _ _ (by omega), jk_row_same]
    have hV1 : σ1 (h + 4) = (md_pl g (md_T g) k4 (K, V)).2 := by rw [h1, jk_row_same]
    have hkb1 := md_pl_kb (g := g) (T := md_T g) (s := (K, V)) hkb k4
    refine jk_iload_n (q := 5) dX4_passOnOnce_4 rfl rfl ?_
    refine jk_aload_n (q := 6) dX4_passOnOnce_5 rfl rfl ?_
    refine jk_getA (q := 9) (k := 4) 0 0 rfl (by first | exact hh1 | exact hh2 | exact hh3 | exact ha1 | exact ha2 | exact ha3 | exact hf1 | exact hs.1 | exact hf2 _ _ rfl | exact hs.2.1 _ _ rfl | assumption) (by first | exact hq1 | exact hq2 | exact hq3 | exact hq4 | exact hq5 | exact hb1 | exact hb2 | exact hb3 | exact hb4 | exact hf4 | exact hf3 _ _ rfl | exact hs.2.2.1 _ _ rfl | assumption) rfl rfl jw_263 dX4_passOnOnce_6 rfl ?_
    refine jk_getIR (q := 12) (k := 9) 3 3 rfl (by first | exact hh1 | exact hh2 | exact hh3 | exact ha1 | exact ha2 | exact ha3 | exact hf1 | exact hs.1 | exact hf2 _ _ rfl | exact hs.2.1 _ _ rfl | assumption) (by first | exact jk_row_same _ _ _ | ((repeat rewrite [jk_row_ne _ _ (by omega)]); first | exact jk_row_same _ _ _ | exact hK1 | exact hV1 | rfl)) rfl rfl jw_71 dX4_passOnOnce_9 rfl ?_
    rw [hr1.1.2.1]
    refine jk_icmp_ge (q := 143) (q2 := 15) dX4_passOnOnce_12 rfl rfl (by first | assumption | decide | omega | exact jB_01 _ | exact jB_in _ | exact ⟨by omega, by omega⟩) (by first | assumption | decide | omega | exact jB_01 _ | exact jB_in _ | exact ⟨by omega, by omega⟩) (fun z1 => ?_) (fun z1 => ?_)
    · refine jk_iload_n (q := 144) dX4_passOnOnce_143 rfl rfl ?_
      exact jk_zret rfl (by first | assumption | decide | omega | exact jB_01 _ | exact jB_in _ | exact ⟨by omega, by omega⟩) dX4_passOnOnce_144 (by refine ⟨by rw [show (g 1).toNat = k4 by omega], rfl, rfl, by rw [h1, show (g 1).toNat = k4 by omega], rfl⟩)
    · obtain ⟨l1, l2, -⟩ := md_inv_ln hi (l := (k4 : Int)) ⟨by omega, by omega⟩
      obtain ⟨q1, q2, -⟩ := hr1.2.2.1 (k4 : Int) ⟨by omega, by omega⟩
      have hT := ho9.1 (k4 : Int) ⟨by omega, by omega⟩
      have hT2 := htr1 (k4 : Int) ⟨by omega, by omega⟩
      have ka := hkb1 _ l1
      have kb := hkb1 _ l2
      refine jk_aload_n (q := 16) dX4_passOnOnce_15 rfl rfl ?_
      refine jk_getA (q := 19) (k := 4) 0 0 rfl (by first | exact hh1 | exact hh2 | exact hh3 | exact ha1 | exact ha2 | exact ha3 | exact hf1 | exact hs.1 | exact hf2 _ _ rfl | exact hs.2.1 _ _ rfl | assumption) (by first | exact hq1 | exact hq2 | exact hq3 | exact hq4 | exact hq5 | exact hb1 | exact hb2 | exact hb3 | exact hb4 | exact hf4 | exact hf3 _ _ rfl | exact hs.2.2.1 _ _ rfl | assumption) rfl rfl jw_263 dX4_passOnOnce_16 rfl ?_
      refine jk_getA (q := 22) (k := 9) 4 4 rfl (by first | exact hh1 | exact hh2 | exact hh3 | exact ha1 | exact ha2 | exact ha3 | exact hf1 | exact hs.1 | exact hf2 _ _ rfl | exact hs.2.1 _ _ rfl | assumption) (by first | exact hq1 | exact hq2 | exact hq3 | exact hq4 | exact hq5 | exact hb1 | exact hb2 | exact hb3 | exact hb4 | exact hf4 | exact hf3 _ _ rfl | exact hs.2.2.1 _ _ rfl | assumption) rfl rfl jw_76 dX4_passOnOnce_19 rfl ?_
      refine jk_iload_n (q := 23) dX4_passOnOnce_22 rfl rfl ?_
      refine jk_ialdR (q := 24) (by first | exact hh1 | exact hh2 | exact hh3 | exact ha1 | exact ha2 | exact ha3 | exact hf1 | exact hs.1 | exact hf2 _ _ rfl | exact hs.2.1 _ _ rfl | assumption) (by first | exact jk_row_same _ _ _ | ((repeat rewrite [jk_row_ne _ _ (by omega)]); first | exact jk_row_same _ _ _ | exact hK1 | exact hV1 | rfl)) (by first | assumption | decide | omega | exact jB_01 _ | exact jB_in _ | exact ⟨by omega, by omega⟩) dX4_passOnOnce_23 rfl ?_
      rw [q1]
      refine jk_istore3 (q := 25) dX4_passOnOnce_24 rfl rfl rfl ?_
      refine jk_aload_n (q := 26) dX4_passOnOnce_25 rfl rfl ?_
      refine jk_getA (q := 29) (k := 4) 0 0 rfl (by first | exact hh1 | exact hh2 | exact hh3 | exact ha1 | exact ha2 | exact ha3 | exact hf1 | exact hs.1 | exact hf2 _ _ rfl | exact hs.2.1 _ _ rfl | assumption) (by first | exact hq1 | exact hq2 | exact hq3 | exact hq4 | exact hq5 | exact hb1 | exact hb2 | exact hb3 | exact hb4 | exact hf4 | exact hf3 _ _ rfl | exact hs.2.2.1 _ _ rfl | assumption) rfl rfl jw_263 dX4_passOnOnce_26 rfl ?_
      refine jk_getA (q := 32) (k := 9) 5 5 rfl (by first | exact hh1 | exact hh2 | exact hh3 | exact ha1 | exact ha2 | exact ha3 | exact hf1 | exact hs.1 | exact hf2 _ _ rfl | exact hs.2.1 _ _ rfl | assumption) (by first | exact hq1 | exact hq2 | exact hq3 | exact hq4 | exact hq5 | exact hb1 | exact hb2 | exact hb3 | exact hb4 | exact hf4 | exact hf3 _ _ rfl | exact hs.2.2.1 _ _ rfl | assumption) rfl rfl jw_82 dX4_passOnOnce_29 rfl ?_
      refine jk_iload_n (q := 33) dX4_passOnOnce_32 rfl rfl ?_
      refine jk_ialdR (q := 34) (by first | exact hh1 | exact hh2 | exact hh3 | exact ha1 | exact ha2 | exact ha3 | exact hf1 | exact hs.1 | exact hf2 _ _ rfl | exact hs.2.1 _ _ rfl | assumption) (by first | exact jk_row_same _ _ _ | ((repeat rewrite [jk_row_ne _ _ (by omega)]); first | exact jk_row_same _ _ _ | exact hK1 | exact hV1 | rfl)) (by first | assumption | decide | omega | exact jB_01 _ | exact jB_in _ | exact ⟨by omega, by omega⟩) dX4_passOnOnce_33 rfl ?_
      rw [q2]
      refine jk_istore4 (q := 36) dX4_passOnOnce_34 rfl rfl rfl ?_
      refine jk_aload_n (q := 37) dX4_passOnOnce_36 rfl rfl ?_
      refine jk_getA (q := 40) (k := 4) 1 1 rfl (by first | exact hh1 | exact hh2 | exact hh3 | exact ha1 | exact ha2 | exact ha3 | exact hf1 | exact hs.1 | exact hf2 _ _ rfl | exact hs.2.1 _ _ rfl | assumption) (by first | exact hq1 | exact hq2 | exact hq3 | exact hq4 | exact hq5 | exact hb1 | exact hb2 | exact hb3 | exact hb4 | exact hf4 | exact hf3 _ _ rfl | exact hs.2.2.1 _ _ rfl | assumption) rfl rfl jw_264 dX4_passOnOnce_37 rfl ?_
      refine jk_getA (q := 43) (k := 3) 4 4 rfl (by first | exact hh1 | exact hh2 | exact hh3 | exact ha1 | exact ha2 | exact ha3 | exact hf1 | exact hs.1 | exact hf2 _ _ rfl | exact hs.2.1 _ _ rfl | assumption) (by first | exact hq1 | exact hq2 | exact hq3 | exact hq4 | exact hq5 | exact hb1 | exact hb2 | exact hb3 | exact hb4 | exact hf4 | exact hf3 _ _ rfl | exact hs.2.2.1 _ _ rfl | assumption) rfl rfl jw_195 dX4_passOnOnce_40 rfl ?_
      refine jk_iload_n (q := 44) dX4_passOnOnce_43 rfl rfl ?_
      refine jk_zaldR (q := 45) (by first | exact hh1 | exact hh2 | exact hh3 | exact ha1 | exact ha2 | exact ha3 | exact hf1 | exact hs.1 | exact hf2 _ _ rfl | exact hs.2.1 _ _ rfl | assumption) (by first | exact jk_row_same _ _ _ | ((repeat rewrite [jk_row_ne _ _ (by omega)]); first | exact jk_row_same _ _ _ | exact hK1 | exact hV1 | rfl)) (by first | assumption | decide | omega | exact jB_01 _ | exact jB_in _ | exact ⟨by omega, by omega⟩) dX4_passOnOnce_44 rfl ?_
      refine jk_if_eq (q := 137) (q2 := 48) dX4_passOnOnce_45 rfl rfl (by first | assumption | decide | omega | exact jB_01 _ | exact jB_in _ | exact ⟨by omega, by omega⟩) (fun z2 => ?_) (fun z2 => ?_)
      · refine jk_iinc2 (q := 140) dX4_passOnOnce_137 rfl rfl rfl ?_
        refine jk_goto (q := 4) dX4_passOnOnce_140 rfl ?_
        have hpass : md_passB g (md_T g) (md_pl g (md_T g) k4 (K, V)) (k4 : Int) = false := by unfold md_passB; rw [decide_eq_true (by first | exact Or.inl (by omega) | exact Or.inr (by assumption))]; rfl
        have hch : md_ch g (md_T g) (k4 + 1) (K, V) = (md_ch g (md_T g) k4 (K, V)) := by show (md_passB g (md_T g) (md_pl g (md_T g) k4 (K, V)) (k4 : Int) || (md_ch g (md_T g) k4 (K, V))) = _; rw [hpass]; rfl
        have hpl : md_pl g (md_T g) (k4 + 1) (K, V) = (md_pl g (md_T g) k4 (K, V)) := md_pass_same hpass
        exact jk_convw (ih4 (by omega) _ (by rw [h1, hpl])) (jk_wkS rfl (jk_wkS (by rw [hch]) (jk_wkS rfl (jk_wkN (jk_wkN jk_wk0)))))
      · refine jk_aload_n (q := 49) dX4_passOnOnce_48 rfl rfl ?_
        refine jk_getA (q := 52) (k := 4) 3 3 rfl (by first | exact hh1 | exact hh2 | exact hh3 | exact ha1 | exact ha2 | exact ha3 | exact hf1 | exact hs.1 | exact hf2 _ _ rfl | exact hs.2.1 _ _ rfl | assumption) (by first | exact hq1 | exact hq2 | exact hq3 | exact hq4 | exact hq5 | exact hb1 | exact hb2 | exact hb3 | exact hb4 | exact hf4 | exact hf3 _ _ rfl | exact hs.2.2.1 _ _ rfl | assumption) rfl rfl jw_266 dX4_passOnOnce_49 rfl ?_
        refine jk_iload_n (q := 53) dX4_passOnOnce_52 rfl rfl ?_
        refine jk_zaldR (q := 54) (by first | exact hh1 | exact hh2 | exact hh3 | exact ha1 | exact ha2 | exact ha3 | exact hf1 | exact hs.1 | exact hf2 _ _ rfl | exact hs.2.1 _ _ rfl | assumption) (by first | exact jk_row_same _ _ _ | ((repeat rewrite [jk_row_ne _ _ (by omega)]); first | exact jk_row_same _ _ _ | exact hK1 | exact hV1 | rfl)) (by first | assumption | decide | omega | exact jB_01 _ | exact jB_in _ | exact ⟨by omega, by omega⟩) dX4_passOnOnce_53 rfl ?_
        refine jk_aload_n (q := 55) dX4_passOnOnce_54 rfl rfl ?_
        refine jk_getA (q := 58) (k := 4) 3 3 rfl (by first | exact hh1 | exact hh2 | exact hh3 | exact ha1 | exact ha2 | exact ha3 | exact hf1 | exact hs.1 | exact hf2 _ _ rfl | exact hs.2.1 _ _ rfl | assumption) (by first | exact hq1 | exact hq2 | exact hq3 | exact hq4 | exact hq5 | exact hb1 | exact hb2 | exact hb3 | exact hb4 | exact hf4 | exact hf3 _ _ rfl | exact hs.2.2.1 _ _ rfl | assumption) rfl rfl jw_266 dX4_passOnOnce_55 rfl ?_
        refine jk_iload (q := 60) dX4_passOnOnce_58 rfl rfl ?_
        refine jk_zaldR (q := 61) (by first | exact hh1 | exact hh2 | exact hh3 | exact ha1 | exact ha2 | exact ha3 | exact hf1 | exact hs.1 | exact hf2 _ _ rfl | exact hs.2.1 _ _ rfl | assumption) (by first | exact jk_row_same _ _ _ | ((repeat rewrite [jk_row_ne _ _ (by omega)]); first | exact jk_row_same _ _ _ | exact hK1 | exact hV1 | rfl)) (by first | assumption | decide | omega | exact jB_01 _ | exact jB_in _ | exact ⟨by omega, by omega⟩) dX4_passOnOnce_60 rfl ?_
        refine jk_icmp_eq (q := 137) (q2 := 64) dX4_passOnOnce_61 rfl rfl (by first | assumption | decide | omega | exact jB_01 _ | exact jB_in _ | exact ⟨by omega, by omega⟩) (by first | assumption | decide | omega | exact jB_01 _ | exact jB_in _ | exact ⟨by omega, by omega⟩) (fun z3 => ?_) (fun z3 => ?_)
        · refine jk_iinc2 (q := 140) dX4_passOnOnce_137 rfl rfl rfl ?_
          refine jk_goto (q := 4) dX4_passOnOnce_140 rfl ?_
          have hpass : md_passB g (md_T g) (md_pl g (md_T g) k4 (K, V)) (k4 : Int) = false := by unfold md_passB; rw [decide_eq_true (by first | exact Or.inl (by omega) | exact Or.inr (by assumption))]; rfl
          have hch : md_ch g (md_T g) (k4 + 1) (K, V) = (md_ch g (md_T g) k4 (K, V)) := by show (md_passB g (md_T g) (md_pl g (md_T g) k4 (K, V)) (k4 : Int) || (md_ch g (md_T g) k4 (K, V))) = _; rw [hpass]; rfl
          have hpl : md_pl g (md_T g) (k4 + 1) (K, V) = (md_pl g (md_T g) k4 (K, V)) := md_pass_same hpass
          exact jk_convw (ih4 (by omega) _ (by rw [h1, hpl])) (jk_wkS rfl (jk_wkS (by rw [hch]) (jk_wkS rfl (jk_wkN (jk_wkN jk_wk0)))))
        · refine jk_aload_n (q := 65) dX4_passOnOnce_64 rfl rfl ?_
          refine jk_getA (q := 68) (k := 4) 3 3 rfl (by first | exact hh1 | exact hh2 | exact hh3 | exact ha1 | exact ha2 | exact ha3 | exact hf1 | exact hs.1 | exact hf2 _ _ rfl | exact hs.2.1 _ _ rfl | assumption) (by first | exact hq1 | exact hq2 | exact hq3 | exact hq4 | exact hq5 | exact hb1 | exact hb2 | exact hb3 | exact hb4 | exact hf4 | exact hf3 _ _ rfl | exact hs.2.2.1 _ _ rfl | assumption) rfl rfl jw_266 dX4_passOnOnce_65 rfl ?_
          refine jk_iload_n (q := 69) dX4_passOnOnce_68 rfl rfl ?_
          refine jk_zaldR (q := 70) (by first | exact hh1 | exact hh2 | exact hh3 | exact ha1 | exact ha2 | exact ha3 | exact hf1 | exact hs.1 | exact hf2 _ _ rfl | exact hs.2.1 _ _ rfl | assumption) (by first | exact jk_row_same _ _ _ | ((repeat rewrite [jk_row_ne _ _ (by omega)]); first | exact jk_row_same _ _ _ | exact hK1 | exact hV1 | rfl)) (by first | assumption | decide | omega | exact jB_01 _ | exact jB_in _ | exact ⟨by omega, by omega⟩) dX4_passOnOnce_69 rfl ?_
          refine jk_if_eq (q := 98) (q2 := 73) dX4_passOnOnce_70 rfl rfl (by first | assumption | decide | omega | exact jB_01 _ | exact jB_in _ | exact ⟨by omega, by omega⟩) (fun z4 => ?_) (fun z4 => ?_)
          · refine jk_aload_n (q := 99) dX4_passOnOnce_98 rfl rfl ?_
            refine jk_getA (q := 102) (k := 4) 4 4 rfl (by first | exact hh1 | exact hh2 | exact hh3 | exact ha1 | exact ha2 | exact ha3 | exact hf1 | exact hs.1 | exact hf2 _ _ rfl | exact hs.2.1 _ _ rfl | assumption) (by first | exact hq1 | exact hq2 | exact hq3 | exact hq4 | exact hq5 | exact hb1 | exact hb2 | exact hb3 | exact hb4 | exact hf4 | exact hf3 _ _ rfl | exact hs.2.2.1 _ _ rfl | assumption) rfl rfl jw_267 dX4_passOnOnce_99 rfl ?_
            refine jk_iload_n (q := 103) dX4_passOnOnce_102 rfl rfl ?_
            refine jk_aload_n (q := 104) dX4_passOnOnce_103 rfl rfl ?_
            refine jk_getA (q := 107) (k := 4) 4 4 rfl (by first | exact hh1 | exact hh2 | exact hh3 | exact ha1 | exact ha2 | exact ha3 | exact hf1 | exact hs.1 | exact hf2 _ _ rfl | exact hs.2.1 _ _ rfl | assumption) (by first | exact hq1 | exact hq2 | exact hq3 | exact hq4 | exact hq5 | exact hb1 | exact hb2 | exact hb3 | exact hb4 | exact hf4 | exact hf3 _ _ rfl | exact hs.2.2.1 _ _ rfl | assumption) rfl rfl jw_267 dX4_passOnOnce_104 rfl ?_
            refine jk_iload (q := 109) dX4_passOnOnce_107 rfl rfl ?_
            refine jk_ialdR (q := 110) (by first | exact hh1 | exact hh2 | exact hh3 | exact ha1 | exact ha2 | exact ha3 | exact hf1 | exact hs.1 | exact hf2 _ _ rfl | exact hs.2.1 _ _ rfl | assumption) (by first | exact jk_row_same _ _ _ | ((repeat rewrite [jk_row_ne _ _ (by omega)]); first | exact jk_row_same _ _ _ | exact hK1 | exact hV1 | rfl)) (by first | assumption | decide | omega | exact jB_01 _ | exact jB_in _ | exact ⟨by omega, by omega⟩) dX4_passOnOnce_109 rfl ?_
            refine jk_aload_n (q := 111) dX4_passOnOnce_110 rfl rfl ?_
            refine jk_getA (q := 114) (k := 4) 0 0 rfl (by first | exact hh1 | exact hh2 | exact hh3 | exact ha1 | exact ha2 | exact ha3 | exact hf1 | exact hs.1 | exact hf2 _ _ rfl | exact hs.2.1 _ _ rfl | assumption) (by first | exact hq1 | exact hq2 | exact hq3 | exact hq4 | exact hq5 | exact hb1 | exact hb2 | exact hb3 | exact hb4 | exact hf4 | exact hf3 _ _ rfl | exact hs.2.2.1 _ _ rfl | assumption) rfl rfl jw_263 dX4_passOnOnce_111 rfl ?_
            refine jk_iload_n (q := 115) dX4_passOnOnce_114 rfl rfl ?_
            refine jk_cV1p (q := 118) (c_X9_corrected hs hr1 hi ⟨by omega, by omega⟩) jm_X9_corrected jw_912 rfl (by first | exact hh1 | exact hh2 | exact hh3 | exact ha1 | exact ha2 | exact ha3 | exact hf1 | exact hs.1 | exact hf2 _ _ rfl | exact hs.2.1 _ _ rfl | assumption) rfl rfl rfl dX4_passOnOnce_115 rfl ?_
            refine jk_isub (q := 119) dX4_passOnOnce_118 rfl ?_
            refine jk_iastR (q := 120) (by first | exact hh1 | exact hh2 | exact hh3 | exact ha1 | exact ha2 | exact ha3 | exact hf1 | exact hs.1 | exact hf2 _ _ rfl | exact hs.2.1 _ _ rfl | assumption) (by first | exact jk_row_same _ _ _ | ((repeat rewrite [jk_row_ne _ _ (by omega)]); first | exact jk_row_same _ _ _ | exact hK1 | exact hV1 | rfl)) (by first | assumption | decide | omega | exact jB_01 _ | exact jB_in _ | exact ⟨by omega, by omega⟩) dX4_passOnOnce_119 rfl ?_
            refine jk_aload_n (q := 121) dX4_passOnOnce_120 rfl rfl ?_
            refine jk_getA (q := 124) (k := 4) 3 3 rfl (by first | exact hh1 | exact hh2 | exact hh3 | exact ha1 | exact ha2 | exact ha3 | exact hf1 | exact hs.1 | exact hf2 _ _ rfl | exact hs.2.1 _ _ rfl | assumption) (by first | exact hq1 | exact hq2 | exact hq3 | exact hq4 | exact hq5 | exact hb1 | exact hb2 | exact hb3 | exact hb4 | exact hf4 | exact hf3 _ _ rfl | exact hs.2.2.1 _ _ rfl | assumption) rfl rfl jw_266 dX4_passOnOnce_121 rfl ?_
            refine jk_iload_n (q := 125) dX4_passOnOnce_124 rfl rfl ?_
            refine jk_iconst (q := 126) dX4_passOnOnce_125 rfl ?_
            refine jk_zastR (q := 127) (by first | exact hh1 | exact hh2 | exact hh3 | exact ha1 | exact ha2 | exact ha3 | exact hf1 | exact hs.1 | exact hf2 _ _ rfl | exact hs.2.1 _ _ rfl | assumption) (by first | exact jk_row_same _ _ _ | ((repeat rewrite [jk_row_ne _ _ (by omega)]); first | exact jk_row_same _ _ _ | exact hK1 | exact hV1 | rfl)) (by first | assumption | decide | omega | exact jB_01 _ | exact jB_in _ | exact ⟨by omega, by omega⟩) (by first | assumption | decide | omega | exact jB_01 _ | exact jB_in _ | exact ⟨by omega, by omega⟩) dX4_passOnOnce_126 rfl ?_
            refine jk_aload_n (q := 128) dX4_passOnOnce_127 rfl rfl ?_
            refine jk_getA (q := 131) (k := 4) 3 3 rfl (by first | exact hh1 | exact hh2 | exact hh3 | exact ha1 | exact ha2 | exact ha3 | exact hf1 | exact hs.1 | exact hf2 _ _ rfl | exact hs.2.1 _ _ rfl | assumption) (by first | exact hq1 | exact hq2 | exact hq3 | exact hq4 | exact hq5 | exact hb1 | exact hb2 | exact hb3 | exact hb4 | exact hf4 | exact hf3 _ _ rfl | exact hs.2.2.1 _ _ rfl | assumption) rfl rfl jw_266 dX4_passOnOnce_128 rfl ?_
            refine jk_iload (q := 133) dX4_passOnOnce_131 rfl rfl ?_
            refine jk_iconst (q := 134) dX4_passOnOnce_133 rfl ?_
            refine jk_zastR (q := 135) (by first | exact hh1 | exact hh2 | exact hh3 | exact ha1 | exact ha2 | exact ha3 | exact hf1 | exact hs.1 | exact hf2 _ _ rfl | exact hs.2.1 _ _ rfl | assumption) (by first | exact jk_row_same _ _ _ | ((repeat rewrite [jk_row_ne _ _ (by omega)]); first | exact jk_row_same _ _ _ | exact hK1 | exact hV1 | rfl)) (by first | assumption | decide | omega | exact jB_01 _ | exact jB_in _ | exact ⟨by omega, by omega⟩) (by first | assumption | decide | omega | exact jB_01 _ | exact jB_in _ | exact ⟨by omega, by omega⟩) dX4_passOnOnce_134 rfl ?_
            refine jk_iconst (q := 136) dX4_passOnOnce_135 rfl ?_
            refine jk_istore1 (q := 137) dX4_passOnOnce_136 rfl rfl rfl ?_
            refine jk_iinc2 (q := 140) dX4_passOnOnce_137 rfl rfl rfl ?_
            refine jk_goto (q := 4) dX4_passOnOnce_140 rfl ?_
            have hpass : md_passB g (md_T g) (md_pl g (md_T g) k4 (K, V)) (k4 : Int) = true := by unfold md_passB; rw [decide_eq_false (fun q => q.elim (fun q => by omega) (fun q => absurd q (by assumption)))]; rfl
            have hch : md_ch g (md_T g) (k4 + 1) (K, V) = true := by unfold md_ch; rw [hpass]; rfl
            have hpl : md_pl g (md_T g) (k4 + 1) (K, V) = (jk_set (jk_set (md_pl g (md_T g) k4 (K, V)).1 (g (24 + (k4 : Int))) 1) (g (40 + (k4 : Int))) 1, if (md_pl g (md_T g) k4 (K, V)).1 (g (24 + (k4 : Int))) = 0 then jk_set (md_pl g (md_T g) k4 (K, V)).2 (g (24 + (k4 : Int))) ((md_pl g (md_T g) k4 (K, V)).2 (g (40 + (k4 : Int))) - md_cor g (k4 : Int)) else jk_set (md_pl g (md_T g) k4 (K, V)).2 (g (40 + (k4 : Int))) ((md_pl g (md_T g) k4 (K, V)).2 (g (24 + (k4 : Int))) + md_cor g (k4 : Int))) := by show md_pass g (md_T g) (md_pl g (md_T g) k4 (K, V)) (k4 : Int) = _; unfold md_pass; rw [if_neg (fun q => q.elim (fun q => by omega) (fun q => absurd q (by assumption)))]
            exact jk_convw (ih4 (by omega) _ (by rw [h1, hpl]; (first | rw [if_pos (by assumption)] | rw [if_neg (by assumption)]); dsimp only; exact jk_r5 (show h + 2 ≠ h + 4 by omega))) (jk_wkS rfl (jk_wkS (by rw [hch]; rfl) (jk_wkS rfl (jk_wkN (jk_wkN jk_wk0)))))
          · refine jk_aload_n (q := 74) dX4_passOnOnce_73 rfl rfl ?_
            refine jk_getA (q := 77) (k := 4) 4 4 rfl (by first | exact hh1 | exact hh2 | exact hh3 | exact ha1 | exact ha2 | exact ha3 | exact hf1 | exact hs.1 | exact hf2 _ _ rfl | exact hs.2.1 _ _ rfl | assumption) (by first | exact hq1 | exact hq2 | exact hq3 | exact hq4 | exact hq5 | exact hb1 | exact hb2 | exact hb3 | exact hb4 | exact hf4 | exact hf3 _ _ rfl | exact hs.2.2.1 _ _ rfl | assumption) rfl rfl jw_267 dX4_passOnOnce_74 rfl ?_
            refine jk_iload (q := 79) dX4_passOnOnce_77 rfl rfl ?_
            refine jk_aload_n (q := 80) dX4_passOnOnce_79 rfl rfl ?_
            refine jk_getA (q := 83) (k := 4) 4 4 rfl (by first | exact hh1 | exact hh2 | exact hh3 | exact ha1 | exact ha2 | exact ha3 | exact hf1 | exact hs.1 | exact hf2 _ _ rfl | exact hs.2.1 _ _ rfl | assumption) (by first | exact hq1 | exact hq2 | exact hq3 | exact hq4 | exact hq5 | exact hb1 | exact hb2 | exact hb3 | exact hb4 | exact hf4 | exact hf3 _ _ rfl | exact hs.2.2.1 _ _ rfl | assumption) rfl rfl jw_267 dX4_passOnOnce_80 rfl ?_
            refine jk_iload_n (q := 84) dX4_passOnOnce_83 rfl rfl ?_
            refine jk_ialdR (q := 85) (by first | exact hh1 | exact hh2 | exact hh3 | exact ha1 | exact ha2 | exact ha3 | exact hf1 | exact hs.1 | exact hf2 _ _ rfl | exact hs.2.1 _ _ rfl | assumption) (by first | exact jk_row_same _ _ _ | ((repeat rewrite [jk_row_ne _ _ (by omega)]); first | exact jk_row_same _ _ _ | exact hK1 | exact hV1 | rfl)) (by first | assumption | decide | omega | exact jB_01 _ | exact jB_in _ | exact ⟨by omega, by omega⟩) dX4_passOnOnce_84 rfl ?_
            refine jk_aload_n (q := 86) dX4_passOnOnce_85 rfl rfl ?_
            refine jk_getA (q := 89) (k := 4) 0 0 rfl (by first | exact hh1 | exact hh2 | exact hh3 | exact ha1 | exact ha2 | exact ha3 | exact hf1 | exact hs.1 | exact hf2 _ _ rfl | exact hs.2.1 _ _ rfl | assumption) (by first | exact hq1 | exact hq2 | exact hq3 | exact hq4 | exact hq5 | exact hb1 | exact hb2 | exact hb3 | exact hb4 | exact hf4 | exact hf3 _ _ rfl | exact hs.2.2.1 _ _ rfl | assumption) rfl rfl jw_263 dX4_passOnOnce_86 rfl ?_
            refine jk_iload_n (q := 90) dX4_passOnOnce_89 rfl rfl ?_
            refine jk_cV1p (q := 93) (c_X9_corrected hs hr1 hi ⟨by omega, by omega⟩) jm_X9_corrected jw_912 rfl (by first | exact hh1 | exact hh2 | exact hh3 | exact ha1 | exact ha2 | exact ha3 | exact hf1 | exact hs.1 | exact hf2 _ _ rfl | exact hs.2.1 _ _ rfl | assumption) rfl rfl rfl dX4_passOnOnce_90 rfl ?_
            refine jk_iadd (q := 94) dX4_passOnOnce_93 rfl ?_
            refine jk_iastR (q := 95) (by first | exact hh1 | exact hh2 | exact hh3 | exact ha1 | exact ha2 | exact ha3 | exact hf1 | exact hs.1 | exact hf2 _ _ rfl | exact hs.2.1 _ _ rfl | assumption) (by first | exact jk_row_same _ _ _ | ((repeat rewrite [jk_row_ne _ _ (by omega)]); first | exact jk_row_same _ _ _ | exact hK1 | exact hV1 | rfl)) (by first | assumption | decide | omega | exact jB_01 _ | exact jB_in _ | exact ⟨by omega, by omega⟩) dX4_passOnOnce_94 rfl ?_
            refine jk_goto (q := 120) dX4_passOnOnce_95 rfl ?_
            refine jk_aload_n (q := 121) dX4_passOnOnce_120 rfl rfl ?_
            refine jk_getA (q := 124) (k := 4) 3 3 rfl (by first | exact hh1 | exact hh2 | exact hh3 | exact ha1 | exact ha2 | exact ha3 | exact hf1 | exact hs.1 | exact hf2 _ _ rfl | exact hs.2.1 _ _ rfl | assumption) (by first | exact hq1 | exact hq2 | exact hq3 | exact hq4 | exact hq5 | exact hb1 | exact hb2 | exact hb3 | exact hb4 | exact hf4 | exact hf3 _ _ rfl | exact hs.2.2.1 _ _ rfl | assumption) rfl rfl jw_266 dX4_passOnOnce_121 rfl ?_
            refine jk_iload_n (q := 125) dX4_passOnOnce_124 rfl rfl ?_
            refine jk_iconst (q := 126) dX4_passOnOnce_125 rfl ?_
            refine jk_zastR (q := 127) (by first | exact hh1 | exact hh2 | exact hh3 | exact ha1 | exact ha2 | exact ha3 | exact hf1 | exact hs.1 | exact hf2 _ _ rfl | exact hs.2.1 _ _ rfl | assumption) (by first | exact jk_row_same _ _ _ | ((repeat rewrite [jk_row_ne _ _ (by omega)]); first | exact jk_row_same _ _ _ | exact hK1 | exact hV1 | rfl)) (by first | assumption | decide | omega | exact jB_01 _ | exact jB_in _ | exact ⟨by omega, by omega⟩) (by first | assumption | decide | omega | exact jB_01 _ | exact jB_in _ | exact ⟨by omega, by omega⟩) dX4_passOnOnce_126 rfl ?_
            refine jk_aload_n (q := 128) dX4_passOnOnce_127 rfl rfl ?_
            refine jk_getA (q := 131) (k := 4) 3 3 rfl (by first | exact hh1 | exact hh2 | exact hh3 | exact ha1 | exact ha2 | exact ha3 | exact hf1 | exact hs.1 | exact hf2 _ _ rfl | exact hs.2.1 _ _ rfl | assumption) (by first | exact hq1 | exact hq2 | exact hq3 | exact hq4 | exact hq5 | exact hb1 | exact hb2 | exact hb3 | exact hb4 | exact hf4 | exact hf3 _ _ rfl | exact hs.2.2.1 _ _ rfl | assumption) rfl rfl jw_266 dX4_passOnOnce_128 rfl ?_
            refine jk_iload (q := 133) dX4_passOnOnce_131 rfl rfl ?_
            refine jk_iconst (q := 134) dX4_passOnOnce_133 rfl ?_
            refine jk_zastR (q := 135) (by first | exact hh1 | exact hh2 | exact hh3 | exact ha1 | exact ha2 | exact ha3 | exact hf1 | exact hs.1 | exact hf2 _ _ rfl | exact hs.2.1 _ _ rfl | assumption) (by first | exact jk_row_same _ _ _ | ((repeat rewrite [jk_row_ne _ _ (by omega)]); first | exact jk_row_same _ _ _ | exact hK1 | exact hV1 | rfl)) (by first | assumption | decide | omega | exact jB_01 _ | exact jB_in _ | exact ⟨by omega, by omega⟩) (by first | assumption | decide | omega | exact jB_01 _ | exact jB_in _ | exact ⟨by omega, by omega⟩) dX4_passOnOnce_134 rfl ?_
            refine jk_iconst (q := 136) dX4_passOnOnce_135 rfl ?_
            refine jk_istore1 (q := 137) dX4_passOnOnce_136 rfl rfl rfl ?_
            refine jk_iinc2 (q := 140) dX4_passOnOnce_137 rfl rfl rfl ?_
            refine jk_goto (q := 4) dX4_passOnOnce_140 rfl ?_
            have hpass : md_passB g (md_T g) (md_pl g (md_T g) k4 (K, V)) (k4 : Int) = true := by unfold md_passB; rw [decide_eq_false (fun q => q.elim (fun q => by omega) (fun q => absurd q (by assumption)))]; rfl
            have hch : md_ch g (md_T g) (k4 + 1) (K, V) = true := by unfold md_ch; rw [hpass]; rfl
            have hpl : md_pl g (md_T g) (k4 + 1) (K, V) = (jk_set (jk_set (md_pl g (md_T g) k4 (K, V)).1 (g (24 + (k4 : Int))) 1) (g (40 + (k4 : Int))) 1, if (md_pl g (md_T g) k4 (K, V)).1 (g (24 + (k4 : Int))) = 0 then jk_set (md_pl g (md_T g) k4 (K, V)).2 (g (24 + (k4 : Int))) ((md_pl g (md_T g) k4 (K, V)).2 (g (40 + (k4 : Int))) - md_cor g (k4 : Int)) else jk_set (md_pl g (md_T g) k4 (K, V)).2 (g (40 + (k4 : Int))) ((md_pl g (md_T g) k4 (K, V)).2 (g (24 + (k4 : Int))) + md_cor g (k4 : Int))) := by show md_pass g (md_T g) (md_pl g (md_T g) k4 (K, V)) (k4 : Int) = _; unfold md_pass; rw [if_neg (fun q => q.elim (fun q => by omega) (fun q => absurd q (by assumption)))]
            exact jk_convw (ih4 (by omega) _ (by rw [h1, hpl]; (first | rw [if_pos (by assumption)] | rw [if_neg (by assumption)]); dsimp only; exact jk_r5 (show h + 2 ≠ h + 4 by omega))) (jk_wkS rfl (jk_wkS (by rw [hch]; rfl) (jk_wkS rfl (jk_wkN (jk_wkN jk_wk0)))))
  exact jk_convw (L4 0 (Nat.zero_le _) _ (by show σ = jk_row (jk_row σ (h + 2) K) (h + 4) V; exact (jk_rs2 σ hK hV).symm)) (jk_wkS rfl (jk_wkS rfl (jk_wkS rfl (jk_wkN (jk_wkN jk_wk0)))))
theorem c_X4_passOn {G : jk_G} {n : Nat} {t : jk_T} {σ : jk_I} {ρ : jk_P} {h f s : Nat} {g : Int → Int} {B st lv : Int} (hhe : he_at t ρ h f s) (hr : cl_rel σ s g) (hi : md_inv B g) (ho : fo_ok σ f g) (hwI : md_inw g) (hst : 0 ≤ st ∧ st < g 0) : jk_K G yX4_passOn mX4_passOn 0 0 [.ref h, jI st, jI lv] n t σ ρ (he_PQ h g st lv σ n t ρ) jk_no := by
  obtain ⟨⟨hh1, hh2, hh3⟩, ⟨hq1, hq2, hq3, hq4, hq5⟩, hwa, hfh⟩ := id hhe
  obtain ⟨⟨ha1, ha2, ha3⟩, ⟨hb1, hb2, hb3, hb4⟩, hf, hfw⟩ := id hwa
  obtain ⟨hf1, hf2, hf3, hf4, hs, hsf⟩ := id hf
  have i0 := hi.1
  have i1 := hi.2.1
  have i2 := hi.2.2.1.2
  obtain ⟨ho1, ho2, -⟩ := id ho
  have htr1 : ∀ l, 0 ≤ l ∧ l < 16 → md_T g l = 0 ∨ md_T g l = 1 := (md_kr_tr hi 50).1
  have htr2 : ∀ p, 0 ≤ p ∧ p < 10 → 0 ≤ md_Ro g p ∧ md_Ro g p < 10 := (md_kr_tr hi 50).2
  have hpt := cm_pt_of hi hwI
  refine jk_entryB (ls := [some (.ref h), some (jI st), some (jI lv), none, none]) jm_X4_passOn.1 rfl rfl rfl ?_
  refine jk_iconst (q := 1) dX4_passOn_0 rfl ?_
  refine jk_istore3 (q := 2) dX4_passOn_1 rfl rfl rfl ?_
  have L2 : ∀ k2 : Nat, k2 ≤ 10 → ∀ (σ1 : jk_I), (h1 : σ1 = jk_row (jk_row σ (h + 2) (jk_fill (σ (h + 2)) (fun _ => 0) k2)) (h + 4) (jk_fill (σ (h + 4)) (fun _ => 0) k2)) → jk_J G mX4_passOn 2 [some (.ref h), some (jI st), some (jI lv), some (jI (k2 : Int)), none] [] n t σ1 ρ 0 0 (he_PQ h g st lv σ n t ρ) jk_no := by
    refine jk_loop _ (fun k2 hk2 ih2 => ?_)
    intro σ1 h1
    have hK1 : σ1 (h + 2) = jk_fill (σ (h + 2)) (fun _ => 0) k2 := by rw [h1, jk_row_ne _ _ (by omega), jk_row_same]
    have hV1 : σ1 (h + 4) = jk_fill (σ (h + 4)) (fun _ => 0) k2 := by rw [h1, jk_row_same]
    refine jk_iload_n (q := 3) dX4_passOn_2 rfl rfl ?_
    refine jk_bipush (q := 5) (y := 10) dX4_passOn_3 rfl (by decide) ?_
    refine jk_icmp_ge (q := 28) (q2 := 8) dX4_passOn_5 rfl rfl (by first | assumption | decide | omega | exact jB_01 _ | exact jB_in _ | exact ⟨by omega, by omega⟩) (by first | assumption | decide | omega | exact jB_01 _ | exact jB_in _ | exact ⟨by omega, by omega⟩) (fun z1 => ?_) (fun z1 => ?_)
    · refine jk_aload_n (q := 29) dX4_passOn_28 rfl rfl ?_
      refine jk_getA (q := 32) (k := 4) 3 3 rfl (by first | exact hh1 | exact hh2 | exact hh3 | exact ha1 | exact ha2 | exact ha3 | exact hf1 | exact hs.1 | exact hf2 _ _ rfl | exact hs.2.1 _ _ rfl | assumption) (by first | exact hq1 | exact hq2 | exact hq3 | exact hq4 | exact hq5 | exact hb1 | exact hb2 | exact hb3 | exact hb4 | exact hf4 | exact hf3 _ _ rfl | exact hs.2.2.1 _ _ rfl | assumption) rfl rfl jw_266 dX4_passOn_29 rfl ?_
      refine jk_iload_n (q := 33) dX4_passOn_32 rfl rfl ?_
      refine jk_iconst (q := 34) dX4_passOn_33 rfl ?_
      refine jk_zastR (q := 35) (by first | exact hh1 | exact hh2 | exact hh3 | exact ha1 | exact ha2 | exact ha3 | exact hf1 | exact hs.1 | exact hf2 _ _ rfl | exact hs.2.1 _ _ rfl | assumption) (by first | exact jk_row_same _ _ _ | ((repeat rewrite [jk_row_ne _ _ (by omega)]); first | exact jk_row_same _ _ _ | exact hK1 | exact hV1 | rfl)) (by first | assumption | decide | omega | exact jB_01 _ | exact jB_in _ | exact ⟨by omega, by omega⟩) (by first | assumption | decide | omega | exact jB_01 _ | exact jB_in _ | exact ⟨by omega, by omega⟩) dX4_passOn_34 rfl ?_
      refine jk_aload_n (q := 36) dX4_passOn_35 rfl rfl ?_
      refine jk_getA (q := 39) (k := 4) 4 4 rfl (by first | exact hh1 | exact hh2 | exact hh3 | exact ha1 | exact ha2 | exact ha3 | exact hf1 | exact hs.1 | exact hf2 _ _ rfl | exact hs.2.1 _ _ rfl | assumption) (by first | exact hq1 | exact hq2 | exact hq3 | exact hq4 | exact hq5 | exact hb1 | exact hb2 | exact hb3 | exact hb4 | exact hf4 | exact hf3 _ _ rfl | exact hs.2.2.1 _ _ rfl | assumption) rfl rfl jw_267 dX4_passOn_36 rfl ?_
      refine jk_iload_n (q := 40) dX4_passOn_39 rfl rfl ?_
      refine jk_iload_n (q := 41) dX4_passOn_40 rfl rfl ?_
      refine jk_iastR (q := 42) (by first | exact hh1 | exact hh2 | exact hh3 | exact ha1 | exact ha2 | exact ha3 | exact hf1 | exact hs.1 | exact hf2 _ _ rfl | exact hs.2.1 _ _ rfl | assumption) (by first | exact jk_row_same _ _ _ | ((repeat rewrite [jk_row_ne _ _ (by omega)]); first | exact jk_row_same _ _ _ | exact hK1 | exact hV1 | rfl)) (by first | assumption | decide | omega | exact jB_01 _ | exact jB_in _ | exact ⟨by omega, by omega⟩) dX4_passOn_41 rfl ?_
      refine jk_iconst (q := 43) dX4_passOn_42 rfl ?_
      refine jk_istore3 (q := 44) dX4_passOn_43 rfl rfl rfl ?_
      refine jk_iconst (q := 45) dX4_passOn_44 rfl ?_
      refine jk_istore4 (q := 47) dX4_passOn_45 rfl rfl rfl ?_
      have L47 : ∀ k47 : Nat, k47 ≤ 10 → ∀ (σ1 : jk_I) (K V : Int → Int) (c : Int), (h1 : σ1 = jk_row (jk_row σ (h + 2) K) (h + 4) V) → (hkb1 : md_kb K) → (hKs : K st = 1) → (hlv : ∀ P, cm_pot g (md_T g) (md_cor g) P → cm_lvl g P (fun _ => P st - lv) (K, V)) → (hc : c = 1 ∨ (c = 0 ∧ cm_cl g (md_T g) K)) → (hcn : c = 0 ∨ (k47 : Int) + 1 ≤ md_cnt K) → jk_J G mX4_passOn 47 [some (.ref h), some (jI st), some (jI lv), some (jI c), some (jI (k47 : Int))] [] n t σ1 ρ 0 0 (he_PQ h g st lv σ n t ρ) jk_no := by
        refine jk_loop _ (fun k47 hk47 ih47 => ?_)
        intro σ1 K V c h1 hkb1 hKs hlv hc hcn
        have hr1 : cl_rel σ1 s g := cl_rel_same i2 (fun a h8 h9 => by rw [h1, jk_row_ne _ _ (by omega), jk_row_ne _ _ (by omega)]) hr
        have ho9 : fo_ok σ1 f g := wa_ok_same (fun a h8 h9 => by rw [h1, jk_row_ne _ _ (by omega), jk_row_ne _ _ (by omega)]) ho
        have hK1 : σ1 (h + 2) = K := by rw [h1, jk_row_ne _ _ (by omega), jk_row_same]
        have hV1 : σ1 (h + 4) = V := by rw [h1, jk_row_same]
        have hc10 := md_cnt_10 hkb1
        refine jk_iload (q := 49) dX4_passOn_47 rfl rfl ?_
        refine jk_bipush (q := 51) (y := 10) dX4_passOn_49 rfl (by decide) ?_
        refine jk_icmp_ge (q := 69) (q2 := 54) dX4_passOn_51 rfl rfl (by first | assumption | decide | omega | exact jB_01 _ | exact jB_in _ | exact ⟨by omega, by omega⟩) (by first | assumption | decide | omega | exact jB_01 _ | exact jB_in _ | exact ⟨by omega, by omega⟩) (fun z2 => ?_) (fun z2 => ?_)
        · exact jk_ret rfl dX4_passOn_69 (by 
              have hcl : cm_cl g (md_T g) K := by
                rcases hc with hc | hc
                · rcases hcn with hcn | hcn <;> omega
                · exact hc.2
              exact ⟨rfl, rfl, rfl, rfl, fun a a1 a2 => by rw [h1, jk_row_ne _ _ a2, jk_row_ne _ _ a1], fun P hP p hp hro => by
                have hKp : K p = 1 := ((cm_T hpt).1.2.2.2.1 p st hp hst hro K hcl).trans hKs
                rw [hV1]
                have := hlv P hP p hp hKp
                have e9 : V p = P p - (P st - lv) := this
                omega⟩)
        · refine jk_iload_n (q := 55) dX4_passOn_54 rfl rfl ?_
          refine jk_if_eq (q := 69) (q2 := 58) dX4_passOn_55 rfl rfl (by first | assumption | decide | omega | exact jB_01 _ | exact jB_in _ | exact ⟨by omega, by omega⟩) (fun z3 => ?_) (fun z3 => ?_)
          · exact jk_ret rfl dX4_passOn_69 (by 
                have hcl : cm_cl g (md_T g) K := by
                  rcases hc with hc | hc
                  · rcases hcn with hcn | hcn <;> omega
                  · exact hc.2
                exact ⟨rfl, rfl, rfl, rfl, fun a a1 a2 => by rw [h1, jk_row_ne _ _ a2, jk_row_ne _ _ a1], fun P hP p hp hro => by
                  have hKp : K p = 1 := ((cm_T hpt).1.2.2.2.1 p st hp hst hro K hcl).trans hKs
                  rw [hV1]
                  have := hlv P hP p hp hKp
                  have e9 : V p = P p - (P st - lv) := this
                  omega⟩)
          · refine jk_aload_n (q := 59) dX4_passOn_58 rfl rfl ?_
            refine jk_cV0p (q := 62) (c_X4_passOnOnce (σ := σ1) (K := K) (V := V) hhe hr1 hi ho9 hK1 hV1 hkb1) jm_X4_passOnOnce jw_908 rfl (by first | exact hh1 | exact hh2 | exact hh3 | exact ha1 | exact ha2 | exact ha3 | exact hf1 | exact hs.1 | exact hf2 _ _ rfl | exact hs.2.1 _ _ rfl | assumption) rfl rfl rfl dX4_passOn_59 rfl ?_
            refine jk_istore3 (q := 63) dX4_passOn_62 rfl rfl rfl ?_
            refine jk_iinc4 (q := 66) dX4_passOn_63 rfl rfl rfl ?_
            refine jk_goto (q := 47) dX4_passOn_66 rfl ?_
            have hcnt := md_pl_cnt hi (T := md_T g) (s := (K, V)) hkb1 (g 1).toNat (by omega)
            exact jk_convw (ih47 (by omega) _ _ _ _ (by rw [h1, jk_rr _ _ _ _ _ (show h + 2 ≠ h + 4 by omega)]) (md_pl_kb hkb1 _) (cm_pl_up hKs _) (fun P hP => cm_lvl_pl hpt hP (fun _ _ _ => rfl) htr1 hkb1 (hlv P hP) _ (by omega)) (by cases hq : md_ch g (md_T g) (g 1).toNat (K, V) with | true => exact Or.inl rfl | false => exact Or.inr ⟨rfl, by rw [md_pl_same _ hq]; exact fun l hl hT => cm_ch_cl _ hq l ⟨hl.1, by omega⟩ hT⟩) (by cases hq : md_ch g (md_T g) (g 1).toNat (K, V) with | false => exact Or.inl rfl | true => rw [hq, jB_t] at hcnt; exact Or.inr (by have e9 : md_cnt (K, V).1 = md_cnt K := rfl; omega))) (jk_wkS rfl (jk_wkS rfl (jk_wkS rfl (jk_wkS rfl (jk_wkS rfl jk_wk0)))))
      have hk10 : k2 = 10 := by omega
      subst hk10
      have hkb0 : md_kb (jk_set (jk_fill (σ (h + 2)) (fun _ => 0) 10) st 1) := md_set_kb (fun p hp => Or.inl (by unfold jk_fill; rw [if_pos (by omega)])) st
      exact jk_convw (L47 0 (Nat.zero_le _) _ (jk_set (jk_fill (σ (h + 2)) (fun _ => 0) 10) st 1) (jk_set (jk_fill (σ (h + 4)) (fun _ => 0) 10) st lv) 1 (by rw [h1, jk_rr _ _ _ _ _ (show h + 2 ≠ h + 4 by omega)]) hkb0 (jk_set_at _ _ _) (fun P hP p hp hk => by have hk9 : (jk_set (jk_fill (σ (h + 2)) (fun _ => 0) 10) st 1) p = 1 := hk; show (jk_set (jk_fill (σ (h + 4)) (fun _ => 0) 10) st lv) p = P p - (P st - lv); by_cases e : p = st; (rw [e, jk_set_at]; omega); (exfalso; rw [jk_set_ne _ _ e] at hk9; unfold jk_fill at hk9; rw [if_pos (by omega)] at hk9; exact absurd hk9 (by show ¬ (0 : Int) = 1; decide))) (Or.inl rfl) (Or.inr (by have := jk_sum_ge (f := (jk_set (jk_fill (σ (h + 2)) (fun _ => 0) 10) st 1)) (i := st) 10 (fun j a b => by have := hkb0 j ⟨a, by omega⟩; omega) hst.1 (by omega); rw [jk_set_at] at this; show (0 : Int) + 1 ≤ md_cnt (jk_set (jk_fill (σ (h + 2)) (fun _ => 0) 10) st 1); unfold md_cnt; omega))) (jk_wkS rfl (jk_wkS rfl (jk_wkS rfl (jk_wkS rfl (jk_wkS rfl jk_wk0)))))
    · refine jk_aload_n (q := 9) dX4_passOn_8 rfl rfl ?_
      refine jk_getA (q := 12) (k := 4) 3 3 rfl (by first | exact hh1 | exact hh2 | exact hh3 | exact ha1 | exact ha2 | exact ha3 | exact hf1 | exact hs.1 | exact hf2 _ _ rfl | exact hs.2.1 _ _ rfl | assumption) (by first | exact hq1 | exact hq2 | exact hq3 | exact hq4 | exact hq5 | exact hb1 | exact hb2 | exact hb3 | exact hb4 | exact hf4 | exact hf3 _ _ rfl | exact hs.2.2.1 _ _ rfl | assumption) rfl rfl jw_266 dX4_passOn_9 rfl ?_
      refine jk_iload_n (q := 13) dX4_passOn_12 rfl rfl ?_
      refine jk_iconst (q := 14) dX4_passOn_13 rfl ?_
      refine jk_zastR (q := 15) (by first | exact hh1 | exact hh2 | exact hh3 | exact ha1 | exact ha2 | exact ha3 | exact hf1 | exact hs.1 | exact hf2 _ _ rfl | exact hs.2.1 _ _ rfl | assumption) (by first | exact jk_row_same _ _ _ | ((repeat rewrite [jk_row_ne _ _ (by omega)]); first | exact jk_row_same _ _ _ | exact hK1 | exact hV1 | rfl)) (by first | assumption | decide | omega | exact jB_01 _ | exact jB_in _ | exact ⟨by omega, by omega⟩) (by first | assumption | decide | omega | exact jB_01 _ | exact jB_in _ | exact ⟨by omega, by omega⟩) dX4_passOn_14 rfl ?_
      refine jk_aload_n (q := 16) dX4_passOn_15 rfl rfl ?_
      refine jk_getA (q := 19) (k := 4) 4 4 rfl (by first | exact hh1 | exact hh2 | exact hh3 | exact ha1 | exact ha2 | exact ha3 | exact hf1 | exact hs.1 | exact hf2 _ _ rfl | exact hs.2.1 _ _ rfl | assumption) (by first | exact hq1 | exact hq2 | exact hq3 | exact hq4 | exact hq5 | exact hb1 | exact hb2 | exact hb3 | exact hb4 | exact hf4 | exact hf3 _ _ rfl | exact hs.2.2.1 _ _ rfl | assumption) rfl rfl jw_267 dX4_passOn_16 rfl ?_
      refine jk_iload_n (q := 20) dX4_passOn_19 rfl rfl ?_
      refine jk_iconst (q := 21) dX4_passOn_20 rfl ?_
      refine jk_iastR (q := 22) (by first | exact hh1 | exact hh2 | exact hh3 | exact ha1 | exact ha2 | exact ha3 | exact hf1 | exact hs.1 | exact hf2 _ _ rfl | exact hs.2.1 _ _ rfl | assumption) (by first | exact jk_row_same _ _ _ | ((repeat rewrite [jk_row_ne _ _ (by omega)]); first | exact jk_row_same _ _ _ | exact hK1 | exact hV1 | rfl)) (by first | assumption | decide | omega | exact jB_01 _ | exact jB_in _ | exact ⟨by omega, by omega⟩) dX4_passOn_21 rfl ?_
      refine jk_iinc3 (q := 25) dX4_passOn_22 rfl rfl rfl ?_
      refine jk_goto (q := 2) dX4_passOn_25 rfl ?_
      exact jk_convw (ih2 (by omega) _ (by rw [h1, jk_rr _ _ _ _ _ (show h + 2 ≠ h + 4 by omega), jk_fill_S _ _ _ _ rfl, jk_fill_S _ _ _ _ rfl])) (jk_wkS rfl (jk_wkS rfl (jk_wkS rfl (jk_wkS rfl (jk_wkN jk_wk0)))))
  exact jk_convw (L2 0 (Nat.zero_le _) _ (by rw [jk_fill_0, jk_fill_0, jk_row_self, jk_row_self])) (jk_wkS rfl (jk_wkS rfl (jk_wkS rfl (jk_wkS rfl (jk_wkN jk_wk0)))))
end CH1
