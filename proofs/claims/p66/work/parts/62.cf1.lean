section CF1
def fo_r : Int → Option Nat := fun i => match i with
  | 1 => some 2 | 3 => some 4 | 4 => some 6 | 5 => some 8 | _ => none
def fo_t : Nat → Option (FieldType × Nat ⊕ Nat) := fun k => match k with
  | 2 => some (.inl (.int, 16)) | 4 => some (.inl (.boolean, 10)) | 6 => some (.inl (.boolean, 16)) | 8 => some (.inl (.int, 10)) | _ => none
/-- a Forest at f over the Survey at s -/
def fo_at (t : jk_T) (ρ : jk_P) (f s : Nat) : Prop := t f = some (.inr 3) ∧ (∀ k v, fo_t k = some v → t (f + k) = some v) ∧ (∀ i k, fo_r i = some k → ρ f i = some (f + k)) ∧ ρ f 0 = some s ∧ cl_at t ρ s ∧ s + 44 < f
/-- the forest of g was found: marks and roots -/
def fo_ok (σ : jk_I) (f : Nat) (g : Int → Int) : Prop := (∀ l, 0 ≤ l ∧ l < 16 → σ (f + 6) l = md_T g l) ∧ (∀ p, 0 ≤ p ∧ p < 10 → σ (f + 8) p = md_Ro g p) ∧ ∃ N : Nat, N ≤ 16 ∧ σ f 2 = (N : Int) ∧ cm_srt g (σ (f + 2)) N (g 1)
theorem cl_rel_same {σ σ1 : jk_I} {s : Nat} {g : Int → Int} (hg2 : g 2 ≤ 4) (h : ∀ a, s ≤ a → a ≤ s + 44 → σ1 a = σ a) (hr : cl_rel σ s g) : cl_rel σ1 s g := by
  obtain ⟨⟨a1, a2, a3, a4⟩, b, c, d⟩ := hr
  have h0 := h s (by omega) (by omega)
  have hk : ∀ k, k ≤ 44 → σ1 (s + k) = σ (s + k) := fun k hk => h _ (by omega) (by omega)
  refine ⟨⟨by rw [h0]; exact a1, by rw [h0]; exact a2, by rw [h0]; exact a3, by rw [h0]; exact a4⟩, fun p hp => ?_, fun l hl => ?_, fun q hq => ?_⟩
  · rw [hk 2 (by omega), hk 4 (by omega)]; exact b p hp
  · rw [hk 6 (by omega), hk 8 (by omega), hk 10 (by omega), hk 12 (by omega), hk 14 (by omega), hk 16 (by omega), hk 18 (by omega), hk 20 (by omega)]; exact c l hl
  · obtain ⟨d1, d2, d3⟩ := d q hq
    by_cases hq4 : q < 4
    · rw [hk 22 (by omega), hk 24 (by omega), hk (28 + 2 * q) (by omega), hk (38 + 2 * q) (by omega)]; exact d q hq
    · exact absurd hq4 (by omega)
def fo_oQ (f : Nat) (g : Int → Int) (σ : jk_I) (n : Nat) (t : jk_T) (ρ : jk_P) : jk_Q := fun v' n' t' σ' ρ' => v' = none ∧ n' = n ∧ t' = t ∧ ρ' = ρ ∧ ∃ (Od : Int → Int) (N : Nat), N ≤ 16 ∧ cm_srt g Od N (g 1) ∧ σ' = jk_row (jk_row σ (f + 2) Od) f (jk_set (σ f) 2 (N : Int))
theorem c_X3_putInOrder {G : jk_G} {n : Nat} {t : jk_T} {σ : jk_I} {ρ : jk_P} {f s : Nat} {g : Int → Int} {B : Int} (hf : fo_at t ρ f s) (hr : cl_rel σ s g) (hi : md_inv B g) : jk_K G yX3_putInOrder mX3_putInOrder 0 0 [.ref f] n t σ ρ (fo_oQ f g σ n t ρ) jk_no := by
  obtain ⟨hf1, hf2, hf3, hf4, hs, hsf⟩ := id hf
  have i0 := hi.1
  have i1 := hi.2.1
  have i2 := hi.2.2.1.2
  refine jk_entryB (ls := [some (.ref f), none, none]) jm_X3_putInOrder.1 rfl rfl rfl ?_
  refine jk_aload_n (q := 1) dX3_putInOrder_0 rfl rfl ?_
  refine jk_iconst (q := 2) dX3_putInOrder_1 rfl ?_
  refine jk_putIR (q := 5) (k := 3) 2 2 rfl (by first | exact hf1 | exact hs.1 | exact hf2 _ _ rfl | exact hs.2.1 _ _ rfl | assumption) (by first | exact jk_row_same _ _ _ | ((repeat rewrite [jk_row_ne _ _ (by omega)]); first | exact jk_row_same _ _ _ | rfl)) rfl rfl rfl jw_191 dX3_putInOrder_2 rfl ?_
  refine jk_iconst (q := 6) dX3_putInOrder_5 rfl ?_
  refine jk_istore1 (q := 7) dX3_putInOrder_6 rfl rfl rfl ?_
  have L7 : ∀ k7 : Nat, k7 ≤ (g 1).toNat → ∀ (σ1 : jk_I) (Od : Int → Int) (N : Nat), (h1 : σ1 = jk_row (jk_row σ (f + 2) Od) f (jk_set (σ f) 2 (N : Int))) → (h2 : cm_srt g Od N (k7 : Int)) → (h3 : N ≤ k7) → jk_J G mX3_putInOrder 7 [some (.ref f), some (jI (k7 : Int)), none] [] n t σ1 ρ 0 0 (fo_oQ f g σ n t ρ) jk_no := by
    refine jk_loop _ (fun k7 hk7 ih7 => ?_)
    intro σ1 Od N h1 h2 h3
    have hr1 : cl_rel σ1 s g := cl_rel_same i2 (fun a h8 h9 => by rw [h1, jk_row_ne _ _ (by omega), jk_row_ne _ _ (by omega)]) hr
    have ho1 : σ1 f = jk_set (σ f) 2 (N : Int) := by rw [h1, jk_row_same]
    have hor1 : σ1 (f + 2) = Od := by rw [h1, jk_row_ne _ _ (by omega), jk_row_same]
    refine jk_iload_n (q := 8) dX3_putInOrder_7 rfl rfl ?_
    refine jk_aload_n (q := 9) dX3_putInOrder_8 rfl rfl ?_
    refine jk_getA (q := 12) (k := 3) 0 0 rfl (by first | exact hf1 | exact hs.1 | exact hf2 _ _ rfl | exact hs.2.1 _ _ rfl | assumption) (by first | exact hf4 | exact hf3 _ _ rfl | exact hs.2.2.1 _ _ rfl | assumption) rfl rfl jw_189 dX3_putInOrder_9 rfl ?_
    refine jk_getIR (q := 15) (k := 9) 3 3 rfl (by first | exact hf1 | exact hs.1 | exact hf2 _ _ rfl | exact hs.2.1 _ _ rfl | assumption) (by first | exact jk_row_same _ _ _ | ((repeat rewrite [jk_row_ne _ _ (by omega)]); first | exact jk_row_same _ _ _ | exact ho1 | exact hor1 | rfl)) rfl rfl jw_67 dX3_putInOrder_12 rfl ?_
    rw [hr1.1.2.1]
    refine jk_icmp_ge (q := 109) (q2 := 18) dX3_putInOrder_15 rfl rfl (by first | assumption | decide | omega | exact jB_01 _ | exact ⟨by omega, by omega⟩) (by first | assumption | decide | omega | exact jB_01 _ | exact ⟨by omega, by omega⟩) (fun z1 => ?_) (fun z1 => ?_)
    · exact jk_ret rfl dX3_putInOrder_109 (by exact ⟨rfl, rfl, rfl, rfl, Od, N, by omega, by rw [show g 1 = (k7 : Int) by omega]; exact h2, h1⟩)
    · refine jk_aload_n (q := 19) dX3_putInOrder_18 rfl rfl ?_
      refine jk_getA (q := 22) (k := 3) 0 0 rfl (by first | exact hf1 | exact hs.1 | exact hf2 _ _ rfl | exact hs.2.1 _ _ rfl | assumption) (by first | exact hf4 | exact hf3 _ _ rfl | exact hs.2.2.1 _ _ rfl | assumption) rfl rfl jw_189 dX3_putInOrder_19 rfl ?_
      refine jk_iload_n (q := 23) dX3_putInOrder_22 rfl rfl ?_
      refine jk_cV1p (q := 26) (c_X9_usable hs hr1 hi ⟨by omega, by omega⟩) jm_X9_usable jw_505 rfl (by first | exact hf1 | exact hs.1 | exact hf2 _ _ rfl | exact hs.2.1 _ _ rfl | assumption) rfl rfl rfl dX3_putInOrder_23 rfl ?_
      refine jk_ifB_eq (q := 103) (q2 := 29) dX3_putInOrder_26 rfl rfl (fun z2 => ?_) (fun z2 => ?_)
      · refine jk_iinc1 (q := 106) dX3_putInOrder_103 rfl rfl rfl ?_
        refine jk_goto (q := 7) dX3_putInOrder_106 rfl ?_
        refine jk_convw (ih7 (by omega) _ Od N h1 ?_ (by omega)) (jk_wkS rfl (jk_wkS rfl (jk_wkN jk_wk0)))
        rw [show (((k7 + 1 : Nat) : Nat) : Int) = (k7 : Int) + 1 by omega]; exact cm_srt_skip h2 (by assumption)
      · refine jk_aload_n (q := 30) dX3_putInOrder_29 rfl rfl ?_
        refine jk_getIR (q := 33) (k := 3) 2 2 rfl (by first | exact hf1 | exact hs.1 | exact hf2 _ _ rfl | exact hs.2.1 _ _ rfl | assumption) (by first | exact jk_row_same _ _ _ | ((repeat rewrite [jk_row_ne _ _ (by omega)]); first | exact jk_row_same _ _ _ | exact ho1 | exact hor1 | rfl)) rfl rfl jw_191 dX3_putInOrder_30 rfl ?_
        rw [jk_set_at]
        refine jk_istore2 (q := 34) dX3_putInOrder_33 rfl rfl rfl ?_
        have L34 : ∀ k34 : Nat, k34 ≤ N → ∀ (σ2 : jk_I) (Od2 : Int → Int), (g1 : σ2 = jk_row (jk_row σ (f + 2) Od2) f (jk_set (σ f) 2 (N : Int))) → (g2 : ∀ i : Nat, i < N - k34 → Od2 (i : Int) = Od (i : Int)) → (g3 : ∀ i : Nat, N - k34 ≤ i → i < N → Od2 ((i + 1 : Nat) : Int) = Od (i : Int)) → (g4 : ∀ i : Nat, N - k34 ≤ i → i < N → g (56 + (k7 : Int)) < g (56 + Od (i : Int))) → jk_J G mX3_putInOrder 34 [some (.ref f), some (jI (k7 : Int)), some (jI ((N : Int) - (k34 : Int)))] [] n t σ2 ρ 0 0 (fo_oQ f g σ n t ρ) jk_no := by
          refine jk_loop _ (fun k34 hk34 ih34 => ?_)
          intro σ2 Od2 g1 g2 g3 g4
          have hr2 : cl_rel σ2 s g := cl_rel_same i2 (fun a h8 h9 => by rw [g1, jk_row_ne _ _ (by omega), jk_row_ne _ _ (by omega)]) hr
          have ho2 : σ2 f = jk_set (σ f) 2 (N : Int) := by rw [g1, jk_row_same]
          have hor2 : σ2 (f + 2) = Od2 := by rw [g1, jk_row_ne _ _ (by omega), jk_row_same]
          refine jk_iload_n (q := 35) dX3_putInOrder_34 rfl rfl ?_
          refine jk_if_le (q := 86) (q2 := 38) dX3_putInOrder_35 rfl rfl (by first | assumption | decide | omega | exact jB_01 _ | exact ⟨by omega, by omega⟩) (fun z3 => ?_) (fun z3 => ?_)
          · have hle9 : N - k34 = 0 ∨ g (56 + Od ((N - k34 - 1 : Nat) : Int)) ≤ g (56 + (k7 : Int)) := (by first | exact Or.inl (by omega) | (right; rw [show ((N - k34 - 1 : Nat) : Int) = (pm : Int) by omega, ← hb1, ← e9]; omega))
            refine jk_aload_n (q := 87) dX3_putInOrder_86 rfl rfl ?_
            refine jk_getA (q := 90) (k := 3) 1 1 rfl (by first | exact hf1 | exact hs.1 | exact hf2 _ _ rfl | exact hs.2.1 _ _ rfl | assumption) (by first | exact hf4 | exact hf3 _ _ rfl | exact hs.2.2.1 _ _ rfl | assumption) rfl rfl jw_190 dX3_putInOrder_87 rfl ?_
            refine jk_iload_n (q := 91) dX3_putInOrder_90 rfl rfl ?_
            refine jk_iload_n (q := 92) dX3_putInOrder_91 rfl rfl ?_
            refine jk_iastR (q := 93) (by first | exact hf1 | exact hs.1 | exact hf2 _ _ rfl | exact hs.2.1 _ _ rfl | assumption) (by first | exact jk_row_same _ _ _ | ((repeat rewrite [jk_row_ne _ _ (by omega)]); first | exact jk_row_same _ _ _ | exact ho2 | exact hor2 | rfl)) (by first | assumption | decide | omega | exact jB_01 _ | exact ⟨by omega, by omega⟩) dX3_putInOrder_92 rfl ?_
            refine jk_aload_n (q := 94) dX3_putInOrder_93 rfl rfl ?_
            refine jk_dup (q := 95) dX3_putInOrder_94 rfl rfl ?_
            refine jk_getIR (q := 98) (k := 3) 2 2 rfl (by first | exact hf1 | exact hs.1 | exact hf2 _ _ rfl | exact hs.2.1 _ _ rfl | assumption) (by first | exact jk_row_same _ _ _ | ((repeat rewrite [jk_row_ne _ _ (by omega)]); first | exact jk_row_same _ _ _ | exact ho2 | exact hor2 | rfl)) rfl rfl jw_191 dX3_putInOrder_95 rfl ?_
            rw [jk_set_at]
            refine jk_iconst (q := 99) dX3_putInOrder_98 rfl ?_
            refine jk_iadd (q := 100) dX3_putInOrder_99 rfl ?_
            refine jk_putIR (q := 103) (k := 3) 2 2 rfl (by first | exact hf1 | exact hs.1 | exact hf2 _ _ rfl | exact hs.2.1 _ _ rfl | assumption) (by first | exact jk_row_same _ _ _ | ((repeat rewrite [jk_row_ne _ _ (by omega)]); first | exact jk_row_same _ _ _ | exact ho2 | exact hor2 | rfl)) rfl rfl rfl jw_191 dX3_putInOrder_100 rfl ?_
            refine jk_iinc1 (q := 106) dX3_putInOrder_103 rfl rfl rfl ?_
            refine jk_goto (q := 7) dX3_putInOrder_106 rfl ?_
            refine jk_convw (ih7 (by omega) _ (jk_set Od2 ((N : Int) - (k34 : Int)) (k7 : Int)) (N + 1) ?_ ?_ (by omega)) (jk_wkS rfl (jk_wkS rfl (jk_wkN jk_wk0)))
            · rw [g1, jk_rr _ _ _ _ _ (show f + 2 ≠ f by omega), jk_set_set]; rfl
            · have e0 : ((N - k34 : Nat) : Int) = (N : Int) - (k34 : Int) := (by omega)
              have := cm_srt_ins (p := N - k34) (Od2 := jk_set Od2 ((N : Int) - (k34 : Int)) (k7 : Int)) ⟨by omega, by omega⟩ h2 (by assumption) (by omega) (fun i hi9 => by rw [jk_set_ne _ _ (by omega)]; exact g2 i hi9) (by rw [e0]; exact jk_set_at _ _ _) (fun i hi9 hN9 => by rw [jk_set_ne _ _ (by omega)]; exact g3 i hi9 hN9) g4 (hle9)
              rw [show (((k7 + 1 : Nat) : Nat) : Int) = (k7 : Int) + 1 by omega]; exact this
          · obtain ⟨pm, hpm⟩ : ∃ pm : Nat, N - k34 = pm + 1 := ⟨N - k34 - 1, by omega⟩
            have e9 : (N : Int) - (k34 : Int) - 1 = (pm : Int) := (by omega)
            have hb0 := (h2.1 pm (by omega)).1
            have hb1 := g2 pm (by omega)
            have hb : 0 ≤ Od2 ((N : Int) - (k34 : Int) - 1) ∧ Od2 ((N : Int) - (k34 : Int) - 1) < g 1 := (by rw [e9, hb1]; omega)
            have e1 := (hr2.2.2.1 _ hb).2.2.1
            have e2 := (hr2.2.2.1 (k7 : Int) ⟨by omega, by omega⟩).2.2.1
            have u1 := (md_inv_ln hi (l := Od2 ((N : Int) - (k34 : Int) - 1)) ⟨by omega, by omega⟩).2.2.1
            have u2 := (md_inv_ln hi (l := (k7 : Int)) ⟨by omega, by omega⟩).2.2.1
            refine jk_aload_n (q := 39) dX3_putInOrder_38 rfl rfl ?_
            refine jk_getA (q := 42) (k := 3) 0 0 rfl (by first | exact hf1 | exact hs.1 | exact hf2 _ _ rfl | exact hs.2.1 _ _ rfl | assumption) (by first | exact hf4 | exact hf3 _ _ rfl | exact hs.2.2.1 _ _ rfl | assumption) rfl rfl jw_189 dX3_putInOrder_39 rfl ?_
            refine jk_getA (q := 45) (k := 9) 6 6 rfl (by first | exact hf1 | exact hs.1 | exact hf2 _ _ rfl | exact hs.2.1 _ _ rfl | assumption) (by first | exact hf4 | exact hf3 _ _ rfl | exact hs.2.2.1 _ _ rfl | assumption) rfl rfl jw_87 dX3_putInOrder_42 rfl ?_
            refine jk_aload_n (q := 46) dX3_putInOrder_45 rfl rfl ?_
            refine jk_getA (q := 49) (k := 3) 1 1 rfl (by first | exact hf1 | exact hs.1 | exact hf2 _ _ rfl | exact hs.2.1 _ _ rfl | assumption) (by first | exact hf4 | exact hf3 _ _ rfl | exact hs.2.2.1 _ _ rfl | assumption) rfl rfl jw_190 dX3_putInOrder_46 rfl ?_
            refine jk_iload_n (q := 50) dX3_putInOrder_49 rfl rfl ?_
            refine jk_iconst (q := 51) dX3_putInOrder_50 rfl ?_
            refine jk_isub (q := 52) dX3_putInOrder_51 rfl ?_
            refine jk_ialdR (q := 53) (by first | exact hf1 | exact hs.1 | exact hf2 _ _ rfl | exact hs.2.1 _ _ rfl | assumption) (by first | exact jk_row_same _ _ _ | ((repeat rewrite [jk_row_ne _ _ (by omega)]); first | exact jk_row_same _ _ _ | exact ho2 | exact hor2 | rfl)) (by first | assumption | decide | omega | exact jB_01 _ | exact ⟨by omega, by omega⟩) dX3_putInOrder_52 rfl ?_
            refine jk_ialdR (q := 54) (by first | exact hf1 | exact hs.1 | exact hf2 _ _ rfl | exact hs.2.1 _ _ rfl | assumption) (by first | exact jk_row_same _ _ _ | ((repeat rewrite [jk_row_ne _ _ (by omega)]); first | exact jk_row_same _ _ _ | exact ho2 | exact hor2 | rfl)) (by first | assumption | decide | omega | exact jB_01 _ | exact ⟨by omega, by omega⟩) dX3_putInOrder_53 rfl ?_
            refine jk_aload_n (q := 55) dX3_putInOrder_54 rfl rfl ?_
            refine jk_getA (q := 58) (k := 3) 0 0 rfl (by first | exact hf1 | exact hs.1 | exact hf2 _ _ rfl | exact hs.2.1 _ _ rfl | assumption) (by first | exact hf4 | exact hf3 _ _ rfl | exact hs.2.2.1 _ _ rfl | assumption) rfl rfl jw_189 dX3_putInOrder_55 rfl ?_
            refine jk_getA (q := 61) (k := 9) 6 6 rfl (by first | exact hf1 | exact hs.1 | exact hf2 _ _ rfl | exact hs.2.1 _ _ rfl | assumption) (by first | exact hf4 | exact hf3 _ _ rfl | exact hs.2.2.1 _ _ rfl | assumption) rfl rfl jw_87 dX3_putInOrder_58 rfl ?_
            refine jk_iload_n (q := 62) dX3_putInOrder_61 rfl rfl ?_
            refine jk_ialdR (q := 63) (by first | exact hf1 | exact hs.1 | exact hf2 _ _ rfl | exact hs.2.1 _ _ rfl | assumption) (by first | exact jk_row_same _ _ _ | ((repeat rewrite [jk_row_ne _ _ (by omega)]); first | exact jk_row_same _ _ _ | exact ho2 | exact hor2 | rfl)) (by first | assumption | decide | omega | exact jB_01 _ | exact ⟨by omega, by omega⟩) dX3_putInOrder_62 rfl ?_
            refine jk_icmp_le (q := 86) (q2 := 66) dX3_putInOrder_63 rfl rfl (by first | assumption | decide | omega | exact jB_01 _ | exact ⟨by omega, by omega⟩) (by first | assumption | decide | omega | exact jB_01 _ | exact ⟨by omega, by omega⟩) (fun z4 => ?_) (fun z4 => ?_)
            · have hle9 : N - k34 = 0 ∨ g (56 + Od ((N - k34 - 1 : Nat) : Int)) ≤ g (56 + (k7 : Int)) := (by first | exact Or.inl (by omega) | (right; rw [show ((N - k34 - 1 : Nat) : Int) = (pm : Int) by omega, ← hb1, ← e9]; omega))
              refine jk_aload_n (q := 87) dX3_putInOrder_86 rfl rfl ?_
              refine jk_getA (q := 90) (k := 3) 1 1 rfl (by first | exact hf1 | exact hs.1 | exact hf2 _ _ rfl | exact hs.2.1 _ _ rfl | assumption) (by first | exact hf4 | exact hf3 _ _ rfl | exact hs.2.2.1 _ _ rfl | assumption) rfl rfl jw_190 dX3_putInOrder_87 rfl ?_
              refine jk_iload_n (q := 91) dX3_putInOrder_90 rfl rfl ?_
              refine jk_iload_n (q := 92) dX3_putInOrder_91 rfl rfl ?_
              refine jk_iastR (q := 93) (by first | exact hf1 | exact hs.1 | exact hf2 _ _ rfl | exact hs.2.1 _ _ rfl | assumption) (by first | exact jk_row_same _ _ _ | ((repeat rewrite [jk_row_ne _ _ (by omega)]); first | exact jk_row_same _ _ _ | exact ho2 | exact hor2 | rfl)) (by first | assumption | decide | omega | exact jB_01 _ | exact ⟨by omega, by omega⟩) dX3_putInOrder_92 rfl ?_
              refine jk_aload_n (q := 94) dX3_putInOrder_93 rfl rfl ?_
              refine jk_dup (q := 95) dX3_putInOrder_94 rfl rfl ?_
              refine jk_getIR (q := 98) (k := 3) 2 2 rfl (by first | exact hf1 | exact hs.1 | exact hf2 _ _ rfl | exact hs.2.1 _ _ rfl | assumption) (by first | exact jk_row_same _ _ _ | ((repeat rewrite [jk_row_ne _ _ (by omega)]); first | exact jk_row_same _ _ _ | exact ho2 | exact hor2 | rfl)) rfl rfl jw_191 dX3_putInOrder_95 rfl ?_
              rw [jk_set_at]
              refine jk_iconst (q := 99) dX3_putInOrder_98 rfl ?_
              refine jk_iadd (q := 100) dX3_putInOrder_99 rfl ?_
              refine jk_putIR (q := 103) (k := 3) 2 2 rfl (by first | exact hf1 | exact hs.1 | exact hf2 _ _ rfl | exact hs.2.1 _ _ rfl | assumption) (by first | exact jk_row_same _ _ _ | ((repeat rewrite [jk_row_ne _ _ (by omega)]); first | exact jk_row_same _ _ _ | exact ho2 | exact hor2 | rfl)) rfl rfl rfl jw_191 dX3_putInOrder_100 rfl ?_
              refine jk_iinc1 (q := 106) dX3_putInOrder_103 rfl rfl rfl ?_
              refine jk_goto (q := 7) dX3_putInOrder_106 rfl ?_
              refine jk_convw (ih7 (by omega) _ (jk_set Od2 ((N : Int) - (k34 : Int)) (k7 : Int)) (N + 1) ?_ ?_ (by omega)) (jk_wkS rfl (jk_wkS rfl (jk_wkN jk_wk0)))
              · rw [g1, jk_rr _ _ _ _ _ (show f + 2 ≠ f by omega), jk_set_set]; rfl
              · have e0 : ((N - k34 : Nat) : Int) = (N : Int) - (k34 : Int) := (by omega)
                have := cm_srt_ins (p := N - k34) (Od2 := jk_set Od2 ((N : Int) - (k34 : Int)) (k7 : Int)) ⟨by omega, by omega⟩ h2 (by assumption) (by omega) (fun i hi9 => by rw [jk_set_ne _ _ (by omega)]; exact g2 i hi9) (by rw [e0]; exact jk_set_at _ _ _) (fun i hi9 hN9 => by rw [jk_set_ne _ _ (by omega)]; exact g3 i hi9 hN9) g4 (hle9)
                rw [show (((k7 + 1 : Nat) : Nat) : Int) = (k7 : Int) + 1 by omega]; exact this
            · have hlt : g (56 + (k7 : Int)) < g (56 + Od2 ((N : Int) - (k34 : Int) - 1)) := (by omega)
              refine jk_aload_n (q := 67) dX3_putInOrder_66 rfl rfl ?_
              refine jk_getA (q := 70) (k := 3) 1 1 rfl (by first | exact hf1 | exact hs.1 | exact hf2 _ _ rfl | exact hs.2.1 _ _ rfl | assumption) (by first | exact hf4 | exact hf3 _ _ rfl | exact hs.2.2.1 _ _ rfl | assumption) rfl rfl jw_190 dX3_putInOrder_67 rfl ?_
              refine jk_iload_n (q := 71) dX3_putInOrder_70 rfl rfl ?_
              refine jk_aload_n (q := 72) dX3_putInOrder_71 rfl rfl ?_
              refine jk_getA (q := 75) (k := 3) 1 1 rfl (by first | exact hf1 | exact hs.1 | exact hf2 _ _ rfl | exact hs.2.1 _ _ rfl | assumption) (by first | exact hf4 | exact hf3 _ _ rfl | exact hs.2.2.1 _ _ rfl | assumption) rfl rfl jw_190 dX3_putInOrder_72 rfl ?_
              refine jk_iload_n (q := 76) dX3_putInOrder_75 rfl rfl ?_
              refine jk_iconst (q := 77) dX3_putInOrder_76 rfl ?_
              refine jk_isub (q := 78) dX3_putInOrder_77 rfl ?_
              refine jk_ialdR (q := 79) (by first | exact hf1 | exact hs.1 | exact hf2 _ _ rfl | exact hs.2.1 _ _ rfl | assumption) (by first | exact jk_row_same _ _ _ | ((repeat rewrite [jk_row_ne _ _ (by omega)]); first | exact jk_row_same _ _ _ | exact ho2 | exact hor2 | rfl)) (by first | assumption | decide | omega | exact jB_01 _ | exact ⟨by omega, by omega⟩) dX3_putInOrder_78 rfl ?_
              refine jk_iastR (q := 80) (by first | exact hf1 | exact hs.1 | exact hf2 _ _ rfl | exact hs.2.1 _ _ rfl | assumption) (by first | exact jk_row_same _ _ _ | ((repeat rewrite [jk_row_ne _ _ (by omega)]); first | exact jk_row_same _ _ _ | exact ho2 | exact hor2 | rfl)) (by first | assumption | decide | omega | exact jB_01 _ | exact ⟨by omega, by omega⟩) dX3_putInOrder_79 rfl ?_
              refine jk_iinc2 (q := 83) dX3_putInOrder_80 rfl rfl rfl ?_
              refine jk_goto (q := 34) dX3_putInOrder_83 rfl ?_
              refine jk_convw (ih34 (by omega) _ (jk_set Od2 ((N : Int) - (k34 : Int)) (Od2 ((N : Int) - (k34 : Int) - 1))) ?_ ?_ ?_ ?_) (jk_wkS rfl (jk_wkS rfl (jk_wkS (jk_li (by omega)) jk_wk0)))
              · rw [g1, jk_row_comm _ _ _ (show f ≠ f + 2 by omega), jk_row_row]
              · intro i hi9; rw [jk_set_ne _ _ (by omega)]; exact g2 i (by omega)
              · intro i hi9 hN9
                by_cases e : i = N - k34 - 1
                · rw [show (((i + 1 : Nat) : Nat) : Int) = (N : Int) - (k34 : Int) by omega, jk_set_at, show (N : Int) - (k34 : Int) - 1 = ((i : Nat) : Int) by omega]; exact g2 i (by omega)
                · rw [jk_set_ne _ _ (by omega)]; exact g3 i (by omega) hN9
              · intro i hi9 hN9
                by_cases e : i = N - k34 - 1
                · rw [← g2 i (by omega)]; rw [show (N : Int) - (k34 : Int) - 1 = ((i : Nat) : Int) by omega] at e1 hlt; omega
                · exact g4 i (by omega) hN9
        exact jk_convw (L34 0 (Nat.zero_le _) _ Od h1 (fun i _ => rfl) (fun i h9 h8 => absurd h9 (by omega)) (fun i h9 h8 => absurd h9 (by omega))) (jk_wkS rfl (jk_wkS rfl (jk_wkS (jk_li (by omega)) jk_wk0)))
  have hO0 : σ = jk_row σ (f + 2) (σ (f + 2)) := (jk_row_self _ _).symm
  exact jk_convw (L7 0 (Nat.zero_le _) _ (σ (f + 2)) 0 (by rw [jk_row_self]; rfl) ⟨fun i hi9 => absurd hi9 (Nat.not_lt_zero i), fun i j _ hj => absurd hj (Nat.not_lt_zero j), fun l hl => absurd hl (by omega)⟩ (Nat.le_refl _)) (jk_wkS rfl (jk_wkS rfl (jk_wkN jk_wk0)))
end CF1
