section S1
/-- the sign at a place, 0 behind the text -/
def cs_sg (Bf : Int → Int) (ty i : Int) : Int := if 0 ≤ i ∧ i < ty then Bf i else 0
theorem cs_sg_he {Bf : Int → Int} {ty i c : Int} (h : 0 ≤ i) (hc : 0 < c) : cs_sg Bf ty i = c ↔ md_he Bf ty i = c := by
  unfold cs_sg md_he
  by_cases h2 : i < ty
  · rw [if_pos ⟨h, h2⟩, if_pos h2]
  · rw [if_neg (by omega), if_neg h2]; omega
theorem cs_sg_in {Bf : Int → Int} {ty i : Int} (h : 0 ≤ i) : md_in (cs_sg Bf ty i) 48 57 = md_in (md_he Bf ty i) 48 57 ∧ (md_in (md_he Bf ty i) 48 57 = true → cs_sg Bf ty i = md_he Bf ty i ∧ i < ty) := by
  unfold cs_sg md_he
  by_cases h2 : i < ty
  · rw [if_pos ⟨h, h2⟩, if_pos h2]; exact ⟨rfl, fun _ => ⟨rfl, h2⟩⟩
  · rw [if_neg (by omega), if_neg h2]; exact ⟨rfl, fun h => absurd h (by decide)⟩
theorem cs_sg_bd {Bf : Int → Int} {ty : Int} (hB : ∀ j, 0 ≤ j ∧ j < 60 → 0 ≤ Bf j ∧ Bf j < 65536) (hty : 0 ≤ ty ∧ ty ≤ 60) (i : Int) : 0 ≤ cs_sg Bf ty i ∧ cs_sg Bf ty i < 65536 := by
  unfold cs_sg
  split
  · exact hB i (by omega)
  · exact ⟨by decide, by decide⟩
/-- the heap with the reading place p and the row r of arguments -/
def cs_F (σ : jk_I) (q d : Nat) (p : Int) (r : Int → Int) : jk_I := jk_row (jk_row σ d r) q (jk_set (σ q) 2 p)
theorem cs_F_q (σ : jk_I) (q d : Nat) (p : Int) (r : Int → Int) : cs_F σ q d p r q = jk_set (σ q) 2 p := jk_row_same _ _ _
theorem cs_F_d {q d : Nat} (h : d ≠ q) (σ : jk_I) (p : Int) (r : Int → Int) : cs_F σ q d p r d = r := by unfold cs_F; rw [jk_row_ne _ _ h, jk_row_same]
theorem cs_F_ne {q d a : Nat} (h : a ≠ q) (h2 : a ≠ d) (σ : jk_I) (p : Int) (r : Int → Int) : cs_F σ q d p r a = σ a := by unfold cs_F; rw [jk_row_ne _ _ h, jk_row_ne _ _ h2]
theorem cs_F_p (σ : jk_I) (q d : Nat) (p p2 : Int) (r : Int → Int) : jk_row (cs_F σ q d p r) q (jk_set (jk_set (σ q) 2 p) 2 p2) = cs_F σ q d p2 r := by unfold cs_F; rw [jk_row_row, jk_set_set]
theorem cs_F_r {q d : Nat} (h : d ≠ q) (σ : jk_I) (p : Int) (r r2 : Int → Int) : jk_row (cs_F σ q d p r) d r2 = cs_F σ q d p r2 := by unfold cs_F; rw [jk_row_comm _ _ _ h.symm, jk_row_row]
theorem cs_F_id {σ : jk_I} {q : Nat} (d : Nat) {p : Int} (hp : σ q 2 = p) : cs_F σ q d p (σ d) = σ := by
  unfold cs_F; subst hp; rw [jk_row_id rfl, md_set_self, jk_row_id rfl]
theorem cs_nd1 {Bf : Int → Int} {ty p c : Int} (hp : 0 ≤ p) (hc : 0 < c) (h : cs_sg Bf ty p = c) : md_nd Bf ty c (p, false) = (p + 1, false) := by
  have h2 := (cs_sg_he hp hc).mp h
  unfold md_nd; simp [h2]
theorem cs_nd0 {Bf : Int → Int} {ty p c : Int} (hp : 0 ≤ p) (hc : 0 < c) (h : ¬ cs_sg Bf ty p = c) : md_nd Bf ty c (p, false) = (p, true) := by
  have h2 : ¬ md_he Bf ty p = c := fun h2 => h ((cs_sg_he hp hc).mpr h2)
  unfold md_nd; simp [h2]
theorem cs_dl_end {Bf : Int → Int} {ty : Int} {f : Nat} {x : Int × Int} (h : f = 0 ∨ md_in (md_he Bf ty x.1) 48 57 = false) : md_dl Bf ty f x = x := by
  rcases h with h | h
  · rw [h]; rfl
  · match f with
    | 0 => rfl
    | f + 1 => unfold md_dl; rw [if_neg (by rw [h]; decide)]
theorem cs_di {Bf : Int → Int} {ty p : Int} {most : Nat} : md_di Bf ty most (p, false) = (((md_dl Bf ty most (p, 0)).1, !md_in (md_he Bf ty p) 48 57), (md_dl Bf ty most (p, 0)).2) := by
  unfold md_di
  cases h : md_in (md_he Bf ty p) 48 57
  · rw [if_pos (by simp [h]), cs_dl_end (Or.inr h)]; rfl
  · rw [if_neg (by simp [h])]; rfl
/-- an argument, with a minus sign ahead where it may stand -/
def cs_ng (Bf : Int → Int) (ty : Int) (sg : Bool) (p : Int) : Bool := sg && decide (md_he Bf ty p = 45)
def cs_ar (Bf : Int → Int) (ty : Int) (most : Nat) (sg : Bool) (p : Int) : md_PS × Int :=
  ((md_di Bf ty most (p + jB (cs_ng Bf ty sg p), false)).1, if cs_ng Bf ty sg p = true then -(md_di Bf ty most (p + jB (cs_ng Bf ty sg p), false)).2 else (md_di Bf ty most (p + jB (cs_ng Bf ty sg p), false)).2)
theorem c_X7_signAt {G : jk_G} {n : Nat} {t : jk_T} {σ : jk_I} {ρ : jk_P} {q d : Nat} {Bf r : Int → Int} {ty p : Int} {i : Int} (hq : sc_at t ρ q) (hs : σ q 1 = ty) (hb : σ (q + 2) = Bf) (hB : ∀ j, 0 ≤ j ∧ j < 60 → 0 ≤ Bf j ∧ Bf j < 65536) (hty : 0 ≤ ty ∧ ty ≤ 60) (hd : d ≠ q) (hd2 : d ≠ q + 2) (hi9 : jk_in i) : jk_K G yX7_signAt mX7_signAt 0 0 [.ref q, jI i] n t (cs_F σ q d p r) ρ (jk_q (some (jI (cs_sg Bf ty i))) n t (cs_F σ q d p r) ρ) jk_no := by
  have hb2 : ∀ p r, cs_F σ q d p r (q + 2) = Bf := fun p r => (cs_F_ne (by omega) (Ne.symm hd2) σ p r).trans hb
  refine jk_entryB (ls := [some (.ref q), some (jI i)]) jm_X7_signAt.1 rfl rfl rfl ?_
  refine jk_iload_n (q := 1) dX7_signAt_0 rfl rfl ?_
  refine jk_if_lt (q := 21) (q2 := 4) dX7_signAt_1 rfl rfl (by first | assumption | decide | omega | exact jB_01 _ | exact jB_in _ | exact hB _ ⟨by omega, by omega⟩ | exact ⟨by omega, by omega⟩) (fun z1 => ?_) (fun z1 => ?_)
  · refine jk_iconst (q := 22) dX7_signAt_21 rfl ?_
    exact jk_cret rfl (by first | assumption | decide | omega | exact jB_01 _ | exact jB_in _ | exact hB _ ⟨by omega, by omega⟩ | exact ⟨by omega, by omega⟩) dX7_signAt_22 (by refine jk_qI ?_; unfold cs_sg; first | rw [if_pos (by omega)] | rw [if_neg (by omega)])
  · refine jk_iload_n (q := 5) dX7_signAt_4 rfl rfl ?_
    refine jk_aload_n (q := 6) dX7_signAt_5 rfl rfl ?_
    refine jk_getIR (q := 9) (k := 7) 1 1 rfl (by first | exact hq.1.1 | exact hq.1.2.1 | assumption) (by first | exact hb2 _ _ | exact cs_F_q _ _ _ _ _ | exact cs_F_d hd _ _ _ | rfl) rfl rfl jw_318 dX7_signAt_6 rfl ?_
    rw [show jk_set (σ q) 2 p 1 = ty by rw [jk_set_ne _ _ (by decide)]; exact hs]
    refine jk_icmp_ge (q := 21) (q2 := 12) dX7_signAt_9 rfl rfl (by first | assumption | decide | omega | exact jB_01 _ | exact jB_in _ | exact hB _ ⟨by omega, by omega⟩ | exact ⟨by omega, by omega⟩) (by first | assumption | decide | omega | exact jB_01 _ | exact jB_in _ | exact hB _ ⟨by omega, by omega⟩ | exact ⟨by omega, by omega⟩) (fun z2 => ?_) (fun z2 => ?_)
    · refine jk_iconst (q := 22) dX7_signAt_21 rfl ?_
      exact jk_cret rfl (by first | assumption | decide | omega | exact jB_01 _ | exact jB_in _ | exact hB _ ⟨by omega, by omega⟩ | exact ⟨by omega, by omega⟩) dX7_signAt_22 (by refine jk_qI ?_; unfold cs_sg; first | rw [if_pos (by omega)] | rw [if_neg (by omega)])
    · refine jk_aload_n (q := 13) dX7_signAt_12 rfl rfl ?_
      refine jk_getA (q := 16) (k := 7) 0 0 rfl (by first | exact hq.1.1 | exact hq.1.2.1 | assumption) (by exact hq.2.1.1) rfl rfl jw_317 dX7_signAt_13 rfl ?_
      refine jk_iload_n (q := 17) dX7_signAt_16 rfl rfl ?_
      refine jk_caldR (q := 18) (by first | exact hq.1.1 | exact hq.1.2.1 | assumption) (by first | exact hb2 _ _ | exact cs_F_q _ _ _ _ _ | exact cs_F_d hd _ _ _ | rfl) (by first | assumption | decide | omega | exact jB_01 _ | exact jB_in _ | exact hB _ ⟨by omega, by omega⟩ | exact ⟨by omega, by omega⟩) dX7_signAt_17 rfl ?_
      refine jk_goto (q := 22) dX7_signAt_18 rfl ?_
      exact jk_cret rfl (by first | assumption | decide | omega | exact jB_01 _ | exact jB_in _ | exact hB _ ⟨by omega, by omega⟩ | exact ⟨by omega, by omega⟩) dX7_signAt_22 (by refine jk_qI ?_; unfold cs_sg; first | rw [if_pos (by omega)] | rw [if_neg (by omega)])
theorem c_X7_readSign {G : jk_G} {n : Nat} {t : jk_T} {σ : jk_I} {ρ : jk_P} {q d : Nat} {Bf r : Int → Int} {ty p : Int} {c : Int} (hq : sc_at t ρ q) (hs : σ q 1 = ty) (hb : σ (q + 2) = Bf) (hB : ∀ j, 0 ≤ j ∧ j < 60 → 0 ≤ Bf j ∧ Bf j < 65536) (hty : 0 ≤ ty ∧ ty ≤ 60) (hd : d ≠ q) (hd2 : d ≠ q + 2) (hp : md_sok ty p) (hc : 0 < c ∧ c < 65536) : jk_K G yX7_readSign mX7_readSign 0 0 [.ref q, jI c] n t (cs_F σ q d p r) ρ (jk_q (some (jI (jB (!(md_nd Bf ty c (p, false)).2)))) n t (cs_F σ q d (md_nd Bf ty c (p, false)).1 r) ρ) jk_no := by
  have hb2 : ∀ p r, cs_F σ q d p r (q + 2) = Bf := fun p r => (cs_F_ne (by omega) (Ne.symm hd2) σ p r).trans hb
  have hsg := cs_sg_bd (Bf := Bf) hB hty p
  have hp1 := hp.1
  have hp2 := hp.2
  refine jk_entryB (ls := [some (.ref q), some (jI c), none]) jm_X7_readSign.1 rfl rfl rfl ?_
  refine jk_aload_n (q := 1) dX7_readSign_0 rfl rfl ?_
  refine jk_aload_n (q := 2) dX7_readSign_1 rfl rfl ?_
  refine jk_getIR (q := 5) (k := 7) 2 2 rfl (by first | exact hq.1.1 | exact hq.1.2.1 | assumption) (by first | exact hb2 _ _ | exact cs_F_q _ _ _ _ _ | exact cs_F_d hd _ _ _ | rfl) rfl rfl jw_320 dX7_readSign_2 rfl ?_
  rw [jk_set_at]
  refine jk_cV1p (q := 8) (c_X7_signAt hq hs hb hB hty hd hd2 ⟨by omega, by omega⟩) jm_X7_signAt jw_1526 rfl (by first | exact hq.1.1 | exact hq.1.2.1 | assumption) rfl rfl rfl dX7_readSign_5 rfl ?_
  refine jk_iload_n (q := 9) dX7_readSign_8 rfl rfl ?_
  refine jk_icmp_ne (q := 16) (q2 := 12) dX7_readSign_9 rfl rfl (by first | assumption | decide | omega | exact jB_01 _ | exact jB_in _ | exact hB _ ⟨by omega, by omega⟩ | exact ⟨by omega, by omega⟩) (by first | assumption | decide | omega | exact jB_01 _ | exact jB_in _ | exact hB _ ⟨by omega, by omega⟩ | exact ⟨by omega, by omega⟩) (fun z1 => ?_) (fun z1 => ?_)
  · refine jk_iconst (q := 17) dX7_readSign_16 rfl ?_
    refine jk_istore2 (q := 18) dX7_readSign_17 rfl rfl rfl ?_
    refine jk_iload_n (q := 19) dX7_readSign_18 rfl rfl ?_
    refine jk_ifT_eq (q := 32) (by decide) (by decide) dX7_readSign_19 rfl ?_
    refine jk_iload_n (q := 33) dX7_readSign_32 rfl rfl ?_
    exact jk_zret rfl (by first | assumption | decide | omega | exact jB_01 _ | exact jB_in _ | exact hB _ ⟨by omega, by omega⟩ | exact ⟨by omega, by omega⟩) dX7_readSign_33 (by first | (rw [cs_nd1 hp.1 hc.1 (by omega)]; exact jk_qr) | (rw [cs_nd0 hp.1 hc.1 (by omega)]; exact jk_qr))
  · refine jk_iconst (q := 13) dX7_readSign_12 rfl ?_
    refine jk_goto (q := 17) dX7_readSign_13 rfl ?_
    refine jk_istore2 (q := 18) dX7_readSign_17 rfl rfl rfl ?_
    refine jk_iload_n (q := 19) dX7_readSign_18 rfl rfl ?_
    refine jk_ifN_eq (q := 22) (by decide) (by decide) dX7_readSign_19 rfl rfl ?_
    refine jk_aload_n (q := 23) dX7_readSign_22 rfl rfl ?_
    refine jk_dup (q := 24) dX7_readSign_23 rfl rfl ?_
    refine jk_getIR (q := 27) (k := 7) 2 2 rfl (by first | exact hq.1.1 | exact hq.1.2.1 | assumption) (by first | exact hb2 _ _ | exact cs_F_q _ _ _ _ _ | exact cs_F_d hd _ _ _ | rfl) rfl rfl jw_320 dX7_readSign_24 rfl ?_
    rw [jk_set_at]
    refine jk_iconst (q := 28) dX7_readSign_27 rfl ?_
    refine jk_iadd (q := 29) dX7_readSign_28 rfl ?_
    refine jk_putIR (q := 32) (k := 7) 2 2 rfl (by first | exact hq.1.1 | exact hq.1.2.1 | assumption) (by first | exact hb2 _ _ | exact cs_F_q _ _ _ _ _ | exact cs_F_d hd _ _ _ | rfl) rfl rfl rfl jw_320 dX7_readSign_29 rfl ?_
    rw [cs_F_p]
    refine jk_iload_n (q := 33) dX7_readSign_32 rfl rfl ?_
    exact jk_zret rfl (by first | assumption | decide | omega | exact jB_01 _ | exact jB_in _ | exact hB _ ⟨by omega, by omega⟩ | exact ⟨by omega, by omega⟩) dX7_readSign_33 (by first | (rw [cs_nd1 hp.1 hc.1 (by omega)]; exact jk_qr) | (rw [cs_nd0 hp.1 hc.1 (by omega)]; exact jk_qr))
theorem cs_arL {G : jk_G} {n : Nat} {t : jk_T} {σ : jk_I} {ρ : jk_P} {q d : Nat} {Bf r : Int → Int} {ty p : Int} {a : Int} {most : Nat} {ng : Bool} (hq : sc_at t ρ q) (hs : σ q 1 = ty) (hb : σ (q + 2) = Bf) (hB : ∀ j, 0 ≤ j ∧ j < 60 → 0 ≤ Bf j ∧ Bf j < 65536) (hty : 0 ≤ ty ∧ ty ≤ 60) (hd : d ≠ q) (hd2 : d ≠ q + 2) (hp : md_sok ty p) (hm0 : 0 < most ∧ most ≤ 5) (ha : 0 ≤ a ∧ a < 4) (htd : t d = some (.inl (.int, 4))) (a2 : Option Value) : jk_J G mX7_readArgument 26 [some (.ref q), some (jI (most : Int)), none, some (.ref d), some (jI a), some (jI (jB ng)), some (jI 0), some (jI 0)] [] n t (cs_F σ q d p r) ρ 0 0 (jk_q (some (jI (jB (!(!md_in (md_he Bf ty p) 48 57))))) n t (cs_F σ q d (md_dl Bf ty most (p, 0)).1 (jk_set r a (if ng = true then -(md_dl Bf ty most (p, 0)).2 else (md_dl Bf ty most (p, 0)).2))) ρ) jk_no := by
  have hb2 : ∀ p r, cs_F σ q d p r (q + 2) = Bf := fun p r => (cs_F_ne (by omega) (Ne.symm hd2) σ p r).trans hb
  have L26 : ∀ k26 : Nat, k26 ≤ most → ∀ (x : Int × Int), (hw : md_dl Bf ty (most - k26) x = md_dl Bf ty most (p, 0)) → (h0 : k26 = 0 → x = (p, 0)) → (hk9 : 0 < k26 → md_in (md_he Bf ty p) 48 57 = true) → (hsx : md_sok ty x.1) → jk_J G mX7_readArgument 26 [some (.ref q), some (jI (most : Int)), none, some (.ref d), some (jI a), some (jI (jB ng)), some (jI x.2), some (jI (k26 : Int))] [] n t (cs_F σ q d x.1 r) ρ 0 0 (jk_q (some (jI (jB (!(!md_in (md_he Bf ty p) 48 57))))) n t (cs_F σ q d (md_dl Bf ty most (p, 0)).1 (jk_set r a (if ng = true then -(md_dl Bf ty most (p, 0)).2 else (md_dl Bf ty most (p, 0)).2))) ρ) jk_no := by
    refine jk_loop _ (fun k26 hk26 ih26 => ?_)
    intro x hw h0 hk9 hsx
    have hsg := cs_sg_bd (Bf := Bf) hB hty x.1
    have hs1 := hsx.1
    have hs2 := hsx.2
    refine jk_iload (q := 28) dX7_readArgument_26 rfl rfl ?_
    refine jk_iload_n (q := 29) dX7_readArgument_28 rfl rfl ?_
    refine jk_icmp_ge (q := 85) (q2 := 32) dX7_readArgument_29 rfl rfl (by first | assumption | decide | omega | exact jB_01 _ | exact jB_in _ | exact hB _ ⟨by omega, by omega⟩ | exact ⟨by omega, by omega⟩) (by first | assumption | decide | omega | exact jB_01 _ | exact jB_in _ | exact hB _ ⟨by omega, by omega⟩ | exact ⟨by omega, by omega⟩) (fun z1 => ?_) (fun z1 => ?_)
    · have hex : md_dl Bf ty most (p, 0) = x := by
        rw [← hw]
        exact cs_dl_end (by first | exact Or.inl (by omega) | exact Or.inr ((cs_sg_in hsx.1).1.symm.trans (by assumption)))
      refine jk_aload_n (q := 86) dX7_readArgument_85 rfl rfl ?_
      refine jk_iload (q := 88) dX7_readArgument_86 rfl rfl ?_
      refine jk_iload (q := 90) dX7_readArgument_88 rfl rfl ?_
      refine jk_ifB_eq (q := 99) (q2 := 93) dX7_readArgument_90 rfl rfl (fun z2 => ?_) (fun z2 => ?_)
      · have e9 : ng = false := by assumption
        subst e9
        refine jk_iload (q := 101) dX7_readArgument_99 rfl rfl ?_
        refine jk_iastR (q := 102) (by first | exact hq.1.1 | exact hq.1.2.1 | assumption) (by first | exact hb2 _ _ | exact cs_F_q _ _ _ _ _ | exact cs_F_d hd _ _ _ | rfl) (by first | assumption | decide | omega | exact jB_01 _ | exact jB_in _ | exact hB _ ⟨by omega, by omega⟩ | exact ⟨by omega, by omega⟩) dX7_readArgument_101 rfl ?_
        rw [cs_F_r hd]
        refine jk_iload (q := 104) dX7_readArgument_102 rfl rfl ?_
        refine jk_if_le (q := 111) (q2 := 107) dX7_readArgument_104 rfl rfl (by first | assumption | decide | omega | exact jB_01 _ | exact jB_in _ | exact hB _ ⟨by omega, by omega⟩ | exact ⟨by omega, by omega⟩) (fun z3 => ?_) (fun z3 => ?_)
        · refine jk_iconst (q := 112) dX7_readArgument_111 rfl ?_
          exact jk_zret rfl (by first | assumption | decide | omega | exact jB_01 _ | exact jB_in _ | exact hB _ ⟨by omega, by omega⟩ | exact ⟨by omega, by omega⟩) dX7_readArgument_112 (by first | (rw [hex, show md_in (md_he Bf ty p) 48 57 = true from hk9 (by omega)]; exact jk_qr) | (exfalso; omega) | (have h9 := h0 (by omega); rw [hex, show md_in (md_he Bf ty p) 48 57 = false by (have h8 := (cs_sg_in (Bf := Bf) (ty := ty) hsx.1).1.symm.trans (by assumption : md_in (cs_sg Bf ty x.1) 48 57 = false)); rw [h9] at h8; exact h8]; exact jk_qr))
        · refine jk_iconst (q := 108) dX7_readArgument_107 rfl ?_
          refine jk_goto (q := 112) dX7_readArgument_108 rfl ?_
          exact jk_zret rfl (by first | assumption | decide | omega | exact jB_01 _ | exact jB_in _ | exact hB _ ⟨by omega, by omega⟩ | exact ⟨by omega, by omega⟩) dX7_readArgument_112 (by first | (rw [hex, show md_in (md_he Bf ty p) 48 57 = true from hk9 (by omega)]; exact jk_qr) | (exfalso; omega) | (have h9 := h0 (by omega); rw [hex, show md_in (md_he Bf ty p) 48 57 = false by (have h8 := (cs_sg_in (Bf := Bf) (ty := ty) hsx.1).1.symm.trans (by assumption : md_in (cs_sg Bf ty x.1) 48 57 = false)); rw [h9] at h8; exact h8]; exact jk_qr))
      · have e9 : ng = true := by assumption
        subst e9
        refine jk_iload (q := 95) dX7_readArgument_93 rfl rfl ?_
        refine jk_ineg (q := 96) dX7_readArgument_95 rfl ?_
        refine jk_goto (q := 101) dX7_readArgument_96 rfl ?_
        refine jk_iastR (q := 102) (by first | exact hq.1.1 | exact hq.1.2.1 | assumption) (by first | exact hb2 _ _ | exact cs_F_q _ _ _ _ _ | exact cs_F_d hd _ _ _ | rfl) (by first | assumption | decide | omega | exact jB_01 _ | exact jB_in _ | exact hB _ ⟨by omega, by omega⟩ | exact ⟨by omega, by omega⟩) dX7_readArgument_101 rfl ?_
        rw [cs_F_r hd]
        refine jk_iload (q := 104) dX7_readArgument_102 rfl rfl ?_
        refine jk_if_le (q := 111) (q2 := 107) dX7_readArgument_104 rfl rfl (by first | assumption | decide | omega | exact jB_01 _ | exact jB_in _ | exact hB _ ⟨by omega, by omega⟩ | exact ⟨by omega, by omega⟩) (fun z4 => ?_) (fun z4 => ?_)
        · refine jk_iconst (q := 112) dX7_readArgument_111 rfl ?_
          exact jk_zret rfl (by first | assumption | decide | omega | exact jB_01 _ | exact jB_in _ | exact hB _ ⟨by omega, by omega⟩ | exact ⟨by omega, by omega⟩) dX7_readArgument_112 (by first | (rw [hex, show md_in (md_he Bf ty p) 48 57 = true from hk9 (by omega)]; exact jk_qr) | (exfalso; omega) | (have h9 := h0 (by omega); rw [hex, show md_in (md_he Bf ty p) 48 57 = false by (have h8 := (cs_sg_in (Bf := Bf) (ty := ty) hsx.1).1.symm.trans (by assumption : md_in (cs_sg Bf ty x.1) 48 57 = false)); rw [h9] at h8; exact h8]; exact jk_qr))
        · refine jk_iconst (q := 108) dX7_readArgument_107 rfl ?_
          refine jk_goto (q := 112) dX7_readArgument_108 rfl ?_
          exact jk_zret rfl (by first | assumption | decide | omega | exact jB_01 _ | exact jB_in _ | exact hB _ ⟨by omega, by omega⟩ | exact ⟨by omega, by omega⟩) dX7_readArgument_112 (by first | (rw [hex, show md_in (md_he Bf ty p) 48 57 = true from hk9 (by omega)]; exact jk_qr) | (exfalso; omega) | (have h9 := h0 (by omega); rw [hex, show md_in (md_he Bf ty p) 48 57 = false by (have h8 := (cs_sg_in (Bf := Bf) (ty := ty) hsx.1).1.symm.trans (by assumption : md_in (cs_sg Bf ty x.1) 48 57 = false)); rw [h9] at h8; exact h8]; exact jk_qr))
    · refine jk_aload_n (q := 33) dX7_readArgument_32 rfl rfl ?_
      refine jk_aload_n (q := 34) dX7_readArgument_33 rfl rfl ?_
      refine jk_getIR (q := 37) (k := 7) 2 2 rfl (by first | exact hq.1.1 | exact hq.1.2.1 | assumption) (by first | exact hb2 _ _ | exact cs_F_q _ _ _ _ _ | exact cs_F_d hd _ _ _ | rfl) rfl rfl jw_320 dX7_readArgument_34 rfl ?_
      rw [jk_set_at]
      refine jk_cV1p (q := 40) (c_X7_signAt (p := x.1) hq hs hb hB hty hd hd2 ⟨by omega, by omega⟩) jm_X7_signAt jw_1526 rfl (by first | exact hq.1.1 | exact hq.1.2.1 | assumption) rfl rfl rfl dX7_readArgument_37 rfl ?_
      refine jk_bipush (q := 42) (y := 48) dX7_readArgument_40 rfl (by decide) ?_
      refine jk_bipush (q := 44) (y := 57) dX7_readArgument_42 rfl (by decide) ?_
      refine jk_cS3pN (q := 47) (c_X12_within (v := cs_sg Bf ty x.1) (lo := 48) (hi := 57) ⟨by omega, by omega⟩ (by decide) (by decide)) jm_X12_within jw_1561 rfl rfl rfl dX7_readArgument_44 rfl ?_
      refine jk_ifB_eq (q := 85) (q2 := 50) dX7_readArgument_47 rfl rfl (fun z5 => ?_) (fun z5 => ?_)
      · have hex : md_dl Bf ty most (p, 0) = x := by
          rw [← hw]
          exact cs_dl_end (by first | exact Or.inl (by omega) | exact Or.inr ((cs_sg_in hsx.1).1.symm.trans (by assumption)))
        refine jk_aload_n (q := 86) dX7_readArgument_85 rfl rfl ?_
        refine jk_iload (q := 88) dX7_readArgument_86 rfl rfl ?_
        refine jk_iload (q := 90) dX7_readArgument_88 rfl rfl ?_
        refine jk_ifB_eq (q := 99) (q2 := 93) dX7_readArgument_90 rfl rfl (fun z6 => ?_) (fun z6 => ?_)
        · have e9 : ng = false := by assumption
          subst e9
          refine jk_iload (q := 101) dX7_readArgument_99 rfl rfl ?_
          refine jk_iastR (q := 102) (by first | exact hq.1.1 | exact hq.1.2.1 | assumption) (by first | exact hb2 _ _ | exact cs_F_q _ _ _ _ _ | exact cs_F_d hd _ _ _ | rfl) (by first | assumption | decide | omega | exact jB_01 _ | exact jB_in _ | exact hB _ ⟨by omega, by omega⟩ | exact ⟨by omega, by omega⟩) dX7_readArgument_101 rfl ?_
          rw [cs_F_r hd]
          refine jk_iload (q := 104) dX7_readArgument_102 rfl rfl ?_
          refine jk_if_le (q := 111) (q2 := 107) dX7_readArgument_104 rfl rfl (by first | assumption | decide | omega | exact jB_01 _ | exact jB_in _ | exact hB _ ⟨by omega, by omega⟩ | exact ⟨by omega, by omega⟩) (fun z7 => ?_) (fun z7 => ?_)
          · refine jk_iconst (q := 112) dX7_readArgument_111 rfl ?_
            exact jk_zret rfl (by first | assumption | decide | omega | exact jB_01 _ | exact jB_in _ | exact hB _ ⟨by omega, by omega⟩ | exact ⟨by omega, by omega⟩) dX7_readArgument_112 (by first | (rw [hex, show md_in (md_he Bf ty p) 48 57 = true from hk9 (by omega)]; exact jk_qr) | (exfalso; omega) | (have h9 := h0 (by omega); rw [hex, show md_in (md_he Bf ty p) 48 57 = false by (have h8 := (cs_sg_in (Bf := Bf) (ty := ty) hsx.1).1.symm.trans (by assumption : md_in (cs_sg Bf ty x.1) 48 57 = false)); rw [h9] at h8; exact h8]; exact jk_qr))
          · refine jk_iconst (q := 108) dX7_readArgument_107 rfl ?_
            refine jk_goto (q := 112) dX7_readArgument_108 rfl ?_
            exact jk_zret rfl (by first | assumption | decide | omega | exact jB_01 _ | exact jB_in _ | exact hB _ ⟨by omega, by omega⟩ | exact ⟨by omega, by omega⟩) dX7_readArgument_112 (by first | (rw [hex, show md_in (md_he Bf ty p) 48 57 = true from hk9 (by omega)]; exact jk_qr) | (exfalso; omega) | (have h9 := h0 (by omega); rw [hex, show md_in (md_he Bf ty p) 48 57 = false by (have h8 := (cs_sg_in (Bf := Bf) (ty := ty) hsx.1).1.symm.trans (by assumption : md_in (cs_sg Bf ty x.1) 48 57 = false)); rw [h9] at h8; exact h8]; exact jk_qr))
        · have e9 : ng = true := by assumption
          subst e9
          refine jk_iload (q := 95) dX7_readArgument_93 rfl rfl ?_
          refine jk_ineg (q := 96) dX7_readArgument_95 rfl ?_
          refine jk_goto (q := 101) dX7_readArgument_96 rfl ?_
          refine jk_iastR (q := 102) (by first | exact hq.1.1 | exact hq.1.2.1 | assumption) (by first | exact hb2 _ _ | exact cs_F_q _ _ _ _ _ | exact cs_F_d hd _ _ _ | rfl) (by first | assumption | decide | omega | exact jB_01 _ | exact jB_in _ | exact hB _ ⟨by omega, by omega⟩ | exact ⟨by omega, by omega⟩) dX7_readArgument_101 rfl ?_
          rw [cs_F_r hd]
          refine jk_iload (q := 104) dX7_readArgument_102 rfl rfl ?_
          refine jk_if_le (q := 111) (q2 := 107) dX7_readArgument_104 rfl rfl (by first | assumption | decide | omega | exact jB_01 _ | exact jB_in _ | exact hB _ ⟨by omega, by omega⟩ | exact ⟨by omega, by omega⟩) (fun z8 => ?_) (fun z8 => ?_)
          · refine jk_iconst (q := 112) dX7_readArgument_111 rfl ?_
            exact jk_zret rfl (by first | assumption | decide | omega | exact jB_01 _ | exact jB_in _ | exact hB _ ⟨by omega, by omega⟩ | exact ⟨by omega, by omega⟩) dX7_readArgument_112 (by first | (rw [hex, show md_in (md_he Bf ty p) 48 57 = true from hk9 (by omega)]; exact jk_qr) | (exfalso; omega) | (have h9 := h0 (by omega); rw [hex, show md_in (md_he Bf ty p) 48 57 = false by (have h8 := (cs_sg_in (Bf := Bf) (ty := ty) hsx.1).1.symm.trans (by assumption : md_in (cs_sg Bf ty x.1) 48 57 = false)); rw [h9] at h8; exact h8]; exact jk_qr))
          · refine jk_iconst (q := 108) dX7_readArgument_107 rfl ?_
            refine jk_goto (q := 112) dX7_readArgument_108 rfl ?_
            exact jk_zret rfl (by first | assumption | decide | omega | exact jB_01 _ | exact jB_in _ | exact hB _ ⟨by omega, by omega⟩ | exact ⟨by omega, by omega⟩) dX7_readArgument_112 (by first | (rw [hex, show md_in (md_he Bf ty p) 48 57 = true from hk9 (by omega)]; exact jk_qr) | (exfalso; omega) | (have h9 := h0 (by omega); rw [hex, show md_in (md_he Bf ty p) 48 57 = false by (have h8 := (cs_sg_in (Bf := Bf) (ty := ty) hsx.1).1.symm.trans (by assumption : md_in (cs_sg Bf ty x.1) 48 57 = false)); rw [h9] at h8; exact h8]; exact jk_qr))
      · have hin9 : md_in (cs_sg Bf ty x.1) 48 57 = true := by assumption
        rw [(cs_sg_in hsx.1).1] at hin9
        obtain ⟨hsg9, hlt9⟩ := (cs_sg_in hsx.1).2 hin9
        have hin8 := md_inT hin9
        refine jk_bipush (q := 52) (y := 10) dX7_readArgument_50 rfl (by decide) ?_
        refine jk_iload (q := 54) dX7_readArgument_52 rfl rfl ?_
        refine jk_imul (q := 55) dX7_readArgument_54 rfl ?_
        refine jk_aload_n (q := 56) dX7_readArgument_55 rfl rfl ?_
        refine jk_aload_n (q := 57) dX7_readArgument_56 rfl rfl ?_
        refine jk_getIR (q := 60) (k := 7) 2 2 rfl (by first | exact hq.1.1 | exact hq.1.2.1 | assumption) (by first | exact hb2 _ _ | exact cs_F_q _ _ _ _ _ | exact cs_F_d hd _ _ _ | rfl) rfl rfl jw_320 dX7_readArgument_57 rfl ?_
        rw [jk_set_at]
        refine jk_cV1p (q := 63) (c_X7_signAt (p := x.1) hq hs hb hB hty hd hd2 ⟨by omega, by omega⟩) jm_X7_signAt jw_1526 rfl (by first | exact hq.1.1 | exact hq.1.2.1 | assumption) rfl rfl rfl dX7_readArgument_60 rfl ?_
        refine jk_bipush (q := 65) (y := 48) dX7_readArgument_63 rfl (by decide) ?_
        refine jk_isub (q := 66) dX7_readArgument_65 rfl ?_
        refine jk_iadd (q := 67) dX7_readArgument_66 rfl ?_
        refine jk_istore6 (q := 69) dX7_readArgument_67 rfl rfl rfl ?_
        refine jk_aload_n (q := 70) dX7_readArgument_69 rfl rfl ?_
        refine jk_dup (q := 71) dX7_readArgument_70 rfl rfl ?_
        refine jk_getIR (q := 74) (k := 7) 2 2 rfl (by first | exact hq.1.1 | exact hq.1.2.1 | assumption) (by first | exact hb2 _ _ | exact cs_F_q _ _ _ _ _ | exact cs_F_d hd _ _ _ | rfl) rfl rfl jw_320 dX7_readArgument_71 rfl ?_
        rw [jk_set_at]
        refine jk_iconst (q := 75) dX7_readArgument_74 rfl ?_
        refine jk_iadd (q := 76) dX7_readArgument_75 rfl ?_
        refine jk_putIR (q := 79) (k := 7) 2 2 rfl (by first | exact hq.1.1 | exact hq.1.2.1 | assumption) (by first | exact hb2 _ _ | exact cs_F_q _ _ _ _ _ | exact cs_F_d hd _ _ _ | rfl) rfl rfl rfl jw_320 dX7_readArgument_76 rfl ?_
        rw [cs_F_p]
        refine jk_iinc7 (q := 82) dX7_readArgument_79 rfl rfl rfl ?_
        refine jk_goto (q := 26) dX7_readArgument_82 rfl ?_
        refine jk_conv (ih26 (by omega) (x.1 + 1, 10 * x.2 + md_he Bf ty x.1 - 48) ?_ (fun h => absurd h (by omega)) (fun _ => ?_) ⟨by show 0 ≤ x.1 + 1; omega, by show x.1 + 1 ≤ ty; omega⟩) (jk_loc rfl (jk_loc rfl (jk_loc rfl (jk_loc rfl (jk_loc rfl (jk_loc rfl (jk_loc (jk_li ?_) rfl))))))) rfl
        · rw [← hw, show most - k26 = (most - (k26 + 1)) + 1 by omega]
          conv => rhs; unfold md_dl
          rw [if_pos hin9]
        · by_cases h9 : k26 = 0
          · have := h0 h9; rw [this] at hin9; exact hin9
          · exact hk9 (by omega)
        · rw [hsg9]; show 10 * x.2 + md_he Bf ty x.1 - 48 = 10 * x.2 + (md_he Bf ty x.1 - 48); omega
  exact L26 0 (Nat.zero_le _) (p, 0) rfl (fun _ => rfl) (fun h => absurd h (by decide)) hp
theorem cs_ar_f {Bf : Int → Int} {ty p : Int} {most : Nat} : cs_ar Bf ty most false p = (((md_dl Bf ty most (p, 0)).1, !md_in (md_he Bf ty p) 48 57), (md_dl Bf ty most (p, 0)).2) := by
  unfold cs_ar
  rw [show cs_ng Bf ty false p = false from rfl, jB_f, Int.add_zero, cs_di]
  rfl
theorem cs_ar_t0 {Bf : Int → Int} {ty p : Int} {most : Nat} (hp : 0 ≤ p) (h : (md_nd Bf ty 45 (p, false)).2 = true) : cs_ar Bf ty most true p = (((md_dl Bf ty most (p, 0)).1, !md_in (md_he Bf ty p) 48 57), (md_dl Bf ty most (p, 0)).2) ∧ (md_nd Bf ty 45 (p, false)).1 = p := by
  have h2 : ¬ md_he Bf ty p = 45 := fun h2 => by unfold md_nd at h; simp [h2] at h
  refine ⟨?_, by unfold md_nd; simp [h2]⟩
  unfold cs_ar
  rw [show cs_ng Bf ty true p = false by unfold cs_ng; simp [h2], jB_f, Int.add_zero, cs_di]
  rfl
theorem cs_ar_t1 {Bf : Int → Int} {ty p : Int} {most : Nat} (hp : 0 ≤ p) (h : (md_nd Bf ty 45 (p, false)).2 = false) : cs_ar Bf ty most true p = (((md_dl Bf ty most (p + 1, 0)).1, !md_in (md_he Bf ty (p + 1)) 48 57), -(md_dl Bf ty most (p + 1, 0)).2) ∧ (md_nd Bf ty 45 (p, false)).1 = p + 1 ∧ p < ty := by
  have h2 : md_he Bf ty p = 45 := by
    by_cases h2 : md_he Bf ty p = 45
    · exact h2
    · unfold md_nd at h; simp [h2] at h
  refine ⟨?_, by unfold md_nd; simp [h2], ?_⟩
  · unfold cs_ar
    rw [show cs_ng Bf ty true p = true by unfold cs_ng; simp [h2], jB_t, cs_di]
    rfl
  · unfold md_he at h2
    by_cases h3 : p < ty
    · exact h3
    · rw [if_neg h3] at h2; exact absurd h2 (by decide)
theorem c_X7_readArgument {G : jk_G} {n : Nat} {t : jk_T} {σ : jk_I} {ρ : jk_P} {q d : Nat} {Bf r : Int → Int} {ty p : Int} {a : Int} {most : Nat} {sg : Bool} (hq : sc_at t ρ q) (hs : σ q 1 = ty) (hb : σ (q + 2) = Bf) (hB : ∀ j, 0 ≤ j ∧ j < 60 → 0 ≤ Bf j ∧ Bf j < 65536) (hty : 0 ≤ ty ∧ ty ≤ 60) (hd : d ≠ q) (hd2 : d ≠ q + 2) (hp : md_sok ty p) (hm0 : 0 < most ∧ most ≤ 5) (ha : 0 ≤ a ∧ a < 4) (htd : t d = some (.inl (.int, 4))) : jk_K G yX7_readArgument mX7_readArgument 0 0 [.ref q, jI (most : Int), jI (jB sg), .ref d, jI a] n t (cs_F σ q d p r) ρ (jk_q (some (jI (jB (!(cs_ar Bf ty most sg p).1.2)))) n t (cs_F σ q d (cs_ar Bf ty most sg p).1.1 (jk_set r a (cs_ar Bf ty most sg p).2)) ρ) jk_no := by
  have hb2 : ∀ p r, cs_F σ q d p r (q + 2) = Bf := fun p r => (cs_F_ne (by omega) (Ne.symm hd2) σ p r).trans hb
  have hp1 := hp.1
  have hp2 := hp.2
  refine jk_entryB (ls := [some (.ref q), some (jI (most : Int)), some (jI (jB sg)), some (.ref d), some (jI a), none, none, none]) jm_X7_readArgument.1 rfl rfl rfl ?_
  refine jk_iload_n (q := 1) dX7_readArgument_0 rfl rfl ?_
  refine jk_ifB_eq (q := 17) (q2 := 4) dX7_readArgument_1 rfl rfl (fun z1 => ?_) (fun z1 => ?_)
  · skip
    refine jk_iconst (q := 18) dX7_readArgument_17 rfl ?_
    refine jk_istore5 (q := 20) dX7_readArgument_18 rfl rfl rfl ?_
    refine jk_iconst (q := 21) dX7_readArgument_20 rfl ?_
    refine jk_istore6 (q := 23) dX7_readArgument_21 rfl rfl rfl ?_
    refine jk_iconst (q := 24) dX7_readArgument_23 rfl ?_
    refine jk_istore7 (q := 26) dX7_readArgument_24 rfl rfl rfl ?_
    have e9 : sg = false := by assumption
    subst e9
    rw [cs_ar_f]
    exact jk_convw (cs_arL (p := p) (a := a) (most := most) (ng := false) hq hs hb hB hty hd hd2 hp hm0 ha htd none) (by exact jk_wkS rfl (jk_wkS rfl (jk_wkN (jk_wkS rfl (jk_wkS rfl (jk_wkS rfl (jk_wkS rfl (jk_wkS rfl jk_wk0))))))))
  · have e9 : sg = true := by assumption
    subst e9
    refine jk_aload_n (q := 5) dX7_readArgument_4 rfl rfl ?_
    refine jk_bipush (q := 7) (y := 45) dX7_readArgument_5 rfl (by decide) ?_
    refine jk_cV1p (q := 10) (c_X7_readSign hq hs hb hB hty hd hd2 hp (by decide)) jm_X7_readSign jw_1553 rfl (by first | exact hq.1.1 | exact hq.1.2.1 | assumption) rfl rfl rfl dX7_readArgument_7 rfl ?_
    refine jk_ifB_eq (q := 17) (q2 := 13) dX7_readArgument_10 rfl rfl (fun z2 => ?_) (fun z2 => ?_)
    · skip
      refine jk_iconst (q := 18) dX7_readArgument_17 rfl ?_
      refine jk_istore5 (q := 20) dX7_readArgument_18 rfl rfl rfl ?_
      refine jk_iconst (q := 21) dX7_readArgument_20 rfl ?_
      refine jk_istore6 (q := 23) dX7_readArgument_21 rfl rfl rfl ?_
      refine jk_iconst (q := 24) dX7_readArgument_23 rfl ?_
      refine jk_istore7 (q := 26) dX7_readArgument_24 rfl rfl rfl ?_
      have e8 : (md_nd Bf ty 45 (p, false)).2 = true := by revert z2; cases (md_nd Bf ty 45 (p, false)).2 <;> decide
      obtain ⟨e7, e6⟩ := cs_ar_t0 (most := most) hp.1 e8
      rw [e7, e6]
      exact jk_convw (cs_arL (p := p) (a := a) (most := most) (ng := false) hq hs hb hB hty hd hd2 hp hm0 ha htd none) (by exact jk_wkS rfl (jk_wkS rfl (jk_wkN (jk_wkS rfl (jk_wkS rfl (jk_wkS rfl (jk_wkS rfl (jk_wkS rfl jk_wk0))))))))
    · refine jk_iconst (q := 14) dX7_readArgument_13 rfl ?_
      refine jk_goto (q := 18) dX7_readArgument_14 rfl ?_
      refine jk_istore5 (q := 20) dX7_readArgument_18 rfl rfl rfl ?_
      refine jk_iconst (q := 21) dX7_readArgument_20 rfl ?_
      refine jk_istore6 (q := 23) dX7_readArgument_21 rfl rfl rfl ?_
      refine jk_iconst (q := 24) dX7_readArgument_23 rfl ?_
      refine jk_istore7 (q := 26) dX7_readArgument_24 rfl rfl rfl ?_
      have e8 : (md_nd Bf ty 45 (p, false)).2 = false := by revert z2; cases (md_nd Bf ty 45 (p, false)).2 <;> decide
      obtain ⟨e7, e6, e5⟩ := cs_ar_t1 (most := most) hp.1 e8
      rw [e7, e6]
      exact jk_convw (cs_arL (p := p + 1) (a := a) (most := most) (ng := true) hq hs hb hB hty hd hd2 ⟨by omega, by omega⟩ hm0 ha htd none) (by exact jk_wkS rfl (jk_wkS rfl (jk_wkN (jk_wkS rfl (jk_wkS rfl (jk_wkS rfl (jk_wkS rfl (jk_wkS rfl jk_wk0))))))))
end S1
