section CD2
def ch_tQ (f y R : Nat) (σ : jk_I) (n : Nat) (t : jk_T) (ρ : jk_P) : jk_Q := fun v' n' t' σ' ρ' => v' = some (.ref R) ∧ n' = n ∧ t' = t ∧ ρ' = ρ ∧ ∀ a, (a < f ∨ y + 4 < a) → σ' a = σ a
def ch_cQ (s f y : Nat) (g' : Int → Int) (v : Int) (σ : jk_I) (n : Nat) (t : jk_T) (ρ : jk_P) : jk_Q := fun v' n' t' σ' ρ' => v' = some (jI v) ∧ n' = n ∧ t' = t ∧ ρ' = ρ ∧ cl_rel σ' s g' ∧ (cl_nn σ s → cl_nn σ' s) ∧ ∀ a, (a < s ∨ s + 44 < a) → (a < f ∨ y + 4 < a) → σ' a = σ a
theorem cl_up_c {s f y n n' : Nat} {g' : Int → Int} {v : Int} {σ σ' : jk_I} {t t' : jk_T} {ρ ρ' : jk_P} {v' : Option Value} (h : cl_upQ s g' v σ n t ρ v' n' t' σ' ρ') : ch_cQ s f y g' v σ n t ρ v' n' t' σ' ρ' := ⟨h.1, h.2.1, h.2.2.1, h.2.2.2.1, h.2.2.2.2.1, h.2.2.2.2.2.1, fun a h1 _ => h.2.2.2.2.2.2 a h1⟩
theorem ch_tr {f y R R2 n : Nat} {σ σ' : jk_I} {t : jk_T} {ρ : jk_P} (h : R2 = R) (hf : ∀ a, (a < f ∨ y + 4 < a) → σ' a = σ a) : ch_tQ f y R σ n t ρ (some (.ref R2)) n t σ' ρ := by subst h; exact ⟨rfl, rfl, rfl, rfl, hf⟩
/-! what a change needs, from its code 0 -/
theorem cl_ok0 {g : Int → Int} (h : (md_addsPoint g).1 = 0) : g 0 ≠ 10 ∧ md_addsPoint g = (0, g 0, jk_set g 0 (g 0 + 1)) := by
  unfold md_addsPoint at h ⊢
  split at h
  · exact absurd h (by simp)
  · rename_i h1; exact ⟨h1, if_neg h1⟩
theorem cl_ok1 {g : Int → Int} {p v : Int} (h : (md_fixes g p v).1 = 0) : (0 ≤ p ∧ p < g 0) ∧ (-99999 ≤ v ∧ v ≤ 99999) ∧ md_fixes g p v = (0, jk_sum (fun o => md_fixG g p v (4 + o)) (g 0).toNat, md_fixG g p v) := by
  unfold md_fixes at h ⊢
  split at h
  · exact absurd h (by simp)
  · rename_i h1
    split at h
    · exact absurd h (by simp)
    · rename_i h2
      have e1 := md_inT (by simpa using h1 : md_in p 0 (g 0 - 1) = true)
      exact ⟨⟨e1.1, by omega⟩, md_inT (by simpa using h2), by rw [if_neg h1, if_neg h2]⟩
theorem cl_ok2 {g : Int → Int} {p : Int} (h : (md_releases g p).1 = 0) : (0 ≤ p ∧ p < g 0) ∧ g (4 + p) ≠ 0 ∧ md_releases g p = (0, g (14 + p), jk_set g (4 + p) 0) := by
  unfold md_releases at h ⊢
  split at h
  · exact absurd h (by simp)
  · rename_i h1
    split at h
    · exact absurd h (by simp)
    · rename_i h2
      have e1 := md_inT (by simpa using h1 : md_in p 0 (g 0 - 1) = true)
      exact ⟨⟨e1.1, by omega⟩, h2, by rw [if_neg h1, if_neg h2]⟩
theorem cl_ok3 {g : Int → Int} {a b f len : Int} (h : (md_addsLine g a b f len).1 = 0) : (0 ≤ a ∧ a < g 0) ∧ (0 ≤ b ∧ b < g 0) ∧ a ≠ b ∧ (-9999 ≤ f ∧ f ≤ 9999) ∧ (1 ≤ len ∧ len ≤ 50) ∧ g 1 ≠ 16 ∧ md_addsLine g a b f len = (0, g 1, jk_set (jk_set (jk_set (jk_set (jk_set g (24 + g 1) a) (40 + g 1) b) (72 + g 1) f) (56 + g 1) len) 1 (g 1 + 1)) := by
  unfold md_addsLine at h ⊢
  split at h
  · exact absurd h (by simp)
  · rename_i h1
    split at h
    · exact absurd h (by simp)
    · rename_i h2
      split at h
      · exact absurd h (by simp)
      · rename_i h3
        have e1 := md_inT (by simpa using fun h9 => h1 (Or.inl h9) : md_in a 0 (g 0 - 1) = true)
        have e2 := md_inT (by simpa using fun h9 => h1 (Or.inr h9) : md_in b 0 (g 0 - 1) = true)
        exact ⟨⟨e1.1, by omega⟩, ⟨e2.1, by omega⟩, fun h9 => h2 (Or.inl h9), md_inT (by simpa using fun h9 => h2 (Or.inr (Or.inl h9))), md_inT (by simpa using fun h9 => h2 (Or.inr (Or.inr h9))), h3, by rw [if_neg h1, if_neg h2, if_neg h3]⟩
theorem cl_ok4 {g : Int → Int} {l b : Int} (h : (md_addsRun g l b).1 = 0) : (0 ≤ l ∧ l < g 1) ∧ (-9999 ≤ b ∧ b ≤ 9999) ∧ md_addsRun g l b = (0, md_gap (md_runG g l b) l, md_runG g l b) := by
  unfold md_addsRun at h ⊢
  split at h
  · exact absurd h (by simp)
  · rename_i h1
    split at h
    · exact absurd h (by simp)
    · rename_i h2
      split at h
      · exact absurd h (by simp)
      · rename_i h3
        have e1 := md_inT (by simpa using h1 : md_in l 0 (g 1 - 1) = true)
        exact ⟨⟨e1.1, by omega⟩, md_inT (by simpa using h2), by rw [if_neg h1, if_neg h2, if_neg h3]⟩
theorem cl_ok5 {g : Int → Int} {l w : Int} (h : (md_marks g l w).1 = 0) : (0 ≤ l ∧ l < g 1) ∧ md_marks g l w = (0, md_goods (jk_set g (120 + l) (1 - w)), jk_set g (120 + l) (1 - w)) := by
  unfold md_marks at h ⊢
  split at h
  · exact absurd h (by simp)
  · rename_i h1
    split at h
    · exact absurd h (by simp)
    · rename_i h2
      have e1 := md_inT (by simpa using h1 : md_in l 0 (g 1 - 1) = true)
      exact ⟨⟨e1.1, by omega⟩, by rw [if_neg h1, if_neg h2]⟩
theorem cl_ok7 {g : Int → Int} {l : Int} (h : (md_shares g l).1 = 0) : (0 ≤ l ∧ l < g 1) ∧ md_clo g (md_T g) l = true ∧ md_shares g l = (0, md_err g (md_sgn g (md_T g) l), md_shk g (md_sgn g (md_T g) l) (md_parts g (md_sgn g (md_T g) l)) (md_dir (md_err g (md_sgn g (md_T g) l))) (g 1)) := by
  unfold md_shares at h ⊢
  split at h
  · rename_i h1; have h : md_why g l = 0 := h; omega
  · rename_i h1
    split at h
    · exact absurd h (by simp)
    · rename_i h2
      have hw : md_why g l = 0 := by have := md_why_bd g l; omega
      unfold md_why at hw
      split at hw
      · exact absurd hw (by decide)
      · rename_i h3
        split at hw
        · exact absurd hw (by decide)
        · rename_i h4
          have e1 := md_inT (by simpa using h3 : md_in l 0 (g 1 - 1) = true)
          exact ⟨⟨e1.1, by omega⟩, by simpa using h4, by rw [if_neg h1, if_neg h2]⟩
theorem cl_ok9 {g : Int → Int} {p : Int} (h : (md_addsProfile g p).1 = 0) : (0 ≤ p ∧ p < g 0) ∧ g 2 ≠ 4 ∧ md_addsProfile g p = (0, g 2, jk_set (jk_set g (152 + g 2) p) 2 (g 2 + 1)) := by
  unfold md_addsProfile at h ⊢
  split at h
  · exact absurd h (by simp)
  · rename_i h1
    split at h
    · exact absurd h (by simp)
    · rename_i h2
      have e1 := md_inT (by simpa using h1 : md_in p 0 (g 0 - 1) = true)
      exact ⟨⟨e1.1, by omega⟩, h2, by rw [if_neg h1, if_neg h2]⟩
theorem cl_ok10 {g : Int → Int} {q d f : Int} (h : (md_addsStation g q d f).1 = 0) : (0 ≤ q ∧ q < g 2) ∧ (0 ≤ d ∧ d ≤ 99) ∧ (-999 ≤ f ∧ f ≤ 999) ∧ g (156 + q) ≠ 10 ∧ md_addsStation g q d f = (0, g (156 + q) + 1, md_stG g q d f) := by
  unfold md_addsStation at h ⊢
  split at h
  · exact absurd h (by simp)
  · rename_i h1
    split at h
    · exact absurd h (by simp)
    · rename_i h2
      split at h
      · exact absurd h (by simp)
      · rename_i h3
        have e1 := md_inT (by simpa using h1 : md_in q 0 (g 2 - 1) = true)
        exact ⟨⟨e1.1, by omega⟩, md_inT (by simpa using fun h9 => h2 (Or.inl h9)), md_inT (by simpa using fun h9 => h2 (Or.inr h9)), fun h9 => h3 (Or.inl h9), by rw [if_neg h1, if_neg h2, if_neg h3]⟩
theorem cl_ok11 {g : Int → Int} {w : Int} (h : (md_setsWater g w).1 = 0) : (-99999 ≤ w ∧ w ≤ 99999) ∧ md_setsWater g w = (0, g 3, jk_set g 3 w) := by
  unfold md_setsWater at h ⊢
  split at h
  · exact absurd h (by simp)
  · rename_i h1
    exact ⟨md_inT (by simpa using h1), by rw [if_neg h1]⟩
theorem c_X2_troubleWithSharing {G : jk_G} {n : Nat} {t : jk_T} {σ : jk_I} {ρ : jk_P} {c y w f s : Nat} {g : Int → Int} {B l : Int} (hz : zz_ok G) (hch : ch_at t ρ c y w f s) (hr : cl_rel σ s g) (hi : md_inv B g) (hw : md_inw g) (hl : jk_in l) : jk_K G yX2_troubleWithSharing mX2_troubleWithSharing 0 0 [.ref c, jI l] n t σ ρ (ch_tQ f y (12 + cl_tc 7 (md_shares g l).1) σ n t ρ) jk_no := by
  obtain ⟨hcc, hwa, hsh, hwy, hyc⟩ := id hch
  obtain ⟨-, -, hf, hfw⟩ := id hwa
  obtain ⟨-, -, -, -, hs, hsf⟩ := id hf
  have i0 := hi.1
  have i1 := hi.2.1
  have i2 := hi.2.2.1
  obtain ⟨q0, q1, q2, q3⟩ := hr.1
  refine jk_entryB (ls := [some (.ref c), some (jI l), none]) jm_X2_troubleWithSharing.1 rfl rfl rfl ?_
  refine jk_aload_n (q := 1) dX2_troubleWithSharing_0 rfl rfl ?_
  refine jk_getA (q := 4) (k := 2) 0 0 rfl (by first | exact hcc.1 | exact hs.1 | exact hs.2.1 _ _ rfl | exact hf.1 | exact hwa.1.1 | exact hsh.1.1 | assumption) (by first | exact hcc.2.1 | exact hcc.2.2.1 | exact hcc.2.2.2.1 | exact hcc.2.2.2.2 | exact hs.2.2.1 _ _ rfl | assumption) rfl rfl jw_295 dX2_troubleWithSharing_1 rfl ?_
  refine jk_iload_n (q := 5) dX2_troubleWithSharing_4 rfl rfl ?_
  refine jk_cV1p (q := 8) (c_X9_hasLine hs hr (by assumption) (by show jk_in (g 1); exact ⟨by omega, by omega⟩)) jm_X9_hasLine jw_485 rfl (by first | exact hcc.1 | exact hs.1 | exact hs.2.1 _ _ rfl | exact hf.1 | exact hwa.1.1 | exact hsh.1.1 | assumption) rfl rfl rfl dX2_troubleWithSharing_5 rfl ?_
  refine jk_ifB_ne (q := 15) (q2 := 11) dX2_troubleWithSharing_8 rfl rfl (fun z1 => ?_) (fun z1 => ?_)
  · refine jk_aload_n (q := 16) dX2_troubleWithSharing_15 rfl rfl ?_
    refine jk_getA (q := 19) (k := 2) 1 1 rfl (by first | exact hcc.1 | exact hs.1 | exact hs.2.1 _ _ rfl | exact hf.1 | exact hwa.1.1 | exact hsh.1.1 | assumption) (by first | exact hcc.2.1 | exact hcc.2.2.1 | exact hcc.2.2.2.1 | exact hcc.2.2.2.2 | exact hs.2.2.1 _ _ rfl | assumption) rfl rfl jw_296 dX2_troubleWithSharing_16 rfl ?_
    refine jk_cV0g (q := 22) (c_X3_find hf hr hi hw) jm_X3_find jw_497 rfl (by first | exact hcc.1 | exact hs.1 | exact hs.2.1 _ _ rfl | exact hf.1 | exact hwa.1.1 | exact hsh.1.1 | assumption) rfl rfl (Nat.zero_le _) (Nat.zero_le _) rfl dX2_troubleWithSharing_19 rfl (fun v' n' t' σ1 ρ' hq => ?_) (fun _ _ _ _ _ h => h.elim)
    obtain ⟨rfl, hn9, ht9, hr9, hp1⟩ := hq
    replace hn9 := hn9.symm; replace ht9 := ht9.symm; replace hr9 := hr9.symm; subst hn9 ht9 hr9
    simp only [Option.toList_some, Option.toList_none, List.cons_append, List.nil_append, Nat.sub_zero]
    have hr1 : cl_rel σ1 s g := cl_rel_same i2.2 (fun a h1 h2 => hp1.1 a (by omega) (by omega) (by omega) (by omega)) hr
    have hf1 : ∀ a, (a < f ∨ y + 4 < a) → σ1 a = σ a := fun a h => hp1.1 a (by omega) (by omega) (by omega) (by omega)
    refine jk_aload_n (q := 23) dX2_troubleWithSharing_22 rfl rfl ?_
    refine jk_getA (q := 26) (k := 2) 1 1 rfl (by first | exact hcc.1 | exact hs.1 | exact hs.2.1 _ _ rfl | exact hf.1 | exact hwa.1.1 | exact hsh.1.1 | assumption) (by first | exact hcc.2.1 | exact hcc.2.2.1 | exact hcc.2.2.2.1 | exact hcc.2.2.2.2 | exact hs.2.2.1 _ _ rfl | assumption) rfl rfl jw_296 dX2_troubleWithSharing_23 rfl ?_
    refine jk_iload_n (q := 27) dX2_troubleWithSharing_26 rfl rfl ?_
    refine jk_cV1p (q := 30) (c_X3_closesLoop hf hr1 hi hp1.2 (cl_hasT z1)) jm_X3_closesLoop jw_529 rfl (by first | exact hcc.1 | exact hs.1 | exact hs.2.1 _ _ rfl | exact hf.1 | exact hwa.1.1 | exact hsh.1.1 | assumption) rfl rfl rfl dX2_troubleWithSharing_27 rfl ?_
    refine jk_ifB_ne (q := 37) (q2 := 33) dX2_troubleWithSharing_30 rfl rfl (fun z2 => ?_) (fun z2 => ?_)
    · refine jk_aload_n (q := 38) dX2_troubleWithSharing_37 rfl rfl ?_
      refine jk_getA (q := 41) (k := 2) 2 2 rfl (by first | exact hcc.1 | exact hs.1 | exact hs.2.1 _ _ rfl | exact hf.1 | exact hwa.1.1 | exact hsh.1.1 | assumption) (by first | exact hcc.2.1 | exact hcc.2.2.1 | exact hcc.2.2.2.1 | exact hcc.2.2.2.2 | exact hs.2.2.1 _ _ rfl | assumption) rfl rfl jw_297 dX2_troubleWithSharing_38 rfl ?_
      refine jk_iload_n (q := 42) dX2_troubleWithSharing_41 rfl rfl ?_
      refine jk_cV1g (q := 45) (c_X11_traceLoop hwa hr1 hi hp1.2 hw (cl_hasT z1) z2) jm_X11_traceLoop jw_535 rfl (by first | exact hcc.1 | exact hs.1 | exact hs.2.1 _ _ rfl | exact hf.1 | exact hwa.1.1 | exact hsh.1.1 | assumption) rfl rfl (Nat.zero_le _) (Nat.zero_le _) rfl dX2_troubleWithSharing_42 rfl (fun v' n' t' σ2 ρ' hq => ?_) (fun _ _ _ _ _ h => h.elim)
      obtain ⟨rfl, hn9, ht9, hr9, hp2, c9, hsq⟩ := hq
      replace hn9 := hn9.symm; replace ht9 := ht9.symm; replace hr9 := hr9.symm; subst hn9 ht9 hr9
      simp only [Option.toList_some, Option.toList_none, List.cons_append, List.nil_append, Nat.sub_zero]
      have hr2 : cl_rel σ2 s g := cl_rel_same i2.2 (fun a h1 h2 => hp2 a (by omega) (by omega) (by omega)) hr1
      have hf2 : ∀ a, (a < f ∨ y + 4 < a) → σ2 a = σ a := fun a h => (hp2 a (by omega) (by omega) (by omega)).trans (hf1 a h)
      have heb := md_err_bd hi (S := (md_sgn g (md_T g) l)) (fun k _ => md_sgn_sb g (md_T g) l k)
      have hlb := md_len_bd (S := (md_sgn g (md_T g) l)) hi
      have hab : 0 ≤ md_abs (md_err g (md_sgn g (md_T g) l)) ∧ md_abs (md_err g (md_sgn g (md_T g) l)) ≤ 17759984 := by unfold md_abs; split <;> omega
      have htb := md_tol_bd (md_len g (md_sgn g (md_T g) l))
      refine jk_aload_n (q := 46) dX2_troubleWithSharing_45 rfl rfl ?_
      refine jk_getA (q := 49) (k := 2) 2 2 rfl (by first | exact hcc.1 | exact hs.1 | exact hs.2.1 _ _ rfl | exact hf.1 | exact hwa.1.1 | exact hsh.1.1 | assumption) (by first | exact hcc.2.1 | exact hcc.2.2.1 | exact hcc.2.2.2.1 | exact hcc.2.2.2.2 | exact hs.2.2.1 _ _ rfl | assumption) rfl rfl jw_297 dX2_troubleWithSharing_46 rfl ?_
      refine jk_cV0p (q := 52) (c_X11_rise hwa hr2 hi hsq.1 hsq.2.1 (fun i hi9 => (hsq.2.2.1 i hi9).1)) jm_X11_rise jw_550 rfl (by first | exact hcc.1 | exact hs.1 | exact hs.2.1 _ _ rfl | exact hf.1 | exact hwa.1.1 | exact hsh.1.1 | assumption) rfl rfl rfl dX2_troubleWithSharing_49 rfl ?_
      rw [(cs_rise hsq i1.1).1]
      refine jk_mabs (q := 55) jw_562 rfl rfl (by first | assumption | decide | omega | exact jB_01 _ | exact jB_in _ | exact ⟨by omega, by omega⟩) (by first | assumption | decide | omega | exact jB_01 _ | exact jB_in _ | exact ⟨by omega, by omega⟩) dX2_troubleWithSharing_52 rfl ?_
      refine jk_aload_n (q := 56) dX2_troubleWithSharing_55 rfl rfl ?_
      refine jk_getA (q := 59) (k := 2) 2 2 rfl (by first | exact hcc.1 | exact hs.1 | exact hs.2.1 _ _ rfl | exact hf.1 | exact hwa.1.1 | exact hsh.1.1 | assumption) (by first | exact hcc.2.1 | exact hcc.2.2.1 | exact hcc.2.2.2.1 | exact hcc.2.2.2.2 | exact hs.2.2.1 _ _ rfl | assumption) rfl rfl jw_297 dX2_troubleWithSharing_56 rfl ?_
      refine jk_cV0p (q := 62) (c_X11_totalLength hwa hr2 hi hsq.1 hsq.2.1 (fun i hi9 => (hsq.2.2.1 i hi9).1)) jm_X11_totalLength jw_563 rfl (by first | exact hcc.1 | exact hs.1 | exact hs.2.1 _ _ rfl | exact hf.1 | exact hwa.1.1 | exact hsh.1.1 | assumption) rfl rfl rfl dX2_troubleWithSharing_59 rfl ?_
      rw [(cs_rise hsq i1.1).2]
      refine jk_cS1pN (q := 65) (c_X12_toleranceFor hlb) jm_X12_toleranceFor jw_567 rfl rfl rfl dX2_troubleWithSharing_62 rfl ?_
      refine jk_icmp_gt (q := 72) (q2 := 68) dX2_troubleWithSharing_65 rfl rfl (by first | assumption | decide | omega | exact jB_01 _ | exact jB_in _ | exact ⟨by omega, by omega⟩) (by first | assumption | decide | omega | exact jB_01 _ | exact jB_in _ | exact ⟨by omega, by omega⟩) (fun z3 => ?_) (fun z3 => ?_)
      · refine jk_iconst (q := 73) dX2_troubleWithSharing_72 rfl ?_
        refine jk_istore2 (q := 74) dX2_troubleWithSharing_73 rfl rfl rfl ?_
        refine jk_iload_n (q := 75) dX2_troubleWithSharing_74 rfl rfl ?_
        refine jk_ifT_eq (q := 84) (by decide) (by decide) dX2_troubleWithSharing_75 rfl ?_
        refine jk_gets (q := 87) (a := 17) (zz_Ts hz (i := 5) (by decide)) jw_568 dX2_troubleWithSharing_84 rfl ?_
        exact jk_aret rfl (by first | exact Or.inl ⟨_, rfl⟩ | exact Or.inr ⟨_, rfl⟩) dX2_troubleWithSharing_87 (by 
                refine ch_tr ?_ hf2
                unfold md_shares
                rw [show md_why g l = 0 by unfold md_why; rw [cl_mi]; rw [if_neg (by rw [z1]; decide), if_neg (by rw [z2]; decide)]]
                rw [if_neg (by decide)]
                first | rw [if_pos (by omega)] | rw [if_neg (by omega)]
                all_goals rfl)
      · refine jk_iconst (q := 69) dX2_troubleWithSharing_68 rfl ?_
        refine jk_goto (q := 73) dX2_troubleWithSharing_69 rfl ?_
        refine jk_istore2 (q := 74) dX2_troubleWithSharing_73 rfl rfl rfl ?_
        refine jk_iload_n (q := 75) dX2_troubleWithSharing_74 rfl rfl ?_
        refine jk_ifN_eq (q := 78) (by decide) (by decide) dX2_troubleWithSharing_75 rfl rfl ?_
        refine jk_gets (q := 81) (a := 12) (zz_Ts hz (i := 0) (by decide)) jw_446 dX2_troubleWithSharing_78 rfl ?_
        refine jk_goto (q := 87) dX2_troubleWithSharing_81 rfl ?_
        exact jk_aret rfl (by first | exact Or.inl ⟨_, rfl⟩ | exact Or.inr ⟨_, rfl⟩) dX2_troubleWithSharing_87 (by 
                refine ch_tr ?_ hf2
                unfold md_shares
                rw [show md_why g l = 0 by unfold md_why; rw [cl_mi]; rw [if_neg (by rw [z1]; decide), if_neg (by rw [z2]; decide)]]
                rw [if_neg (by decide)]
                first | rw [if_pos (by omega)] | rw [if_neg (by omega)]
                all_goals rfl)
    · refine jk_gets (q := 36) (a := 16) (zz_Ts hz (i := 4) (by decide)) jw_533 dX2_troubleWithSharing_33 rfl ?_
      exact jk_aret rfl (by first | exact Or.inl ⟨_, rfl⟩ | exact Or.inr ⟨_, rfl⟩) dX2_troubleWithSharing_36 (by 
              refine ch_tr ?_ hf1
              unfold md_shares
              rw [show md_why g l = 2 by unfold md_why; rw [cl_mi]; rw [if_neg (by rw [z1]; decide), if_pos z2]]
              rfl)
  · refine jk_gets (q := 14) (a := 13) (zz_Ts hz (i := 1) (by decide)) jw_458 dX2_troubleWithSharing_11 rfl ?_
    exact jk_aret rfl (by first | exact Or.inl ⟨_, rfl⟩ | exact Or.inr ⟨_, rfl⟩) dX2_troubleWithSharing_14 (by 
            refine ch_tr ?_ (fun a h => rfl)
            unfold md_shares
            rw [show md_why g l = 1 by unfold md_why; rw [cl_mi]; rw [if_pos z1]]
            rfl)
theorem cl_shk_rel {σ σ4 : jk_I} {s : Nat} {g S P : Int → Int} {d B : Int} (hi : md_inv B g) (hr : cl_rel σ s g) (hf : ∀ a, s ≤ a → a ≤ s + 44 → a ≠ s + 20 → σ4 a = σ a) (hc : ∀ l, 0 ≤ l ∧ l < g 1 → σ4 (s + 20) l = σ (s + 20) l + d * S l * P l) : cl_rel σ4 s (md_shk g S P d (g 1)) := by
  obtain ⟨⟨a0, a1, a2, a3⟩, hB, hC, hD⟩ := hr
  have i0 := hi.1
  have i1 := hi.2.1
  have i2 := hi.2.2.1
  have hst := hi.2.2.2.2.2.2.2.1
  have hg : ∀ i, i < 136 ∨ 152 ≤ i → md_shk g S P d (g 1) i = g i := fun i h => by unfold md_shk; rw [if_neg (by omega)]
  have h0 := hf s (by omega) (by omega) (by omega)
  refine ⟨⟨by rw [h0, hg 0 (by omega)]; exact a0, by rw [h0, hg 1 (by omega)]; exact a1, by rw [h0, hg 2 (by omega)]; exact a2, by rw [h0, hg 3 (by omega)]; exact a3⟩, cl_Bs hB (hf _ (by omega) (by omega) (by omega)) (hf _ (by omega) (by omega) (by omega)) (fun i h => hg i (by omega)) i0.2, fun l hl => ?_, cl_Ds hD (hf _ (by omega) (by omega) (by omega)) (hf _ (by omega) (by omega) (by omega)) (fun q hq => ⟨hf _ (by omega) (by omega) (by omega), hf _ (by omega) (by omega) (by omega)⟩) (fun i h => hg i (by omega)) i2.2 (fun q h => (hst q h).1.2)⟩
  rw [hg 1 (by omega)] at hl
  obtain ⟨c1, c2, c3, c4, c5, c6, c7, c8⟩ := hC l hl
  rw [hf (s + 6) (by omega) (by omega) (by omega), hf (s + 8) (by omega) (by omega) (by omega), hf (s + 10) (by omega) (by omega) (by omega), hf (s + 12) (by omega) (by omega) (by omega), hf (s + 14) (by omega) (by omega) (by omega), hf (s + 16) (by omega) (by omega) (by omega), hf (s + 18) (by omega) (by omega) (by omega), hg (24 + l) (by omega), hg (40 + l) (by omega), hg (56 + l) (by omega), hg (72 + l) (by omega), hg (88 + l) (by omega), hg (104 + l) (by omega), hg (120 + l) (by omega)]
  refine ⟨c1, c2, c3, c4, c5, c6, c7, ?_⟩
  rw [hc l hl, c8]
  unfold md_shk
  rw [if_pos (by omega), show 136 + l - 136 = l by omega]
theorem c_X2_shareOut {G : jk_G} {n : Nat} {t : jk_T} {σ : jk_I} {ρ : jk_P} {c y w f s : Nat} {g : Int → Int} {B l : Int} (hch : ch_at t ρ c y w f s) (ha : md_all B g) (hr : cl_rel σ s g) (hl : 0 ≤ l ∧ l < g 1) (hcl : md_clo g (md_T g) l = true) : jk_K G yX2_shareOut mX2_shareOut 0 0 [.ref c, jI l] n t σ ρ (ch_cQ s f y (md_shk g (md_sgn g (md_T g) l) (md_parts g (md_sgn g (md_T g) l)) (md_dir (md_err g (md_sgn g (md_T g) l))) (g 1)) (md_err g (md_sgn g (md_T g) l)) σ n t ρ) jk_no := by
  have hi := ha.1
  have hw := ha.2.1
  obtain ⟨hcc, hwa, hsh, hwy, hyc⟩ := id hch
  obtain ⟨-, -, hf, hfw⟩ := id hwa
  obtain ⟨-, -, -, -, hs, hsf⟩ := id hf
  have i0 := hi.1
  have i1 := hi.2.1
  have i2 := hi.2.2.1
  obtain ⟨q0, q1, q2, q3⟩ := hr.1
  refine jk_entryB (ls := [some (.ref c), some (jI l), none]) jm_X2_shareOut.1 rfl rfl rfl ?_
  refine jk_aload_n (q := 1) dX2_shareOut_0 rfl rfl ?_
  refine jk_getA (q := 4) (k := 2) 1 1 rfl (by first | exact hcc.1 | exact hs.1 | exact hs.2.1 _ _ rfl | exact hf.1 | exact hwa.1.1 | exact hsh.1.1 | assumption) (by first | exact hcc.2.1 | exact hcc.2.2.1 | exact hcc.2.2.2.1 | exact hcc.2.2.2.2 | exact hs.2.2.1 _ _ rfl | assumption) rfl rfl jw_296 dX2_shareOut_1 rfl ?_
  refine jk_cV0g (q := 7) (c_X3_find hf hr hi hw) jm_X3_find jw_497 rfl (by first | exact hcc.1 | exact hs.1 | exact hs.2.1 _ _ rfl | exact hf.1 | exact hwa.1.1 | exact hsh.1.1 | assumption) rfl rfl (Nat.zero_le _) (Nat.zero_le _) rfl dX2_shareOut_4 rfl (fun v' n' t' σ1 ρ' hq => ?_) (fun _ _ _ _ _ h => h.elim)
  obtain ⟨rfl, hn9, ht9, hr9, hp1⟩ := hq
  replace hn9 := hn9.symm; replace ht9 := ht9.symm; replace hr9 := hr9.symm; subst hn9 ht9 hr9
  simp only [Option.toList_some, Option.toList_none, List.cons_append, List.nil_append, Nat.sub_zero]
  have hr1 : cl_rel σ1 s g := cl_rel_same i2.2 (fun a h1 h2 => hp1.1 a (by omega) (by omega) (by omega) (by omega)) hr
  have hf1 : ∀ a, (a < f ∨ y + 4 < a) → σ1 a = σ a := fun a h => hp1.1 a (by omega) (by omega) (by omega) (by omega)
  refine jk_aload_n (q := 8) dX2_shareOut_7 rfl rfl ?_
  refine jk_getA (q := 11) (k := 2) 2 2 rfl (by first | exact hcc.1 | exact hs.1 | exact hs.2.1 _ _ rfl | exact hf.1 | exact hwa.1.1 | exact hsh.1.1 | assumption) (by first | exact hcc.2.1 | exact hcc.2.2.1 | exact hcc.2.2.2.1 | exact hcc.2.2.2.2 | exact hs.2.2.1 _ _ rfl | assumption) rfl rfl jw_297 dX2_shareOut_8 rfl ?_
  refine jk_iload_n (q := 12) dX2_shareOut_11 rfl rfl ?_
  refine jk_cV1g (q := 15) (c_X11_traceLoop hwa hr1 hi hp1.2 hw hl hcl) jm_X11_traceLoop jw_535 rfl (by first | exact hcc.1 | exact hs.1 | exact hs.2.1 _ _ rfl | exact hf.1 | exact hwa.1.1 | exact hsh.1.1 | assumption) rfl rfl (Nat.zero_le _) (Nat.zero_le _) rfl dX2_shareOut_12 rfl (fun v' n' t' σ2 ρ' hq => ?_) (fun _ _ _ _ _ h => h.elim)
  obtain ⟨rfl, hn9, ht9, hr9, hp2, c9, hsq⟩ := hq
  replace hn9 := hn9.symm; replace ht9 := ht9.symm; replace hr9 := hr9.symm; subst hn9 ht9 hr9
  simp only [Option.toList_some, Option.toList_none, List.cons_append, List.nil_append, Nat.sub_zero]
  have hr2 : cl_rel σ2 s g := cl_rel_same i2.2 (fun a h1 h2 => hp2 a (by omega) (by omega) (by omega)) hr1
  have hf2 : ∀ a, (a < f ∨ y + 4 < a) → σ2 a = σ a := fun a h => (hp2 a (by omega) (by omega) (by omega)).trans (hf1 a h)
  have heb := md_err_bd hi (S := (md_sgn g (md_T g) l)) (fun k _ => md_sgn_sb g (md_T g) l k)
  have hlb := md_len_bd (S := (md_sgn g (md_T g) l)) hi
  have hab : 0 ≤ md_abs (md_err g (md_sgn g (md_T g) l)) ∧ md_abs (md_err g (md_sgn g (md_T g) l)) ≤ 17759984 := by unfold md_abs; split <;> omega
  have htb := md_tol_bd (md_len g (md_sgn g (md_T g) l))
  refine jk_aload_n (q := 16) dX2_shareOut_15 rfl rfl ?_
  refine jk_getA (q := 19) (k := 2) 2 2 rfl (by first | exact hcc.1 | exact hs.1 | exact hs.2.1 _ _ rfl | exact hf.1 | exact hwa.1.1 | exact hsh.1.1 | assumption) (by first | exact hcc.2.1 | exact hcc.2.2.1 | exact hcc.2.2.2.1 | exact hcc.2.2.2.2 | exact hs.2.2.1 _ _ rfl | assumption) rfl rfl jw_297 dX2_shareOut_16 rfl ?_
  refine jk_cV0p (q := 22) (c_X11_rise hwa hr2 hi hsq.1 hsq.2.1 (fun i hi9 => (hsq.2.2.1 i hi9).1)) jm_X11_rise jw_550 rfl (by first | exact hcc.1 | exact hs.1 | exact hs.2.1 _ _ rfl | exact hf.1 | exact hwa.1.1 | exact hsh.1.1 | assumption) rfl rfl rfl dX2_shareOut_19 rfl ?_
  rw [(cs_rise hsq i1.1).1]
  refine jk_istore2 (q := 23) dX2_shareOut_22 rfl rfl rfl ?_
  refine jk_aload_n (q := 24) dX2_shareOut_23 rfl rfl ?_
  refine jk_getA (q := 27) (k := 2) 3 3 rfl (by first | exact hcc.1 | exact hs.1 | exact hs.2.1 _ _ rfl | exact hf.1 | exact hwa.1.1 | exact hsh.1.1 | assumption) (by first | exact hcc.2.1 | exact hcc.2.2.1 | exact hcc.2.2.2.1 | exact hcc.2.2.2.2 | exact hs.2.2.1 _ _ rfl | assumption) rfl rfl jw_298 dX2_shareOut_24 rfl ?_
  refine jk_aload_n (q := 28) dX2_shareOut_27 rfl rfl ?_
  refine jk_getA (q := 31) (k := 2) 2 2 rfl (by first | exact hcc.1 | exact hs.1 | exact hs.2.1 _ _ rfl | exact hf.1 | exact hwa.1.1 | exact hsh.1.1 | assumption) (by first | exact hcc.2.1 | exact hcc.2.2.1 | exact hcc.2.2.2.1 | exact hcc.2.2.2.2 | exact hs.2.2.1 _ _ rfl | assumption) rfl rfl jw_297 dX2_shareOut_28 rfl ?_
  refine jk_cV1g (q := 34) (c_X8_divide hsh hwa hwy hr2 hi hsq (fun k => md_sgn_sb g (md_T g) l k) (md_len_pos hi hw hl)) jm_X8_divide jw_772 rfl (by first | exact hcc.1 | exact hs.1 | exact hs.2.1 _ _ rfl | exact hf.1 | exact hwa.1.1 | exact hsh.1.1 | assumption) rfl rfl (Nat.zero_le _) (Nat.zero_le _) rfl dX2_shareOut_31 rfl (fun v' n' t' σ3 ρ' hq => ?_) (fun _ _ _ _ _ h => h.elim)
  obtain ⟨rfl, hn9, ht9, hr9, hp3, hq3⟩ := hq
  replace hn9 := hn9.symm; replace ht9 := ht9.symm; replace hr9 := hr9.symm; subst hn9 ht9 hr9
  simp only [Option.toList_some, Option.toList_none, List.cons_append, List.nil_append, Nat.sub_zero]
  have hr3 : cl_rel σ3 s g := cl_rel_same i2.2 (fun a h1 h2 => hp3 a (by omega) (by omega)) hr2
  have hsq3 : wa_sq σ3 w c9 (md_sgn g (md_T g) l) (g 1) := by unfold wa_sq; rw [hp3 w (by omega) (by omega), hp3 (w + 2) (by omega) (by omega), hp3 (w + 4) (by omega) (by omega)]; exact hsq
  refine jk_aload_n (q := 35) dX2_shareOut_34 rfl rfl ?_
  refine jk_getA (q := 38) (k := 2) 3 3 rfl (by first | exact hcc.1 | exact hs.1 | exact hs.2.1 _ _ rfl | exact hf.1 | exact hwa.1.1 | exact hsh.1.1 | assumption) (by first | exact hcc.2.1 | exact hcc.2.2.1 | exact hcc.2.2.2.1 | exact hcc.2.2.2.2 | exact hs.2.2.1 _ _ rfl | assumption) rfl rfl jw_298 dX2_shareOut_35 rfl ?_
  refine jk_aload_n (q := 39) dX2_shareOut_38 rfl rfl ?_
  refine jk_getA (q := 42) (k := 2) 2 2 rfl (by first | exact hcc.1 | exact hs.1 | exact hs.2.1 _ _ rfl | exact hf.1 | exact hwa.1.1 | exact hsh.1.1 | assumption) (by first | exact hcc.2.1 | exact hcc.2.2.1 | exact hcc.2.2.2.1 | exact hcc.2.2.2.2 | exact hs.2.2.1 _ _ rfl | assumption) rfl rfl jw_297 dX2_shareOut_39 rfl ?_
  refine jk_cV1g (q := 45) (c_X8_correct hsh hwa hwy hr3 hi hsq3 (fun k => md_sgn_sb g (md_T g) l k) hq3) jm_X8_correct jw_783 rfl (by first | exact hcc.1 | exact hs.1 | exact hs.2.1 _ _ rfl | exact hf.1 | exact hwa.1.1 | exact hsh.1.1 | assumption) rfl rfl (Nat.zero_le _) (Nat.zero_le _) rfl dX2_shareOut_42 rfl (fun v' n' t' σ4 ρ' hq => ?_) (fun _ _ _ _ _ h => h.elim)
  obtain ⟨rfl, hn9, ht9, hr9, hp4, hq4⟩ := hq
  replace hn9 := hn9.symm; replace ht9 := ht9.symm; replace hr9 := hr9.symm; subst hn9 ht9 hr9
  simp only [Option.toList_some, Option.toList_none, List.cons_append, List.nil_append, Nat.sub_zero]
  refine jk_iload_n (q := 46) dX2_shareOut_45 rfl rfl ?_
  exact jk_iret rfl dX2_shareOut_46 (by 
          have hb3 : ∀ a, s ≤ a → a ≤ s + 44 → σ3 a = σ a := fun a h1 h2 => (hp3 a (by omega) (by omega)).trans ((hp2 a (by omega) (by omega) (by omega)).trans (hp1.1 a (by omega) (by omega) (by omega) (by omega)))
          exact ⟨rfl, rfl, rfl, rfl, cl_shk_rel hi hr3 (fun a h1 h2 h3 => hp4 a h3) hq4, cl_nn_same (fun q hq9 => (hp4 _ (by omega)).trans (hb3 _ (by omega) (by omega))), fun a h1 h2 => (hp4 a (by omega)).trans ((hp3 a (by omega) (by omega)).trans (hf2 a h2))⟩)
end CD2
