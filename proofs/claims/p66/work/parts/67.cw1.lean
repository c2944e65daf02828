section CW1
/-- a Way at w over the Forest at f and the Survey at s -/
def wa_at (t : jk_T) (ρ : jk_P) (w f s : Nat) : Prop := (t w = some (.inr 11) ∧ t (w + 2) = some (.inl (.int, 16)) ∧ t (w + 4) = some (.inl (.int, 16))) ∧ (ρ w 0 = some s ∧ ρ w 1 = some f ∧ ρ w 2 = some (w + 2) ∧ ρ w 3 = some (w + 4)) ∧ fo_at t ρ f s ∧ f + 8 < w
/-- line k leads on from v, to u -/
theorem cm_dfs {B : Int} {g : Int → Int} {f0 v k : Int} (hi : md_inv B g) (hw : md_inw g) (hf : 0 ≤ f0 ∧ f0 < 10) (hv : 0 ≤ v ∧ v < 10) (hK : (md_reach g (md_T g) f0).1 v = 1) (hk : 0 ≤ k ∧ k < g 1) (hT : md_T g k = 1) (he : g (24 + k) = v ∨ g (40 + k) = v) :
    (0 ≤ (if g (24 + k) = v then g (40 + k) else g (24 + k)) ∧ (if g (24 + k) = v then g (40 + k) else g (24 + k)) < 10) ∧ (md_reach g (md_T g) f0).1 (if g (24 + k) = v then g (40 + k) else g (24 + k)) = 1 ∧
    (k ≠ (md_reach g (md_T g) f0).2 v → (md_reach g (md_T g) f0).2 (if g (24 + k) = v then g (40 + k) else g (24 + k)) = k ∧ (if g (24 + k) = v then g (40 + k) else g (24 + k)) ≠ f0) ∧
    (k = (md_reach g (md_T g) f0).2 v → v ≠ f0 → (if g (24 + k) = v then g (40 + k) else g (24 + k)) = md_st1 g (md_reach g (md_T g) f0).2 v ∧ ((if g (24 + k) = v then g (40 + k) else g (24 + k)) = f0 ∨ (md_reach g (md_T g) f0).2 (if g (24 + k) = v then g (40 + k) else g (24 + k)) ≠ k)) := by
  have i0 := hi.1
  have i1 := hi.2.1
  have hp := cm_pt_of hi hw
  obtain ⟨a1, a2, a3, -⟩ := hp.2.2.2 k hk
  have hcl := md_reach_cl (T := md_T g) hi hw hf k hk hT
  have hrf := cm_rb_f hi (md_T g) f0 hf
  obtain ⟨d, hd⟩ := cm_par hi hw hf
  obtain ⟨u, hu⟩ : ∃ u, u = (if g (24 + k) = v then g (40 + k) else g (24 + k)) := ⟨_, rfl⟩
  rw [← hu]
  have hcase : (g (24 + k) = v ∧ g (40 + k) = u) ∨ (g (24 + k) = u ∧ g (40 + k) = v) := by
    by_cases e : g (24 + k) = v
    · rw [if_pos e] at hu; exact Or.inl ⟨e, hu.symm⟩
    · rw [if_neg e] at hu; exact Or.inr ⟨hu.symm, he.resolve_left e⟩
  have hur : 0 ≤ u ∧ u < 10 := by rcases hcase with ⟨-, e⟩ | ⟨e, -⟩ <;> rw [← e] <;> omega
  have hKu : (md_reach g (md_T g) f0).1 u = 1 := by
    rcases hcase with ⟨e1, e2⟩ | ⟨e1, e2⟩ <;> rw [e1, e2] at hcl
    · rw [← hcl]; exact hK
    · rw [hcl]; exact hK
  have huv : u ≠ v := by rcases hcase with ⟨e1, e2⟩ | ⟨e1, e2⟩ <;> rw [e1, e2] at a3; exact fun q => a3 q.symm; exact a3
  refine ⟨hur, hKu, fun hne => ?_, fun heq hvf => ?_⟩
  · have h1 : (md_reach g (md_T g) f0).1 (g (24 + k)) = 1 := by rcases hcase with ⟨e1, e2⟩ | ⟨e1, e2⟩ <;> rw [e1] <;> assumption
    have h2 := cm_rch hi hw hf hk hT h1
    have h3 : (md_reach g (md_T g) f0).2 u = k := by
      rcases hcase with ⟨e1, e2⟩ | ⟨e1, e2⟩ <;> rw [e1, e2] at h2
      · exact h2.resolve_left (fun q => hne q.symm)
      · exact h2.resolve_right (fun q => hne q.symm)
    exact ⟨h3, fun q => by rw [q, hrf] at h3; omega⟩
  · have hst : u = md_st1 g (md_reach g (md_T g) f0).2 v := by unfold md_st1; rw [← heq]; exact hu
    refine ⟨hst, ?_⟩
    by_cases e : u = f0
    · exact Or.inl e
    · right
      intro q
      have d1 := ((hd v hv hK).2 hvf).2.2.2.2.2
      have d2 := ((hd u hur hKu).2 e).2.2.2.2.2
      have hst2 : md_st1 g (md_reach g (md_T g) f0).2 u = v := by
        unfold md_st1
        rw [q]
        rcases hcase with ⟨e1, e2⟩ | ⟨e1, e2⟩
        · rw [if_neg (fun z => huv (z.symm.trans e1)), e1]
        · rw [if_pos e1, e2]
      rw [← hst] at d1
      rw [hst2] at d2
      omega
theorem jk_ble {a b : Nat} (h : a ≤ b) : Nat.ble a b = true := Nat.ble_eq.mpr h
def wa_up (σ : jk_I) (w : Nat) (g : Int → Int) (c l p : Int) : jk_I := jk_row (jk_row (jk_row σ (w + 2) (jk_set (σ (w + 2)) c l)) (w + 4) (jk_set (σ (w + 4)) c (if g (24 + l) = p then 1 else -1))) w (jk_set (σ w) 4 (c + 1))
theorem c_X11_add {G : jk_G} {n : Nat} {t : jk_T} {σ : jk_I} {ρ : jk_P} {w f s : Nat} {g : Int → Int} {B l p c : Int} (hwa : wa_at t ρ w f s) (hr : cl_rel σ s g) (hi : md_inv B g) (hc : σ w 4 = c) (hc16 : 0 ≤ c ∧ c < 16) (hl : 0 ≤ l ∧ l < g 1) (hp : jk_in p) : jk_K G yX11_add mX11_add 0 0 [.ref w, jI l, jI p] n t σ ρ (jk_q (some (jI (if g (24 + l) = p then g (40 + l) else g (24 + l)))) n t (wa_up σ w g c l p) ρ) jk_no := by
  obtain ⟨⟨ha1, ha2, ha3⟩, ⟨hb1, hb2, hb3, hb4⟩, hf, hfw⟩ := id hwa
  obtain ⟨hf1, hf2, hf3, hf4, hs, hsf⟩ := id hf
  have i0 := hi.1
  have i1 := hi.2.1
  have i2 := hi.2.2.1.2
  obtain ⟨l1, l2, -⟩ := md_inv_ln hi (l := l) ⟨by omega, by omega⟩
  obtain ⟨q1, q2, -⟩ := hr.2.2.1 l hl
  refine jk_entryB (ls := [some (.ref w), some (jI l), some (jI p), none]) jm_X11_add.1 rfl rfl rfl ?_
  refine jk_aload_n (q := 1) dX11_add_0 rfl rfl ?_
  refine jk_getA (q := 4) (k := 11) 0 0 rfl (by first | exact ha1 | exact ha2 | exact ha3 | exact hf1 | exact hs.1 | exact hf2 _ _ rfl | exact hs.2.1 _ _ rfl | assumption) (by first | exact hb1 | exact hb2 | exact hb3 | exact hb4 | exact hf4 | exact hf3 _ _ rfl | exact hs.2.2.1 _ _ rfl | assumption) rfl rfl jw_218 dX11_add_1 rfl ?_
  refine jk_getA (q := 7) (k := 9) 4 4 rfl (by first | exact ha1 | exact ha2 | exact ha3 | exact hf1 | exact hs.1 | exact hf2 _ _ rfl | exact hs.2.1 _ _ rfl | assumption) (by first | exact hb1 | exact hb2 | exact hb3 | exact hb4 | exact hf4 | exact hf3 _ _ rfl | exact hs.2.2.1 _ _ rfl | assumption) rfl rfl jw_74 dX11_add_4 rfl ?_
  refine jk_iload_n (q := 8) dX11_add_7 rfl rfl ?_
  refine jk_ialdR (q := 9) (by first | exact ha1 | exact ha2 | exact ha3 | exact hf1 | exact hs.1 | exact hf2 _ _ rfl | exact hs.2.1 _ _ rfl | assumption) (by first | exact jk_row_same _ _ _ | ((repeat rewrite [jk_row_ne _ _ (by omega)]); first | exact jk_row_same _ _ _ | rfl)) (by first | assumption | decide | omega | exact jB_01 _ | exact jB_in _ | exact ⟨by omega, by omega⟩) dX11_add_8 rfl ?_
  rw [q1]
  refine jk_iload_n (q := 10) dX11_add_9 rfl rfl ?_
  refine jk_icmp_ne (q := 17) (q2 := 13) dX11_add_10 rfl rfl (by first | assumption | decide | omega | exact jB_01 _ | exact jB_in _ | exact ⟨by omega, by omega⟩) (by first | assumption | decide | omega | exact jB_01 _ | exact jB_in _ | exact ⟨by omega, by omega⟩) (fun z1 => ?_) (fun z1 => ?_)
  · refine jk_iconst (q := 18) dX11_add_17 rfl ?_
    refine jk_istore3 (q := 19) dX11_add_18 rfl rfl rfl ?_
    refine jk_aload_n (q := 20) dX11_add_19 rfl rfl ?_
    refine jk_getA (q := 23) (k := 11) 2 2 rfl (by first | exact ha1 | exact ha2 | exact ha3 | exact hf1 | exact hs.1 | exact hf2 _ _ rfl | exact hs.2.1 _ _ rfl | assumption) (by first | exact hb1 | exact hb2 | exact hb3 | exact hb4 | exact hf4 | exact hf3 _ _ rfl | exact hs.2.2.1 _ _ rfl | assumption) rfl rfl jw_220 dX11_add_20 rfl ?_
    refine jk_aload_n (q := 24) dX11_add_23 rfl rfl ?_
    refine jk_getIR (q := 27) (k := 11) 4 4 rfl (by first | exact ha1 | exact ha2 | exact ha3 | exact hf1 | exact hs.1 | exact hf2 _ _ rfl | exact hs.2.1 _ _ rfl | assumption) (by first | exact jk_row_same _ _ _ | ((repeat rewrite [jk_row_ne _ _ (by omega)]); first | exact jk_row_same _ _ _ | rfl)) rfl rfl jw_224 dX11_add_24 rfl ?_
    rw [hc]
    refine jk_iload_n (q := 28) dX11_add_27 rfl rfl ?_
    refine jk_iastR (q := 29) (by first | exact ha1 | exact ha2 | exact ha3 | exact hf1 | exact hs.1 | exact hf2 _ _ rfl | exact hs.2.1 _ _ rfl | assumption) (by first | exact jk_row_same _ _ _ | ((repeat rewrite [jk_row_ne _ _ (by omega)]); first | exact jk_row_same _ _ _ | rfl)) (by first | assumption | decide | omega | exact jB_01 _ | exact jB_in _ | exact ⟨by omega, by omega⟩) dX11_add_28 rfl ?_
    refine jk_aload_n (q := 30) dX11_add_29 rfl rfl ?_
    refine jk_getA (q := 33) (k := 11) 3 3 rfl (by first | exact ha1 | exact ha2 | exact ha3 | exact hf1 | exact hs.1 | exact hf2 _ _ rfl | exact hs.2.1 _ _ rfl | assumption) (by first | exact hb1 | exact hb2 | exact hb3 | exact hb4 | exact hf4 | exact hf3 _ _ rfl | exact hs.2.2.1 _ _ rfl | assumption) rfl rfl jw_222 dX11_add_30 rfl ?_
    refine jk_aload_n (q := 34) dX11_add_33 rfl rfl ?_
    refine jk_getIR (q := 37) (k := 11) 4 4 rfl (by first | exact ha1 | exact ha2 | exact ha3 | exact hf1 | exact hs.1 | exact hf2 _ _ rfl | exact hs.2.1 _ _ rfl | assumption) (by first | exact jk_row_same _ _ _ | ((repeat rewrite [jk_row_ne _ _ (by omega)]); first | exact jk_row_same _ _ _ | rfl)) rfl rfl jw_224 dX11_add_34 rfl ?_
    rw [hc]
    refine jk_iload_n (q := 38) dX11_add_37 rfl rfl ?_
    refine jk_ifT_eq (q := 45) (by decide) (by decide) dX11_add_38 rfl ?_
    refine jk_iconst (q := 46) dX11_add_45 rfl ?_
    refine jk_iastR (q := 47) (by first | exact ha1 | exact ha2 | exact ha3 | exact hf1 | exact hs.1 | exact hf2 _ _ rfl | exact hs.2.1 _ _ rfl | assumption) (by first | exact jk_row_same _ _ _ | ((repeat rewrite [jk_row_ne _ _ (by omega)]); first | exact jk_row_same _ _ _ | rfl)) (by first | assumption | decide | omega | exact jB_01 _ | exact jB_in _ | exact ⟨by omega, by omega⟩) dX11_add_46 rfl ?_
    refine jk_aload_n (q := 48) dX11_add_47 rfl rfl ?_
    refine jk_dup (q := 49) dX11_add_48 rfl rfl ?_
    refine jk_getIR (q := 52) (k := 11) 4 4 rfl (by first | exact ha1 | exact ha2 | exact ha3 | exact hf1 | exact hs.1 | exact hf2 _ _ rfl | exact hs.2.1 _ _ rfl | assumption) (by first | exact jk_row_same _ _ _ | ((repeat rewrite [jk_row_ne _ _ (by omega)]); first | exact jk_row_same _ _ _ | rfl)) rfl rfl jw_224 dX11_add_49 rfl ?_
    rw [hc]
    refine jk_iconst (q := 53) dX11_add_52 rfl ?_
    refine jk_iadd (q := 54) dX11_add_53 rfl ?_
    refine jk_putIR (q := 57) (k := 11) 4 4 rfl (by first | exact ha1 | exact ha2 | exact ha3 | exact hf1 | exact hs.1 | exact hf2 _ _ rfl | exact hs.2.1 _ _ rfl | assumption) (by first | exact jk_row_same _ _ _ | ((repeat rewrite [jk_row_ne _ _ (by omega)]); first | exact jk_row_same _ _ _ | rfl)) rfl rfl rfl jw_224 dX11_add_54 rfl ?_
    refine jk_iload_n (q := 58) dX11_add_57 rfl rfl ?_
    refine jk_ifT_eq (q := 73) (by decide) (by decide) dX11_add_58 rfl ?_
    refine jk_aload_n (q := 74) dX11_add_73 rfl rfl ?_
    refine jk_getA (q := 77) (k := 11) 0 0 rfl (by first | exact ha1 | exact ha2 | exact ha3 | exact hf1 | exact hs.1 | exact hf2 _ _ rfl | exact hs.2.1 _ _ rfl | assumption) (by first | exact hb1 | exact hb2 | exact hb3 | exact hb4 | exact hf4 | exact hf3 _ _ rfl | exact hs.2.2.1 _ _ rfl | assumption) rfl rfl jw_218 dX11_add_74 rfl ?_
    refine jk_getA (q := 80) (k := 9) 4 4 rfl (by first | exact ha1 | exact ha2 | exact ha3 | exact hf1 | exact hs.1 | exact hf2 _ _ rfl | exact hs.2.1 _ _ rfl | assumption) (by first | exact hb1 | exact hb2 | exact hb3 | exact hb4 | exact hf4 | exact hf3 _ _ rfl | exact hs.2.2.1 _ _ rfl | assumption) rfl rfl jw_74 dX11_add_77 rfl ?_
    refine jk_iload_n (q := 81) dX11_add_80 rfl rfl ?_
    refine jk_ialdR (q := 82) (by first | exact ha1 | exact ha2 | exact ha3 | exact hf1 | exact hs.1 | exact hf2 _ _ rfl | exact hs.2.1 _ _ rfl | assumption) (by first | exact jk_row_same _ _ _ | ((repeat rewrite [jk_row_ne _ _ (by omega)]); first | exact jk_row_same _ _ _ | rfl)) (by first | assumption | decide | omega | exact jB_01 _ | exact jB_in _ | exact ⟨by omega, by omega⟩) dX11_add_81 rfl ?_
    exact jk_iret rfl dX11_add_82 (by refine ⟨by first | (rw [if_pos (by assumption)]; simp only [*]) | (rw [if_neg (by assumption)]; simp only [*]), rfl, rfl, ?_, rfl⟩; unfold wa_up; first | rw [if_pos (by assumption)] | rw [if_neg (by assumption)])
  · refine jk_iconst (q := 14) dX11_add_13 rfl ?_
    refine jk_goto (q := 18) dX11_add_14 rfl ?_
    refine jk_istore3 (q := 19) dX11_add_18 rfl rfl rfl ?_
    refine jk_aload_n (q := 20) dX11_add_19 rfl rfl ?_
    refine jk_getA (q := 23) (k := 11) 2 2 rfl (by first | exact ha1 | exact ha2 | exact ha3 | exact hf1 | exact hs.1 | exact hf2 _ _ rfl | exact hs.2.1 _ _ rfl | assumption) (by first | exact hb1 | exact hb2 | exact hb3 | exact hb4 | exact hf4 | exact hf3 _ _ rfl | exact hs.2.2.1 _ _ rfl | assumption) rfl rfl jw_220 dX11_add_20 rfl ?_
    refine jk_aload_n (q := 24) dX11_add_23 rfl rfl ?_
    refine jk_getIR (q := 27) (k := 11) 4 4 rfl (by first | exact ha1 | exact ha2 | exact ha3 | exact hf1 | exact hs.1 | exact hf2 _ _ rfl | exact hs.2.1 _ _ rfl | assumption) (by first | exact jk_row_same _ _ _ | ((repeat rewrite [jk_row_ne _ _ (by omega)]); first | exact jk_row_same _ _ _ | rfl)) rfl rfl jw_224 dX11_add_24 rfl ?_
    rw [hc]
    refine jk_iload_n (q := 28) dX11_add_27 rfl rfl ?_
    refine jk_iastR (q := 29) (by first | exact ha1 | exact ha2 | exact ha3 | exact hf1 | exact hs.1 | exact hf2 _ _ rfl | exact hs.2.1 _ _ rfl | assumption) (by first | exact jk_row_same _ _ _ | ((repeat rewrite [jk_row_ne _ _ (by omega)]); first | exact jk_row_same _ _ _ | rfl)) (by first | assumption | decide | omega | exact jB_01 _ | exact jB_in _ | exact ⟨by omega, by omega⟩) dX11_add_28 rfl ?_
    refine jk_aload_n (q := 30) dX11_add_29 rfl rfl ?_
    refine jk_getA (q := 33) (k := 11) 3 3 rfl (by first | exact ha1 | exact ha2 | exact ha3 | exact hf1 | exact hs.1 | exact hf2 _ _ rfl | exact hs.2.1 _ _ rfl | assumption) (by first | exact hb1 | exact hb2 | exact hb3 | exact hb4 | exact hf4 | exact hf3 _ _ rfl | exact hs.2.2.1 _ _ rfl | assumption) rfl rfl jw_222 dX11_add_30 rfl ?_
    refine jk_aload_n (q := 34) dX11_add_33 rfl rfl ?_
    refine jk_getIR (q := 37) (k := 11) 4 4 rfl (by first | exact ha1 | exact ha2 | exact ha3 | exact hf1 | exact hs.1 | exact hf2 _ _ rfl | exact hs.2.1 _ _ rfl | assumption) (by first | exact jk_row_same _ _ _ | ((repeat rewrite [jk_row_ne _ _ (by omega)]); first | exact jk_row_same _ _ _ | rfl)) rfl rfl jw_224 dX11_add_34 rfl ?_
    rw [hc]
    refine jk_iload_n (q := 38) dX11_add_37 rfl rfl ?_
    refine jk_ifN_eq (q := 41) (by decide) (by decide) dX11_add_38 rfl rfl ?_
    refine jk_iconst (q := 42) dX11_add_41 rfl ?_
    refine jk_goto (q := 46) dX11_add_42 rfl ?_
    refine jk_iastR (q := 47) (by first | exact ha1 | exact ha2 | exact ha3 | exact hf1 | exact hs.1 | exact hf2 _ _ rfl | exact hs.2.1 _ _ rfl | assumption) (by first | exact jk_row_same _ _ _ | ((repeat rewrite [jk_row_ne _ _ (by omega)]); first | exact jk_row_same _ _ _ | rfl)) (by first | assumption | decide | omega | exact jB_01 _ | exact jB_in _ | exact ⟨by omega, by omega⟩) dX11_add_46 rfl ?_
    refine jk_aload_n (q := 48) dX11_add_47 rfl rfl ?_
    refine jk_dup (q := 49) dX11_add_48 rfl rfl ?_
    refine jk_getIR (q := 52) (k := 11) 4 4 rfl (by first | exact ha1 | exact ha2 | exact ha3 | exact hf1 | exact hs.1 | exact hf2 _ _ rfl | exact hs.2.1 _ _ rfl | assumption) (by first | exact jk_row_same _ _ _ | ((repeat rewrite [jk_row_ne _ _ (by omega)]); first | exact jk_row_same _ _ _ | rfl)) rfl rfl jw_224 dX11_add_49 rfl ?_
    rw [hc]
    refine jk_iconst (q := 53) dX11_add_52 rfl ?_
    refine jk_iadd (q := 54) dX11_add_53 rfl ?_
    refine jk_putIR (q := 57) (k := 11) 4 4 rfl (by first | exact ha1 | exact ha2 | exact ha3 | exact hf1 | exact hs.1 | exact hf2 _ _ rfl | exact hs.2.1 _ _ rfl | assumption) (by first | exact jk_row_same _ _ _ | ((repeat rewrite [jk_row_ne _ _ (by omega)]); first | exact jk_row_same _ _ _ | rfl)) rfl rfl rfl jw_224 dX11_add_54 rfl ?_
    refine jk_iload_n (q := 58) dX11_add_57 rfl rfl ?_
    refine jk_ifN_eq (q := 61) (by decide) (by decide) dX11_add_58 rfl rfl ?_
    refine jk_aload_n (q := 62) dX11_add_61 rfl rfl ?_
    refine jk_getA (q := 65) (k := 11) 0 0 rfl (by first | exact ha1 | exact ha2 | exact ha3 | exact hf1 | exact hs.1 | exact hf2 _ _ rfl | exact hs.2.1 _ _ rfl | assumption) (by first | exact hb1 | exact hb2 | exact hb3 | exact hb4 | exact hf4 | exact hf3 _ _ rfl | exact hs.2.2.1 _ _ rfl | assumption) rfl rfl jw_218 dX11_add_62 rfl ?_
    refine jk_getA (q := 68) (k := 9) 5 5 rfl (by first | exact ha1 | exact ha2 | exact ha3 | exact hf1 | exact hs.1 | exact hf2 _ _ rfl | exact hs.2.1 _ _ rfl | assumption) (by first | exact hb1 | exact hb2 | exact hb3 | exact hb4 | exact hf4 | exact hf3 _ _ rfl | exact hs.2.2.1 _ _ rfl | assumption) rfl rfl jw_80 dX11_add_65 rfl ?_
    refine jk_iload_n (q := 69) dX11_add_68 rfl rfl ?_
    refine jk_ialdR (q := 70) (by first | exact ha1 | exact ha2 | exact ha3 | exact hf1 | exact hs.1 | exact hf2 _ _ rfl | exact hs.2.1 _ _ rfl | assumption) (by first | exact jk_row_same _ _ _ | ((repeat rewrite [jk_row_ne _ _ (by omega)]); first | exact jk_row_same _ _ _ | rfl)) (by first | assumption | decide | omega | exact jB_01 _ | exact jB_in _ | exact ⟨by omega, by omega⟩) dX11_add_69 rfl ?_
    refine jk_goto (q := 82) dX11_add_70 rfl ?_
    exact jk_iret rfl dX11_add_82 (by refine ⟨by first | (rw [if_pos (by assumption)]; simp only [*]) | (rw [if_neg (by assumption)]; simp only [*]), rfl, rfl, ?_, rfl⟩; unfold wa_up; first | rw [if_pos (by assumption)] | rw [if_neg (by assumption)])
theorem c_X11_leadsOn {G : jk_G} {n : Nat} {t : jk_T} {σ : jk_I} {ρ : jk_P} {w f s : Nat} {g : Int → Int} {B l p c : Int} (hwa : wa_at t ρ w f s) (hr : cl_rel σ s g) (hi : md_inv B g) (ho : fo_ok σ f g) (hc : σ w 4 = c) (hc16 : 0 ≤ c ∧ c ≤ 16) (hLn : 0 < c → 0 ≤ σ (w + 2) (c - 1) ∧ σ (w + 2) (c - 1) < 16) (hl : 0 ≤ l ∧ l < g 1) (hp : jk_in p) : jk_K G yX11_leadsOn mX11_leadsOn 0 0 [.ref w, jI l, jI p] n t σ ρ (jk_q (some (jI (jB (decide (md_T g l = 1 ∧ ¬ (0 < c ∧ σ (w + 2) (c - 1) = l) ∧ c < 16 ∧ (g (24 + l) = p ∨ g (40 + l) = p)))))) n t σ ρ) jk_no := by
  obtain ⟨⟨ha1, ha2, ha3⟩, ⟨hb1, hb2, hb3, hb4⟩, hf, hfw⟩ := id hwa
  obtain ⟨hf1, hf2, hf3, hf4, hs, hsf⟩ := id hf
  have i0 := hi.1
  have i1 := hi.2.1
  have i2 := hi.2.2.1.2
  obtain ⟨l1, l2, -⟩ := md_inv_ln hi (l := l) ⟨by omega, by omega⟩
  obtain ⟨q1, q2, -⟩ := hr.2.2.1 l hl
  have hT := ho.1 l ⟨by omega, by omega⟩
  have hT2 : md_T g l = 0 ∨ md_T g l = 1 := (md_kr_tr hi 50).1 l ⟨by omega, by omega⟩
  refine jk_entryB (ls := [some (.ref w), some (jI l), some (jI p), none]) jm_X11_leadsOn.1 rfl rfl rfl ?_
  refine jk_aload_n (q := 1) dX11_leadsOn_0 rfl rfl ?_
  refine jk_getIR (q := 4) (k := 11) 4 4 rfl (by first | exact ha1 | exact ha2 | exact ha3 | exact hf1 | exact hs.1 | exact hf2 _ _ rfl | exact hs.2.1 _ _ rfl | assumption) (by first | exact jk_row_same _ _ _ | ((repeat rewrite [jk_row_ne _ _ (by omega)]); first | exact jk_row_same _ _ _ | rfl)) rfl rfl jw_224 dX11_leadsOn_1 rfl ?_
  rw [hc]
  refine jk_if_le (q := 26) (q2 := 7) dX11_leadsOn_4 rfl rfl (by first | assumption | decide | omega | exact jB_01 _ | exact jB_in _ | exact ⟨by omega, by omega⟩) (fun z1 => ?_) (fun z1 => ?_)
  · refine jk_iconst (q := 27) dX11_leadsOn_26 rfl ?_
    refine jk_istore3 (q := 28) dX11_leadsOn_27 rfl rfl rfl ?_
    refine jk_aload_n (q := 29) dX11_leadsOn_28 rfl rfl ?_
    refine jk_getA (q := 32) (k := 11) 1 1 rfl (by first | exact ha1 | exact ha2 | exact ha3 | exact hf1 | exact hs.1 | exact hf2 _ _ rfl | exact hs.2.1 _ _ rfl | assumption) (by first | exact hb1 | exact hb2 | exact hb3 | exact hb4 | exact hf4 | exact hf3 _ _ rfl | exact hs.2.2.1 _ _ rfl | assumption) rfl rfl jw_219 dX11_leadsOn_29 rfl ?_
    refine jk_getA (q := 35) (k := 3) 4 4 rfl (by first | exact ha1 | exact ha2 | exact ha3 | exact hf1 | exact hs.1 | exact hf2 _ _ rfl | exact hs.2.1 _ _ rfl | assumption) (by first | exact hb1 | exact hb2 | exact hb3 | exact hb4 | exact hf4 | exact hf3 _ _ rfl | exact hs.2.2.1 _ _ rfl | assumption) rfl rfl jw_194 dX11_leadsOn_32 rfl ?_
    refine jk_iload_n (q := 36) dX11_leadsOn_35 rfl rfl ?_
    refine jk_zaldR (q := 37) (by first | exact ha1 | exact ha2 | exact ha3 | exact hf1 | exact hs.1 | exact hf2 _ _ rfl | exact hs.2.1 _ _ rfl | assumption) (by first | exact jk_row_same _ _ _ | ((repeat rewrite [jk_row_ne _ _ (by omega)]); first | exact jk_row_same _ _ _ | rfl)) (by first | assumption | decide | omega | exact jB_01 _ | exact jB_in _ | exact ⟨by omega, by omega⟩) dX11_leadsOn_36 rfl ?_
    refine jk_if_eq (q := 83) (q2 := 40) dX11_leadsOn_37 rfl rfl (by first | assumption | decide | omega | exact jB_01 _ | exact jB_in _ | exact ⟨by omega, by omega⟩) (fun z2 => ?_) (fun z2 => ?_)
    · refine jk_iconst (q := 84) dX11_leadsOn_83 rfl ?_
      exact jk_zret rfl (by first | assumption | decide | omega | exact jB_01 _ | exact jB_in _ | exact ⟨by omega, by omega⟩) dX11_leadsOn_84 (by refine jk_qI ?_; first | (rw [decide_eq_true (by omega)]; rfl) | (rw [decide_eq_false (by omega)]; rfl))
    · refine jk_iload_n (q := 41) dX11_leadsOn_40 rfl rfl ?_
      refine jk_ifN_ne (q := 44) (by decide) (by decide) dX11_leadsOn_41 rfl rfl ?_
      refine jk_aload_n (q := 45) dX11_leadsOn_44 rfl rfl ?_
      refine jk_getIR (q := 48) (k := 11) 4 4 rfl (by first | exact ha1 | exact ha2 | exact ha3 | exact hf1 | exact hs.1 | exact hf2 _ _ rfl | exact hs.2.1 _ _ rfl | assumption) (by first | exact jk_row_same _ _ _ | ((repeat rewrite [jk_row_ne _ _ (by omega)]); first | exact jk_row_same _ _ _ | rfl)) rfl rfl jw_224 dX11_leadsOn_45 rfl ?_
      rw [hc]
      refine jk_bipush (q := 50) (y := 16) dX11_leadsOn_48 rfl (by decide) ?_
      refine jk_icmp_ge (q := 83) (q2 := 53) dX11_leadsOn_50 rfl rfl (by first | assumption | decide | omega | exact jB_01 _ | exact jB_in _ | exact ⟨by omega, by omega⟩) (by first | assumption | decide | omega | exact jB_01 _ | exact jB_in _ | exact ⟨by omega, by omega⟩) (fun z3 => ?_) (fun z3 => ?_)
      · refine jk_iconst (q := 84) dX11_leadsOn_83 rfl ?_
        exact jk_zret rfl (by first | assumption | decide | omega | exact jB_01 _ | exact jB_in _ | exact ⟨by omega, by omega⟩) dX11_leadsOn_84 (by refine jk_qI ?_; first | (rw [decide_eq_true (by omega)]; rfl) | (rw [decide_eq_false (by omega)]; rfl))
      · refine jk_aload_n (q := 54) dX11_leadsOn_53 rfl rfl ?_
        refine jk_getA (q := 57) (k := 11) 0 0 rfl (by first | exact ha1 | exact ha2 | exact ha3 | exact hf1 | exact hs.1 | exact hf2 _ _ rfl | exact hs.2.1 _ _ rfl | assumption) (by first | exact hb1 | exact hb2 | exact hb3 | exact hb4 | exact hf4 | exact hf3 _ _ rfl | exact hs.2.2.1 _ _ rfl | assumption) rfl rfl jw_218 dX11_leadsOn_54 rfl ?_
        refine jk_getA (q := 60) (k := 9) 4 4 rfl (by first | exact ha1 | exact ha2 | exact ha3 | exact hf1 | exact hs.1 | exact hf2 _ _ rfl | exact hs.2.1 _ _ rfl | assumption) (by first | exact hb1 | exact hb2 | exact hb3 | exact hb4 | exact hf4 | exact hf3 _ _ rfl | exact hs.2.2.1 _ _ rfl | assumption) rfl rfl jw_74 dX11_leadsOn_57 rfl ?_
        refine jk_iload_n (q := 61) dX11_leadsOn_60 rfl rfl ?_
        refine jk_ialdR (q := 62) (by first | exact ha1 | exact ha2 | exact ha3 | exact hf1 | exact hs.1 | exact hf2 _ _ rfl | exact hs.2.1 _ _ rfl | assumption) (by first | exact jk_row_same _ _ _ | ((repeat rewrite [jk_row_ne _ _ (by omega)]); first | exact jk_row_same _ _ _ | rfl)) (by first | assumption | decide | omega | exact jB_01 _ | exact jB_in _ | exact ⟨by omega, by omega⟩) dX11_leadsOn_61 rfl ?_
        rw [q1]
        refine jk_iload_n (q := 63) dX11_leadsOn_62 rfl rfl ?_
        refine jk_icmp_eq (q := 79) (q2 := 66) dX11_leadsOn_63 rfl rfl (by first | assumption | decide | omega | exact jB_01 _ | exact jB_in _ | exact ⟨by omega, by omega⟩) (by first | assumption | decide | omega | exact jB_01 _ | exact jB_in _ | exact ⟨by omega, by omega⟩) (fun z4 => ?_) (fun z4 => ?_)
        · refine jk_iconst (q := 80) dX11_leadsOn_79 rfl ?_
          refine jk_goto (q := 84) dX11_leadsOn_80 rfl ?_
          exact jk_zret rfl (by first | assumption | decide | omega | exact jB_01 _ | exact jB_in _ | exact ⟨by omega, by omega⟩) dX11_leadsOn_84 (by refine jk_qI ?_; first | (rw [decide_eq_true (by omega)]; rfl) | (rw [decide_eq_false (by omega)]; rfl))
        · refine jk_aload_n (q := 67) dX11_leadsOn_66 rfl rfl ?_
          refine jk_getA (q := 70) (k := 11) 0 0 rfl (by first | exact ha1 | exact ha2 | exact ha3 | exact hf1 | exact hs.1 | exact hf2 _ _ rfl | exact hs.2.1 _ _ rfl | assumption) (by first | exact hb1 | exact hb2 | exact hb3 | exact hb4 | exact hf4 | exact hf3 _ _ rfl | exact hs.2.2.1 _ _ rfl | assumption) rfl rfl jw_218 dX11_leadsOn_67 rfl ?_
          refine jk_getA (q := 73) (k := 9) 5 5 rfl (by first | exact ha1 | exact ha2 | exact ha3 | exact hf1 | exact hs.1 | exact hf2 _ _ rfl | exact hs.2.1 _ _ rfl | assumption) (by first | exact hb1 | exact hb2 | exact hb3 | exact hb4 | exact hf4 | exact hf3 _ _ rfl | exact hs.2.2.1 _ _ rfl | assumption) rfl rfl jw_80 dX11_leadsOn_70 rfl ?_
          refine jk_iload_n (q := 74) dX11_leadsOn_73 rfl rfl ?_
          refine jk_ialdR (q := 75) (by first | exact ha1 | exact ha2 | exact ha3 | exact hf1 | exact hs.1 | exact hf2 _ _ rfl | exact hs.2.1 _ _ rfl | assumption) (by first | exact jk_row_same _ _ _ | ((repeat rewrite [jk_row_ne _ _ (by omega)]); first | exact jk_row_same _ _ _ | rfl)) (by first | assumption | decide | omega | exact jB_01 _ | exact jB_in _ | exact ⟨by omega, by omega⟩) dX11_leadsOn_74 rfl ?_
          rw [q2]
          refine jk_iload_n (q := 76) dX11_leadsOn_75 rfl rfl ?_
          refine jk_icmp_ne (q := 83) (q2 := 79) dX11_leadsOn_76 rfl rfl (by first | assumption | decide | omega | exact jB_01 _ | exact jB_in _ | exact ⟨by omega, by omega⟩) (by first | assumption | decide | omega | exact jB_01 _ | exact jB_in _ | exact ⟨by omega, by omega⟩) (fun z5 => ?_) (fun z5 => ?_)
          · refine jk_iconst (q := 84) dX11_leadsOn_83 rfl ?_
            exact jk_zret rfl (by first | assumption | decide | omega | exact jB_01 _ | exact jB_in _ | exact ⟨by omega, by omega⟩) dX11_leadsOn_84 (by refine jk_qI ?_; first | (rw [decide_eq_true (by omega)]; rfl) | (rw [decide_eq_false (by omega)]; rfl))
          · refine jk_iconst (q := 80) dX11_leadsOn_79 rfl ?_
            refine jk_goto (q := 84) dX11_leadsOn_80 rfl ?_
            exact jk_zret rfl (by first | assumption | decide | omega | exact jB_01 _ | exact jB_in _ | exact ⟨by omega, by omega⟩) dX11_leadsOn_84 (by refine jk_qI ?_; first | (rw [decide_eq_true (by omega)]; rfl) | (rw [decide_eq_false (by omega)]; rfl))
  · have hLn9 := hLn (by omega)
    refine jk_aload_n (q := 8) dX11_leadsOn_7 rfl rfl ?_
    refine jk_getA (q := 11) (k := 11) 2 2 rfl (by first | exact ha1 | exact ha2 | exact ha3 | exact hf1 | exact hs.1 | exact hf2 _ _ rfl | exact hs.2.1 _ _ rfl | assumption) (by first | exact hb1 | exact hb2 | exact hb3 | exact hb4 | exact hf4 | exact hf3 _ _ rfl | exact hs.2.2.1 _ _ rfl | assumption) rfl rfl jw_220 dX11_leadsOn_8 rfl ?_
    refine jk_aload_n (q := 12) dX11_leadsOn_11 rfl rfl ?_
    refine jk_getIR (q := 15) (k := 11) 4 4 rfl (by first | exact ha1 | exact ha2 | exact ha3 | exact hf1 | exact hs.1 | exact hf2 _ _ rfl | exact hs.2.1 _ _ rfl | assumption) (by first | exact jk_row_same _ _ _ | ((repeat rewrite [jk_row_ne _ _ (by omega)]); first | exact jk_row_same _ _ _ | rfl)) rfl rfl jw_224 dX11_leadsOn_12 rfl ?_
    rw [hc]
    refine jk_iconst (q := 16) dX11_leadsOn_15 rfl ?_
    refine jk_isub (q := 17) dX11_leadsOn_16 rfl ?_
    refine jk_ialdR (q := 18) (by first | exact ha1 | exact ha2 | exact ha3 | exact hf1 | exact hs.1 | exact hf2 _ _ rfl | exact hs.2.1 _ _ rfl | assumption) (by first | exact jk_row_same _ _ _ | ((repeat rewrite [jk_row_ne _ _ (by omega)]); first | exact jk_row_same _ _ _ | rfl)) (by first | assumption | decide | omega | exact jB_01 _ | exact jB_in _ | exact ⟨by omega, by omega⟩) dX11_leadsOn_17 rfl ?_
    refine jk_iload_n (q := 19) dX11_leadsOn_18 rfl rfl ?_
    refine jk_icmp_ne (q := 26) (q2 := 22) dX11_leadsOn_19 rfl rfl (by first | assumption | decide | omega | exact jB_01 _ | exact jB_in _ | exact ⟨by omega, by omega⟩) (by first | assumption | decide | omega | exact jB_01 _ | exact jB_in _ | exact ⟨by omega, by omega⟩) (fun z6 => ?_) (fun z6 => ?_)
    · refine jk_iconst (q := 27) dX11_leadsOn_26 rfl ?_
      refine jk_istore3 (q := 28) dX11_leadsOn_27 rfl rfl rfl ?_
      refine jk_aload_n (q := 29) dX11_leadsOn_28 rfl rfl ?_
      refine jk_getA (q := 32) (k := 11) 1 1 rfl (by first | exact ha1 | exact ha2 | exact ha3 | exact hf1 | exact hs.1 | exact hf2 _ _ rfl | exact hs.2.1 _ _ rfl | assumption) (by first | exact hb1 | exact hb2 | exact hb3 | exact hb4 | exact hf4 | exact hf3 _ _ rfl | exact hs.2.2.1 _ _ rfl | assumption) rfl rfl jw_219 dX11_leadsOn_29 rfl ?_
      refine jk_getA (q := 35) (k := 3) 4 4 rfl (by first | exact ha1 | exact ha2 | exact ha3 | exact hf1 | exact hs.1 | exact hf2 _ _ rfl | exact hs.2.1 _ _ rfl | assumption) (by first | exact hb1 | exact hb2 | exact hb3 | exact hb4 | exact hf4 | exact hf3 _ _ rfl | exact hs.2.2.1 _ _ rfl | assumption) rfl rfl jw_194 dX11_leadsOn_32 rfl ?_
      refine jk_iload_n (q := 36) dX11_leadsOn_35 rfl rfl ?_
      refine jk_zaldR (q := 37) (by first | exact ha1 | exact ha2 | exact ha3 | exact hf1 | exact hs.1 | exact hf2 _ _ rfl | exact hs.2.1 _ _ rfl | assumption) (by first | exact jk_row_same _ _ _ | ((repeat rewrite [jk_row_ne _ _ (by omega)]); first | exact jk_row_same _ _ _ | rfl)) (by first | assumption | decide | omega | exact jB_01 _ | exact jB_in _ | exact ⟨by omega, by omega⟩) dX11_leadsOn_36 rfl ?_
      refine jk_if_eq (q := 83) (q2 := 40) dX11_leadsOn_37 rfl rfl (by first | assumption | decide | omega | exact jB_01 _ | exact jB_in _ | exact ⟨by omega, by omega⟩) (fun z7 => ?_) (fun z7 => ?_)
      · refine jk_iconst (q := 84) dX11_leadsOn_83 rfl ?_
        exact jk_zret rfl (by first | assumption | decide | omega | exact jB_01 _ | exact jB_in _ | exact ⟨by omega, by omega⟩) dX11_leadsOn_84 (by refine jk_qI ?_; first | (rw [decide_eq_true (by omega)]; rfl) | (rw [decide_eq_false (by omega)]; rfl))
      · refine jk_iload_n (q := 41) dX11_leadsOn_40 rfl rfl ?_
        refine jk_ifN_ne (q := 44) (by decide) (by decide) dX11_leadsOn_41 rfl rfl ?_
        refine jk_aload_n (q := 45) dX11_leadsOn_44 rfl rfl ?_
        refine jk_getIR (q := 48) (k := 11) 4 4 rfl (by first | exact ha1 | exact ha2 | exact ha3 | exact hf1 | exact hs.1 | exact hf2 _ _ rfl | exact hs.2.1 _ _ rfl | assumption) (by first | exact jk_row_same _ _ _ | ((repeat rewrite [jk_row_ne _ _ (by omega)]); first | exact jk_row_same _ _ _ | rfl)) rfl rfl jw_224 dX11_leadsOn_45 rfl ?_
        rw [hc]
        refine jk_bipush (q := 50) (y := 16) dX11_leadsOn_48 rfl (by decide) ?_
        refine jk_icmp_ge (q := 83) (q2 := 53) dX11_leadsOn_50 rfl rfl (by first | assumption | decide | omega | exact jB_01 _ | exact jB_in _ | exact ⟨by omega, by omega⟩) (by first | assumption | decide | omega | exact jB_01 _ | exact jB_in _ | exact ⟨by omega, by omega⟩) (fun z8 => ?_) (fun z8 => ?_)
        · refine jk_iconst (q := 84) dX11_leadsOn_83 rfl ?_
          exact jk_zret rfl (by first | assumption | decide | omega | exact jB_01 _ | exact jB_in _ | exact ⟨by omega, by omega⟩) dX11_leadsOn_84 (by refine jk_qI ?_; first | (rw [decide_eq_true (by omega)]; rfl) | (rw [decide_eq_false (by omega)]; rfl))
        · refine jk_aload_n (q := 54) dX11_leadsOn_53 rfl rfl ?_
          refine jk_getA (q := 57) (k := 11) 0 0 rfl (by first | exact ha1 | exact ha2 | exact ha3 | exact hf1 | exact hs.1 | exact hf2 _ _ rfl | exact hs.2.1 _ _ rfl | assumption) (by first | exact hb1 | exact hb2 | exact hb3 | exact hb4 | exact hf4 | exact hf3 _ _ rfl | exact hs.2.2.1 _ _ rfl | assumption) rfl rfl jw_218 dX11_leadsOn_54 rfl ?_
          refine jk_getA (q := 60) (k := 9) 4 4 rfl (by first | exact ha1 | exact ha2 | exact ha3 | exact hf1 | exact hs.1 | exact hf2 _ _ rfl | exact hs.2.1 _ _ rfl | assumption) (by first | exact hb1 | exact hb2 | exact hb3 | exact hb4 | exact hf4 | exact hf3 _ _ rfl | exact hs.2.2.1 _ _ rfl | assumption) rfl rfl jw_74 dX11_leadsOn_57 rfl ?_
          refine jk_iload_n (q := 61) dX11_leadsOn_60 rfl rfl ?_
          refine jk_ialdR (q := 62) (by first | exact ha1 | exact ha2 | exact ha3 | exact hf1 | exact hs.1 | exact hf2 _ _ rfl | exact hs.2.1 _ _ rfl | assumption) (by first | exact jk_row_same _ _ _ | ((repeat rewrite [jk_row_ne _ _ (by omega)]); first | exact jk_row_same _ _ _ | rfl)) (by first | assumption | decide | omega | exact jB_01 _ | exact jB_in _ | exact ⟨by omega, by omega⟩) dX11_leadsOn_61 rfl ?_
          rw [q1]
          refine jk_iload_n (q := 63) dX11_leadsOn_62 rfl rfl ?_
          refine jk_icmp_eq (q := 79) (q2 := 66) dX11_leadsOn_63 rfl rfl (by first | assumption | decide | omega | exact jB_01 _ | exact jB_in _ | exact ⟨by omega, by omega⟩) (by first | assumption | decide | omega | exact jB_01 _ | exact jB_in _ | exact ⟨by omega, by omega⟩) (fun z9 => ?_) (fun z9 => ?_)
          · refine jk_iconst (q := 80) dX11_leadsOn_79 rfl ?_
            refine jk_goto (q := 84) dX11_leadsOn_80 rfl ?_
            exact jk_zret rfl (by first | assumption | decide | omega | exact jB_01 _ | exact jB_in _ | exact ⟨by omega, by omega⟩) dX11_leadsOn_84 (by refine jk_qI ?_; first | (rw [decide_eq_true (by omega)]; rfl) | (rw [decide_eq_false (by omega)]; rfl))
          · refine jk_aload_n (q := 67) dX11_leadsOn_66 rfl rfl ?_
            refine jk_getA (q := 70) (k := 11) 0 0 rfl (by first | exact ha1 | exact ha2 | exact ha3 | exact hf1 | exact hs.1 | exact hf2 _ _ rfl | exact hs.2.1 _ _ rfl | assumption) (by first | exact hb1 | exact hb2 | exact hb3 | exact hb4 | exact hf4 | exact hf3 _ _ rfl | exact hs.2.2.1 _ _ rfl | assumption) rfl rfl jw_218 dX11_leadsOn_67 rfl ?_
            refine jk_getA (q := 73) (k := 9) 5 5 rfl (by first | exact ha1 | exact ha2 | exact ha3 | exact hf1 | exact hs.1 | exact hf2 _ _ rfl | exact hs.2.1 _ _ rfl | assumption) (by first | exact hb1 | exact hb2 | exact hb3 | exact hb4 | exact hf4 | exact hf3 _ _ rfl | exact hs.2.2.1 _ _ rfl | assumption) rfl rfl jw_80 dX11_leadsOn_70 rfl ?_
            refine jk_iload_n (q := 74) dX11_leadsOn_73 rfl rfl ?_
            refine jk_ialdR (q := 75) (by first | exact ha1 | exact ha2 | exact ha3 | exact hf1 | exact hs.1 | exact hf2 _ _ rfl | exact hs.2.1 _ _ rfl | assumption) (by first | exact jk_row_same _ _ _ | ((repeat rewrite [jk_row_ne _ _ (by omega)]); first | exact jk_row_same _ _ _ | rfl)) (by first | assumption | decide | omega | exact jB_01 _ | exact jB_in _ | exact ⟨by omega, by omega⟩) dX11_leadsOn_74 rfl ?_
            rw [q2]
            refine jk_iload_n (q := 76) dX11_leadsOn_75 rfl rfl ?_
            refine jk_icmp_ne (q := 83) (q2 := 79) dX11_leadsOn_76 rfl rfl (by first | assumption | decide | omega | exact jB_01 _ | exact jB_in _ | exact ⟨by omega, by omega⟩) (by first | assumption | decide | omega | exact jB_01 _ | exact jB_in _ | exact ⟨by omega, by omega⟩) (fun z10 => ?_) (fun z10 => ?_)
            · refine jk_iconst (q := 84) dX11_leadsOn_83 rfl ?_
              exact jk_zret rfl (by first | assumption | decide | omega | exact jB_01 _ | exact jB_in _ | exact ⟨by omega, by omega⟩) dX11_leadsOn_84 (by refine jk_qI ?_; first | (rw [decide_eq_true (by omega)]; rfl) | (rw [decide_eq_false (by omega)]; rfl))
            · refine jk_iconst (q := 80) dX11_leadsOn_79 rfl ?_
              refine jk_goto (q := 84) dX11_leadsOn_80 rfl ?_
              exact jk_zret rfl (by first | assumption | decide | omega | exact jB_01 _ | exact jB_in _ | exact ⟨by omega, by omega⟩) dX11_leadsOn_84 (by refine jk_qI ?_; first | (rw [decide_eq_true (by omega)]; rfl) | (rw [decide_eq_false (by omega)]; rfl))
    · refine jk_iconst (q := 23) dX11_leadsOn_22 rfl ?_
      refine jk_goto (q := 27) dX11_leadsOn_23 rfl ?_
      refine jk_istore3 (q := 28) dX11_leadsOn_27 rfl rfl rfl ?_
      refine jk_aload_n (q := 29) dX11_leadsOn_28 rfl rfl ?_
      refine jk_getA (q := 32) (k := 11) 1 1 rfl (by first | exact ha1 | exact ha2 | exact ha3 | exact hf1 | exact hs.1 | exact hf2 _ _ rfl | exact hs.2.1 _ _ rfl | assumption) (by first | exact hb1 | exact hb2 | exact hb3 | exact hb4 | exact hf4 | exact hf3 _ _ rfl | exact hs.2.2.1 _ _ rfl | assumption) rfl rfl jw_219 dX11_leadsOn_29 rfl ?_
      refine jk_getA (q := 35) (k := 3) 4 4 rfl (by first | exact ha1 | exact ha2 | exact ha3 | exact hf1 | exact hs.1 | exact hf2 _ _ rfl | exact hs.2.1 _ _ rfl | assumption) (by first | exact hb1 | exact hb2 | exact hb3 | exact hb4 | exact hf4 | exact hf3 _ _ rfl | exact hs.2.2.1 _ _ rfl | assumption) rfl rfl jw_194 dX11_leadsOn_32 rfl ?_
      refine jk_iload_n (q := 36) dX11_leadsOn_35 rfl rfl ?_
      refine jk_zaldR (q := 37) (by first | exact ha1 | exact ha2 | exact ha3 | exact hf1 | exact hs.1 | exact hf2 _ _ rfl | exact hs.2.1 _ _ rfl | assumption) (by first | exact jk_row_same _ _ _ | ((repeat rewrite [jk_row_ne _ _ (by omega)]); first | exact jk_row_same _ _ _ | rfl)) (by first | assumption | decide | omega | exact jB_01 _ | exact jB_in _ | exact ⟨by omega, by omega⟩) dX11_leadsOn_36 rfl ?_
      refine jk_if_eq (q := 83) (q2 := 40) dX11_leadsOn_37 rfl rfl (by first | assumption | decide | omega | exact jB_01 _ | exact jB_in _ | exact ⟨by omega, by omega⟩) (fun z11 => ?_) (fun z11 => ?_)
      · refine jk_iconst (q := 84) dX11_leadsOn_83 rfl ?_
        exact jk_zret rfl (by first | assumption | decide | omega | exact jB_01 _ | exact jB_in _ | exact ⟨by omega, by omega⟩) dX11_leadsOn_84 (by refine jk_qI ?_; first | (rw [decide_eq_true (by omega)]; rfl) | (rw [decide_eq_false (by omega)]; rfl))
      · refine jk_iload_n (q := 41) dX11_leadsOn_40 rfl rfl ?_
        refine jk_ifT_ne (q := 83) (by decide) (by decide) dX11_leadsOn_41 rfl ?_
        refine jk_iconst (q := 84) dX11_leadsOn_83 rfl ?_
        exact jk_zret rfl (by first | assumption | decide | omega | exact jB_01 _ | exact jB_in _ | exact ⟨by omega, by omega⟩) dX11_leadsOn_84 (by refine jk_qI ?_; first | (rw [decide_eq_true (by omega)]; rfl) | (rw [decide_eq_false (by omega)]; rfl))
end CW1
