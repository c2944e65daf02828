section MD3
theorem jk_rr {α : Type} (f : Nat → Int → α) {a b : Nat} (x y z w : Int → α) (h : a ≠ b) : jk_row (jk_row (jk_row (jk_row f a x) b y) a z) b w = jk_row (jk_row f a z) b w := by
  rw [jk_row_comm _ y z (Ne.symm h), jk_row_row, jk_row_row]
theorem jk_rs2 {α : Type} (f : Nat → Int → α) {a b : Nat} {x y : Int → α} (h1 : f a = x) (h2 : f b = y) : jk_row (jk_row f a x) b y = f := by
  subst h1 h2
  rw [jk_row_self, jk_row_self]
/-- f below k, r0 elsewhere -/
def jk_fill (r0 f : Int → Int) (k : Nat) : Int → Int := fun p => if 0 ≤ p ∧ p < (k : Int) then f p else r0 p
theorem jk_fill_0 (r0 f : Int → Int) : jk_fill r0 f 0 = r0 := by funext p; unfold jk_fill; rw [if_neg (by omega)]
theorem jk_fill_S (r0 f : Int → Int) (k : Nat) (x : Int) (hx : x = f (k : Int)) : jk_set (jk_fill r0 f k) (k : Int) x = jk_fill r0 f (k + 1) := by
  subst hx
  funext p
  unfold jk_set jk_fill
  by_cases hp : p = (k : Int)
  · subst hp; rw [if_pos rfl, if_pos (by omega)]
  · rw [if_neg hp]
    by_cases h : 0 ≤ p ∧ p < (k : Int)
    · rw [if_pos h, if_pos (by omega)]
    · rw [if_neg h, if_neg (by omega)]
def md_take (g : Int → Int) (s : (Int → Int) × (Int → Int)) (l : Int) : (Int → Int) × (Int → Int) :=
  if md_good g l = true ∧ s.2 (g (24 + l)) ≠ s.2 (g (40 + l)) then (jk_set s.1 l 1, md_uni s.2 (g 0) (g (24 + l)) (g (40 + l))) else s
/-- the marks are 0 or 1, the roots are points -/
def md_tr (s : (Int → Int) × (Int → Int)) : Prop := (∀ l, 0 ≤ l ∧ l < 16 → s.1 l = 0 ∨ s.1 l = 1) ∧ ∀ p, 0 ≤ p ∧ p < 10 → 0 ≤ s.2 p ∧ s.2 p < 10
theorem md_take_tr {B : Int} {g : Int → Int} (hi : md_inv B g) {s : (Int → Int) × (Int → Int)} (h : md_tr s) {l : Int} (hl : 0 ≤ l ∧ l < 16) : md_tr (md_take g s l) := by
  obtain ⟨⟨a1, a2⟩, ⟨b1, b2⟩, -⟩ := md_inv_ln hi hl
  have ha := h.2 (g (24 + l)) ⟨a1, a2⟩
  have hb := h.2 (g (40 + l)) ⟨b1, b2⟩
  unfold md_take
  split
  · refine ⟨fun j hj => ?_, fun p hp => ?_⟩
    · show jk_set s.1 l 1 j = 0 ∨ jk_set s.1 l 1 j = 1
      unfold jk_set
      split
      · exact Or.inr rfl
      · exact h.1 j hj
    · have := h.2 p hp
      show 0 ≤ md_uni s.2 _ _ _ p ∧ md_uni s.2 _ _ _ p < 10
      unfold md_uni
      (repeat' split) <;> assumption
  · exact h
theorem c_X13_takesLine {G : jk_G} {n : Nat} {t : jk_T} {σ : jk_I} {ρ : jk_P} {m : Nat} {g : Int → Int} {B : Int} {r T : Int → Int} {l : Int} (hm : md_at t ρ m) (hg : σ (m + 2) = g) (hi : md_inv B g) (hr : σ (m + 16) = r) (hrb : ∀ p, 0 ≤ p ∧ p < 10 → 0 ≤ r p ∧ r p < 10) (hk : σ (m + 14) = T) (hl : 0 ≤ l ∧ l < 16) : jk_K G yX13_takesLine mX13_takesLine 0 0 [.ref m, jI l] n t σ ρ (jk_q none n t (jk_row (jk_row σ (m + 14) (md_take g (T, r) l).1) (m + 16) (md_take g (T, r) l).2) ρ) jk_no := by
  refine jk_entryB (ls := [some (.ref m), some (jI l), none, none]) jm_X13_takesLine.1 rfl rfl rfl ?_
  obtain ⟨l1, l2, l3, l4, l5, l6, l7, l8⟩ := md_inv_ln hi hl
  have ra := hrb _ l1
  have rb := hrb _ l2
  refine jk_aload_n (q := 1) dX13_takesLine_0 rfl rfl ?_
  refine jk_getA (q := 4) (k := 13) 0 0 rfl (by first | exact hm.1 | exact hm.2.1 _ _ rfl | assumption) (by first | exact hm.2.2 _ _ rfl | assumption) rfl rfl jw_1848 dX13_takesLine_1 rfl ?_
  refine jk_bipush (q := 6) (y := 24) dX13_takesLine_4 rfl (by decide) ?_
  refine jk_iload_n (q := 7) dX13_takesLine_6 rfl rfl ?_
  refine jk_iadd (q := 8) dX13_takesLine_7 rfl ?_
  refine jk_ialdR (q := 9) (by first | exact hm.1 | exact hm.2.1 _ _ rfl | assumption) (by first | exact jk_row_same _ _ _ | exact hg | exact hr | exact hk | (rewrite [jk_row_ne _ _ (by omega)]; first | exact jk_row_same _ _ _ | exact hg | exact hr | exact hk | (rewrite [jk_row_ne _ _ (by omega)]; first | exact jk_row_same _ _ _ | exact hg | exact hr | exact hk | (rewrite [jk_row_ne _ _ (by omega)]; first | exact jk_row_same _ _ _ | exact hg | exact hr | exact hk | (rewrite [jk_row_ne _ _ (by omega)]; first | exact hg | exact hr | exact hk | rfl))))) (by first | decide | omega | exact jB_01 _) dX13_takesLine_8 rfl ?_
  refine jk_istore2 (q := 10) dX13_takesLine_9 rfl rfl rfl ?_
  refine jk_aload_n (q := 11) dX13_takesLine_10 rfl rfl ?_
  refine jk_getA (q := 14) (k := 13) 0 0 rfl (by first | exact hm.1 | exact hm.2.1 _ _ rfl | assumption) (by first | exact hm.2.2 _ _ rfl | assumption) rfl rfl jw_1848 dX13_takesLine_11 rfl ?_
  refine jk_bipush (q := 16) (y := 40) dX13_takesLine_14 rfl (by decide) ?_
  refine jk_iload_n (q := 17) dX13_takesLine_16 rfl rfl ?_
  refine jk_iadd (q := 18) dX13_takesLine_17 rfl ?_
  refine jk_ialdR (q := 19) (by first | exact hm.1 | exact hm.2.1 _ _ rfl | assumption) (by first | exact jk_row_same _ _ _ | exact hg | exact hr | exact hk | (rewrite [jk_row_ne _ _ (by omega)]; first | exact jk_row_same _ _ _ | exact hg | exact hr | exact hk | (rewrite [jk_row_ne _ _ (by omega)]; first | exact jk_row_same _ _ _ | exact hg | exact hr | exact hk | (rewrite [jk_row_ne _ _ (by omega)]; first | exact jk_row_same _ _ _ | exact hg | exact hr | exact hk | (rewrite [jk_row_ne _ _ (by omega)]; first | exact hg | exact hr | exact hk | rfl))))) (by first | decide | omega | exact jB_01 _) dX13_takesLine_18 rfl ?_
  refine jk_istore3 (q := 20) dX13_takesLine_19 rfl rfl rfl ?_
  refine jk_aload_n (q := 21) dX13_takesLine_20 rfl rfl ?_
  refine jk_iload_n (q := 22) dX13_takesLine_21 rfl rfl ?_
  refine jk_cV1p (q := 25) (c_X13_isGood hm hg hi hl) jm_X13_isGood jw_2010 rfl (by first | exact hm.1 | exact hm.2.1 _ _ rfl | assumption) rfl rfl rfl dX13_takesLine_22 rfl ?_
  refine jk_ifB_eq (q := 56) (q2 := 28) dX13_takesLine_25 rfl rfl (fun h1 => ?_) (fun h1 => ?_)
  · exact jk_ret rfl dX13_takesLine_56 (by refine ⟨rfl, rfl, rfl, ?_, rfl⟩; unfold md_take; first | (rw [if_pos ⟨by assumption, by assumption⟩]) | (rw [if_neg (by simp [*])]; exact (jk_rs2 σ hk hr).symm))
  · refine jk_aload_n (q := 29) dX13_takesLine_28 rfl rfl ?_
    refine jk_getA (q := 32) (k := 13) 14 14 rfl (by first | exact hm.1 | exact hm.2.1 _ _ rfl | assumption) (by first | exact hm.2.2 _ _ rfl | assumption) rfl rfl jw_1862 dX13_takesLine_29 rfl ?_
    refine jk_iload_n (q := 33) dX13_takesLine_32 rfl rfl ?_
    refine jk_ialdR (q := 34) (by first | exact hm.1 | exact hm.2.1 _ _ rfl | assumption) (by first | exact jk_row_same _ _ _ | exact hg | exact hr | exact hk | (rewrite [jk_row_ne _ _ (by omega)]; first | exact jk_row_same _ _ _ | exact hg | exact hr | exact hk | (rewrite [jk_row_ne _ _ (by omega)]; first | exact jk_row_same _ _ _ | exact hg | exact hr | exact hk | (rewrite [jk_row_ne _ _ (by omega)]; first | exact jk_row_same _ _ _ | exact hg | exact hr | exact hk | (rewrite [jk_row_ne _ _ (by omega)]; first | exact hg | exact hr | exact hk | rfl))))) (by first | decide | omega | exact jB_01 _) dX13_takesLine_33 rfl ?_
    refine jk_aload_n (q := 35) dX13_takesLine_34 rfl rfl ?_
    refine jk_getA (q := 38) (k := 13) 14 14 rfl (by first | exact hm.1 | exact hm.2.1 _ _ rfl | assumption) (by first | exact hm.2.2 _ _ rfl | assumption) rfl rfl jw_1862 dX13_takesLine_35 rfl ?_
    refine jk_iload_n (q := 39) dX13_takesLine_38 rfl rfl ?_
    refine jk_ialdR (q := 40) (by first | exact hm.1 | exact hm.2.1 _ _ rfl | assumption) (by first | exact jk_row_same _ _ _ | exact hg | exact hr | exact hk | (rewrite [jk_row_ne _ _ (by omega)]; first | exact jk_row_same _ _ _ | exact hg | exact hr | exact hk | (rewrite [jk_row_ne _ _ (by omega)]; first | exact jk_row_same _ _ _ | exact hg | exact hr | exact hk | (rewrite [jk_row_ne _ _ (by omega)]; first | exact jk_row_same _ _ _ | exact hg | exact hr | exact hk | (rewrite [jk_row_ne _ _ (by omega)]; first | exact hg | exact hr | exact hk | rfl))))) (by first | decide | omega | exact jB_01 _) dX13_takesLine_39 rfl ?_
    refine jk_icmp_eq (q := 56) (q2 := 43) dX13_takesLine_40 rfl rfl (by first | decide | omega | exact jB_01 _) (by first | decide | omega | exact jB_01 _) (fun h2 => ?_) (fun h2 => ?_)
    · exact jk_ret rfl dX13_takesLine_56 (by refine ⟨rfl, rfl, rfl, ?_, rfl⟩; unfold md_take; first | (rw [if_pos ⟨by assumption, by assumption⟩]) | (rw [if_neg (by simp [*])]; exact (jk_rs2 σ hk hr).symm))
    · refine jk_aload_n (q := 44) dX13_takesLine_43 rfl rfl ?_
      refine jk_getA (q := 47) (k := 13) 13 13 rfl (by first | exact hm.1 | exact hm.2.1 _ _ rfl | assumption) (by first | exact hm.2.2 _ _ rfl | assumption) rfl rfl jw_1861 dX13_takesLine_44 rfl ?_
      refine jk_iload_n (q := 48) dX13_takesLine_47 rfl rfl ?_
      refine jk_iconst (q := 49) dX13_takesLine_48 rfl ?_
      refine jk_iastR (q := 50) (by first | exact hm.1 | exact hm.2.1 _ _ rfl | assumption) (by first | exact jk_row_same _ _ _ | exact hg | exact hr | exact hk | (rewrite [jk_row_ne _ _ (by omega)]; first | exact jk_row_same _ _ _ | exact hg | exact hr | exact hk | (rewrite [jk_row_ne _ _ (by omega)]; first | exact jk_row_same _ _ _ | exact hg | exact hr | exact hk | (rewrite [jk_row_ne _ _ (by omega)]; first | exact jk_row_same _ _ _ | exact hg | exact hr | exact hk | (rewrite [jk_row_ne _ _ (by omega)]; first | exact hg | exact hr | exact hk | rfl))))) (by first | decide | omega | exact jB_01 _) dX13_takesLine_49 rfl ?_
      refine jk_aload_n (q := 51) dX13_takesLine_50 rfl rfl ?_
      refine jk_iload_n (q := 52) dX13_takesLine_51 rfl rfl ?_
      refine jk_iload_n (q := 53) dX13_takesLine_52 rfl rfl ?_
      refine jk_cV2v (q := 56) (c_X13_unites hm ((jk_row_ne _ _ (by omega)).trans hg) hi ((jk_row_ne _ _ (by omega)).trans hr) hrb l1 l2) jm_X13_unites jw_2044 rfl (by first | exact hm.1 | exact hm.2.1 _ _ rfl | assumption) rfl rfl rfl dX13_takesLine_53 rfl ?_
      exact jk_ret rfl dX13_takesLine_56 (by refine ⟨rfl, rfl, rfl, ?_, rfl⟩; unfold md_take; first | (rw [if_pos ⟨by assumption, by assumption⟩]) | (rw [if_neg (by simp [*])]; exact (jk_rs2 σ hk hr).symm))
def md_pass (g T : Int → Int) (s : (Int → Int) × (Int → Int)) (l : Int) : (Int → Int) × (Int → Int) :=
  if T l = 0 ∨ s.1 (g (24 + l)) = s.1 (g (40 + l)) then s else
  (jk_set (jk_set s.1 (g (24 + l)) 1) (g (40 + l)) 1, if s.1 (g (24 + l)) = 0 then jk_set s.2 (g (24 + l)) (s.2 (g (40 + l)) - md_cor g l) else jk_set s.2 (g (40 + l)) (s.2 (g (24 + l)) + md_cor g l))
def md_passB (g T : Int → Int) (s : (Int → Int) × (Int → Int)) (l : Int) : Bool := !decide (T l = 0 ∨ s.1 (g (24 + l)) = s.1 (g (40 + l)))
theorem c_X13_passes {G : jk_G} {n : Nat} {t : jk_T} {σ : jk_I} {ρ : jk_P} {m : Nat} {g : Int → Int} {B : Int} {T K V : Int → Int} {l : Int} (hm : md_at t ρ m) (hg : σ (m + 2) = g) (hi : md_inv B g) (hk : σ (m + 14) = T) (hn : σ (m + 20) = K) (hv : σ (m + 18) = V) (hkb : ∀ p, 0 ≤ p ∧ p < 10 → K p = 0 ∨ K p = 1) (hTb : ∀ l, 0 ≤ l ∧ l < 16 → T l = 0 ∨ T l = 1) (hl : 0 ≤ l ∧ l < 16) : jk_K G yX13_passes mX13_passes 0 0 [.ref m, jI l] n t σ ρ (jk_q (some (jI (jB (md_passB g T (K, V) l)))) n t (jk_row (jk_row σ (m + 20) (md_pass g T (K, V) l).1) (m + 18) (md_pass g T (K, V) l).2) ρ) jk_no := by
  refine jk_entryB (ls := [some (.ref m), some (jI l), none, none]) jm_X13_passes.1 rfl rfl rfl ?_
  obtain ⟨l1, l2, l3, l4, l5, l6, l7, l8⟩ := md_inv_ln hi hl
  have ka := hkb _ l1
  have kb := hkb _ l2
  have ht := hTb l hl
  refine jk_aload_n (q := 1) dX13_passes_0 rfl rfl ?_
  refine jk_getA (q := 4) (k := 13) 0 0 rfl (by first | exact hm.1 | exact hm.2.1 _ _ rfl | assumption) (by first | exact hm.2.2 _ _ rfl | assumption) rfl rfl jw_1848 dX13_passes_1 rfl ?_
  refine jk_bipush (q := 6) (y := 24) dX13_passes_4 rfl (by decide) ?_
  refine jk_iload_n (q := 7) dX13_passes_6 rfl rfl ?_
  refine jk_iadd (q := 8) dX13_passes_7 rfl ?_
  refine jk_ialdR (q := 9) (by first | exact hm.1 | exact hm.2.1 _ _ rfl | assumption) (by first | exact jk_row_same _ _ _ | exact hg | exact hk | exact hn | exact hv | (rewrite [jk_row_ne _ _ (by omega)]; first | exact jk_row_same _ _ _ | exact hg | exact hk | exact hn | exact hv | (rewrite [jk_row_ne _ _ (by omega)]; first | exact jk_row_same _ _ _ | exact hg | exact hk | exact hn | exact hv | (rewrite [jk_row_ne _ _ (by omega)]; first | exact jk_row_same _ _ _ | exact hg | exact hk | exact hn | exact hv | (rewrite [jk_row_ne _ _ (by omega)]; first | exact hg | exact hk | exact hn | exact hv | rfl))))) (by first | decide | omega | exact jB_01 _) dX13_passes_8 rfl ?_
  refine jk_istore2 (q := 10) dX13_passes_9 rfl rfl rfl ?_
  refine jk_aload_n (q := 11) dX13_passes_10 rfl rfl ?_
  refine jk_getA (q := 14) (k := 13) 0 0 rfl (by first | exact hm.1 | exact hm.2.1 _ _ rfl | assumption) (by first | exact hm.2.2 _ _ rfl | assumption) rfl rfl jw_1848 dX13_passes_11 rfl ?_
  refine jk_bipush (q := 16) (y := 40) dX13_passes_14 rfl (by decide) ?_
  refine jk_iload_n (q := 17) dX13_passes_16 rfl rfl ?_
  refine jk_iadd (q := 18) dX13_passes_17 rfl ?_
  refine jk_ialdR (q := 19) (by first | exact hm.1 | exact hm.2.1 _ _ rfl | assumption) (by first | exact jk_row_same _ _ _ | exact hg | exact hk | exact hn | exact hv | (rewrite [jk_row_ne _ _ (by omega)]; first | exact jk_row_same _ _ _ | exact hg | exact hk | exact hn | exact hv | (rewrite [jk_row_ne _ _ (by omega)]; first | exact jk_row_same _ _ _ | exact hg | exact hk | exact hn | exact hv | (rewrite [jk_row_ne _ _ (by omega)]; first | exact jk_row_same _ _ _ | exact hg | exact hk | exact hn | exact hv | (rewrite [jk_row_ne _ _ (by omega)]; first | exact hg | exact hk | exact hn | exact hv | rfl))))) (by first | decide | omega | exact jB_01 _) dX13_passes_18 rfl ?_
  refine jk_istore3 (q := 20) dX13_passes_19 rfl rfl rfl ?_
  refine jk_aload_n (q := 21) dX13_passes_20 rfl rfl ?_
  refine jk_getA (q := 24) (k := 13) 13 13 rfl (by first | exact hm.1 | exact hm.2.1 _ _ rfl | assumption) (by first | exact hm.2.2 _ _ rfl | assumption) rfl rfl jw_1861 dX13_passes_21 rfl ?_
  refine jk_iload_n (q := 25) dX13_passes_24 rfl rfl ?_
  refine jk_ialdR (q := 26) (by first | exact hm.1 | exact hm.2.1 _ _ rfl | assumption) (by first | exact jk_row_same _ _ _ | exact hg | exact hk | exact hn | exact hv | (rewrite [jk_row_ne _ _ (by omega)]; first | exact jk_row_same _ _ _ | exact hg | exact hk | exact hn | exact hv | (rewrite [jk_row_ne _ _ (by omega)]; first | exact jk_row_same _ _ _ | exact hg | exact hk | exact hn | exact hv | (rewrite [jk_row_ne _ _ (by omega)]; first | exact jk_row_same _ _ _ | exact hg | exact hk | exact hn | exact hv | (rewrite [jk_row_ne _ _ (by omega)]; first | exact hg | exact hk | exact hn | exact hv | rfl))))) (by first | decide | omega | exact jB_01 _) dX13_passes_25 rfl ?_
  refine jk_if_eq (q := 44) (q2 := 29) dX13_passes_26 rfl rfl (by first | decide | omega | exact jB_01 _) (fun h1 => ?_) (fun h1 => ?_)
  · refine jk_iconst (q := 45) dX13_passes_44 rfl ?_
    exact jk_zret rfl (by first | decide | omega | exact jB_01 _) dX13_passes_45 (by refine ⟨by first | (rw [show md_passB g T (K, V) l = true by clear hkb hTb hi hm; unfold md_passB; grind]; rfl) | (rw [show md_passB g T (K, V) l = false by clear hkb hTb hi hm; unfold md_passB; grind]; rfl), rfl, rfl, ?_, rfl⟩; unfold md_pass; first | (rw [if_pos (by clear hkb hTb hi hm; grind)]; exact (jk_rs2 σ hn hv).symm) | (rw [jk_row_row, jk_row_comm _ _ _ (by omega), if_neg (by clear hkb hTb hi hm; grind)]; first | rw [if_pos (by assumption)] | rw [if_neg (by assumption)]))
  · refine jk_aload_n (q := 30) dX13_passes_29 rfl rfl ?_
    refine jk_getA (q := 33) (k := 13) 16 16 rfl (by first | exact hm.1 | exact hm.2.1 _ _ rfl | assumption) (by first | exact hm.2.2 _ _ rfl | assumption) rfl rfl jw_1864 dX13_passes_30 rfl ?_
    refine jk_iload_n (q := 34) dX13_passes_33 rfl rfl ?_
    refine jk_zaldR (q := 35) (by first | exact hm.1 | exact hm.2.1 _ _ rfl | assumption) (by first | exact jk_row_same _ _ _ | exact hg | exact hk | exact hn | exact hv | (rewrite [jk_row_ne _ _ (by omega)]; first | exact jk_row_same _ _ _ | exact hg | exact hk | exact hn | exact hv | (rewrite [jk_row_ne _ _ (by omega)]; first | exact jk_row_same _ _ _ | exact hg | exact hk | exact hn | exact hv | (rewrite [jk_row_ne _ _ (by omega)]; first | exact jk_row_same _ _ _ | exact hg | exact hk | exact hn | exact hv | (rewrite [jk_row_ne _ _ (by omega)]; first | exact hg | exact hk | exact hn | exact hv | rfl))))) (by first | decide | omega | exact jB_01 _) dX13_passes_34 rfl ?_
    refine jk_aload_n (q := 36) dX13_passes_35 rfl rfl ?_
    refine jk_getA (q := 39) (k := 13) 16 16 rfl (by first | exact hm.1 | exact hm.2.1 _ _ rfl | assumption) (by first | exact hm.2.2 _ _ rfl | assumption) rfl rfl jw_1864 dX13_passes_36 rfl ?_
    refine jk_iload_n (q := 40) dX13_passes_39 rfl rfl ?_
    refine jk_zaldR (q := 41) (by first | exact hm.1 | exact hm.2.1 _ _ rfl | assumption) (by first | exact jk_row_same _ _ _ | exact hg | exact hk | exact hn | exact hv | (rewrite [jk_row_ne _ _ (by omega)]; first | exact jk_row_same _ _ _ | exact hg | exact hk | exact hn | exact hv | (rewrite [jk_row_ne _ _ (by omega)]; first | exact jk_row_same _ _ _ | exact hg | exact hk | exact hn | exact hv | (rewrite [jk_row_ne _ _ (by omega)]; first | exact jk_row_same _ _ _ | exact hg | exact hk | exact hn | exact hv | (rewrite [jk_row_ne _ _ (by omega)]; first | exact hg | exact hk | exact hn | exact hv | rfl))))) (by first | decide | omega | exact jB_01 _) dX13_passes_40 rfl ?_
    refine jk_icmp_ne (q := 46) (q2 := 44) dX13_passes_41 rfl rfl (by first | decide | omega | exact jB_01 _) (by first | decide | omega | exact jB_01 _) (fun h2 => ?_) (fun h2 => ?_)
    · refine jk_aload_n (q := 47) dX13_passes_46 rfl rfl ?_
      refine jk_getA (q := 50) (k := 13) 16 16 rfl (by first | exact hm.1 | exact hm.2.1 _ _ rfl | assumption) (by first | exact hm.2.2 _ _ rfl | assumption) rfl rfl jw_1864 dX13_passes_47 rfl ?_
      refine jk_iload_n (q := 51) dX13_passes_50 rfl rfl ?_
      refine jk_zaldR (q := 52) (by first | exact hm.1 | exact hm.2.1 _ _ rfl | assumption) (by first | exact jk_row_same _ _ _ | exact hg | exact hk | exact hn | exact hv | (rewrite [jk_row_ne _ _ (by omega)]; first | exact jk_row_same _ _ _ | exact hg | exact hk | exact hn | exact hv | (rewrite [jk_row_ne _ _ (by omega)]; first | exact jk_row_same _ _ _ | exact hg | exact hk | exact hn | exact hv | (rewrite [jk_row_ne _ _ (by omega)]; first | exact jk_row_same _ _ _ | exact hg | exact hk | exact hn | exact hv | (rewrite [jk_row_ne _ _ (by omega)]; first | exact hg | exact hk | exact hn | exact hv | rfl))))) (by first | decide | omega | exact jB_01 _) dX13_passes_51 rfl ?_
      refine jk_if_eq (q := 76) (q2 := 55) dX13_passes_52 rfl rfl (by first | decide | omega | exact jB_01 _) (fun h3 => ?_) (fun h3 => ?_)
      · refine jk_aload_n (q := 77) dX13_passes_76 rfl rfl ?_
        refine jk_getA (q := 80) (k := 13) 15 15 rfl (by first | exact hm.1 | exact hm.2.1 _ _ rfl | assumption) (by first | exact hm.2.2 _ _ rfl | assumption) rfl rfl jw_1863 dX13_passes_77 rfl ?_
        refine jk_iload_n (q := 81) dX13_passes_80 rfl rfl ?_
        refine jk_aload_n (q := 82) dX13_passes_81 rfl rfl ?_
        refine jk_getA (q := 85) (k := 13) 15 15 rfl (by first | exact hm.1 | exact hm.2.1 _ _ rfl | assumption) (by first | exact hm.2.2 _ _ rfl | assumption) rfl rfl jw_1863 dX13_passes_82 rfl ?_
        refine jk_iload_n (q := 86) dX13_passes_85 rfl rfl ?_
        refine jk_ialdR (q := 87) (by first | exact hm.1 | exact hm.2.1 _ _ rfl | assumption) (by first | exact jk_row_same _ _ _ | exact hg | exact hk | exact hn | exact hv | (rewrite [jk_row_ne _ _ (by omega)]; first | exact jk_row_same _ _ _ | exact hg | exact hk | exact hn | exact hv | (rewrite [jk_row_ne _ _ (by omega)]; first | exact jk_row_same _ _ _ | exact hg | exact hk | exact hn | exact hv | (rewrite [jk_row_ne _ _ (by omega)]; first | exact jk_row_same _ _ _ | exact hg | exact hk | exact hn | exact hv | (rewrite [jk_row_ne _ _ (by omega)]; first | exact hg | exact hk | exact hn | exact hv | rfl))))) (by first | decide | omega | exact jB_01 _) dX13_passes_86 rfl ?_
        refine jk_aload_n (q := 88) dX13_passes_87 rfl rfl ?_
        refine jk_iload_n (q := 89) dX13_passes_88 rfl rfl ?_
        refine jk_cV1p (q := 92) (c_X13_corrected hm hg hi hl) jm_X13_corrected jw_2052 rfl (by first | exact hm.1 | exact hm.2.1 _ _ rfl | assumption) rfl rfl rfl dX13_passes_89 rfl ?_
        refine jk_isub (q := 93) dX13_passes_92 rfl ?_
        refine jk_iastR (q := 94) (by first | exact hm.1 | exact hm.2.1 _ _ rfl | assumption) (by first | exact jk_row_same _ _ _ | exact hg | exact hk | exact hn | exact hv | (rewrite [jk_row_ne _ _ (by omega)]; first | exact jk_row_same _ _ _ | exact hg | exact hk | exact hn | exact hv | (rewrite [jk_row_ne _ _ (by omega)]; first | exact jk_row_same _ _ _ | exact hg | exact hk | exact hn | exact hv | (rewrite [jk_row_ne _ _ (by omega)]; first | exact jk_row_same _ _ _ | exact hg | exact hk | exact hn | exact hv | (rewrite [jk_row_ne _ _ (by omega)]; first | exact hg | exact hk | exact hn | exact hv | rfl))))) (by first | decide | omega | exact jB_01 _) dX13_passes_93 rfl ?_
        refine jk_aload_n (q := 95) dX13_passes_94 rfl rfl ?_
        refine jk_getA (q := 98) (k := 13) 16 16 rfl (by first | exact hm.1 | exact hm.2.1 _ _ rfl | assumption) (by first | exact hm.2.2 _ _ rfl | assumption) rfl rfl jw_1864 dX13_passes_95 rfl ?_
        refine jk_iload_n (q := 99) dX13_passes_98 rfl rfl ?_
        refine jk_iconst (q := 100) dX13_passes_99 rfl ?_
        refine jk_zastR (q := 101) (by first | exact hm.1 | exact hm.2.1 _ _ rfl | assumption) (by first | exact jk_row_same _ _ _ | exact hg | exact hk | exact hn | exact hv | (rewrite [jk_row_ne _ _ (by omega)]; first | exact jk_row_same _ _ _ | exact hg | exact hk | exact hn | exact hv | (rewrite [jk_row_ne _ _ (by omega)]; first | exact jk_row_same _ _ _ | exact hg | exact hk | exact hn | exact hv | (rewrite [jk_row_ne _ _ (by omega)]; first | exact jk_row_same _ _ _ | exact hg | exact hk | exact hn | exact hv | (rewrite [jk_row_ne _ _ (by omega)]; first | exact hg | exact hk | exact hn | exact hv | rfl))))) (by first | decide | omega | exact jB_01 _) (by first | decide | omega | exact jB_01 _) dX13_passes_100 rfl ?_
        refine jk_aload_n (q := 102) dX13_passes_101 rfl rfl ?_
        refine jk_getA (q := 105) (k := 13) 16 16 rfl (by first | exact hm.1 | exact hm.2.1 _ _ rfl | assumption) (by first | exact hm.2.2 _ _ rfl | assumption) rfl rfl jw_1864 dX13_passes_102 rfl ?_
        refine jk_iload_n (q := 106) dX13_passes_105 rfl rfl ?_
        refine jk_iconst (q := 107) dX13_passes_106 rfl ?_
        refine jk_zastR (q := 108) (by first | exact hm.1 | exact hm.2.1 _ _ rfl | assumption) (by first | exact jk_row_same _ _ _ | exact hg | exact hk | exact hn | exact hv | (rewrite [jk_row_ne _ _ (by omega)]; first | exact jk_row_same _ _ _ | exact hg | exact hk | exact hn | exact hv | (rewrite [jk_row_ne _ _ (by omega)]; first | exact jk_row_same _ _ _ | exact hg | exact hk | exact hn | exact hv | (rewrite [jk_row_ne _ _ (by omega)]; first | exact jk_row_same _ _ _ | exact hg | exact hk | exact hn | exact hv | (rewrite [jk_row_ne _ _ (by omega)]; first | exact hg | exact hk | exact hn | exact hv | rfl))))) (by first | decide | omega | exact jB_01 _) (by first | decide | omega | exact jB_01 _) dX13_passes_107 rfl ?_
        refine jk_iconst (q := 109) dX13_passes_108 rfl ?_
        exact jk_zret rfl (by first | decide | omega | exact jB_01 _) dX13_passes_109 (by refine ⟨by first | (rw [show md_passB g T (K, V) l = true by clear hkb hTb hi hm; unfold md_passB; grind]; rfl) | (rw [show md_passB g T (K, V) l = false by clear hkb hTb hi hm; unfold md_passB; grind]; rfl), rfl, rfl, ?_, rfl⟩; unfold md_pass; first | (rw [if_pos (by clear hkb hTb hi hm; grind)]; exact (jk_rs2 σ hn hv).symm) | (rw [jk_row_row, jk_row_comm _ _ _ (by omega), if_neg (by clear hkb hTb hi hm; grind)]; first | rw [if_pos (by assumption)] | rw [if_neg (by assumption)]))
      · refine jk_aload_n (q := 56) dX13_passes_55 rfl rfl ?_
        refine jk_getA (q := 59) (k := 13) 15 15 rfl (by first | exact hm.1 | exact hm.2.1 _ _ rfl | assumption) (by first | exact hm.2.2 _ _ rfl | assumption) rfl rfl jw_1863 dX13_passes_56 rfl ?_
        refine jk_iload_n (q := 60) dX13_passes_59 rfl rfl ?_
        refine jk_aload_n (q := 61) dX13_passes_60 rfl rfl ?_
        refine jk_getA (q := 64) (k := 13) 15 15 rfl (by first | exact hm.1 | exact hm.2.1 _ _ rfl | assumption) (by first | exact hm.2.2 _ _ rfl | assumption) rfl rfl jw_1863 dX13_passes_61 rfl ?_
        refine jk_iload_n (q := 65) dX13_passes_64 rfl rfl ?_
        refine jk_ialdR (q := 66) (by first | exact hm.1 | exact hm.2.1 _ _ rfl | assumption) (by first | exact jk_row_same _ _ _ | exact hg | exact hk | exact hn | exact hv | (rewrite [jk_row_ne _ _ (by omega)]; first | exact jk_row_same _ _ _ | exact hg | exact hk | exact hn | exact hv | (rewrite [jk_row_ne _ _ (by omega)]; first | exact jk_row_same _ _ _ | exact hg | exact hk | exact hn | exact hv | (rewrite [jk_row_ne _ _ (by omega)]; first | exact jk_row_same _ _ _ | exact hg | exact hk | exact hn | exact hv | (rewrite [jk_row_ne _ _ (by omega)]; first | exact hg | exact hk | exact hn | exact hv | rfl))))) (by first | decide | omega | exact jB_01 _) dX13_passes_65 rfl ?_
        refine jk_aload_n (q := 67) dX13_passes_66 rfl rfl ?_
        refine jk_iload_n (q := 68) dX13_passes_67 rfl rfl ?_
        refine jk_cV1p (q := 71) (c_X13_corrected hm hg hi hl) jm_X13_corrected jw_2052 rfl (by first | exact hm.1 | exact hm.2.1 _ _ rfl | assumption) rfl rfl rfl dX13_passes_68 rfl ?_
        refine jk_iadd (q := 72) dX13_passes_71 rfl ?_
        refine jk_iastR (q := 73) (by first | exact hm.1 | exact hm.2.1 _ _ rfl | assumption) (by first | exact jk_row_same _ _ _ | exact hg | exact hk | exact hn | exact hv | (rewrite [jk_row_ne _ _ (by omega)]; first | exact jk_row_same _ _ _ | exact hg | exact hk | exact hn | exact hv | (rewrite [jk_row_ne _ _ (by omega)]; first | exact jk_row_same _ _ _ | exact hg | exact hk | exact hn | exact hv | (rewrite [jk_row_ne _ _ (by omega)]; first | exact jk_row_same _ _ _ | exact hg | exact hk | exact hn | exact hv | (rewrite [jk_row_ne _ _ (by omega)]; first | exact hg | exact hk | exact hn | exact hv | rfl))))) (by first | decide | omega | exact jB_01 _) dX13_passes_72 rfl ?_
        refine jk_goto (q := 94) dX13_passes_73 rfl ?_
        refine jk_aload_n (q := 95) dX13_passes_94 rfl rfl ?_
        refine jk_getA (q := 98) (k := 13) 16 16 rfl (by first | exact hm.1 | exact hm.2.1 _ _ rfl | assumption) (by first | exact hm.2.2 _ _ rfl | assumption) rfl rfl jw_1864 dX13_passes_95 rfl ?_
        refine jk_iload_n (q := 99) dX13_passes_98 rfl rfl ?_
        refine jk_iconst (q := 100) dX13_passes_99 rfl ?_
        refine jk_zastR (q := 101) (by first | exact hm.1 | exact hm.2.1 _ _ rfl | assumption) (by first | exact jk_row_same _ _ _ | exact hg | exact hk | exact hn | exact hv | (rewrite [jk_row_ne _ _ (by omega)]; first | exact jk_row_same _ _ _ | exact hg | exact hk | exact hn | exact hv | (rewrite [jk_row_ne _ _ (by omega)]; first | exact jk_row_same _ _ _ | exact hg | exact hk | exact hn | exact hv | (rewrite [jk_row_ne _ _ (by omega)]; first | exact jk_row_same _ _ _ | exact hg | exact hk | exact hn | exact hv | (rewrite [jk_row_ne _ _ (by omega)]; first | exact hg | exact hk | exact hn | exact hv | rfl))))) (by first | decide | omega | exact jB_01 _) (by first | decide | omega | exact jB_01 _) dX13_passes_100 rfl ?_
        refine jk_aload_n (q := 102) dX13_passes_101 rfl rfl ?_
        refine jk_getA (q := 105) (k := 13) 16 16 rfl (by first | exact hm.1 | exact hm.2.1 _ _ rfl | assumption) (by first | exact hm.2.2 _ _ rfl | assumption) rfl rfl jw_1864 dX13_passes_102 rfl ?_
        refine jk_iload_n (q := 106) dX13_passes_105 rfl rfl ?_
        refine jk_iconst (q := 107) dX13_passes_106 rfl ?_
        refine jk_zastR (q := 108) (by first | exact hm.1 | exact hm.2.1 _ _ rfl | assumption) (by first | exact jk_row_same _ _ _ | exact hg | exact hk | exact hn | exact hv | (rewrite [jk_row_ne _ _ (by omega)]; first | exact jk_row_same _ _ _ | exact hg | exact hk | exact hn | exact hv | (rewrite [jk_row_ne _ _ (by omega)]; first | exact jk_row_same _ _ _ | exact hg | exact hk | exact hn | exact hv | (rewrite [jk_row_ne _ _ (by omega)]; first | exact jk_row_same _ _ _ | exact hg | exact hk | exact hn | exact hv | (rewrite [jk_row_ne _ _ (by omega)]; first | exact hg | exact hk | exact hn | exact hv | rfl))))) (by first | decide | omega | exact jB_01 _) (by first | decide | omega | exact jB_01 _) dX13_passes_107 rfl ?_
        refine jk_iconst (q := 109) dX13_passes_108 rfl ?_
        exact jk_zret rfl (by first | decide | omega | exact jB_01 _) dX13_passes_109 (by refine ⟨by first | (rw [show md_passB g T (K, V) l = true by clear hkb hTb hi hm; unfold md_passB; grind]; rfl) | (rw [show md_passB g T (K, V) l = false by clear hkb hTb hi hm; unfold md_passB; grind]; rfl), rfl, rfl, ?_, rfl⟩; unfold md_pass; first | (rw [if_pos (by clear hkb hTb hi hm; grind)]; exact (jk_rs2 σ hn hv).symm) | (rw [jk_row_row, jk_row_comm _ _ _ (by omega), if_neg (by clear hkb hTb hi hm; grind)]; first | rw [if_pos (by assumption)] | rw [if_neg (by assumption)]))
    · refine jk_iconst (q := 45) dX13_passes_44 rfl ?_
      exact jk_zret rfl (by first | decide | omega | exact jB_01 _) dX13_passes_45 (by refine ⟨by first | (rw [show md_passB g T (K, V) l = true by clear hkb hTb hi hm; unfold md_passB; grind]; rfl) | (rw [show md_passB g T (K, V) l = false by clear hkb hTb hi hm; unfold md_passB; grind]; rfl), rfl, rfl, ?_, rfl⟩; unfold md_pass; first | (rw [if_pos (by clear hkb hTb hi hm; grind)]; exact (jk_rs2 σ hn hv).symm) | (rw [jk_row_row, jk_row_comm _ _ _ (by omega), if_neg (by clear hkb hTb hi hm; grind)]; first | rw [if_pos (by assumption)] | rw [if_neg (by assumption)]))
end MD3
